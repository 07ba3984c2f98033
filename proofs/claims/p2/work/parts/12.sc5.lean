theorem dX11_doubles_19 : decode cX11_doubles 19 = .ok (.ifCond .ne 5, 3) := by decide +kernel
theorem dX11_doubles_22 : decode cX11_doubles 22 = .ok (.iconst (-1), 1) := by decide +kernel
theorem dX11_doubles_23 : decode cX11_doubles 23 = .ok (.ireturn, 1) := by decide +kernel
theorem dX11_doubles_24 : decode cX11_doubles 24 = .ok (.aload_n 0, 1) := by decide +kernel
theorem dX11_doubles_25 : decode cX11_doubles 25 = .ok (.iload_n 1, 1) := by decide +kernel
theorem dX11_doubles_26 : decode cX11_doubles 26 = .ok (.iload_n 2, 1) := by decide +kernel
theorem dX11_doubles_27 : decode cX11_doubles 27 = .ok (.iload_n 3, 1) := by decide +kernel
theorem dX11_doubles_28 : decode cX11_doubles 28 = .ok (.invokevirtual 216, 3) := by decide +kernel
theorem dX11_doubles_31 : decode cX11_doubles 31 = .ok (.astore 4, 2) := by decide +kernel
theorem dX11_doubles_33 : decode cX11_doubles 33 = .ok (.aload_n 0, 1) := by decide +kernel
theorem dX11_doubles_34 : decode cX11_doubles 34 = .ok (.getfield 53, 3) := by decide +kernel
theorem dX11_doubles_37 : decode cX11_doubles 37 = .ok (.iconst 0, 1) := by decide +kernel
theorem dX11_doubles_38 : decode cX11_doubles 38 = .ok (.aaload, 1) := by decide +kernel
theorem dX11_doubles_39 : decode cX11_doubles 39 = .ok (.astore 5, 2) := by decide +kernel
theorem dX11_doubles_41 : decode cX11_doubles 41 = .ok (.aload 5, 2) := by decide +kernel
theorem dX11_doubles_43 : decode cX11_doubles 43 = .ok (.aload 4, 2) := by decide +kernel
theorem dX11_doubles_45 : decode cX11_doubles 45 = .ok (.iconst (-1), 1) := by decide +kernel
theorem dX11_doubles_46 : decode cX11_doubles 46 = .ok (.invokevirtual 236, 3) := by decide +kernel
theorem dX11_doubles_49 : decode cX11_doubles 49 = .ok (.aload 5, 2) := by decide +kernel
theorem dX11_doubles_51 : decode cX11_doubles 51 = .ok (.getfield 246, 3) := by decide +kernel
theorem dX11_doubles_54 : decode cX11_doubles 54 = .ok (.istore 6, 2) := by decide +kernel
theorem dX11_doubles_56 : decode cX11_doubles 56 = .ok (.iconst 0, 1) := by decide +kernel
theorem dX11_doubles_57 : decode cX11_doubles 57 = .ok (.istore 7, 2) := by decide +kernel
theorem dX11_doubles_59 : decode cX11_doubles 59 = .ok (.aload 4, 2) := by decide +kernel
theorem dX11_doubles_61 : decode cX11_doubles 61 = .ok (.getfield 263, 3) := by decide +kernel
theorem dX11_doubles_64 : decode cX11_doubles 64 = .ok (.istore 8, 2) := by decide +kernel
theorem dX11_doubles_66 : decode cX11_doubles 66 = .ok (.iload 8, 2) := by decide +kernel
theorem dX11_doubles_68 : decode cX11_doubles 68 = .ok (.aload 4, 2) := by decide +kernel
theorem dX11_doubles_70 : decode cX11_doubles 70 = .ok (.getfield 266, 3) := by decide +kernel
theorem dX11_doubles_73 : decode cX11_doubles 73 = .ok (.if_icmp .ge 31, 3) := by decide +kernel
theorem dX11_doubles_76 : decode cX11_doubles 76 = .ok (.aload 5, 2) := by decide +kernel
theorem dX11_doubles_78 : decode cX11_doubles 78 = .ok (.aload 4, 2) := by decide +kernel
theorem dX11_doubles_80 : decode cX11_doubles 80 = .ok (.iload 8, 2) := by decide +kernel
theorem dX11_doubles_82 : decode cX11_doubles 82 = .ok (.invokevirtual 236, 3) := by decide +kernel
theorem dX11_doubles_85 : decode cX11_doubles 85 = .ok (.aload 5, 2) := by decide +kernel
theorem dX11_doubles_87 : decode cX11_doubles 87 = .ok (.getfield 246, 3) := by decide +kernel
theorem dX11_doubles_90 : decode cX11_doubles 90 = .ok (.iload 6, 2) := by decide +kernel
theorem dX11_doubles_92 : decode cX11_doubles 92 = .ok (.if_icmp .ne 6, 3) := by decide +kernel
theorem dX11_doubles_95 : decode cX11_doubles 95 = .ok (.iinc 7 1, 3) := by decide +kernel
theorem dX11_doubles_98 : decode cX11_doubles 98 = .ok (.iinc 8 1, 3) := by decide +kernel
theorem dX11_doubles_101 : decode cX11_doubles 101 = .ok (.goto (-35), 3) := by decide +kernel
theorem dX11_doubles_104 : decode cX11_doubles 104 = .ok (.iload 7, 2) := by decide +kernel
theorem dX11_doubles_106 : decode cX11_doubles 106 = .ok (.ireturn, 1) := by decide +kernel
set_option maxHeartbeats 4000000 in
set_option maxRecDepth 100000 in
theorem s_X11_doubles {P : PP} {a0 : Nat} {a1 : Int32} {a2 : Int32} {a3 : Int32} (I : IV P) (ha0 : At P a0 11) : CtrI yX11_doubles cX11_doubles 9 (some Jvm.ClassFile.FieldType.int) ({ frames := 4, cells := 0, slots := 0, locals := 256 } : Room) 0 0 P [.ref a0, .int a1, .int a2, .int a3] (fun r P2 => IV P2 ∧ EK [0, 5, 13] P P2 ∧ (True)) := by
  refine enI (lv := [(0, .ref a0), (1, .int a1), (2, .int a2), (3, .int a3)]) (by decide) (Nat.le_of_ble_eq_true rfl) rfl (fun E D cy C Ci0 ret => ?_)
  have J66 : ∀ (n66 : Nat) (P66 : PP) (b66_4 : Nat) (b66_5 : Nat) (v66_6 : Int32) (v66_7 : Int32) (v66_8 : Int32), (44 - v66_8.toInt).toNat < n66 → (IV P66) → (EK [0, 5, 13] P P66) → (At P66 b66_4 5) → (At P66 b66_5 0) → (0 ≤ v66_6.toInt ∧ v66_6.toInt ≤ 20) → (0 ≤ v66_8.toInt ∧ v66_8.toInt ≤ 44) → G E ({ frames := 4, cells := 0, slots := 0, locals := 256 } : Room) D cy 9 P66 0 0 66 [(4, .ref b66_4), (5, .ref b66_5), (6, .int v66_6), (7, .int v66_7), (8, .int v66_8)] [] := by
    intro n66
    induction n66 with
    | zero => intro P66 b66_4 b66_5 v66_6 v66_7 v66_8 hm66 I66 X66 hb66_4 hb66_5 hv66_6 hv66_8; omega
    | succ n66 ih66 =>
      intro P66 b66_4 b66_5 v66_6 v66_7 v66_8 hm66 I66 X66 hb66_4 hb66_5 hv66_6 hv66_8
      have h19371 := X66.at ha0
      have J98 : ∀ (P98 : PP) (b98_4 : Nat) (b98_5 : Nat) (v98_7 : Int32), (IV P98) → (EK [0, 5, 13] P P98) → (At P98 b98_4 5) → (At P98 b98_5 0) → (0 ≤ v66_8.toInt ∧ v66_8.toInt ≤ 43) → (1 ≤ (pI P98 b98_4 4).toInt ∧ (pI P98 b98_4 4).toInt ≤ 44) → G E ({ frames := 4, cells := 0, slots := 0, locals := 256 } : Room) D cy 9 P98 0 0 98 [(4, .ref b98_4), (5, .ref b98_5), (6, .int v66_6), (7, .int v98_7), (8, .int v66_8)] [] := by
        intro P98 b98_4 b98_5 v98_7 I98 X98 hb98_4 hb98_5 hv98_8 hq98_0
        have h19372 := X98.at ha0
        refine s_iinc (lv0 := [(4, .ref b98_4), (5, .ref b98_5), (6, .int v66_6), (7, .int v98_7)]) (m := 1) C dX11_doubles_98 4 rfl (by decide) rfl (by decide) (by omega) (fun z19373 h19374 => ?_)
        have h19374 : z19373.toInt = v66_8.toInt + 1 := h19374
        refine g_goto C 66 dX11_doubles_101 (by decide) ?_
        refine g_lv (lv' := [(4, .ref b98_4), (5, .ref b98_5), (6, .int v66_6), (7, .int v98_7), (8, .int z19373)]) [1, 2, 3, 4, 0] rfl ?_
        exact ih66 P98 b98_4 b98_5 v66_6 v98_7 z19373 (by omega) I98 X98 hb98_4 hb98_5 (by omega) (by omega)
      refine g_iload C dX11_doubles_66 4 rfl ?_
      refine g_aload C dX11_doubles_68 0 rfl ?_
      refine g_getI C fi_X11_266 (by decide) (hb66_4).1 (hb66_4).2 dX11_doubles_70 ?_
      have h19375 := I66.rg (hb66_4) 4 rfl
      refine b_icmp_ge C 104 dX11_doubles_73 (by decide) (fun h19376 => ?_) (fun h19376 => ?_)
      · have h19376 : (pI P66 b66_4 4).toInt ≤ v66_8.toInt := h19376
        refine g_iload C dX11_doubles_104 3 rfl ?_
        exact ret _ _ _ _ _ _ dX11_doubles_106 rfl (by decide) (by decide) ⟨I66, X66, trivial⟩
      · have h19376 : v66_8.toInt < (pI P66 b66_4 4).toInt := h19376
        refine g_aload C dX11_doubles_76 1 rfl ?_
        refine g_aload C dX11_doubles_78 0 rfl ?_
        refine g_iload C dX11_doubles_80 4 rfl ?_
        refine g_callVV (rest := []) C mv_X11_236 [.ref b66_4, .int v66_8] (s_X0_take I66 hb66_5 hb66_4) (hb66_5).1 (hb66_5).2 rfl rfl (by decide) (Nat.le_of_ble_eq_true rfl) (by decide) dX11_doubles_82 (fun Y19378 h19379 => ?_)
        obtain ⟨Iy19380, Xy19381⟩ := h19379
        have q19382 := Xy19381.keep hb66_4 (by decide) 4
        have Xz19383 : EK [0, 5, 13] P Y19378 := X66.tr (Xy19381.mono (by decide))
        have h19384 := Xy19381.at h19371
        have h19385 := Xy19381.at hb66_4
        have h19386 := Xy19381.at hb66_5
        refine g_aload C dX11_doubles_85 1 rfl ?_
        refine g_getI C fi_X11_246 (by decide) (h19386).1 (h19386).2 dX11_doubles_87 ?_
        have h19387 := Iy19380.rg (h19386) 2 rfl
        refine g_iload C dX11_doubles_90 2 rfl ?_
        refine b_icmp_ne C 98 dX11_doubles_92 (by decide) (fun h19388 => ?_) (fun h19388 => ?_)
        · have h19388 : (pI Y19378 b66_5 2).toInt ≠ v66_6.toInt := ti_ne h19388
          exact J98 Y19378 b66_4 b66_5 v66_7 Iy19380 Xz19383 h19385 h19386 (by omega) (by omega)
        · have h19388 : (pI Y19378 b66_5 2).toInt = v66_6.toInt := congrArg Int32.toInt h19388
          refine a_iinc (lv0 := [(4, .ref b66_4), (5, .ref b66_5), (6, .int v66_6), (8, .int v66_8)]) C dX11_doubles_95 3 rfl (by decide) rfl (fun z19389 => ?_)
          refine g_lv (lv' := [(4, .ref b66_4), (5, .ref b66_5), (6, .int v66_6), (7, .int z19389), (8, .int v66_8)]) [1, 2, 3, 0, 4] rfl ?_
          exact J98 Y19378 b66_4 b66_5 z19389 Iy19380 Xz19383 h19385 h19386 (by omega) (by omega)
  have J22 : G E ({ frames := 4, cells := 0, slots := 0, locals := 256 } : Room) D cy 9 P 0 0 22 [] [] := by
    refine g_iconst (v := (-1)) C dX11_doubles_22 (by decide) ?_
    exact ret _ _ _ _ _ _ dX11_doubles_23 rfl (by decide) (by decide) ⟨I, EK.rf, trivial⟩
  refine g_iload_n C dX11_doubles_0 rfl 1 rfl ?_
  refine g_callSI (b := 0) (ci := 0) (rest := []) C ms_X11_158 [.int a1] (s_X11_isQuarter I) rfl rfl (by decide) (Nat.le_of_ble_eq_true rfl) (by decide) dX11_doubles_1 (fun r19391 Y19392 h19393 => ?_)
  obtain ⟨rfl, h19393⟩ := h19393
  obtain ⟨h19393, hi19394⟩ := h19393
  have hi19394 : r19391.toInt = 0 ∨ (((0 : Int) ≤ a1.toInt ∧ a1.toInt ≤ (3 : Int))) := hi19394
  have h19393 : 0 ≤ r19391.toInt ∧ r19391.toInt ≤ 1 := h19393
  refine b_if_eq C 22 dX11_doubles_4 (by decide) (fun h19395 => ?_) (fun h19395 => ?_)
  · have h19395 : r19391.toInt = 0 := congrArg Int32.toInt h19395
    clear hi19394
    refine g_lv (lv' := []) [] rfl ?_
    exact J22 
  · have h19395 : r19391.toInt ≠ 0 := ti_ne h19395
    replace hi19394 := hi19394.resolve_left (by omega)
    refine g_aload_n C dX11_doubles_7 rfl 0 rfl ?_
    refine g_iload_n C dX11_doubles_8 rfl 2 rfl ?_
    refine g_callVI (rest := []) C mv_X11_97 [.int a2] (s_X11_isTold I ha0) (ha0).1 (ha0).2 rfl rfl (by decide) (Nat.le_of_ble_eq_true rfl) (by decide) dX11_doubles_9 (fun r19396 Y19397 h19398 => ?_)
    obtain ⟨rfl, h19398⟩ := h19398
    obtain ⟨h19398, hi19399⟩ := h19398
    have hi19399 : r19396.toInt = 0 ∨ (((0 : Int) ≤ a2.toInt ∧ a2.toInt ≤ (1 : Int))) := hi19399
    have h19398 : 0 ≤ r19396.toInt ∧ r19396.toInt ≤ 1 := h19398
    refine b_if_eq C 22 dX11_doubles_12 (by decide) (fun h19400 => ?_) (fun h19400 => ?_)
    · have h19400 : r19396.toInt = 0 := congrArg Int32.toInt h19400
      clear hi19399
      refine g_lv (lv' := []) [] rfl ?_
      exact J22 
    · have h19400 : r19396.toInt ≠ 0 := ti_ne h19400
      replace hi19399 := hi19399.resolve_left (by omega)
      refine g_iload_n C dX11_doubles_15 rfl 3 rfl ?_
      refine g_callSI (b := 0) (ci := 0) (rest := []) C ms_X11_213 [.int a3] (s_X11_isOctet I) rfl rfl (by decide) (Nat.le_of_ble_eq_true rfl) (by decide) dX11_doubles_16 (fun r19401 Y19402 h19403 => ?_)
      obtain ⟨rfl, h19403⟩ := h19403
      obtain ⟨h19403, hi19404⟩ := h19403
      have hi19404 : r19401.toInt = 0 ∨ (((0 : Int) ≤ a3.toInt ∧ a3.toInt ≤ (1 : Int))) := hi19404
      have h19403 : 0 ≤ r19401.toInt ∧ r19401.toInt ≤ 1 := h19403
      refine b_if_ne C 24 dX11_doubles_19 (by decide) (fun h19405 => ?_) (fun h19405 => ?_)
      · have h19405 : r19401.toInt ≠ 0 := ti_ne h19405
        replace hi19404 := hi19404.resolve_left (by omega)
        refine g_aload_n C dX11_doubles_24 rfl 0 rfl ?_
        refine g_iload_n C dX11_doubles_25 rfl 1 rfl ?_
        refine g_iload_n C dX11_doubles_26 rfl 2 rfl ?_
        refine g_iload_n C dX11_doubles_27 rfl 3 rfl ?_
        refine g_callVQ (rest := []) C mv_X11_216 [.int a1, .int a2, .int a3] (s_X11_gather I ha0 (by omega) (by omega) (by omega)) (ha0).1 (ha0).2 rfl rfl (by decide) (Nat.le_of_ble_eq_true rfl) (by decide) dX11_doubles_28 (fun r19406 Y19407 h19408 => ?_)
        obtain ⟨Iy19409, Xy19410, h19408⟩ := h19408
        have Xz19411 : EK [0, 5, 13] P Y19407 := Xy19410.mono (by decide)
        have h19412 := Xy19410.at ha0
        obtain ⟨b19414, rfl, h19408⟩ := h19408
        show G _ _ _ _ _ _ _ _ _ _ (.ref b19414 :: _)
        refine g_astore (lv' := [(4, .ref b19414), (0, .ref a0), (1, .int a1), (2, .int a2), (3, .int a3)]) C dX11_doubles_31 (by decide) rfl ?_
        refine g_aload_n C dX11_doubles_33 rfl 1 rfl ?_
        obtain ⟨b19415, e19416, h19417⟩ := Iy19409.fld (h19412) 9 16 2 rfl
        refine g_getR C fi_X11_53 rfl e19416 (h19412).1 (h19412).2 dX11_doubles_34 ?_
        refine g_iconst (v := 0) C dX11_doubles_37 (by decide) ?_
        obtain ⟨b19418, e19419, h19420⟩ := Iy19409.elm h19417 (by decide) 0 (by decide)
        refine g_aldR C h19417.1 h19417.2.1 (by decide) (IX.litn (j := 0) h19417.2.2 rfl (by decide) (by decide)) e19419 dX11_doubles_38 ?_
        refine g_astore (lv' := [(5, .ref b19418), (4, .ref b19414), (0, .ref a0), (1, .int a1), (2, .int a2), (3, .int a3)]) C dX11_doubles_39 (by decide) rfl ?_
        refine g_aload C dX11_doubles_41 0 rfl ?_
        refine g_aload C dX11_doubles_43 1 rfl ?_
        refine g_iconst (v := (-1)) C dX11_doubles_45 (by decide) ?_
        refine g_callVV (rest := []) C mv_X11_236 [.ref b19414, .int (-1)] (s_X0_take Iy19409 h19420 h19408) (h19420).1 (h19420).2 rfl rfl (by decide) (Nat.le_of_ble_eq_true rfl) (by decide) dX11_doubles_46 (fun Y19422 h19423 => ?_)
        obtain ⟨Iy19424, Xy19425⟩ := h19423
        have Xz19426 : EK [0, 5, 13] P Y19422 := Xz19411.tr (Xy19425.mono (by decide))
        have h19427 := Xy19425.at h19412
        have h19428 := Xy19425.at h19408
        have h19429 := Xy19425.at h19420
        refine g_aload C dX11_doubles_49 0 rfl ?_
        refine g_getI C fi_X11_246 (by decide) (h19429).1 (h19429).2 dX11_doubles_51 ?_
        have h19430 := Iy19424.rg (h19429) 2 rfl
        refine g_topi (fun z19431 h19432 => ?_)
        have h19432 : z19431.toInt = (pI Y19422 b19418 2).toInt := congrArg Int32.toInt h19432
        refine g_istore (lv' := [(6, .int z19431), (5, .ref b19418), (4, .ref b19414), (0, .ref a0), (1, .int a1), (2, .int a2), (3, .int a3)]) C dX11_doubles_54 (by decide) rfl ?_
        refine g_iconst (v := 0) C dX11_doubles_56 (by decide) ?_
        refine g_istore (lv' := [(7, .int 0), (6, .int z19431), (5, .ref b19418), (4, .ref b19414), (0, .ref a0), (1, .int a1), (2, .int a2), (3, .int a3)]) C dX11_doubles_57 (by decide) rfl ?_
        refine g_aload C dX11_doubles_59 3 rfl ?_
        refine g_getI C fi_X11_263 (by decide) (h19428).1 (h19428).2 dX11_doubles_61 ?_
        have h19433 := Iy19424.rg (h19428) 5 rfl
        refine g_topi (fun z19434 h19435 => ?_)
        have h19435 : z19434.toInt = (pI Y19422 b19414 5).toInt := congrArg Int32.toInt h19435
        refine g_istore (lv' := [(8, .int z19434), (7, .int 0), (6, .int z19431), (5, .ref b19418), (4, .ref b19414), (0, .ref a0), (1, .int a1), (2, .int a2), (3, .int a3)]) C dX11_doubles_64 (by decide) rfl ?_
        refine g_lv (lv' := [(4, .ref b19414), (5, .ref b19418), (6, .int z19431), (7, .int 0), (8, .int z19434)]) [4, 3, 2, 1, 0] rfl ?_
        exact J66 _ Y19422 b19414 b19418 z19431 0 z19434 (Nat.lt_succ_self _) Iy19424 Xz19426 h19428 h19429 (by omega) (by omega)
      · have h19405 : r19401.toInt = 0 := congrArg Int32.toInt h19405
        clear hi19404
        refine g_lv (lv' := []) [] rfl ?_
        exact J22 
theorem dX11_draw_0 : decode cX11_draw 0 = .ok (.iconst (-1), 1) := by decide +kernel
theorem dX11_draw_1 : decode cX11_draw 1 = .ok (.istore_n 2, 1) := by decide +kernel
theorem dX11_draw_2 : decode cX11_draw 2 = .ok (.aload_n 0, 1) := by decide +kernel
theorem dX11_draw_3 : decode cX11_draw 3 = .ok (.iload_n 1, 1) := by decide +kernel
theorem dX11_draw_4 : decode cX11_draw 4 = .ok (.invokevirtual 97, 3) := by decide +kernel
theorem dX11_draw_7 : decode cX11_draw 7 = .ok (.ifCond .eq 52, 3) := by decide +kernel
theorem dX11_draw_10 : decode cX11_draw 10 = .ok (.aload_n 0, 1) := by decide +kernel
theorem dX11_draw_11 : decode cX11_draw 11 = .ok (.iload_n 1, 1) := by decide +kernel
theorem dX11_draw_12 : decode cX11_draw 12 = .ok (.invokevirtual 105, 3) := by decide +kernel
theorem dX11_isTouched_0 : decode cX11_isTouched 0 = .ok (.iconst 0, 1) := by decide +kernel
theorem dX11_isTouched_1 : decode cX11_isTouched 1 = .ok (.istore_n 2, 1) := by decide +kernel
theorem dX11_isTouched_2 : decode cX11_isTouched 2 = .ok (.iload_n 2, 1) := by decide +kernel
theorem dX11_isTouched_3 : decode cX11_isTouched 3 = .ok (.iconst 4, 1) := by decide +kernel
theorem dX11_isTouched_4 : decode cX11_isTouched 4 = .ok (.if_icmp .ge 24, 3) := by decide +kernel
theorem dX11_isTouched_7 : decode cX11_isTouched 7 = .ok (.aload_n 0, 1) := by decide +kernel
theorem dX11_isTouched_8 : decode cX11_isTouched 8 = .ok (.getfield 17, 3) := by decide +kernel
theorem dX11_isTouched_11 : decode cX11_isTouched 11 = .ok (.iload_n 2, 1) := by decide +kernel
theorem dX11_isTouched_12 : decode cX11_isTouched 12 = .ok (.aaload, 1) := by decide +kernel
theorem dX11_isTouched_13 : decode cX11_isTouched 13 = .ok (.iload_n 1, 1) := by decide +kernel
theorem dX11_isTouched_14 : decode cX11_isTouched 14 = .ok (.invokevirtual 351, 3) := by decide +kernel
theorem dX6_touches_0 : decode cX6_touches 0 = .ok (.iconst 0, 1) := by decide +kernel
theorem dX6_touches_1 : decode cX6_touches 1 = .ok (.istore_n 2, 1) := by decide +kernel
theorem dX6_touches_2 : decode cX6_touches 2 = .ok (.iload_n 2, 1) := by decide +kernel
theorem dX6_touches_3 : decode cX6_touches 3 = .ok (.aload_n 0, 1) := by decide +kernel
theorem dX6_touches_4 : decode cX6_touches 4 = .ok (.getfield 17, 3) := by decide +kernel
theorem dX6_touches_7 : decode cX6_touches 7 = .ok (.if_icmp .ge 24, 3) := by decide +kernel
theorem dX6_touches_10 : decode cX6_touches 10 = .ok (.aload_n 0, 1) := by decide +kernel
theorem dX6_touches_11 : decode cX6_touches 11 = .ok (.getfield 11, 3) := by decide +kernel
theorem dX6_touches_14 : decode cX6_touches 14 = .ok (.iload_n 2, 1) := by decide +kernel
theorem dX6_touches_15 : decode cX6_touches 15 = .ok (.aaload, 1) := by decide +kernel
theorem dX6_touches_16 : decode cX6_touches 16 = .ok (.iload_n 1, 1) := by decide +kernel
theorem dX6_touches_17 : decode cX6_touches 17 = .ok (.invokestatic 32, 3) := by decide +kernel
theorem dX6_touches_20 : decode cX6_touches 20 = .ok (.ifCond .eq 5, 3) := by decide +kernel
theorem dX6_touches_23 : decode cX6_touches 23 = .ok (.iconst 1, 1) := by decide +kernel
theorem dX6_touches_24 : decode cX6_touches 24 = .ok (.ireturn, 1) := by decide +kernel
theorem dX6_touches_25 : decode cX6_touches 25 = .ok (.iinc 2 1, 3) := by decide +kernel
theorem dX6_touches_28 : decode cX6_touches 28 = .ok (.goto (-26), 3) := by decide +kernel
theorem dX6_touches_31 : decode cX6_touches 31 = .ok (.iconst 0, 1) := by decide +kernel
theorem dX6_touches_32 : decode cX6_touches 32 = .ok (.ireturn, 1) := by decide +kernel
set_option maxHeartbeats 4000000 in
set_option maxRecDepth 100000 in
theorem s_X6_touches {P : PP} {a0 : Nat} {a1 : Int32} (I : IV P) (ha0 : At P a0 6) : CtrI yX6_touches cX6_touches 3 (some Jvm.ClassFile.FieldType.boolean) ({ frames := 2, cells := 0, slots := 0, locals := 128 } : Room) 0 0 P [.ref a0, .int a1] (fun r P2 => P = P2 ∧ (0 ≤ r.toInt ∧ r.toInt ≤ 1)) := by
  refine enI (lv := [(0, .ref a0), (1, .int a1)]) (by decide) (Nat.le_of_ble_eq_true rfl) rfl (fun E D cy C Ci0 ret => ?_)
  have J2 : ∀ (n2 : Nat) (v2_2 : Int32), (40 - v2_2.toInt).toNat < n2 → (0 ≤ v2_2.toInt ∧ v2_2.toInt ≤ 40) → G E ({ frames := 2, cells := 0, slots := 0, locals := 128 } : Room) D cy 3 P 0 0 2 [(0, .ref a0), (1, .int a1), (2, .int v2_2)] [] := by
    intro n2
    induction n2 with
    | zero => intro v2_2 hm2 hv2_2; omega
    | succ n2 ih2 =>
      intro v2_2 hm2 hv2_2
      refine g_iload_n C dX6_touches_2 rfl 2 rfl ?_
      refine g_aload_n C dX6_touches_3 rfl 0 rfl ?_
      refine g_getI C fi_X6_17 (by decide) (ha0).1 (ha0).2 dX6_touches_4 ?_
      have h19748 := I.rg (ha0) 1 rfl
      refine b_icmp_ge C 31 dX6_touches_7 (by decide) (fun h19749 => ?_) (fun h19749 => ?_)
      · have h19749 : (pI P a0 1).toInt ≤ v2_2.toInt := h19749
        refine g_iconst (v := 0) C dX6_touches_31 (by decide) ?_
        exact ret _ _ _ _ _ _ dX6_touches_32 rfl (by decide) (by decide) ⟨rfl, (by decide)⟩
      · have h19749 : v2_2.toInt < (pI P a0 1).toInt := h19749
        refine g_aload_n C dX6_touches_10 rfl 0 rfl ?_
        obtain ⟨b19750, e19751, h19752⟩ := I.fld (ha0) 0 20 40 rfl
        refine g_getR C fi_X6_11 rfl e19751 (ha0).1 (ha0).2 dX6_touches_11 ?_
        refine g_iload_n C dX6_touches_14 rfl 2 rfl ?_
        refine g_aldQ (j := (v2_2.toInt.toNat)) C h19752.1 h19752.2.1 (by decide) (ix_in h19752.2.2 (by omega)) dX6_touches_15 ?_
        rcases I.pap h19752 (v2_2.toInt.toNat) with e19754 | ⟨b19753, e19754, h19755⟩
        · rw [e19754]
          show G _ _ _ _ _ _ _ _ _ _ (.null :: _)
          refine g_iload_n C dX6_touches_16 rfl 1 rfl ?_
          refine g_callSI (b := 0) (ci := 0) (rest := []) C ms_X6_32 [.null, .int a1] (s_X6_isTouchingn0 I) rfl rfl (by decide) (Nat.le_of_ble_eq_true rfl) (by decide) dX6_touches_17 (fun r19756 Y19757 h19758 => ?_)
          obtain ⟨rfl, h19758⟩ := h19758
          have h19758 : 0 ≤ r19756.toInt ∧ r19756.toInt ≤ 0 := h19758
          refine b_if_eq C 25 dX6_touches_20 (by decide) (fun h19759 => ?_) (fun h19759 => ?_)
          · have h19759 : r19756.toInt = 0 := congrArg Int32.toInt h19759
            refine s_iinc (lv0 := [(0, .ref a0), (1, .int a1)]) (m := 1) C dX6_touches_25 2 rfl (by decide) rfl (by decide) (by omega) (fun z19760 h19761 => ?_)
            have h19761 : z19760.toInt = v2_2.toInt + 1 := h19761
            refine g_goto C 2 dX6_touches_28 (by decide) ?_
            refine g_lv (lv' := [(0, .ref a0), (1, .int a1), (2, .int z19760)]) [1, 2, 0] rfl ?_
            exact ih2 z19760 (by omega) (by omega)
          · have h19759 : r19756.toInt ≠ 0 := ti_ne h19759
            omega
        · rw [e19754]
          show G _ _ _ _ _ _ _ _ _ _ (.ref b19753 :: _)
          refine g_iload_n C dX6_touches_16 rfl 1 rfl ?_
          refine g_callSI (b := 0) (ci := 0) (rest := []) C ms_X6_32 [.ref b19753, .int a1] (s_X6_isTouching I h19755) rfl rfl (by decide) (Nat.le_of_ble_eq_true rfl) (by decide) dX6_touches_17 (fun r19762 Y19763 h19764 => ?_)
          obtain ⟨rfl, h19764⟩ := h19764
          have h19764 : 0 ≤ r19762.toInt ∧ r19762.toInt ≤ 1 := h19764
          refine b_if_eq C 25 dX6_touches_20 (by decide) (fun h19765 => ?_) (fun h19765 => ?_)
          · have h19765 : r19762.toInt = 0 := congrArg Int32.toInt h19765
            refine s_iinc (lv0 := [(0, .ref a0), (1, .int a1)]) (m := 1) C dX6_touches_25 2 rfl (by decide) rfl (by decide) (by omega) (fun z19766 h19767 => ?_)
            have h19767 : z19766.toInt = v2_2.toInt + 1 := h19767
            refine g_goto C 2 dX6_touches_28 (by decide) ?_
            refine g_lv (lv' := [(0, .ref a0), (1, .int a1), (2, .int z19766)]) [1, 2, 0] rfl ?_
            exact ih2 z19766 (by omega) (by omega)
          · have h19765 : r19762.toInt ≠ 0 := ti_ne h19765
            refine g_iconst (v := 1) C dX6_touches_23 (by decide) ?_
            exact ret _ _ _ _ _ _ dX6_touches_24 rfl (by decide) (by decide) ⟨rfl, (by decide)⟩
  refine g_iconst (v := 0) C dX6_touches_0 (by decide) ?_
  refine g_istore_n (lv' := [(2, .int 0), (0, .ref a0), (1, .int a1)]) C dX6_touches_1 rfl (by decide) rfl ?_
  refine g_lv (lv' := [(0, .ref a0), (1, .int a1), (2, .int 0)]) [1, 2, 0] rfl ?_
  exact J2 _ 0 (Nat.lt_succ_self _) (by decide)
theorem dX11_isTouched_17 : decode cX11_isTouched 17 = .ok (.ifCond .eq 5, 3) := by decide +kernel
theorem dX11_isTouched_20 : decode cX11_isTouched 20 = .ok (.iconst 1, 1) := by decide +kernel
theorem dX11_isTouched_21 : decode cX11_isTouched 21 = .ok (.ireturn, 1) := by decide +kernel
theorem dX11_isTouched_22 : decode cX11_isTouched 22 = .ok (.iinc 2 1, 3) := by decide +kernel
theorem dX11_isTouched_25 : decode cX11_isTouched 25 = .ok (.goto (-23), 3) := by decide +kernel
theorem dX11_isTouched_28 : decode cX11_isTouched 28 = .ok (.iconst 0, 1) := by decide +kernel
theorem dX11_isTouched_29 : decode cX11_isTouched 29 = .ok (.ireturn, 1) := by decide +kernel
set_option maxHeartbeats 4000000 in
set_option maxRecDepth 100000 in
theorem s_X11_isTouched {P : PP} {a0 : Nat} {a1 : Int32} (I : IV P) (ha0 : At P a0 11) : CtrI yX11_isTouched cX11_isTouched 3 (some Jvm.ClassFile.FieldType.boolean) ({ frames := 3, cells := 0, slots := 0, locals := 192 } : Room) 0 0 P [.ref a0, .int a1] (fun r P2 => P = P2 ∧ (0 ≤ r.toInt ∧ r.toInt ≤ 1)) := by
  refine enI (lv := [(0, .ref a0), (1, .int a1)]) (by decide) (Nat.le_of_ble_eq_true rfl) rfl (fun E D cy C Ci0 ret => ?_)
  have J2 : ∀ (n2 : Nat) (v2_2 : Int32), (4 - v2_2.toInt).toNat < n2 → (0 ≤ v2_2.toInt ∧ v2_2.toInt ≤ 4) → G E ({ frames := 3, cells := 0, slots := 0, locals := 192 } : Room) D cy 3 P 0 0 2 [(0, .ref a0), (1, .int a1), (2, .int v2_2)] [] := by
    intro n2
    induction n2 with
    | zero => intro v2_2 hm2 hv2_2; omega
    | succ n2 ih2 =>
      intro v2_2 hm2 hv2_2
      refine g_iload_n C dX11_isTouched_2 rfl 2 rfl ?_
      refine g_iconst (v := 4) C dX11_isTouched_3 (by decide) ?_
      refine b_icmp_ge C 28 dX11_isTouched_4 (by decide) (fun h19833 => ?_) (fun h19833 => ?_)
      · have h19833 : 4 ≤ v2_2.toInt := h19833
        refine g_iconst (v := 0) C dX11_isTouched_28 (by decide) ?_
        exact ret _ _ _ _ _ _ dX11_isTouched_29 rfl (by decide) (by decide) ⟨rfl, (by decide)⟩
      · have h19833 : v2_2.toInt < 4 := h19833
        refine g_aload_n C dX11_isTouched_7 rfl 0 rfl ?_
        obtain ⟨b19834, e19835, h19836⟩ := I.fld (ha0) 1 19 4 rfl
        refine g_getR C fi_X11_17 rfl e19835 (ha0).1 (ha0).2 dX11_isTouched_8 ?_
        refine g_iload_n C dX11_isTouched_11 rfl 2 rfl ?_
        obtain ⟨b19837, e19838, h19839⟩ := I.elm h19836 (by decide) (v2_2.toInt.toNat) (by omega)
        refine g_aldR C h19836.1 h19836.2.1 (by decide) (ix_in h19836.2.2 (by omega)) e19838 dX11_isTouched_12 ?_
        refine g_iload_n C dX11_isTouched_13 rfl 1 rfl ?_
        refine g_callVI (rest := []) C mv_X11_351 [.int a1] (s_X6_touches I h19839) (h19839).1 (h19839).2 rfl rfl (by decide) (Nat.le_of_ble_eq_true rfl) (by decide) dX11_isTouched_14 (fun r19840 Y19841 h19842 => ?_)
        obtain ⟨rfl, h19842⟩ := h19842
        have h19842 : 0 ≤ r19840.toInt ∧ r19840.toInt ≤ 1 := h19842
        refine b_if_eq C 22 dX11_isTouched_17 (by decide) (fun h19843 => ?_) (fun h19843 => ?_)
        · have h19843 : r19840.toInt = 0 := congrArg Int32.toInt h19843
          refine s_iinc (lv0 := [(0, .ref a0), (1, .int a1)]) (m := 1) C dX11_isTouched_22 2 rfl (by decide) rfl (by decide) (by omega) (fun z19844 h19845 => ?_)
          have h19845 : z19844.toInt = v2_2.toInt + 1 := h19845
          refine g_goto C 2 dX11_isTouched_25 (by decide) ?_
          refine g_lv (lv' := [(0, .ref a0), (1, .int a1), (2, .int z19844)]) [1, 2, 0] rfl ?_
          exact ih2 z19844 (by omega) (by omega)
        · have h19843 : r19840.toInt ≠ 0 := ti_ne h19843
          refine g_iconst (v := 1) C dX11_isTouched_20 (by decide) ?_
          exact ret _ _ _ _ _ _ dX11_isTouched_21 rfl (by decide) (by decide) ⟨rfl, (by decide)⟩
  refine g_iconst (v := 0) C dX11_isTouched_0 (by decide) ?_
  refine g_istore_n (lv' := [(2, .int 0), (0, .ref a0), (1, .int a1)]) C dX11_isTouched_1 rfl (by decide) rfl ?_
  refine g_lv (lv' := [(0, .ref a0), (1, .int a1), (2, .int 0)]) [1, 2, 0] rfl ?_
  exact J2 _ 0 (Nat.lt_succ_self _) (by decide)
theorem dX11_draw_15 : decode cX11_draw 15 = .ok (.ifCond .ne 44, 3) := by decide +kernel
theorem dX11_draw_18 : decode cX11_draw 18 = .ok (.aload_n 0, 1) := by decide +kernel
theorem dX11_draw_19 : decode cX11_draw 19 = .ok (.getfield 41, 3) := by decide +kernel
theorem dX11_draw_22 : decode cX11_draw 22 = .ok (.aload_n 0, 1) := by decide +kernel
theorem dX11_draw_23 : decode cX11_draw 23 = .ok (.getfield 11, 3) := by decide +kernel
theorem dX11_draw_26 : decode cX11_draw 26 = .ok (.iload_n 1, 1) := by decide +kernel
theorem dX11_draw_27 : decode cX11_draw 27 = .ok (.aaload, 1) := by decide +kernel
theorem dX11_draw_28 : decode cX11_draw 28 = .ok (.getfield 100, 3) := by decide +kernel
theorem dX11_draw_31 : decode cX11_draw 31 = .ok (.invokevirtual 124, 3) := by decide +kernel
theorem dX4_faultFor_0 : decode cX4_faultFor 0 = .ok (.aload_n 0, 1) := by decide +kernel
theorem dX4_faultFor_1 : decode cX4_faultFor 1 = .ok (.getfield 21, 3) := by decide +kernel
theorem dX4_faultFor_4 : decode cX4_faultFor 4 = .ok (.invokevirtual 25, 3) := by decide +kernel
theorem dX4_faultFor_7 : decode cX4_faultFor 7 = .ok (.aload_n 0, 1) := by decide +kernel
theorem dX4_faultFor_8 : decode cX4_faultFor 8 = .ok (.getfield 12, 3) := by decide +kernel
theorem dX4_faultFor_11 : decode cX4_faultFor 11 = .ok (.invokevirtual 28, 3) := by decide +kernel
theorem dX9_rewind_0 : decode cX9_rewind 0 = .ok (.aload_n 0, 1) := by decide +kernel
theorem dX9_rewind_1 : decode cX9_rewind 1 = .ok (.iconst 0, 1) := by decide +kernel
theorem dX9_rewind_2 : decode cX9_rewind 2 = .ok (.putfield 19, 3) := by decide +kernel
theorem dX9_rewind_5 : decode cX9_rewind 5 = .ok (.return_, 1) := by decide +kernel
set_option maxHeartbeats 4000000 in
set_option maxRecDepth 100000 in
theorem s_X9_rewind {P : PP} {a0 : Nat} (I : IV P) (ha0 : At P a0 9) : CtrV yX9_rewind cX9_rewind 1 none ({ frames := 1, cells := 0, slots := 0, locals := 64 } : Room) 0 0 P [.ref a0] (fun P2 => IV P2 ∧ EK [9] P P2) := by
  refine enV (lv := [(0, .ref a0)]) (by decide) (Nat.le_of_ble_eq_true rfl) rfl (fun E D cy C Ci0 ret => ?_)
  refine g_aload_n C dX9_rewind_0 rfl 0 rfl ?_
  refine g_iconst (v := 0) C dX9_rewind_1 (by decide) ?_
  refine g_putI C fi_X9_19 rfl (ha0).1 (ha0).2 dX9_rewind_2 ?_
  refine gpW (ks := [9]) (I.setI (ha0) (rgOk.of rfl (by decide))) (EK.setI (ha0).2 (by decide)) (fun Y19885 Iy19886 Xy19887 w19888 w19889 => ?_)
  have w19889 : (pI Y19885 a0 4).toInt = 0 := w19889
  have Xz19890 : EK [9] P Y19885 := Xy19887.mono (by decide)
  have h19891 := Xy19887.at ha0
  exact ret _ _ _ _ _ dX9_rewind_5 (by decide) (by decide) ⟨Iy19886, Xz19890⟩
theorem dX4_faultFor_14 : decode cX4_faultFor 14 = .ok (.iconst 0, 1) := by decide +kernel
theorem dX4_faultFor_15 : decode cX4_faultFor 15 = .ok (.istore_n 2, 1) := by decide +kernel
theorem dX4_faultFor_16 : decode cX4_faultFor 16 = .ok (.iload_n 2, 1) := by decide +kernel
theorem dX4_faultFor_17 : decode cX4_faultFor 17 = .ok (.sipush 1000, 3) := by decide +kernel
theorem dX4_faultFor_20 : decode cX4_faultFor 20 = .ok (.if_icmp .gt 40, 3) := by decide +kernel
theorem dX4_faultFor_23 : decode cX4_faultFor 23 = .ok (.aload_n 0, 1) := by decide +kernel
theorem dX4_faultFor_24 : decode cX4_faultFor 24 = .ok (.getfield 12, 3) := by decide +kernel
theorem dX4_faultFor_27 : decode cX4_faultFor 27 = .ok (.invokevirtual 31, 3) := by decide +kernel
theorem dX9_next_0 : decode cX9_next 0 = .ok (.aload_n 0, 1) := by decide +kernel
theorem dX9_next_1 : decode cX9_next 1 = .ok (.getfield 19, 3) := by decide +kernel
theorem dX9_next_4 : decode cX9_next 4 = .ok (.aload_n 0, 1) := by decide +kernel
theorem dX9_next_5 : decode cX9_next 5 = .ok (.getfield 15, 3) := by decide +kernel
theorem dX9_next_8 : decode cX9_next 8 = .ok (.if_icmp .ge 44, 3) := by decide +kernel
theorem dX9_next_11 : decode cX9_next 11 = .ok (.aload_n 0, 1) := by decide +kernel
theorem dX9_next_12 : decode cX9_next 12 = .ok (.getfield 9, 3) := by decide +kernel
theorem dX9_next_15 : decode cX9_next 15 = .ok (.aload_n 0, 1) := by decide +kernel
theorem dX9_next_16 : decode cX9_next 16 = .ok (.getfield 19, 3) := by decide +kernel
theorem dX9_next_19 : decode cX9_next 19 = .ok (.iaload, 1) := by decide +kernel
theorem dX9_next_20 : decode cX9_next 20 = .ok (.bipush 10, 2) := by decide +kernel
theorem dX9_next_22 : decode cX9_next 22 = .ok (.if_icmp .eq 17, 3) := by decide +kernel
theorem dX9_next_25 : decode cX9_next 25 = .ok (.aload_n 0, 1) := by decide +kernel
theorem dX9_next_26 : decode cX9_next 26 = .ok (.getfield 9, 3) := by decide +kernel
theorem dX9_next_29 : decode cX9_next 29 = .ok (.aload_n 0, 1) := by decide +kernel
theorem dX9_next_30 : decode cX9_next 30 = .ok (.getfield 19, 3) := by decide +kernel
theorem dX9_next_33 : decode cX9_next 33 = .ok (.iaload, 1) := by decide +kernel
theorem dX9_next_34 : decode cX9_next 34 = .ok (.bipush 32, 2) := by decide +kernel
theorem dX9_next_36 : decode cX9_next 36 = .ok (.if_icmp .ne 16, 3) := by decide +kernel
theorem dX9_next_52 : decode cX9_next 52 = .ok (.aload_n 0, 1) := by decide +kernel
theorem dX9_next_53 : decode cX9_next 53 = .ok (.aload_n 0, 1) := by decide +kernel
theorem dX9_next_54 : decode cX9_next 54 = .ok (.getfield 19, 3) := by decide +kernel
theorem dX9_next_57 : decode cX9_next 57 = .ok (.putfield 22, 3) := by decide +kernel
theorem dX9_next_60 : decode cX9_next 60 = .ok (.aload_n 0, 1) := by decide +kernel
theorem dX9_next_61 : decode cX9_next 61 = .ok (.getfield 22, 3) := by decide +kernel
theorem dX9_next_64 : decode cX9_next 64 = .ok (.aload_n 0, 1) := by decide +kernel
theorem dX9_next_65 : decode cX9_next 65 = .ok (.getfield 15, 3) := by decide +kernel
theorem dX9_next_68 : decode cX9_next 68 = .ok (.if_icmp .lt 9, 3) := by decide +kernel
theorem dX9_next_77 : decode cX9_next 77 = .ok (.aload_n 0, 1) := by decide +kernel
theorem dX9_next_78 : decode cX9_next 78 = .ok (.getfield 9, 3) := by decide +kernel
theorem dX9_next_81 : decode cX9_next 81 = .ok (.aload_n 0, 1) := by decide +kernel
theorem dX9_next_82 : decode cX9_next 82 = .ok (.getfield 22, 3) := by decide +kernel
theorem dX9_next_85 : decode cX9_next 85 = .ok (.iaload, 1) := by decide +kernel
theorem dX9_next_86 : decode cX9_next 86 = .ok (.istore_n 1, 1) := by decide +kernel
theorem dX9_next_87 : decode cX9_next 87 = .ok (.iload_n 1, 1) := by decide +kernel
theorem dX9_next_88 : decode cX9_next 88 = .ok (.bipush 97, 2) := by decide +kernel
theorem dX9_next_90 : decode cX9_next 90 = .ok (.if_icmp .lt 43, 3) := by decide +kernel
theorem dX9_next_93 : decode cX9_next 93 = .ok (.iload_n 1, 1) := by decide +kernel
theorem dX9_next_94 : decode cX9_next 94 = .ok (.bipush 122, 2) := by decide +kernel
theorem dX9_next_96 : decode cX9_next 96 = .ok (.if_icmp .gt 37, 3) := by decide +kernel
theorem dX9_next_99 : decode cX9_next 99 = .ok (.aload_n 0, 1) := by decide +kernel
theorem dX9_next_100 : decode cX9_next 100 = .ok (.bipush 97, 2) := by decide +kernel
theorem dX9_next_102 : decode cX9_next 102 = .ok (.bipush 122, 2) := by decide +kernel
theorem dX9_next_104 : decode cX9_next 104 = .ok (.invokevirtual 28, 3) := by decide +kernel
theorem dX9_takeRun_0 : decode cX9_takeRun 0 = .ok (.aload_n 0, 1) := by decide +kernel
theorem dX9_takeRun_1 : decode cX9_takeRun 1 = .ok (.getfield 19, 3) := by decide +kernel
theorem dX9_takeRun_4 : decode cX9_takeRun 4 = .ok (.aload_n 0, 1) := by decide +kernel
theorem dX9_takeRun_5 : decode cX9_takeRun 5 = .ok (.getfield 15, 3) := by decide +kernel
theorem dX9_takeRun_8 : decode cX9_takeRun 8 = .ok (.if_icmp .ge 42, 3) := by decide +kernel
theorem dX9_takeRun_11 : decode cX9_takeRun 11 = .ok (.aload_n 0, 1) := by decide +kernel
theorem dX9_takeRun_12 : decode cX9_takeRun 12 = .ok (.getfield 9, 3) := by decide +kernel
theorem dX9_takeRun_15 : decode cX9_takeRun 15 = .ok (.aload_n 0, 1) := by decide +kernel
theorem dX9_takeRun_16 : decode cX9_takeRun 16 = .ok (.getfield 19, 3) := by decide +kernel
theorem dX9_takeRun_19 : decode cX9_takeRun 19 = .ok (.iaload, 1) := by decide +kernel
theorem dX9_takeRun_20 : decode cX9_takeRun 20 = .ok (.iload_n 1, 1) := by decide +kernel
theorem dX9_takeRun_21 : decode cX9_takeRun 21 = .ok (.if_icmp .lt 29, 3) := by decide +kernel
theorem dX9_takeRun_24 : decode cX9_takeRun 24 = .ok (.aload_n 0, 1) := by decide +kernel
theorem dX9_takeRun_25 : decode cX9_takeRun 25 = .ok (.getfield 9, 3) := by decide +kernel
theorem dX9_takeRun_28 : decode cX9_takeRun 28 = .ok (.aload_n 0, 1) := by decide +kernel
theorem dX9_takeRun_29 : decode cX9_takeRun 29 = .ok (.getfield 19, 3) := by decide +kernel
theorem dX9_takeRun_32 : decode cX9_takeRun 32 = .ok (.iaload, 1) := by decide +kernel
theorem dX9_takeRun_33 : decode cX9_takeRun 33 = .ok (.iload_n 2, 1) := by decide +kernel
theorem dX9_takeRun_34 : decode cX9_takeRun 34 = .ok (.if_icmp .gt 16, 3) := by decide +kernel
theorem dX9_takeRun_37 : decode cX9_takeRun 37 = .ok (.aload_n 0, 1) := by decide +kernel
theorem dX9_takeRun_38 : decode cX9_takeRun 38 = .ok (.dup, 1) := by decide +kernel
theorem dX9_takeRun_39 : decode cX9_takeRun 39 = .ok (.getfield 19, 3) := by decide +kernel
theorem dX9_takeRun_42 : decode cX9_takeRun 42 = .ok (.iconst 1, 1) := by decide +kernel
theorem dX9_takeRun_43 : decode cX9_takeRun 43 = .ok (.iadd, 1) := by decide +kernel
theorem dX9_takeRun_44 : decode cX9_takeRun 44 = .ok (.putfield 19, 3) := by decide +kernel
theorem dX9_takeRun_47 : decode cX9_takeRun 47 = .ok (.goto (-47), 3) := by decide +kernel
theorem dX9_takeRun_50 : decode cX9_takeRun 50 = .ok (.return_, 1) := by decide +kernel
set_option maxHeartbeats 4000000 in
set_option maxRecDepth 100000 in
theorem s_X9_takeRun {P : PP} {a0 : Nat} {a1 : Int32} {a2 : Int32} (I : IV P) (ha0 : At P a0 9) : CtrV yX9_takeRun cX9_takeRun 3 none ({ frames := 1, cells := 0, slots := 0, locals := 64 } : Room) 0 0 P [.ref a0, .int a1, .int a2] (fun P2 => IV P2 ∧ EK [9] P P2) := by
  refine enV (lv := [(0, .ref a0), (1, .int a1), (2, .int a2)]) (by decide) (Nat.le_of_ble_eq_true rfl) rfl (fun E D cy C Ci0 ret => ?_)
  have J0 : ∀ (n0 : Nat) (P0 : PP), (1000 - (pI P0 a0 4).toInt).toNat < n0 → (IV P0) → (EK [9] P P0) → G E ({ frames := 1, cells := 0, slots := 0, locals := 64 } : Room) D cy 3 P0 0 0 0 [(0, .ref a0), (1, .int a1), (2, .int a2)] [] := by
    intro n0
    induction n0 with
    | zero => intro P0 hm0 I0 X0; omega
    | succ n0 ih0 =>
      intro P0 hm0 I0 X0
      have h19997 := X0.at ha0
      refine g_aload_n C dX9_takeRun_0 rfl 0 rfl ?_
      refine g_getI C fi_X9_19 (by decide) (h19997).1 (h19997).2 dX9_takeRun_1 ?_
      have h19998 := I0.rg (h19997) 4 rfl
      refine g_aload_n C dX9_takeRun_4 rfl 0 rfl ?_
      refine g_getI C fi_X9_15 (by decide) (h19997).1 (h19997).2 dX9_takeRun_5 ?_
      have h19999 := I0.rg (h19997) 1 rfl
      refine b_icmp_ge C 50 dX9_takeRun_8 (by decide) (fun h20000 => ?_) (fun h20000 => ?_)
      · have h20000 : (pI P0 a0 1).toInt ≤ (pI P0 a0 4).toInt := h20000
        exact ret _ _ _ _ _ dX9_takeRun_50 (by decide) (by decide) ⟨I0, X0⟩
      · have h20000 : (pI P0 a0 4).toInt < (pI P0 a0 1).toInt := h20000
        refine g_aload_n C dX9_takeRun_11 rfl 0 rfl ?_
        obtain ⟨b20001, e20002, h20003⟩ := I0.fld (h19997) 0 13 1000 rfl
        refine g_getR C fi_X9_9 rfl e20002 (h19997).1 (h19997).2 dX9_takeRun_12 ?_
        refine g_aload_n C dX9_takeRun_15 rfl 0 rfl ?_
        refine g_getI C fi_X9_19 (by decide) (h19997).1 (h19997).2 dX9_takeRun_16 ?_
        refine g_iald (j := ((pI P0 a0 4).toInt.toNat)) C h20003.1 h20003.2.1 (ix_in h20003.2.2 (by omega)) dX9_takeRun_19 ?_
        refine g_topi (fun z20004 _ => ?_)
        refine g_iload_n C dX9_takeRun_20 rfl 1 rfl ?_
        have u20006 := ti_rng z20004
        have u20007 := ti_rng a1
        refine b_icmp_lt C 50 dX9_takeRun_21 (by decide) (fun h20005 => ?_) (fun h20005 => ?_)
        · have h20005 : z20004.toInt < a1.toInt := h20005
          exact ret _ _ _ _ _ dX9_takeRun_50 (by decide) (by decide) ⟨I0, X0⟩
        · have h20005 : a1.toInt ≤ z20004.toInt := h20005
          refine g_aload_n C dX9_takeRun_24 rfl 0 rfl ?_
          refine g_getR C fi_X9_9 rfl e20002 (h19997).1 (h19997).2 dX9_takeRun_25 ?_
          refine g_aload_n C dX9_takeRun_28 rfl 0 rfl ?_
          refine g_getI C fi_X9_19 (by decide) (h19997).1 (h19997).2 dX9_takeRun_29 ?_
          refine g_iald (j := ((pI P0 a0 4).toInt.toNat)) C h20003.1 h20003.2.1 (ix_in h20003.2.2 (by omega)) dX9_takeRun_32 ?_
          refine g_topi (fun z20008 _ => ?_)
          refine g_iload_n C dX9_takeRun_33 rfl 2 rfl ?_
          have u20010 := ti_rng z20008
          have u20011 := ti_rng a2
          refine b_icmp_gt C 50 dX9_takeRun_34 (by decide) (fun h20009 => ?_) (fun h20009 => ?_)
          · have h20009 : a2.toInt < z20008.toInt := h20009
            exact ret _ _ _ _ _ dX9_takeRun_50 (by decide) (by decide) ⟨I0, X0⟩
          · have h20009 : z20008.toInt ≤ a2.toInt := h20009
            refine g_aload_n C dX9_takeRun_37 rfl 0 rfl ?_
            refine g_dup C dX9_takeRun_38 rfl ?_
            refine g_getI C fi_X9_19 (by decide) (h19997).1 (h19997).2 dX9_takeRun_39 ?_
            refine g_iconst (v := 1) C dX9_takeRun_42 (by decide) ?_
            refine s_iadd C dX9_takeRun_43 (by show -2147483648 ≤ (pI P0 a0 4).toInt + 1 ∧ (pI P0 a0 4).toInt + 1 ≤ 2147483647; omega) (fun z20012 h20013 => ?_)
            have h20013 : z20012.toInt = (pI P0 a0 4).toInt + 1 := h20013
            refine g_putI C fi_X9_19 rfl (h19997).1 (h19997).2 dX9_takeRun_44 ?_
            refine gpW (ks := [9]) (I0.setI (h19997) (rgOk.of rfl (by omega))) (EK.setI (h19997).2 (by decide)) (fun Y20014 Iy20015 Xy20016 w20017 w20018 => ?_)
            have q20019 := w20017 1 (by decide)
            have Xz20020 : EK [9] P Y20014 := X0.tr (Xy20016.mono (by decide))
            have h20021 := Xy20016.at h19997
            refine g_goto C 0 dX9_takeRun_47 (by decide) ?_
            exact ih0 Y20014 (by omega) Iy20015 Xz20020
  exact J0 _ P (Nat.lt_succ_self _) I EK.rf
theorem dX9_next_39 : decode cX9_next 39 = .ok (.aload_n 0, 1) := by decide +kernel
theorem dX9_next_40 : decode cX9_next 40 = .ok (.dup, 1) := by decide +kernel
theorem dX9_next_41 : decode cX9_next 41 = .ok (.getfield 19, 3) := by decide +kernel
theorem dX9_next_44 : decode cX9_next 44 = .ok (.iconst 1, 1) := by decide +kernel
theorem dX9_next_45 : decode cX9_next 45 = .ok (.iadd, 1) := by decide +kernel
theorem dX9_next_46 : decode cX9_next 46 = .ok (.putfield 19, 3) := by decide +kernel
theorem dX9_next_49 : decode cX9_next 49 = .ok (.goto (-49), 3) := by decide +kernel
theorem dX9_next_71 : decode cX9_next 71 = .ok (.aload_n 0, 1) := by decide +kernel
theorem dX9_next_72 : decode cX9_next 72 = .ok (.iconst 0, 1) := by decide +kernel
theorem dX9_next_73 : decode cX9_next 73 = .ok (.putfield 25, 3) := by decide +kernel
theorem dX9_next_76 : decode cX9_next 76 = .ok (.return_, 1) := by decide +kernel
theorem dX9_next_107 : decode cX9_next 107 = .ok (.aload_n 0, 1) := by decide +kernel
theorem dX9_next_108 : decode cX9_next 108 = .ok (.aload_n 0, 1) := by decide +kernel
theorem dX9_next_109 : decode cX9_next 109 = .ok (.getfield 19, 3) := by decide +kernel
theorem dX9_next_112 : decode cX9_next 112 = .ok (.aload_n 0, 1) := by decide +kernel
theorem dX9_next_113 : decode cX9_next 113 = .ok (.getfield 22, 3) := by decide +kernel
theorem dX9_next_116 : decode cX9_next 116 = .ok (.isub, 1) := by decide +kernel
theorem dX9_next_117 : decode cX9_next 117 = .ok (.bipush 8, 2) := by decide +kernel
theorem dX9_next_119 : decode cX9_next 119 = .ok (.if_icmp .gt 7, 3) := by decide +kernel
theorem dX9_next_122 : decode cX9_next 122 = .ok (.iconst 1, 1) := by decide +kernel
theorem dX9_next_123 : decode cX9_next 123 = .ok (.goto 4, 3) := by decide +kernel
theorem dX9_next_126 : decode cX9_next 126 = .ok (.iconst 4, 1) := by decide +kernel
theorem dX9_next_127 : decode cX9_next 127 = .ok (.putfield 25, 3) := by decide +kernel
theorem dX9_next_130 : decode cX9_next 130 = .ok (.goto 93, 3) := by decide +kernel
theorem dX9_next_133 : decode cX9_next 133 = .ok (.iload_n 1, 1) := by decide +kernel
theorem dX9_next_134 : decode cX9_next 134 = .ok (.bipush 48, 2) := by decide +kernel
theorem dX9_next_136 : decode cX9_next 136 = .ok (.if_icmp .lt 62, 3) := by decide +kernel
theorem dX9_next_139 : decode cX9_next 139 = .ok (.iload_n 1, 1) := by decide +kernel
theorem dX9_next_140 : decode cX9_next 140 = .ok (.bipush 57, 2) := by decide +kernel
theorem dX9_next_142 : decode cX9_next 142 = .ok (.if_icmp .gt 56, 3) := by decide +kernel
theorem dX9_next_145 : decode cX9_next 145 = .ok (.aload_n 0, 1) := by decide +kernel
theorem dX9_next_146 : decode cX9_next 146 = .ok (.bipush 48, 2) := by decide +kernel
theorem dX9_next_148 : decode cX9_next 148 = .ok (.bipush 57, 2) := by decide +kernel
theorem dX9_next_150 : decode cX9_next 150 = .ok (.invokevirtual 28, 3) := by decide +kernel
theorem dX9_next_153 : decode cX9_next 153 = .ok (.aload_n 0, 1) := by decide +kernel
theorem dX9_next_154 : decode cX9_next 154 = .ok (.aload_n 0, 1) := by decide +kernel
theorem dX9_next_155 : decode cX9_next 155 = .ok (.getfield 19, 3) := by decide +kernel
theorem dX9_next_158 : decode cX9_next 158 = .ok (.aload_n 0, 1) := by decide +kernel
theorem dX9_next_159 : decode cX9_next 159 = .ok (.getfield 22, 3) := by decide +kernel
theorem dX9_next_162 : decode cX9_next 162 = .ok (.isub, 1) := by decide +kernel
theorem dX9_next_163 : decode cX9_next 163 = .ok (.iconst 4, 1) := by decide +kernel
theorem dX9_next_164 : decode cX9_next 164 = .ok (.if_icmp .gt 7, 3) := by decide +kernel
theorem dX9_next_167 : decode cX9_next 167 = .ok (.iconst 2, 1) := by decide +kernel
theorem dX9_next_168 : decode cX9_next 168 = .ok (.goto 4, 3) := by decide +kernel
theorem dX9_next_171 : decode cX9_next 171 = .ok (.iconst 4, 1) := by decide +kernel
theorem dX9_next_172 : decode cX9_next 172 = .ok (.putfield 25, 3) := by decide +kernel
theorem dX9_next_175 : decode cX9_next 175 = .ok (.aload_n 0, 1) := by decide +kernel
theorem dX9_next_176 : decode cX9_next 176 = .ok (.aload_n 0, 1) := by decide +kernel
theorem dX9_next_177 : decode cX9_next 177 = .ok (.getfield 25, 3) := by decide +kernel
theorem dX9_next_180 : decode cX9_next 180 = .ok (.iconst 2, 1) := by decide +kernel
theorem dX9_next_181 : decode cX9_next 181 = .ok (.if_icmp .ne 10, 3) := by decide +kernel
theorem dX9_next_184 : decode cX9_next 184 = .ok (.aload_n 0, 1) := by decide +kernel
theorem dX9_next_185 : decode cX9_next 185 = .ok (.invokevirtual 32, 3) := by decide +kernel
theorem dX9_next_191 : decode cX9_next 191 = .ok (.iconst (-1), 1) := by decide +kernel
theorem dX9_next_198 : decode cX9_next 198 = .ok (.aload_n 0, 1) := by decide +kernel
theorem dX9_next_199 : decode cX9_next 199 = .ok (.dup, 1) := by decide +kernel
theorem dX9_next_200 : decode cX9_next 200 = .ok (.getfield 19, 3) := by decide +kernel
theorem dX9_next_203 : decode cX9_next 203 = .ok (.iconst 1, 1) := by decide +kernel
theorem dX9_next_204 : decode cX9_next 204 = .ok (.iadd, 1) := by decide +kernel
theorem dX9_next_205 : decode cX9_next 205 = .ok (.putfield 19, 3) := by decide +kernel
theorem dX9_next_208 : decode cX9_next 208 = .ok (.aload_n 0, 1) := by decide +kernel
theorem dX9_next_209 : decode cX9_next 209 = .ok (.iload_n 1, 1) := by decide +kernel
theorem dX9_next_210 : decode cX9_next 210 = .ok (.bipush 59, 2) := by decide +kernel
theorem dX9_next_212 : decode cX9_next 212 = .ok (.if_icmp .ne 7, 3) := by decide +kernel
theorem dX9_next_215 : decode cX9_next 215 = .ok (.iconst 3, 1) := by decide +kernel
theorem dX9_next_216 : decode cX9_next 216 = .ok (.goto 4, 3) := by decide +kernel
theorem dX9_next_219 : decode cX9_next 219 = .ok (.iconst 4, 1) := by decide +kernel
theorem dX9_next_223 : decode cX9_next 223 = .ok (.return_, 1) := by decide +kernel
theorem dX9_numberHere_0 : decode cX9_numberHere 0 = .ok (.iconst 0, 1) := by decide +kernel
theorem dX9_numberHere_1 : decode cX9_numberHere 1 = .ok (.istore_n 1, 1) := by decide +kernel
theorem dX9_numberHere_2 : decode cX9_numberHere 2 = .ok (.aload_n 0, 1) := by decide +kernel
theorem dX9_numberHere_3 : decode cX9_numberHere 3 = .ok (.getfield 22, 3) := by decide +kernel
theorem dX9_numberHere_6 : decode cX9_numberHere 6 = .ok (.istore_n 2, 1) := by decide +kernel
theorem dX9_numberHere_7 : decode cX9_numberHere 7 = .ok (.iload_n 2, 1) := by decide +kernel
theorem dX9_numberHere_8 : decode cX9_numberHere 8 = .ok (.aload_n 0, 1) := by decide +kernel
theorem dX9_numberHere_9 : decode cX9_numberHere 9 = .ok (.getfield 19, 3) := by decide +kernel
theorem dX9_numberHere_12 : decode cX9_numberHere 12 = .ok (.if_icmp .ge 24, 3) := by decide +kernel
theorem dX9_numberHere_15 : decode cX9_numberHere 15 = .ok (.iload_n 1, 1) := by decide +kernel
theorem dX9_numberHere_16 : decode cX9_numberHere 16 = .ok (.bipush 10, 2) := by decide +kernel
theorem dX9_numberHere_18 : decode cX9_numberHere 18 = .ok (.imul, 1) := by decide +kernel
theorem dX9_numberHere_19 : decode cX9_numberHere 19 = .ok (.aload_n 0, 1) := by decide +kernel
theorem dX9_numberHere_20 : decode cX9_numberHere 20 = .ok (.getfield 9, 3) := by decide +kernel
theorem dX9_numberHere_23 : decode cX9_numberHere 23 = .ok (.iload_n 2, 1) := by decide +kernel
theorem dX9_numberHere_24 : decode cX9_numberHere 24 = .ok (.iaload, 1) := by decide +kernel
theorem dX9_numberHere_25 : decode cX9_numberHere 25 = .ok (.iadd, 1) := by decide +kernel
theorem dX9_numberHere_26 : decode cX9_numberHere 26 = .ok (.bipush 48, 2) := by decide +kernel
theorem dX9_numberHere_28 : decode cX9_numberHere 28 = .ok (.isub, 1) := by decide +kernel
theorem dX9_numberHere_29 : decode cX9_numberHere 29 = .ok (.istore_n 1, 1) := by decide +kernel
theorem dX9_numberHere_30 : decode cX9_numberHere 30 = .ok (.iinc 2 1, 3) := by decide +kernel
theorem dX9_numberHere_33 : decode cX9_numberHere 33 = .ok (.goto (-26), 3) := by decide +kernel
theorem dX9_numberHere_36 : decode cX9_numberHere 36 = .ok (.iload_n 1, 1) := by decide +kernel
theorem dX9_numberHere_37 : decode cX9_numberHere 37 = .ok (.ireturn, 1) := by decide +kernel
set_option maxHeartbeats 4000000 in
set_option maxRecDepth 100000 in
theorem s_X9_numberHere {P : PP} {a0 : Nat} (I : IV P) (ha0 : At P a0 9) : CtrI yX9_numberHere cX9_numberHere 3 (some Jvm.ClassFile.FieldType.int) ({ frames := 1, cells := 0, slots := 0, locals := 64 } : Room) 0 0 P [.ref a0] (fun r P2 => P = P2 ∧ (True)) := by
  refine enI (lv := [(0, .ref a0)]) (by decide) (Nat.le_of_ble_eq_true rfl) rfl (fun E D cy C Ci0 ret => ?_)
  have J7 : ∀ (n7 : Nat) (v7_1 : Int32) (v7_2 : Int32), (1000 - v7_2.toInt).toNat < n7 → (0 ≤ v7_2.toInt ∧ v7_2.toInt ≤ 1000) → G E ({ frames := 1, cells := 0, slots := 0, locals := 64 } : Room) D cy 3 P 0 0 7 [(0, .ref a0), (1, .int v7_1), (2, .int v7_2)] [] := by
    intro n7
    induction n7 with
    | zero => intro v7_1 v7_2 hm7 hv7_2; omega
    | succ n7 ih7 =>
      intro v7_1 v7_2 hm7 hv7_2
      refine g_iload_n C dX9_numberHere_7 rfl 2 rfl ?_
      refine g_aload_n C dX9_numberHere_8 rfl 0 rfl ?_
      refine g_getI C fi_X9_19 (by decide) (ha0).1 (ha0).2 dX9_numberHere_9 ?_
      have h20178 := I.rg (ha0) 4 rfl
      refine b_icmp_ge C 36 dX9_numberHere_12 (by decide) (fun h20179 => ?_) (fun h20179 => ?_)
      · have h20179 : (pI P a0 4).toInt ≤ v7_2.toInt := h20179
        refine g_iload_n C dX9_numberHere_36 rfl 1 rfl ?_
        exact ret _ _ _ _ _ _ dX9_numberHere_37 rfl (by decide) (by decide) ⟨rfl, trivial⟩
      · have h20179 : v7_2.toInt < (pI P a0 4).toInt := h20179
        refine g_iload_n C dX9_numberHere_15 rfl 1 rfl ?_
        refine g_bipush (v := 10) C dX9_numberHere_16 (by decide) ?_
        refine a_imul C dX9_numberHere_18 (fun z20180 => ?_)
        refine g_aload_n C dX9_numberHere_19 rfl 0 rfl ?_
        obtain ⟨b20182, e20183, h20184⟩ := I.fld (ha0) 0 13 1000 rfl
        refine g_getR C fi_X9_9 rfl e20183 (ha0).1 (ha0).2 dX9_numberHere_20 ?_
        refine g_iload_n C dX9_numberHere_23 rfl 2 rfl ?_
        refine g_iald (j := (v7_2.toInt.toNat)) C h20184.1 h20184.2.1 (ix_in h20184.2.2 (by omega)) dX9_numberHere_24 ?_
        refine g_topi (fun z20185 _ => ?_)
        refine a_iadd C dX9_numberHere_25 (fun z20186 => ?_)
        refine g_bipush (v := 48) C dX9_numberHere_26 (by decide) ?_
        refine a_isub C dX9_numberHere_28 (fun z20188 => ?_)
        refine g_istore_n (lv' := [(1, .int z20188), (0, .ref a0), (2, .int v7_2)]) C dX9_numberHere_29 rfl (by decide) rfl ?_
        refine s_iinc (lv0 := [(1, .int z20188), (0, .ref a0)]) (m := 1) C dX9_numberHere_30 2 rfl (by decide) rfl (by decide) (by omega) (fun z20190 h20191 => ?_)
        have h20191 : z20190.toInt = v7_2.toInt + 1 := h20191
        refine g_goto C 7 dX9_numberHere_33 (by decide) ?_
        refine g_lv (lv' := [(0, .ref a0), (1, .int z20188), (2, .int z20190)]) [2, 1, 0] rfl ?_
        exact ih7 z20188 z20190 (by omega) (by omega)
  refine g_iconst (v := 0) C dX9_numberHere_0 (by decide) ?_
  refine g_istore_n (lv' := [(1, .int 0), (0, .ref a0)]) C dX9_numberHere_1 rfl (by decide) rfl ?_
  refine g_aload_n C dX9_numberHere_2 rfl 1 rfl ?_
  refine g_getI C fi_X9_22 (by decide) (ha0).1 (ha0).2 dX9_numberHere_3 ?_
  have h20192 := I.rg (ha0) 3 rfl
  refine g_topi (fun z20193 h20194 => ?_)
  have h20194 : z20193.toInt = (pI P a0 3).toInt := congrArg Int32.toInt h20194
  refine g_istore_n (lv' := [(2, .int z20193), (1, .int 0), (0, .ref a0)]) C dX9_numberHere_6 rfl (by decide) rfl ?_
  refine g_lv (lv' := [(0, .ref a0), (1, .int 0), (2, .int z20193)]) [2, 1, 0] rfl ?_
  exact J7 _ 0 z20193 (Nat.lt_succ_self _) (by omega)
theorem dX9_next_188 : decode cX9_next 188 = .ok (.goto 4, 3) := by decide +kernel
theorem dX9_next_192 : decode cX9_next 192 = .ok (.putfield 36, 3) := by decide +kernel
theorem dX9_next_195 : decode cX9_next 195 = .ok (.goto 28, 3) := by decide +kernel
theorem dX9_next_220 : decode cX9_next 220 = .ok (.putfield 25, 3) := by decide +kernel
set_option maxHeartbeats 4000000 in
set_option maxRecDepth 100000 in
theorem s_X9_next {P : PP} {a0 : Nat} (I : IV P) (ha0 : At P a0 9) : CtrV yX9_next cX9_next 2 none ({ frames := 2, cells := 0, slots := 0, locals := 128 } : Room) 0 0 P [.ref a0] (fun P2 => IV P2 ∧ EK [9] P P2) := by
  refine enV (lv := [(0, .ref a0)]) (by decide) (Nat.le_of_ble_eq_true rfl) rfl (fun E D cy C Ci0 ret => ?_)
  have J220 : ∀ (P220 : PP) (v220_s0 : Int32), (IV P220) → (EK [9] P P220) → (3 ≤ v220_s0.toInt ∧ v220_s0.toInt ≤ 4) → (1 ≤ (pI P220 a0 1).toInt ∧ (pI P220 a0 1).toInt ≤ 1000) → (0 ≤ (pI P220 a0 3).toInt ∧ (pI P220 a0 3).toInt ≤ 999) → (1 ≤ (pI P220 a0 4).toInt ∧ (pI P220 a0 4).toInt ≤ 1001) → G E ({ frames := 2, cells := 0, slots := 0, locals := 128 } : Room) D cy 2 P220 0 0 220 [] [.int v220_s0, .ref a0] := by
    intro P220 v220_s0 I220 X220 hv220_s0 hq220_0 hq220_1 hq220_2
    have h20396 := X220.at ha0
    refine g_putI C fi_X9_25 rfl (h20396).1 (h20396).2 dX9_next_220 ?_
    refine gpW (ks := [9]) (I220.setI (h20396) (rgOk.none rfl)) (EK.setI (h20396).2 (by decide)) (fun Y20397 Iy20398 Xy20399 w20400 w20401 => ?_)
    have q20402 := w20400 1 (by decide)
    have q20403 := w20400 3 (by decide)
    have q20404 := w20400 4 (by decide)
    have Xz20405 : EK [9] P Y20397 := X220.tr (Xy20399.mono (by decide))
    have h20406 := Xy20399.at h20396
    exact ret _ _ _ _ _ dX9_next_223 (by decide) (by decide) ⟨Iy20398, Xz20405⟩
  have J198 : ∀ (P198 : PP) (v198_1 : Int32), (IV P198) → (EK [9] P P198) → (1 ≤ (pI P198 a0 1).toInt ∧ (pI P198 a0 1).toInt ≤ 1000) → (0 ≤ (pI P198 a0 3).toInt ∧ (pI P198 a0 3).toInt ≤ 999) → ((pI P198 a0 4).toInt = (pI P198 a0 3).toInt) → G E ({ frames := 2, cells := 0, slots := 0, locals := 128 } : Room) D cy 2 P198 0 0 198 [(0, .ref a0), (1, .int v198_1)] [] := by
    intro P198 v198_1 I198 X198 hq198_0 hq198_1 rel198_0
    have h20407 := X198.at ha0
    refine g_aload_n C dX9_next_198 rfl 0 rfl ?_
    refine g_dup C dX9_next_199 rfl ?_
    refine g_getI C fi_X9_19 (by decide) (h20407).1 (h20407).2 dX9_next_200 ?_
    have h20408 := I198.rg (h20407) 4 rfl
    refine g_iconst (v := 1) C dX9_next_203 (by decide) ?_
    refine s_iadd C dX9_next_204 (by show -2147483648 ≤ (pI P198 a0 4).toInt + 1 ∧ (pI P198 a0 4).toInt + 1 ≤ 2147483647; omega) (fun z20409 h20410 => ?_)
    have h20410 : z20409.toInt = (pI P198 a0 4).toInt + 1 := h20410
    refine g_putI C fi_X9_19 rfl (h20407).1 (h20407).2 dX9_next_205 ?_
    refine gpW (ks := [9]) (I198.setI (h20407) (rgOk.of rfl (by omega))) (EK.setI (h20407).2 (by decide)) (fun Y20411 Iy20412 Xy20413 w20414 w20415 => ?_)
    have q20416 := w20414 1 (by decide)
    have q20417 := w20414 3 (by decide)
    have Xz20418 : EK [9] P Y20411 := X198.tr (Xy20413.mono (by decide))
    have h20419 := Xy20413.at h20407
    refine g_aload_n C dX9_next_208 rfl 0 rfl ?_
    refine g_iload_n C dX9_next_209 rfl 1 rfl ?_
    refine g_bipush (v := 59) C dX9_next_210 (by decide) ?_
    have u20421 := ti_rng v198_1
    refine b_icmp_ne C 219 dX9_next_212 (by decide) (fun h20420 => ?_) (fun h20420 => ?_)
    · have h20420 : v198_1.toInt ≠ 59 := ti_ne h20420
      refine g_iconst (v := 4) C dX9_next_219 (by decide) ?_
      refine g_lv (lv' := []) [] rfl ?_
      exact J220 Y20411 4 Iy20412 Xz20418 (by decide) (by omega) (by omega) (by omega)
    · have h20420 : v198_1.toInt = 59 := congrArg Int32.toInt h20420
      refine g_iconst (v := 3) C dX9_next_215 (by decide) ?_
      refine g_goto C 220 dX9_next_216 (by decide) ?_
      refine g_lv (lv' := []) [] rfl ?_
      exact J220 Y20411 3 Iy20412 Xz20418 (by decide) (by omega) (by omega) (by omega)
  have J192 : ∀ (P192 : PP) (v192_s0 : Int32), (IV P192) → (EK [9] P P192) → (2 ≤ (pI P192 a0 2).toInt ∧ (pI P192 a0 2).toInt ≤ 4) → G E ({ frames := 2, cells := 0, slots := 0, locals := 128 } : Room) D cy 2 P192 0 0 192 [] [.int v192_s0, .ref a0] := by
    intro P192 v192_s0 I192 X192 hq192_0
    have h20422 := X192.at ha0
    refine g_putI C fi_X9_36 rfl (h20422).1 (h20422).2 dX9_next_192 ?_
    refine gpW (ks := [9]) (I192.setI (h20422) (rgOk.none rfl)) (EK.setI (h20422).2 (by decide)) (fun Y20423 Iy20424 Xy20425 w20426 w20427 => ?_)
    have q20428 := w20426 2 (by decide)
    have Xz20429 : EK [9] P Y20423 := X192.tr (Xy20425.mono (by decide))
    have h20430 := Xy20425.at h20422
    refine g_goto C 223 dX9_next_195 (by decide) ?_
    exact ret _ _ _ _ _ dX9_next_223 (by decide) (by decide) ⟨Iy20424, Xz20429⟩
  have J172 : ∀ (P172 : PP) (v172_s0 : Int32), (IV P172) → (EK [9] P P172) → (2 ≤ v172_s0.toInt ∧ v172_s0.toInt ≤ 4) → G E ({ frames := 2, cells := 0, slots := 0, locals := 128 } : Room) D cy 2 P172 0 0 172 [(0, .ref a0)] [.int v172_s0, .ref a0] := by
    intro P172 v172_s0 I172 X172 hv172_s0
    have h20431 := X172.at ha0
    refine g_putI C fi_X9_25 rfl (h20431).1 (h20431).2 dX9_next_172 ?_
    refine gpW (ks := [9]) (I172.setI (h20431) (rgOk.none rfl)) (EK.setI (h20431).2 (by decide)) (fun Y20432 Iy20433 Xy20434 w20435 w20436 => ?_)
    have Xz20437 : EK [9] P Y20432 := X172.tr (Xy20434.mono (by decide))
    have h20438 := Xy20434.at h20431
    refine g_aload_n C dX9_next_175 rfl 0 rfl ?_
    refine g_aload_n C dX9_next_176 rfl 0 rfl ?_
    refine g_getI C fi_X9_25 (by decide) (h20438).1 (h20438).2 dX9_next_177 ?_
    refine g_iconst (v := 2) C dX9_next_180 (by decide) ?_
    refine b_icmp_ne C 191 dX9_next_181 (by decide) (fun h20439 => ?_) (fun h20439 => ?_)
    · have h20439 : (pI Y20432 a0 2).toInt ≠ 2 := ti_ne h20439
      refine g_iconst (v := (-1)) C dX9_next_191 (by decide) ?_
      refine g_lv (lv' := []) [] rfl ?_
      exact J192 Y20432 (-1) Iy20433 Xz20437 (by omega)
    · have h20439 : (pI Y20432 a0 2).toInt = 2 := congrArg Int32.toInt h20439
      refine g_aload_n C dX9_next_184 rfl 0 rfl ?_
      refine g_callVI (rest := [.ref a0]) C mv_X9_32 [] (s_X9_numberHere Iy20433 h20438) (h20438).1 (h20438).2 rfl rfl (by decide) (Nat.le_of_ble_eq_true rfl) (by decide) dX9_next_185 (fun r20440 Y20441 h20442 => ?_)
      obtain ⟨rfl, h20442⟩ := h20442
      have h20442 : True := h20442
      refine g_goto C 192 dX9_next_188 (by decide) ?_
      refine g_lv (lv' := []) [] rfl ?_
      exact J192 Y20432 r20440 Iy20433 Xz20437 (by omega)
  have J133 : ∀ (P133 : PP) (v133_1 : Int32), (IV P133) → (EK [9] P P133) → (1 ≤ (pI P133 a0 1).toInt ∧ (pI P133 a0 1).toInt ≤ 1000) → (0 ≤ (pI P133 a0 3).toInt ∧ (pI P133 a0 3).toInt ≤ 999) → ((pI P133 a0 4).toInt = (pI P133 a0 3).toInt) → G E ({ frames := 2, cells := 0, slots := 0, locals := 128 } : Room) D cy 2 P133 0 0 133 [(0, .ref a0), (1, .int v133_1)] [] := by
    intro P133 v133_1 I133 X133 hq133_0 hq133_1 rel133_0
    have h20443 := X133.at ha0
    refine g_iload_n C dX9_next_133 rfl 1 rfl ?_
    refine g_bipush (v := 48) C dX9_next_134 (by decide) ?_
    have u20445 := ti_rng v133_1
    refine b_icmp_lt C 198 dX9_next_136 (by decide) (fun h20444 => ?_) (fun h20444 => ?_)
    · have h20444 : v133_1.toInt < 48 := h20444
      exact J198 P133 v133_1 I133 X133 (by omega) (by omega) (by show (pI P133 a0 4).toInt = (pI P133 a0 3).toInt; omega)
    · have h20444 : 48 ≤ v133_1.toInt := h20444
      refine g_iload_n C dX9_next_139 rfl 1 rfl ?_
      refine g_bipush (v := 57) C dX9_next_140 (by decide) ?_
      have u20447 := ti_rng v133_1
      refine b_icmp_gt C 198 dX9_next_142 (by decide) (fun h20446 => ?_) (fun h20446 => ?_)
      · have h20446 : 57 < v133_1.toInt := h20446
        exact J198 P133 v133_1 I133 X133 (by omega) (by omega) (by show (pI P133 a0 4).toInt = (pI P133 a0 3).toInt; omega)
      · have h20446 : v133_1.toInt ≤ 57 := h20446
        refine g_aload_n C dX9_next_145 rfl 0 rfl ?_
        refine g_bipush (v := 48) C dX9_next_146 (by decide) ?_
        refine g_bipush (v := 57) C dX9_next_148 (by decide) ?_
        refine g_callVV (rest := []) C mv_X9_28 [.int 48, .int 57] (s_X9_takeRun I133 h20443) (h20443).1 (h20443).2 rfl rfl (by decide) (Nat.le_of_ble_eq_true rfl) (by decide) dX9_next_150 (fun Y20449 h20450 => ?_)
        obtain ⟨Iy20451, Xy20452⟩ := h20450
        have Xz20453 : EK [9] P Y20449 := X133.tr (Xy20452.mono (by decide))
        have h20454 := Xy20452.at h20443
        refine g_aload_n C dX9_next_153 rfl 0 rfl ?_
        refine g_aload_n C dX9_next_154 rfl 0 rfl ?_
        refine g_getI C fi_X9_19 (by decide) (h20454).1 (h20454).2 dX9_next_155 ?_
        have h20455 := Iy20451.rg (h20454) 4 rfl
        refine g_aload_n C dX9_next_158 rfl 0 rfl ?_
        refine g_getI C fi_X9_22 (by decide) (h20454).1 (h20454).2 dX9_next_159 ?_
        have h20456 := Iy20451.rg (h20454) 3 rfl
        refine s_isub C dX9_next_162 (by show -2147483648 ≤ (pI Y20449 a0 4).toInt - (pI Y20449 a0 3).toInt ∧ (pI Y20449 a0 4).toInt - (pI Y20449 a0 3).toInt ≤ 2147483647; omega) (fun z20457 h20458 => ?_)
        have h20458 : z20457.toInt = (pI Y20449 a0 4).toInt - (pI Y20449 a0 3).toInt := h20458
        refine g_iconst (v := 4) C dX9_next_163 (by decide) ?_
        refine b_icmp_gt C 171 dX9_next_164 (by decide) (fun h20459 => ?_) (fun h20459 => ?_)
        · have h20459 : 4 < z20457.toInt := h20459
          refine g_iconst (v := 4) C dX9_next_171 (by decide) ?_
          refine g_lv (lv' := [(0, .ref a0)]) [0] rfl ?_
          exact J172 Y20449 4 Iy20451 Xz20453 (by decide)
        · have h20459 : z20457.toInt ≤ 4 := h20459
          refine g_iconst (v := 2) C dX9_next_167 (by decide) ?_
          refine g_goto C 172 dX9_next_168 (by decide) ?_
          refine g_lv (lv' := [(0, .ref a0)]) [0] rfl ?_
          exact J172 Y20449 2 Iy20451 Xz20453 (by decide)
  have J127 : ∀ (P127 : PP) (v127_s0 : Int32), (IV P127) → (EK [9] P P127) → (1 ≤ v127_s0.toInt ∧ v127_s0.toInt ≤ 4) → G E ({ frames := 2, cells := 0, slots := 0, locals := 128 } : Room) D cy 2 P127 0 0 127 [] [.int v127_s0, .ref a0] := by
    intro P127 v127_s0 I127 X127 hv127_s0
    have h20460 := X127.at ha0
    refine g_putI C fi_X9_25 rfl (h20460).1 (h20460).2 dX9_next_127 ?_
    refine gpW (ks := [9]) (I127.setI (h20460) (rgOk.none rfl)) (EK.setI (h20460).2 (by decide)) (fun Y20461 Iy20462 Xy20463 w20464 w20465 => ?_)
    have Xz20466 : EK [9] P Y20461 := X127.tr (Xy20463.mono (by decide))
    have h20467 := Xy20463.at h20460
    refine g_goto C 223 dX9_next_130 (by decide) ?_
    exact ret _ _ _ _ _ dX9_next_223 (by decide) (by decide) ⟨Iy20462, Xz20466⟩
  have J52 : ∀ (P52 : PP), (IV P52) → (EK [9] P P52) → G E ({ frames := 2, cells := 0, slots := 0, locals := 128 } : Room) D cy 2 P52 0 0 52 [(0, .ref a0)] [] := by
    intro P52 I52 X52
    have h20468 := X52.at ha0
    refine g_aload_n C dX9_next_52 rfl 0 rfl ?_
    refine g_aload_n C dX9_next_53 rfl 0 rfl ?_
    refine g_getI C fi_X9_19 (by decide) (h20468).1 (h20468).2 dX9_next_54 ?_
    have h20469 := I52.rg (h20468) 4 rfl
    refine g_putI C fi_X9_22 rfl (h20468).1 (h20468).2 dX9_next_57 ?_
    refine gpW (ks := [9]) (I52.setI (h20468) (rgOk.of rfl (by omega))) (EK.setI (h20468).2 (by decide)) (fun Y20470 Iy20471 Xy20472 w20473 w20474 => ?_)
    have q20475 := w20473 4 (by decide)
    have Xz20476 : EK [9] P Y20470 := X52.tr (Xy20472.mono (by decide))
    have h20477 := Xy20472.at h20468
    refine g_aload_n C dX9_next_60 rfl 0 rfl ?_
    refine g_getI C fi_X9_22 (by decide) (h20477).1 (h20477).2 dX9_next_61 ?_
    refine g_aload_n C dX9_next_64 rfl 0 rfl ?_
    refine g_getI C fi_X9_15 (by decide) (h20477).1 (h20477).2 dX9_next_65 ?_
    have h20478 := Iy20471.rg (h20477) 1 rfl
    refine b_icmp_lt C 77 dX9_next_68 (by decide) (fun h20479 => ?_) (fun h20479 => ?_)
    · have h20479 : (pI Y20470 a0 3).toInt < (pI Y20470 a0 1).toInt := h20479
      refine g_aload_n C dX9_next_77 rfl 0 rfl ?_
      obtain ⟨b20480, e20481, h20482⟩ := Iy20471.fld (h20477) 0 13 1000 rfl
      refine g_getR C fi_X9_9 rfl e20481 (h20477).1 (h20477).2 dX9_next_78 ?_
      refine g_aload_n C dX9_next_81 rfl 0 rfl ?_
      refine g_getI C fi_X9_22 (by decide) (h20477).1 (h20477).2 dX9_next_82 ?_
      refine g_iald (j := ((pI Y20470 a0 3).toInt.toNat)) C h20482.1 h20482.2.1 (ix_in h20482.2.2 (by omega)) dX9_next_85 ?_
      refine g_topi (fun z20483 _ => ?_)
      refine g_istore_n (lv' := [(1, .int z20483), (0, .ref a0)]) C dX9_next_86 rfl (by decide) rfl ?_
      refine g_iload_n C dX9_next_87 rfl 0 rfl ?_
      refine g_bipush (v := 97) C dX9_next_88 (by decide) ?_
      have u20485 := ti_rng z20483
      refine b_icmp_lt C 133 dX9_next_90 (by decide) (fun h20484 => ?_) (fun h20484 => ?_)
      · have h20484 : z20483.toInt < 97 := h20484
        refine g_lv (lv' := [(0, .ref a0), (1, .int z20483)]) [1, 0] rfl ?_
        exact J133 Y20470 z20483 Iy20471 Xz20476 (by omega) (by omega) (by show (pI Y20470 a0 4).toInt = (pI Y20470 a0 3).toInt; omega)
      · have h20484 : 97 ≤ z20483.toInt := h20484
        refine g_iload_n C dX9_next_93 rfl 0 rfl ?_
        refine g_bipush (v := 122) C dX9_next_94 (by decide) ?_
        have u20487 := ti_rng z20483
        refine b_icmp_gt C 133 dX9_next_96 (by decide) (fun h20486 => ?_) (fun h20486 => ?_)
        · have h20486 : 122 < z20483.toInt := h20486
          refine g_lv (lv' := [(0, .ref a0), (1, .int z20483)]) [1, 0] rfl ?_
          exact J133 Y20470 z20483 Iy20471 Xz20476 (by omega) (by omega) (by show (pI Y20470 a0 4).toInt = (pI Y20470 a0 3).toInt; omega)
        · have h20486 : z20483.toInt ≤ 122 := h20486
          refine g_aload_n C dX9_next_99 rfl 1 rfl ?_
          refine g_bipush (v := 97) C dX9_next_100 (by decide) ?_
          refine g_bipush (v := 122) C dX9_next_102 (by decide) ?_
          refine g_callVV (rest := []) C mv_X9_28 [.int 97, .int 122] (s_X9_takeRun Iy20471 h20477) (h20477).1 (h20477).2 rfl rfl (by decide) (Nat.le_of_ble_eq_true rfl) (by decide) dX9_next_104 (fun Y20489 h20490 => ?_)
          obtain ⟨Iy20491, Xy20492⟩ := h20490
          have Xz20493 : EK [9] P Y20489 := Xz20476.tr (Xy20492.mono (by decide))
          have h20494 := Xy20492.at h20477
          refine g_aload_n C dX9_next_107 rfl 1 rfl ?_
          refine g_aload_n C dX9_next_108 rfl 1 rfl ?_
          refine g_getI C fi_X9_19 (by decide) (h20494).1 (h20494).2 dX9_next_109 ?_
          have h20495 := Iy20491.rg (h20494) 4 rfl
          refine g_aload_n C dX9_next_112 rfl 1 rfl ?_
          refine g_getI C fi_X9_22 (by decide) (h20494).1 (h20494).2 dX9_next_113 ?_
          have h20496 := Iy20491.rg (h20494) 3 rfl
          refine s_isub C dX9_next_116 (by show -2147483648 ≤ (pI Y20489 a0 4).toInt - (pI Y20489 a0 3).toInt ∧ (pI Y20489 a0 4).toInt - (pI Y20489 a0 3).toInt ≤ 2147483647; omega) (fun z20497 h20498 => ?_)
          have h20498 : z20497.toInt = (pI Y20489 a0 4).toInt - (pI Y20489 a0 3).toInt := h20498
          refine g_bipush (v := 8) C dX9_next_117 (by decide) ?_
          refine b_icmp_gt C 126 dX9_next_119 (by decide) (fun h20499 => ?_) (fun h20499 => ?_)
          · have h20499 : 8 < z20497.toInt := h20499
            refine g_iconst (v := 4) C dX9_next_126 (by decide) ?_
            refine g_lv (lv' := []) [] rfl ?_
            exact J127 Y20489 4 Iy20491 Xz20493 (by decide)
          · have h20499 : z20497.toInt ≤ 8 := h20499
            refine g_iconst (v := 1) C dX9_next_122 (by decide) ?_
            refine g_goto C 127 dX9_next_123 (by decide) ?_
            refine g_lv (lv' := []) [] rfl ?_
            exact J127 Y20489 1 Iy20491 Xz20493 (by decide)
    · have h20479 : (pI Y20470 a0 1).toInt ≤ (pI Y20470 a0 3).toInt := h20479
      refine g_aload_n C dX9_next_71 rfl 0 rfl ?_
      refine g_iconst (v := 0) C dX9_next_72 (by decide) ?_
      refine g_putI C fi_X9_25 rfl (h20477).1 (h20477).2 dX9_next_73 ?_
      refine gpW (ks := [9]) (Iy20471.setI (h20477) (rgOk.none rfl)) (EK.setI (h20477).2 (by decide)) (fun Y20500 Iy20501 Xy20502 w20503 w20504 => ?_)
      have w20504 : (pI Y20500 a0 2).toInt = 0 := w20504
      have q20505 := w20503 4 (by decide)
      have q20506 := w20503 3 (by decide)
      have q20507 := w20503 1 (by decide)
      have Xz20508 : EK [9] P Y20500 := Xz20476.tr (Xy20502.mono (by decide))
      have h20509 := Xy20502.at h20477
      exact ret _ _ _ _ _ dX9_next_76 (by decide) (by decide) ⟨Iy20501, Xz20508⟩
  have J0 : ∀ (n0 : Nat) (P0 : PP), (1000 - (pI P0 a0 4).toInt).toNat < n0 → (IV P0) → (EK [9] P P0) → G E ({ frames := 2, cells := 0, slots := 0, locals := 128 } : Room) D cy 2 P0 0 0 0 [(0, .ref a0)] [] := by
    intro n0
    induction n0 with
    | zero => intro P0 hm0 I0 X0; omega
    | succ n0 ih0 =>
      intro P0 hm0 I0 X0
      have h20510 := X0.at ha0
      have J39 : (1 ≤ (pI P0 a0 1).toInt ∧ (pI P0 a0 1).toInt ≤ 1000) → (0 ≤ (pI P0 a0 4).toInt ∧ (pI P0 a0 4).toInt ≤ 999) → G E ({ frames := 2, cells := 0, slots := 0, locals := 128 } : Room) D cy 2 P0 0 0 39 [(0, .ref a0)] [] := by
        intro hq39_0 hq39_1
        have h20511 := X0.at ha0
        refine g_aload_n C dX9_next_39 rfl 0 rfl ?_
        refine g_dup C dX9_next_40 rfl ?_
        refine g_getI C fi_X9_19 (by decide) (h20511).1 (h20511).2 dX9_next_41 ?_
        refine g_iconst (v := 1) C dX9_next_44 (by decide) ?_
        refine s_iadd C dX9_next_45 (by show -2147483648 ≤ (pI P0 a0 4).toInt + 1 ∧ (pI P0 a0 4).toInt + 1 ≤ 2147483647; omega) (fun z20512 h20513 => ?_)
        have h20513 : z20512.toInt = (pI P0 a0 4).toInt + 1 := h20513
        refine g_putI C fi_X9_19 rfl (h20511).1 (h20511).2 dX9_next_46 ?_
        refine gpW (ks := [9]) (I0.setI (h20511) (rgOk.of rfl (by omega))) (EK.setI (h20511).2 (by decide)) (fun Y20514 Iy20515 Xy20516 w20517 w20518 => ?_)
        have q20519 := w20517 1 (by decide)
        have Xz20520 : EK [9] P Y20514 := X0.tr (Xy20516.mono (by decide))
        have h20521 := Xy20516.at h20511
        refine g_goto C 0 dX9_next_49 (by decide) ?_
        exact ih0 Y20514 (by omega) Iy20515 Xz20520
      refine g_aload_n C dX9_next_0 rfl 0 rfl ?_
      refine g_getI C fi_X9_19 (by decide) (h20510).1 (h20510).2 dX9_next_1 ?_
      have h20522 := I0.rg (h20510) 4 rfl
      refine g_aload_n C dX9_next_4 rfl 0 rfl ?_
      refine g_getI C fi_X9_15 (by decide) (h20510).1 (h20510).2 dX9_next_5 ?_
      have h20523 := I0.rg (h20510) 1 rfl
      refine b_icmp_ge C 52 dX9_next_8 (by decide) (fun h20524 => ?_) (fun h20524 => ?_)
      · have h20524 : (pI P0 a0 1).toInt ≤ (pI P0 a0 4).toInt := h20524
        exact J52 P0 I0 X0
      · have h20524 : (pI P0 a0 4).toInt < (pI P0 a0 1).toInt := h20524
        refine g_aload_n C dX9_next_11 rfl 0 rfl ?_
        obtain ⟨b20525, e20526, h20527⟩ := I0.fld (h20510) 0 13 1000 rfl
        refine g_getR C fi_X9_9 rfl e20526 (h20510).1 (h20510).2 dX9_next_12 ?_
        refine g_aload_n C dX9_next_15 rfl 0 rfl ?_
        refine g_getI C fi_X9_19 (by decide) (h20510).1 (h20510).2 dX9_next_16 ?_
        refine g_iald (j := ((pI P0 a0 4).toInt.toNat)) C h20527.1 h20527.2.1 (ix_in h20527.2.2 (by omega)) dX9_next_19 ?_
        refine g_topi (fun z20528 _ => ?_)
        refine g_bipush (v := 10) C dX9_next_20 (by decide) ?_
        have u20530 := ti_rng z20528
        refine b_icmp_eq C 39 dX9_next_22 (by decide) (fun h20529 => ?_) (fun h20529 => ?_)
        · have h20529 : z20528.toInt = 10 := congrArg Int32.toInt h20529
          exact J39 (by omega) (by omega)
        · have h20529 : z20528.toInt ≠ 10 := ti_ne h20529
          refine g_aload_n C dX9_next_25 rfl 0 rfl ?_
          refine g_getR C fi_X9_9 rfl e20526 (h20510).1 (h20510).2 dX9_next_26 ?_
          refine g_aload_n C dX9_next_29 rfl 0 rfl ?_
          refine g_getI C fi_X9_19 (by decide) (h20510).1 (h20510).2 dX9_next_30 ?_
          refine g_iald (j := ((pI P0 a0 4).toInt.toNat)) C h20527.1 h20527.2.1 (ix_in h20527.2.2 (by omega)) dX9_next_33 ?_
          refine g_topi (fun z20531 _ => ?_)
          refine g_bipush (v := 32) C dX9_next_34 (by decide) ?_
          have u20533 := ti_rng z20531
          refine b_icmp_ne C 52 dX9_next_36 (by decide) (fun h20532 => ?_) (fun h20532 => ?_)
          · have h20532 : z20531.toInt ≠ 32 := ti_ne h20532
            exact J52 P0 I0 X0
          · have h20532 : z20531.toInt = 32 := congrArg Int32.toInt h20532
            exact J39 (by omega) (by omega)
  exact J0 _ P (Nat.lt_succ_self _) I EK.rf
theorem dX4_faultFor_30 : decode cX4_faultFor 30 = .ok (.aload_n 0, 1) := by decide +kernel
theorem dX4_faultFor_31 : decode cX4_faultFor 31 = .ok (.getfield 12, 3) := by decide +kernel
theorem dX4_faultFor_34 : decode cX4_faultFor 34 = .ok (.getfield 34, 3) := by decide +kernel
theorem dX4_faultFor_37 : decode cX4_faultFor 37 = .ok (.ifCond .ne 5, 3) := by decide +kernel
theorem dX4_faultFor_42 : decode cX4_faultFor 42 = .ok (.aload_n 0, 1) := by decide +kernel
theorem dX4_faultFor_43 : decode cX4_faultFor 43 = .ok (.iload_n 1, 1) := by decide +kernel
theorem dX4_faultFor_44 : decode cX4_faultFor 44 = .ok (.invokevirtual 38, 3) := by decide +kernel
theorem dX4_statementFault_0 : decode cX4_statementFault 0 = .ok (.aload_n 0, 1) := by decide +kernel
theorem dX4_statementFault_1 : decode cX4_statementFault 1 = .ok (.getfield 12, 3) := by decide +kernel
theorem dX4_statementFault_4 : decode cX4_statementFault 4 = .ok (.ldc 42, 2) := by decide +kernel
theorem dX11_enough_0 : decode cX11_enough 0 = .ok (.aload_n 0, 1) := by decide +kernel
theorem dX11_enough_1 : decode cX11_enough 1 = .ok (.iload_n 1, 1) := by decide +kernel
theorem dX11_enough_2 : decode cX11_enough 2 = .ok (.invokevirtual 97, 3) := by decide +kernel
theorem dX11_enough_5 : decode cX11_enough 5 = .ok (.ifCond .eq 18, 3) := by decide +kernel
theorem dX11_enough_8 : decode cX11_enough 8 = .ok (.iload_n 2, 1) := by decide +kernel
theorem dX11_enough_9 : decode cX11_enough 9 = .ok (.iconst 0, 1) := by decide +kernel
theorem dX11_enough_10 : decode cX11_enough 10 = .ok (.invokestatic 289, 3) := by decide +kernel
theorem dX11_enough_13 : decode cX11_enough 13 = .ok (.ifCond .eq 10, 3) := by decide +kernel
theorem dX11_enough_16 : decode cX11_enough 16 = .ok (.iload_n 3, 1) := by decide +kernel
theorem dX11_enough_17 : decode cX11_enough 17 = .ok (.invokestatic 249, 3) := by decide +kernel
theorem dX11_enough_20 : decode cX11_enough 20 = .ok (.ifCond .ne 5, 3) := by decide +kernel
theorem dX11_enough_23 : decode cX11_enough 23 = .ok (.iconst (-1), 1) := by decide +kernel
theorem dX11_enough_24 : decode cX11_enough 24 = .ok (.ireturn, 1) := by decide +kernel
theorem dX11_enough_25 : decode cX11_enough 25 = .ok (.aload_n 0, 1) := by decide +kernel
theorem dX11_enough_26 : decode cX11_enough 26 = .ok (.getfield 60, 3) := by decide +kernel
theorem dX11_enough_29 : decode cX11_enough 29 = .ok (.aload_n 0, 1) := by decide +kernel
theorem dX11_enough_30 : decode cX11_enough 30 = .ok (.getfield 11, 3) := by decide +kernel
theorem dX11_enough_33 : decode cX11_enough 33 = .ok (.iload_n 1, 1) := by decide +kernel
theorem dX11_enough_34 : decode cX11_enough 34 = .ok (.aaload, 1) := by decide +kernel
theorem dX11_enough_35 : decode cX11_enough 35 = .ok (.iload_n 2, 1) := by decide +kernel
theorem dX11_enough_36 : decode cX11_enough 36 = .ok (.iload_n 3, 1) := by decide +kernel
theorem dX11_enough_37 : decode cX11_enough 37 = .ok (.iconst 0, 1) := by decide +kernel
theorem dX11_enough_38 : decode cX11_enough 38 = .ok (.invokevirtual 292, 3) := by decide +kernel
theorem dX11_enough_41 : decode cX11_enough 41 = .ok (.iconst 0, 1) := by decide +kernel
theorem dX11_enough_42 : decode cX11_enough 42 = .ok (.istore 5, 2) := by decide +kernel
theorem dX11_enough_44 : decode cX11_enough 44 = .ok (.iload 5, 2) := by decide +kernel
theorem dX11_enough_46 : decode cX11_enough 46 = .ok (.iload_n 2, 1) := by decide +kernel
theorem dX11_enough_47 : decode cX11_enough 47 = .ok (.if_icmp .gt 56, 3) := by decide +kernel
theorem dX11_enough_50 : decode cX11_enough 50 = .ok (.iload_n 2, 1) := by decide +kernel
theorem dX11_enough_51 : decode cX11_enough 51 = .ok (.iload 5, 2) := by decide +kernel
theorem dX11_enough_53 : decode cX11_enough 53 = .ok (.invokestatic 299, 3) := by decide +kernel
theorem dX11_enough_56 : decode cX11_enough 56 = .ok (.istore 6, 2) := by decide +kernel
theorem dX11_enough_58 : decode cX11_enough 58 = .ok (.aload_n 0, 1) := by decide +kernel
theorem dX11_enough_59 : decode cX11_enough 59 = .ok (.getfield 60, 3) := by decide +kernel
theorem dX11_enough_62 : decode cX11_enough 62 = .ok (.getfield 296, 3) := by decide +kernel
theorem dX11_enough_65 : decode cX11_enough 65 = .ok (.iload 5, 2) := by decide +kernel
theorem dX11_enough_67 : decode cX11_enough 67 = .ok (.iaload, 1) := by decide +kernel
theorem dX11_enough_68 : decode cX11_enough 68 = .ok (.istore 7, 2) := by decide +kernel
theorem dX11_enough_70 : decode cX11_enough 70 = .ok (.iload 4, 2) := by decide +kernel
theorem dX11_enough_72 : decode cX11_enough 72 = .ok (.ifCond .eq 15, 3) := by decide +kernel
theorem dX11_enough_75 : decode cX11_enough 75 = .ok (.iconst 2, 1) := by decide +kernel
theorem dX11_enough_76 : decode cX11_enough 76 = .ok (.iload 7, 2) := by decide +kernel
theorem dX11_enough_78 : decode cX11_enough 78 = .ok (.imul, 1) := by decide +kernel
theorem dX11_enough_79 : decode cX11_enough 79 = .ok (.iload 6, 2) := by decide +kernel
theorem dX11_enough_81 : decode cX11_enough 81 = .ok (.if_icmp .lt 16, 3) := by decide +kernel
theorem dX11_enough_84 : decode cX11_enough 84 = .ok (.goto 10, 3) := by decide +kernel
theorem dX11_enough_87 : decode cX11_enough 87 = .ok (.iload 7, 2) := by decide +kernel
theorem dX11_enough_89 : decode cX11_enough 89 = .ok (.iload 6, 2) := by decide +kernel
theorem dX11_enough_91 : decode cX11_enough 91 = .ok (.if_icmp .lt 6, 3) := by decide +kernel
theorem dX11_enough_94 : decode cX11_enough 94 = .ok (.iload 5, 2) := by decide +kernel
theorem dX11_enough_96 : decode cX11_enough 96 = .ok (.ireturn, 1) := by decide +kernel
theorem dX11_enough_97 : decode cX11_enough 97 = .ok (.iinc 5 1, 3) := by decide +kernel
theorem dX11_enough_100 : decode cX11_enough 100 = .ok (.goto (-56), 3) := by decide +kernel
theorem dX11_enough_103 : decode cX11_enough 103 = .ok (.iconst (-1), 1) := by decide +kernel
theorem dX11_enough_104 : decode cX11_enough 104 = .ok (.ireturn, 1) := by decide +kernel
set_option maxHeartbeats 4000000 in
set_option maxRecDepth 100000 in
theorem s_X11_enough {P : PP} {a0 : Nat} {a1 : Int32} {a2 : Int32} {a3 : Int32} {a4 : Int32} (I : IV P) (ha0 : At P a0 11) (ha4 : 0 ≤ a4.toInt ∧ a4.toInt ≤ 1) : CtrI yX11_enough cX11_enough 8 (some Jvm.ClassFile.FieldType.int) ({ frames := 16, cells := 0, slots := 0, locals := 1024 } : Room) 0 0 P [.ref a0, .int a1, .int a2, .int a3, .int a4] (fun r P2 => IV P2 ∧ EK [0, 1, 5, 8, 13] P P2 ∧ (-1 ≤ r.toInt ∧ r.toInt ≤ 11)) := by
  refine enI (lv := [(0, .ref a0), (1, .int a1), (2, .int a2), (3, .int a3), (4, .int a4)]) (by decide) (Nat.le_of_ble_eq_true rfl) rfl (fun E D cy C Ci0 ret => ?_)
  have J94 : ∀ (P94 : PP) (v94_5 : Int32), (IV P94) → (EK [0, 1, 5, 8, 13] P P94) → (0 ≤ v94_5.toInt ∧ v94_5.toInt ≤ 11) → G E ({ frames := 16, cells := 0, slots := 0, locals := 1024 } : Room) D cy 8 P94 0 0 94 [(5, .int v94_5)] [] := by
    intro P94 v94_5 I94 X94 hv94_5
    have h20850 := X94.at ha0
    refine g_iload C dX11_enough_94 0 rfl ?_
    exact ret _ _ _ _ _ _ dX11_enough_96 rfl (by decide) (by decide) ⟨I94, X94, (by omega)⟩
  have J44 : ∀ (n44 : Nat) (P44 : PP) (v44_5 : Int32), (12 - v44_5.toInt).toNat < n44 → (IV P44) → (EK [0, 1, 5, 8, 13] P P44) → (1 ≤ a2.toInt ∧ a2.toInt ≤ 11) → (0 ≤ v44_5.toInt ∧ v44_5.toInt ≤ 12) → G E ({ frames := 16, cells := 0, slots := 0, locals := 1024 } : Room) D cy 8 P44 0 0 44 [(0, .ref a0), (2, .int a2), (4, .int a4), (5, .int v44_5)] [] := by
    intro n44
    induction n44 with
    | zero => intro P44 v44_5 hm44 I44 X44 hv44_2 hv44_5; omega
    | succ n44 ih44 =>
      intro P44 v44_5 hm44 I44 X44 hv44_2 hv44_5
      have h20851 := X44.at ha0
      have J97 : (1 ≤ a2.toInt ∧ a2.toInt ≤ 11) → (0 ≤ v44_5.toInt ∧ v44_5.toInt ≤ 11) → G E ({ frames := 16, cells := 0, slots := 0, locals := 1024 } : Room) D cy 8 P44 0 0 97 [(0, .ref a0), (2, .int a2), (4, .int a4), (5, .int v44_5)] [] := by
        intro hv97_2 hv97_5
        have h20852 := X44.at ha0
        refine s_iinc (lv0 := [(0, .ref a0), (2, .int a2), (4, .int a4)]) (m := 1) C dX11_enough_97 3 rfl (by decide) rfl (by decide) (by omega) (fun z20853 h20854 => ?_)
        have h20854 : z20853.toInt = v44_5.toInt + 1 := h20854
        refine g_goto C 44 dX11_enough_100 (by decide) ?_
        refine g_lv (lv' := [(0, .ref a0), (2, .int a2), (4, .int a4), (5, .int z20853)]) [1, 2, 3, 0] rfl ?_
        exact ih44 P44 z20853 (by omega) I44 X44 (by omega) (by omega)
      refine g_iload C dX11_enough_44 3 rfl ?_
      refine g_iload_n C dX11_enough_46 rfl 1 rfl ?_
      refine b_icmp_gt C 103 dX11_enough_47 (by decide) (fun h20855 => ?_) (fun h20855 => ?_)
      · have h20855 : a2.toInt < v44_5.toInt := h20855
        refine g_iconst (v := (-1)) C dX11_enough_103 (by decide) ?_
        exact ret _ _ _ _ _ _ dX11_enough_104 rfl (by decide) (by decide) ⟨I44, X44, (by decide)⟩
      · have h20855 : v44_5.toInt ≤ a2.toInt := h20855
        refine g_iload_n C dX11_enough_50 rfl 1 rfl ?_
        refine g_iload C dX11_enough_51 3 rfl ?_
        refine g_callSI (b := 0) (ci := 0) (rest := []) C ms_X11_299 [.int a2, .int v44_5] (s_X11_choose I44 (by omega) (by omega)) rfl rfl (by decide) (Nat.le_of_ble_eq_true rfl) (by decide) dX11_enough_53 (fun r20856 Y20857 h20858 => ?_)
        obtain ⟨rfl, h20858⟩ := h20858
        have h20858 : True := h20858
        refine g_istore (lv' := [(6, .int r20856), (0, .ref a0), (2, .int a2), (4, .int a4), (5, .int v44_5)]) C dX11_enough_56 (by decide) rfl ?_
        refine g_aload_n C dX11_enough_58 rfl 1 rfl ?_
        obtain ⟨b20859, e20860, h20861⟩ := I44.fld (h20851) 10 8 0 rfl
        refine g_getR C fi_X11_60 rfl e20860 (h20851).1 (h20851).2 dX11_enough_59 ?_
        obtain ⟨b20862, e20863, h20864⟩ := I44.fld (h20861.at) 0 13 12 rfl
        refine g_getR C fi_X11_296 rfl e20863 (h20861.at).1 (h20861.at).2 dX11_enough_62 ?_
        refine g_iload C dX11_enough_65 4 rfl ?_
        refine g_iald (j := (v44_5.toInt.toNat)) C h20864.1 h20864.2.1 (ix_in h20864.2.2 (by omega)) dX11_enough_67 ?_
        refine g_topi (fun z20865 _ => ?_)
        refine g_istore (lv' := [(7, .int z20865), (6, .int r20856), (0, .ref a0), (2, .int a2), (4, .int a4), (5, .int v44_5)]) C dX11_enough_68 (by decide) rfl ?_
        refine g_iload C dX11_enough_70 4 rfl ?_
        refine b_if_eq C 87 dX11_enough_72 (by decide) (fun h20866 => ?_) (fun h20866 => ?_)
        · have h20866 : a4.toInt = 0 := congrArg Int32.toInt h20866
          refine g_iload C dX11_enough_87 0 rfl ?_
          refine g_iload C dX11_enough_89 1 rfl ?_
          have u20868 := ti_rng z20865
          have u20869 := ti_rng r20856
          refine b_icmp_lt C 97 dX11_enough_91 (by decide) (fun h20867 => ?_) (fun h20867 => ?_)
          · have h20867 : z20865.toInt < r20856.toInt := h20867
            refine g_lv (lv' := [(0, .ref a0), (2, .int a2), (4, .int a4), (5, .int v44_5)]) [2, 3, 4, 5] rfl ?_
            exact J97 (by omega) (by omega)
          · have h20867 : r20856.toInt ≤ z20865.toInt := h20867
            refine g_lv (lv' := [(5, .int v44_5)]) [5] rfl ?_
            exact J94 P44 v44_5 I44 X44 (by omega)
        · have h20866 : a4.toInt ≠ 0 := ti_ne h20866
          refine g_iconst (v := 2) C dX11_enough_75 (by decide) ?_
          refine g_iload C dX11_enough_76 0 rfl ?_
          refine a_imul C dX11_enough_78 (fun z20870 => ?_)
          refine g_iload C dX11_enough_79 1 rfl ?_
          have u20873 := ti_rng z20870
          have u20874 := ti_rng r20856
          refine b_icmp_lt C 97 dX11_enough_81 (by decide) (fun h20872 => ?_) (fun h20872 => ?_)
          · have h20872 : z20870.toInt < r20856.toInt := h20872
            refine g_lv (lv' := [(0, .ref a0), (2, .int a2), (4, .int a4), (5, .int v44_5)]) [2, 3, 4, 5] rfl ?_
            exact J97 (by omega) (by omega)
          · have h20872 : r20856.toInt ≤ z20870.toInt := h20872
            refine g_goto C 94 dX11_enough_84 (by decide) ?_
            refine g_lv (lv' := [(5, .int v44_5)]) [5] rfl ?_
            exact J94 P44 v44_5 I44 X44 (by omega)
  have J23 : G E ({ frames := 16, cells := 0, slots := 0, locals := 1024 } : Room) D cy 8 P 0 0 23 [] [] := by
    refine g_iconst (v := (-1)) C dX11_enough_23 (by decide) ?_
    exact ret _ _ _ _ _ _ dX11_enough_24 rfl (by decide) (by decide) ⟨I, EK.rf, (by decide)⟩
  refine g_aload_n C dX11_enough_0 rfl 0 rfl ?_
  refine g_iload_n C dX11_enough_1 rfl 1 rfl ?_
  refine g_callVI (rest := []) C mv_X11_97 [.int a1] (s_X11_isTold I ha0) (ha0).1 (ha0).2 rfl rfl (by decide) (Nat.le_of_ble_eq_true rfl) (by decide) dX11_enough_2 (fun r20875 Y20876 h20877 => ?_)
  obtain ⟨rfl, h20877⟩ := h20877
  obtain ⟨h20877, hi20878⟩ := h20877
  have hi20878 : r20875.toInt = 0 ∨ (((0 : Int) ≤ a1.toInt ∧ a1.toInt ≤ (1 : Int))) := hi20878
  have h20877 : 0 ≤ r20875.toInt ∧ r20875.toInt ≤ 1 := h20877
  refine b_if_eq C 23 dX11_enough_5 (by decide) (fun h20879 => ?_) (fun h20879 => ?_)
  · have h20879 : r20875.toInt = 0 := congrArg Int32.toInt h20879
    clear hi20878
    refine g_lv (lv' := []) [] rfl ?_
    exact J23 
  · have h20879 : r20875.toInt ≠ 0 := ti_ne h20879
    replace hi20878 := hi20878.resolve_left (by omega)
    refine g_iload_n C dX11_enough_8 rfl 2 rfl ?_
    refine g_iconst (v := 0) C dX11_enough_9 (by decide) ?_
    refine g_callSI (b := 0) (ci := 0) (rest := []) C ms_X11_289 [.int a2, .int 0] (s_X11_isSetSize I) rfl rfl (by decide) (Nat.le_of_ble_eq_true rfl) (by decide) dX11_enough_10 (fun r20880 Y20881 h20882 => ?_)
    obtain ⟨rfl, h20882⟩ := h20882
    obtain ⟨h20882, hi20883⟩ := h20882
    have hi20883 : r20880.toInt = 0 ∨ (((1 : Int) ≤ a2.toInt ∧ a2.toInt ≤ (11 : Int)) ∧ ((0 : Int) ≤ 0 ∧ 0 ≤ (11 : Int))) := hi20883
    have h20882 : 0 ≤ r20880.toInt ∧ r20880.toInt ≤ 1 := h20882
    refine b_if_eq C 23 dX11_enough_13 (by decide) (fun h20884 => ?_) (fun h20884 => ?_)
    · have h20884 : r20880.toInt = 0 := congrArg Int32.toInt h20884
      clear hi20883
      refine g_lv (lv' := []) [] rfl ?_
      exact J23 
    · have h20884 : r20880.toInt ≠ 0 := ti_ne h20884
      replace hi20883 := hi20883.resolve_left (by omega)
      refine g_iload_n C dX11_enough_16 rfl 3 rfl ?_
      refine g_callSI (b := 0) (ci := 0) (rest := []) C ms_X11_249 [.int a3] (s_X11_isHow I) rfl rfl (by decide) (Nat.le_of_ble_eq_true rfl) (by decide) dX11_enough_17 (fun r20885 Y20886 h20887 => ?_)
      obtain ⟨rfl, h20887⟩ := h20887
      have h20887 : 0 ≤ r20885.toInt ∧ r20885.toInt ≤ 1 := h20887
      refine b_if_ne C 25 dX11_enough_20 (by decide) (fun h20888 => ?_) (fun h20888 => ?_)
      · have h20888 : r20885.toInt ≠ 0 := ti_ne h20888
        refine g_aload_n C dX11_enough_25 rfl 0 rfl ?_
        obtain ⟨b20889, e20890, h20891⟩ := I.fld (ha0) 10 8 0 rfl
        refine g_getR C fi_X11_60 rfl e20890 (ha0).1 (ha0).2 dX11_enough_26 ?_
        refine g_aload_n C dX11_enough_29 rfl 0 rfl ?_
        obtain ⟨b20892, e20893, h20894⟩ := I.fld (ha0) 0 17 2 rfl
        refine g_getR C fi_X11_11 rfl e20893 (ha0).1 (ha0).2 dX11_enough_30 ?_
        refine g_iload_n C dX11_enough_33 rfl 1 rfl ?_
        obtain ⟨b20895, e20896, h20897⟩ := I.elm h20894 (by decide) (a1.toInt.toNat) (by omega)
        refine g_aldR C h20894.1 h20894.2.1 (by decide) (ix_in h20894.2.2 (by omega)) e20896 dX11_enough_34 ?_
        refine g_iload_n C dX11_enough_35 rfl 2 rfl ?_
        refine g_iload_n C dX11_enough_36 rfl 3 rfl ?_
        refine g_iconst (v := 0) C dX11_enough_37 (by decide) ?_
        refine g_callVV (rest := []) C mv_X11_292 [.ref b20895, .int a2, .int a3, .int 0] (s_X8_tally I h20891.at h20897 (by omega) (by decide)) (h20891.at).1 (h20891.at).2 rfl rfl (by decide) (Nat.le_of_ble_eq_true rfl) (by decide) dX11_enough_38 (fun Y20899 h20900 => ?_)
        obtain ⟨Iy20901, Xy20902⟩ := h20900
        have Xz20903 : EK [0, 1, 5, 8, 13] P Y20899 := Xy20902.mono (by decide)
        have h20904 := Xy20902.at ha0
        refine g_iconst (v := 0) C dX11_enough_41 (by decide) ?_
        refine g_istore (lv' := [(5, .int 0), (0, .ref a0), (1, .int a1), (2, .int a2), (3, .int a3), (4, .int a4)]) C dX11_enough_42 (by decide) rfl ?_
        refine g_lv (lv' := [(0, .ref a0), (2, .int a2), (4, .int a4), (5, .int 0)]) [1, 3, 5, 0] rfl ?_
        exact J44 _ Y20899 0 (Nat.lt_succ_self _) Iy20901 Xz20903 (by omega) (by decide)
      · have h20888 : r20885.toInt = 0 := congrArg Int32.toInt h20888
        refine g_lv (lv' := []) [] rfl ?_
        exact J23 
theorem dX11_falls_0 : decode cX11_falls 0 = .ok (.iload_n 2, 1) := by decide +kernel
theorem dX11_falls_1 : decode cX11_falls 1 = .ok (.bipush 37, 2) := by decide +kernel
theorem dX11_falls_3 : decode cX11_falls 3 = .ok (.imul, 1) := by decide +kernel
theorem dX11_falls_4 : decode cX11_falls 4 = .ok (.bipush 11, 2) := by decide +kernel
theorem dX11_falls_6 : decode cX11_falls 6 = .ok (.aload_n 1, 1) := by decide +kernel
theorem dX11_falls_7 : decode cX11_falls 7 = .ok (.getfield 394, 3) := by decide +kernel
theorem dX11_falls_10 : decode cX11_falls 10 = .ok (.imul, 1) := by decide +kernel
theorem dX11_falls_11 : decode cX11_falls 11 = .ok (.iadd, 1) := by decide +kernel
theorem dX11_falls_12 : decode cX11_falls 12 = .ok (.bipush 101, 2) := by decide +kernel
theorem dX11_falls_14 : decode cX11_falls 14 = .ok (.iload_n 3, 1) := by decide +kernel
theorem dX11_falls_15 : decode cX11_falls 15 = .ok (.imul, 1) := by decide +kernel
theorem dX11_falls_16 : decode cX11_falls 16 = .ok (.iadd, 1) := by decide +kernel
theorem dX11_falls_17 : decode cX11_falls 17 = .ok (.bipush 13, 2) := by decide +kernel
theorem dX11_falls_19 : decode cX11_falls 19 = .ok (.iadd, 1) := by decide +kernel
theorem dX11_falls_20 : decode cX11_falls 20 = .ok (.bipush 7, 2) := by decide +kernel
theorem dX11_falls_22 : decode cX11_falls 22 = .ok (.imul, 1) := by decide +kernel
theorem dX11_falls_23 : decode cX11_falls 23 = .ok (.bipush 100, 2) := by decide +kernel
theorem dX11_falls_25 : decode cX11_falls 25 = .ok (.irem, 1) := by decide +kernel
theorem dX11_falls_26 : decode cX11_falls 26 = .ok (.aload_n 0, 1) := by decide +kernel
theorem dX11_falls_27 : decode cX11_falls 27 = .ok (.getfield 28, 3) := by decide +kernel
theorem dX11_falls_30 : decode cX11_falls 30 = .ok (.iload_n 3, 1) := by decide +kernel
theorem dX11_falls_31 : decode cX11_falls 31 = .ok (.iaload, 1) := by decide +kernel
theorem dX11_falls_32 : decode cX11_falls 32 = .ok (.if_icmp .lt 7, 3) := by decide +kernel
theorem dX11_falls_35 : decode cX11_falls 35 = .ok (.iconst 1, 1) := by decide +kernel
theorem dX11_falls_36 : decode cX11_falls 36 = .ok (.goto 4, 3) := by decide +kernel
theorem dX11_falls_39 : decode cX11_falls 39 = .ok (.iconst 0, 1) := by decide +kernel
theorem dX11_falls_40 : decode cX11_falls 40 = .ok (.ireturn, 1) := by decide +kernel
set_option maxHeartbeats 4000000 in
set_option maxRecDepth 100000 in
theorem s_X11_falls {P : PP} {a0 : Nat} {a1 : Nat} {a2 : Int32} {a3 : Int32} (I : IV P) (ha0 : At P a0 11) (ha1 : At P a1 1) (ha3 : 0 ≤ a3.toInt ∧ a3.toInt ≤ 3) : CtrI yX11_falls cX11_falls 4 (some Jvm.ClassFile.FieldType.boolean) ({ frames := 1, cells := 0, slots := 0, locals := 64 } : Room) 0 0 P [.ref a0, .ref a1, .int a2, .int a3] (fun r P2 => P = P2 ∧ (0 ≤ r.toInt ∧ r.toInt ≤ 1)) := by
  refine enI (lv := [(0, .ref a0), (1, .ref a1), (2, .int a2), (3, .int a3)]) (by decide) (Nat.le_of_ble_eq_true rfl) rfl (fun E D cy C Ci0 ret => ?_)
  refine g_iload_n C dX11_falls_0 rfl 2 rfl ?_
  refine g_bipush (v := 37) C dX11_falls_1 (by decide) ?_
  refine a_imul C dX11_falls_3 (fun z20929 => ?_)
  refine g_bipush (v := 11) C dX11_falls_4 (by decide) ?_
  refine g_aload_n C dX11_falls_6 rfl 1 rfl ?_
  refine g_getI C fi_X11_394 (by decide) (ha1).1 (ha1).2 dX11_falls_7 ?_
  have h20931 := I.rg (ha1) 0 rfl
  refine s_imul C dX11_falls_10 (by show -2147483648 ≤ 11 * (pI P a1 0).toInt ∧ 11 * (pI P a1 0).toInt ≤ 2147483647; omega) (fun z20932 h20933 => ?_)
  have h20933 : z20932.toInt = 11 * (pI P a1 0).toInt := h20933
  refine a_iadd C dX11_falls_11 (fun z20934 => ?_)
  refine g_bipush (v := 101) C dX11_falls_12 (by decide) ?_
  refine g_iload_n C dX11_falls_14 rfl 3 rfl ?_
  refine s_imul C dX11_falls_15 (by show -2147483648 ≤ 101 * a3.toInt ∧ 101 * a3.toInt ≤ 2147483647; omega) (fun z20936 h20937 => ?_)
  have h20937 : z20936.toInt = 101 * a3.toInt := h20937
  refine a_iadd C dX11_falls_16 (fun z20938 => ?_)
  refine g_bipush (v := 13) C dX11_falls_17 (by decide) ?_
  refine a_iadd C dX11_falls_19 (fun z20940 => ?_)
  refine g_bipush (v := 7) C dX11_falls_20 (by decide) ?_
  refine a_imul C dX11_falls_22 (fun z20942 => ?_)
  refine g_bipush (v := 100) C dX11_falls_23 (by decide) ?_
  refine a_irem C dX11_falls_25 (by show 100 ≠ 0; omega) (fun z20944 => ?_)
  refine g_aload_n C dX11_falls_26 rfl 0 rfl ?_
  obtain ⟨b20946, e20947, h20948⟩ := I.fld (ha0) 4 13 4 rfl
  refine g_getR C fi_X11_28 rfl e20947 (ha0).1 (ha0).2 dX11_falls_27 ?_
  refine g_iload_n C dX11_falls_30 rfl 3 rfl ?_
  refine g_iald (j := (a3.toInt.toNat)) C h20948.1 h20948.2.1 (ix_in h20948.2.2 (by omega)) dX11_falls_31 ?_
  refine g_topi (fun z20949 _ => ?_)
  have u20951 := ti_rng z20944
  have u20952 := ti_rng z20949
  refine b_icmp_lt C 39 dX11_falls_32 (by decide) (fun h20950 => ?_) (fun h20950 => ?_)
  · have h20950 : z20944.toInt < z20949.toInt := h20950
    refine g_iconst (v := 0) C dX11_falls_39 (by decide) ?_
    exact ret _ _ _ _ _ _ dX11_falls_40 rfl (by decide) (by decide) ⟨rfl, (by decide)⟩
  · have h20950 : z20949.toInt ≤ z20944.toInt := h20950
    refine g_iconst (v := 1) C dX11_falls_35 (by decide) ?_
    refine g_goto C 40 dX11_falls_36 (by decide) ?_
    exact ret _ _ _ _ _ _ dX11_falls_40 rfl (by decide) (by decide) ⟨rfl, (by decide)⟩
theorem dX11_feed_0 : decode cX11_feed 0 = .ok (.aload_n 0, 1) := by decide +kernel
theorem dX11_feed_1 : decode cX11_feed 1 = .ok (.getfield 41, 3) := by decide +kernel
theorem dX11_feed_4 : decode cX11_feed 4 = .ok (.getfield 111, 3) := by decide +kernel
theorem dX11_feed_7 : decode cX11_feed 7 = .ok (.astore 7, 2) := by decide +kernel
theorem dX11_feed_9 : decode cX11_feed 9 = .ok (.aload 7, 2) := by decide +kernel
theorem dX11_feed_11 : decode cX11_feed 11 = .ok (.lload_n 1, 1) := by decide +kernel
theorem dX11_feed_12 : decode cX11_feed 12 = .ok (.invokevirtual 115, 3) := by decide +kernel
theorem dX9_takeEight_0 : decode cX9_takeEight 0 = .ok (.bipush 56, 2) := by decide +kernel
theorem dX9_takeEight_2 : decode cX9_takeEight 2 = .ok (.istore_n 3, 1) := by decide +kernel
theorem dX9_takeEight_3 : decode cX9_takeEight 3 = .ok (.iload_n 3, 1) := by decide +kernel
theorem dX9_takeEight_4 : decode cX9_takeEight 4 = .ok (.ifCond .lt 71, 3) := by decide +kernel
theorem dX9_takeEight_7 : decode cX9_takeEight 7 = .ok (.lload_n 1, 1) := by decide +kernel
theorem dX9_takeEight_8 : decode cX9_takeEight 8 = .ok (.iload_n 3, 1) := by decide +kernel
theorem dX9_takeEight_9 : decode cX9_takeEight 9 = .ok (.lushr, 1) := by decide +kernel
theorem dX9_takeEight_10 : decode cX9_takeEight 10 = .ok (.l2i, 1) := by decide +kernel
theorem dX9_takeEight_11 : decode cX9_takeEight 11 = .ok (.sipush 255, 3) := by decide +kernel
theorem dX9_takeEight_14 : decode cX9_takeEight 14 = .ok (.iand, 1) := by decide +kernel
theorem dX9_takeEight_15 : decode cX9_takeEight 15 = .ok (.istore 4, 2) := by decide +kernel
theorem dX9_takeEight_17 : decode cX9_takeEight 17 = .ok (.iload 4, 2) := by decide +kernel
theorem dX9_takeEight_19 : decode cX9_takeEight 19 = .ok (.bipush 10, 2) := by decide +kernel
theorem dX9_takeEight_21 : decode cX9_takeEight 21 = .ok (.if_icmp .eq 17, 3) := by decide +kernel
theorem dX9_takeEight_24 : decode cX9_takeEight 24 = .ok (.iload 4, 2) := by decide +kernel
theorem dX9_takeEight_26 : decode cX9_takeEight 26 = .ok (.bipush 32, 2) := by decide +kernel
theorem dX9_takeEight_28 : decode cX9_takeEight 28 = .ok (.if_icmp .lt 41, 3) := by decide +kernel
theorem dX9_takeEight_31 : decode cX9_takeEight 31 = .ok (.iload 4, 2) := by decide +kernel
theorem dX9_takeEight_33 : decode cX9_takeEight 33 = .ok (.bipush 126, 2) := by decide +kernel
theorem dX9_takeEight_35 : decode cX9_takeEight 35 = .ok (.if_icmp .gt 34, 3) := by decide +kernel
theorem dX9_takeEight_38 : decode cX9_takeEight 38 = .ok (.aload_n 0, 1) := by decide +kernel
theorem dX9_takeEight_39 : decode cX9_takeEight 39 = .ok (.getfield 15, 3) := by decide +kernel
theorem dX9_takeEight_42 : decode cX9_takeEight 42 = .ok (.sipush 1000, 3) := by decide +kernel
theorem dX9_takeEight_45 : decode cX9_takeEight 45 = .ok (.if_icmp .ge 24, 3) := by decide +kernel
theorem dX9_takeEight_48 : decode cX9_takeEight 48 = .ok (.aload_n 0, 1) := by decide +kernel
theorem dX9_takeEight_49 : decode cX9_takeEight 49 = .ok (.getfield 9, 3) := by decide +kernel
theorem dX9_takeEight_52 : decode cX9_takeEight 52 = .ok (.aload_n 0, 1) := by decide +kernel
theorem dX9_takeEight_53 : decode cX9_takeEight 53 = .ok (.getfield 15, 3) := by decide +kernel
theorem dX9_takeEight_56 : decode cX9_takeEight 56 = .ok (.iload 4, 2) := by decide +kernel
theorem dX9_takeEight_58 : decode cX9_takeEight 58 = .ok (.iastore, 1) := by decide +kernel
theorem dX9_takeEight_59 : decode cX9_takeEight 59 = .ok (.aload_n 0, 1) := by decide +kernel
theorem dX9_takeEight_60 : decode cX9_takeEight 60 = .ok (.dup, 1) := by decide +kernel
theorem dX9_takeEight_61 : decode cX9_takeEight 61 = .ok (.getfield 15, 3) := by decide +kernel
theorem dX9_takeEight_64 : decode cX9_takeEight 64 = .ok (.iconst 1, 1) := by decide +kernel
theorem dX9_takeEight_65 : decode cX9_takeEight 65 = .ok (.iadd, 1) := by decide +kernel
theorem dX9_takeEight_66 : decode cX9_takeEight 66 = .ok (.putfield 15, 3) := by decide +kernel
theorem dX9_takeEight_69 : decode cX9_takeEight 69 = .ok (.iinc 3 (-8), 3) := by decide +kernel
theorem dX9_takeEight_72 : decode cX9_takeEight 72 = .ok (.goto (-69), 3) := by decide +kernel
theorem dX9_takeEight_75 : decode cX9_takeEight 75 = .ok (.return_, 1) := by decide +kernel
set_option maxHeartbeats 4000000 in
set_option maxRecDepth 100000 in
theorem s_X9_takeEight {P : PP} {a0 : Nat} {a1 : Int64} (I : IV P) (ha0 : At P a0 9) : CtrV yX9_takeEight cX9_takeEight 5 none ({ frames := 1, cells := 0, slots := 0, locals := 64 } : Room) 0 0 P [.ref a0, .long a1] (fun P2 => IV P2 ∧ EK [9, 13] P P2) := by
  refine enV (lv := [(0, .ref a0), (1, .long a1)]) (by decide) (Nat.le_of_ble_eq_true rfl) rfl (fun E D cy C Ci0 ret => ?_)
  have J3 : ∀ (n3 : Nat) (P3 : PP) (v3_3 : Int32), (v3_3.toInt - (-8)).toNat < n3 → (IV P3) → (EK [9, 13] P P3) → (-8 ≤ v3_3.toInt ∧ v3_3.toInt ≤ 56) → G E ({ frames := 1, cells := 0, slots := 0, locals := 64 } : Room) D cy 5 P3 0 0 3 [(0, .ref a0), (1, .long a1), (3, .int v3_3)] [] := by
    intro n3
    induction n3 with
    | zero => intro P3 v3_3 hm3 I3 X3 hv3_3; omega
    | succ n3 ih3 =>
      intro P3 v3_3 hm3 I3 X3 hv3_3
      have h21188 := X3.at ha0
      have J69 : ∀ (P69 : PP), (IV P69) → (EK [9, 13] P P69) → (0 ≤ v3_3.toInt ∧ v3_3.toInt ≤ 56) → G E ({ frames := 1, cells := 0, slots := 0, locals := 64 } : Room) D cy 5 P69 0 0 69 [(0, .ref a0), (1, .long a1), (3, .int v3_3)] [] := by
        intro P69 I69 X69 hv69_3
        have h21189 := X69.at ha0
        refine s_iinc (lv0 := [(0, .ref a0), (1, .long a1)]) (m := -8) C dX9_takeEight_69 2 rfl (by decide) rfl (by decide) (by omega) (fun z21190 h21191 => ?_)
        have h21191 : z21190.toInt = v3_3.toInt + (-8) := h21191
        refine g_goto C 3 dX9_takeEight_72 (by decide) ?_
        refine g_lv (lv' := [(0, .ref a0), (1, .long a1), (3, .int z21190)]) [1, 2, 0] rfl ?_
        exact ih3 P69 z21190 (by omega) I69 X69 (by omega)
      have J38 : ∀ (v38_4 : Int32), (0 ≤ v3_3.toInt ∧ v3_3.toInt ≤ 56) → (10 ≤ v38_4.toInt ∧ v38_4.toInt ≤ 126) → G E ({ frames := 1, cells := 0, slots := 0, locals := 64 } : Room) D cy 5 P3 0 0 38 [(0, .ref a0), (1, .long a1), (3, .int v3_3), (4, .int v38_4)] [] := by
        intro v38_4 hv38_3 hv38_4
        have h21192 := X3.at ha0
        refine g_aload_n C dX9_takeEight_38 rfl 0 rfl ?_
        refine g_getI C fi_X9_15 (by decide) (h21192).1 (h21192).2 dX9_takeEight_39 ?_
        have h21193 := I3.rg (h21192) 1 rfl
        refine g_sipush (v := 1000) C dX9_takeEight_42 (by decide) ?_
        refine b_icmp_ge C 69 dX9_takeEight_45 (by decide) (fun h21194 => ?_) (fun h21194 => ?_)
        · have h21194 : 1000 ≤ (pI P3 a0 1).toInt := h21194
          refine g_lv (lv' := [(0, .ref a0), (1, .long a1), (3, .int v3_3)]) [0, 1, 2] rfl ?_
          exact J69 P3 I3 X3 (by omega)
        · have h21194 : (pI P3 a0 1).toInt < 1000 := h21194
          refine g_aload_n C dX9_takeEight_48 rfl 0 rfl ?_
          obtain ⟨b21195, e21196, h21197⟩ := I3.fld (h21192) 0 13 1000 rfl
          refine g_getR C fi_X9_9 rfl e21196 (h21192).1 (h21192).2 dX9_takeEight_49 ?_
          refine g_aload_n C dX9_takeEight_52 rfl 0 rfl ?_
          refine g_getI C fi_X9_15 (by decide) (h21192).1 (h21192).2 dX9_takeEight_53 ?_
          refine g_iload C dX9_takeEight_56 3 rfl ?_
          refine g_iast (j := ((pI P3 a0 1).toInt.toNat)) C h21197.1 h21197.2.1 (ix_in h21197.2.2 (by omega)) dX9_takeEight_58 ?_
          refine gp (ks := [13]) (I3.setA h21197 (by decide)) (EK.setI h21197.2.1 (by decide)) (fun Y21198 Iy21199 Xy21200 => ?_)
          have q21201 := Xy21200.keep h21192 (by decide) 1
          have Xz21202 : EK [9, 13] P Y21198 := X3.tr (Xy21200.mono (by decide))
          have h21203 := Xy21200.at h21192
          refine g_aload_n C dX9_takeEight_59 rfl 0 rfl ?_
          refine g_dup C dX9_takeEight_60 rfl ?_
          refine g_getI C fi_X9_15 (by decide) (h21203).1 (h21203).2 dX9_takeEight_61 ?_
          refine g_iconst (v := 1) C dX9_takeEight_64 (by decide) ?_
          refine s_iadd C dX9_takeEight_65 (by show -2147483648 ≤ (pI Y21198 a0 1).toInt + 1 ∧ (pI Y21198 a0 1).toInt + 1 ≤ 2147483647; omega) (fun z21204 h21205 => ?_)
          have h21205 : z21204.toInt = (pI Y21198 a0 1).toInt + 1 := h21205
          refine g_putI C fi_X9_15 rfl (h21203).1 (h21203).2 dX9_takeEight_66 ?_
          refine gpW (ks := [9]) (Iy21199.setI (h21203) (rgOk.of rfl (by omega))) (EK.setI (h21203).2 (by decide)) (fun Y21206 Iy21207 Xy21208 w21209 w21210 => ?_)
          have Xz21211 : EK [9, 13] P Y21206 := Xz21202.tr (Xy21208.mono (by decide))
          have h21212 := Xy21208.at h21203
          refine g_lv (lv' := [(0, .ref a0), (1, .long a1), (3, .int v3_3)]) [0, 1, 2] rfl ?_
          exact J69 Y21206 Iy21207 Xz21211 (by omega)
      refine g_iload_n C dX9_takeEight_3 rfl 2 rfl ?_
      refine b_if_lt C 75 dX9_takeEight_4 (by decide) (fun h21213 => ?_) (fun h21213 => ?_)
      · have h21213 : v3_3.toInt < 0 := h21213
        exact ret _ _ _ _ _ dX9_takeEight_75 (by decide) (by decide) ⟨I3, X3⟩
      · have h21213 : 0 ≤ v3_3.toInt := h21213
        refine g_lload_n C dX9_takeEight_7 rfl 1 rfl ?_
        refine g_iload_n C dX9_takeEight_8 rfl 2 rfl ?_
        refine a_lushr C dX9_takeEight_9 (fun l21214 => ?_)
        refine a_l2i C dX9_takeEight_10 (fun z21215 => ?_)
        refine g_sipush (v := 255) C dX9_takeEight_11 (by decide) ?_
        refine s_iand C dX9_takeEight_14 (by show 0 ≤ 255; omega) (fun z21216 h21217 => ?_)
        have h21217 : 0 ≤ z21216.toInt ∧ z21216.toInt ≤ 255 := h21217
        refine g_istore (lv' := [(4, .int z21216), (0, .ref a0), (1, .long a1), (3, .int v3_3)]) C dX9_takeEight_15 (by decide) rfl ?_
        refine g_iload C dX9_takeEight_17 0 rfl ?_
        refine g_bipush (v := 10) C dX9_takeEight_19 (by decide) ?_
        refine b_icmp_eq C 38 dX9_takeEight_21 (by decide) (fun h21218 => ?_) (fun h21218 => ?_)
        · have h21218 : z21216.toInt = 10 := congrArg Int32.toInt h21218
          refine g_lv (lv' := [(0, .ref a0), (1, .long a1), (3, .int v3_3), (4, .int z21216)]) [1, 2, 3, 0] rfl ?_
          exact J38 z21216 (by omega) (by omega)
        · have h21218 : z21216.toInt ≠ 10 := ti_ne h21218
          refine g_iload C dX9_takeEight_24 0 rfl ?_
          refine g_bipush (v := 32) C dX9_takeEight_26 (by decide) ?_
          refine b_icmp_lt C 69 dX9_takeEight_28 (by decide) (fun h21219 => ?_) (fun h21219 => ?_)
          · have h21219 : z21216.toInt < 32 := h21219
            refine g_lv (lv' := [(0, .ref a0), (1, .long a1), (3, .int v3_3)]) [1, 2, 3] rfl ?_
            exact J69 P3 I3 X3 (by omega)
          · have h21219 : 32 ≤ z21216.toInt := h21219
            refine g_iload C dX9_takeEight_31 0 rfl ?_
            refine g_bipush (v := 126) C dX9_takeEight_33 (by decide) ?_
            refine b_icmp_gt C 69 dX9_takeEight_35 (by decide) (fun h21220 => ?_) (fun h21220 => ?_)
            · have h21220 : 126 < z21216.toInt := h21220
              refine g_lv (lv' := [(0, .ref a0), (1, .long a1), (3, .int v3_3)]) [1, 2, 3] rfl ?_
              exact J69 P3 I3 X3 (by omega)
            · have h21220 : z21216.toInt ≤ 126 := h21220
              refine g_lv (lv' := [(0, .ref a0), (1, .long a1), (3, .int v3_3), (4, .int z21216)]) [1, 2, 3, 0] rfl ?_
              exact J38 z21216 (by omega) (by omega)
  refine g_bipush (v := 56) C dX9_takeEight_0 (by decide) ?_
  refine g_istore_n (lv' := [(3, .int 56), (0, .ref a0), (1, .long a1)]) C dX9_takeEight_2 rfl (by decide) rfl ?_
  refine g_lv (lv' := [(0, .ref a0), (1, .long a1), (3, .int 56)]) [1, 2, 0] rfl ?_
  exact J3 _ P 56 (Nat.lt_succ_self _) I EK.rf (by decide)
theorem dX11_feed_15 : decode cX11_feed 15 = .ok (.aload 7, 2) := by decide +kernel
theorem dX11_feed_17 : decode cX11_feed 17 = .ok (.lload_n 3, 1) := by decide +kernel
theorem dX11_feed_18 : decode cX11_feed 18 = .ok (.invokevirtual 115, 3) := by decide +kernel
theorem dX11_feed_21 : decode cX11_feed 21 = .ok (.aload 7, 2) := by decide +kernel
theorem dX11_feed_23 : decode cX11_feed 23 = .ok (.lload 5, 2) := by decide +kernel
theorem dX11_feed_25 : decode cX11_feed 25 = .ok (.invokevirtual 115, 3) := by decide +kernel
theorem dX11_feed_28 : decode cX11_feed 28 = .ok (.aload 7, 2) := by decide +kernel
theorem dX11_feed_30 : decode cX11_feed 30 = .ok (.getfield 121, 3) := by decide +kernel
theorem dX11_feed_33 : decode cX11_feed 33 = .ok (.ireturn, 1) := by decide +kernel
set_option maxHeartbeats 4000000 in
set_option maxRecDepth 100000 in
theorem s_X11_feed {P : PP} {a0 : Nat} {a1 : Int64} {a2 : Int64} {a3 : Int64} (I : IV P) (ha0 : At P a0 11) : CtrI yX11_feed cX11_feed 8 (some Jvm.ClassFile.FieldType.int) ({ frames := 2, cells := 0, slots := 0, locals := 128 } : Room) 0 0 P [.ref a0, .long a1, .long a2, .long a3] (fun r P2 => IV P2 ∧ EK [9, 13] P P2 ∧ (0 ≤ r.toInt ∧ r.toInt ≤ 1000)) := by
  refine enI (lv := [(0, .ref a0), (1, .long a1), (3, .long a2), (5, .long a3)]) (by decide) (Nat.le_of_ble_eq_true rfl) rfl (fun E D cy C Ci0 ret => ?_)
  refine g_aload_n C dX11_feed_0 rfl 0 rfl ?_
  obtain ⟨b21252, e21253, h21254⟩ := I.fld (ha0) 7 4 0 rfl
  refine g_getR C fi_X11_41 rfl e21253 (ha0).1 (ha0).2 dX11_feed_1 ?_
  obtain ⟨b21255, e21256, h21257⟩ := I.fld (h21254.at) 0 9 0 rfl
  refine g_getR C fi_X11_111 rfl e21256 (h21254.at).1 (h21254.at).2 dX11_feed_4 ?_
  refine g_astore (lv' := [(7, .ref b21255), (0, .ref a0), (1, .long a1), (3, .long a2), (5, .long a3)]) C dX11_feed_7 (by decide) rfl ?_
  refine g_aload C dX11_feed_9 0 rfl ?_
  refine g_lload_n C dX11_feed_11 rfl 2 rfl ?_
  refine g_callVV (rest := []) C mv_X11_115 [.long a1] (s_X9_takeEight I h21257.at) (h21257.at).1 (h21257.at).2 rfl rfl (by decide) (Nat.le_of_ble_eq_true rfl) (by decide) dX11_feed_12 (fun Y21259 h21260 => ?_)
  obtain ⟨Iy21261, Xy21262⟩ := h21260
  have Xz21263 : EK [9, 13] P Y21259 := Xy21262.mono (by decide)
  have h21264 := Xy21262.at ha0
  have h21265 := Xy21262.ar h21257
  refine g_aload C dX11_feed_15 0 rfl ?_
  refine g_lload_n C dX11_feed_17 rfl 3 rfl ?_
  refine g_callVV (rest := []) C mv_X11_115 [.long a2] (s_X9_takeEight Iy21261 h21265.at) (h21265.at).1 (h21265.at).2 rfl rfl (by decide) (Nat.le_of_ble_eq_true rfl) (by decide) dX11_feed_18 (fun Y21267 h21268 => ?_)
  obtain ⟨Iy21269, Xy21270⟩ := h21268
  have Xz21271 : EK [9, 13] P Y21267 := Xz21263.tr (Xy21270.mono (by decide))
  have h21272 := Xy21270.at h21264
  have h21273 := Xy21270.ar h21265
  refine g_aload C dX11_feed_21 0 rfl ?_
  refine g_lload C dX11_feed_23 4 rfl ?_
  refine g_callVV (rest := []) C mv_X11_115 [.long a3] (s_X9_takeEight Iy21269 h21273.at) (h21273.at).1 (h21273.at).2 rfl rfl (by decide) (Nat.le_of_ble_eq_true rfl) (by decide) dX11_feed_25 (fun Y21275 h21276 => ?_)
  obtain ⟨Iy21277, Xy21278⟩ := h21276
  have Xz21279 : EK [9, 13] P Y21275 := Xz21271.tr (Xy21278.mono (by decide))
  have h21280 := Xy21278.at h21272
  have h21281 := Xy21278.ar h21273
  refine g_aload C dX11_feed_28 0 rfl ?_
  refine g_getI C fi_X11_121 (by decide) (h21281.at).1 (h21281.at).2 dX11_feed_30 ?_
  have h21282 := Iy21277.rg (h21281.at) 1 rfl
  exact ret _ _ _ _ _ _ dX11_feed_33 rfl (by decide) (by decide) ⟨Iy21277, Xz21279, (by omega)⟩
theorem dX11_forged_0 : decode cX11_forged 0 = .ok (.iload_n 1, 1) := by decide +kernel
theorem dX11_forged_1 : decode cX11_forged 1 = .ok (.invokestatic 158, 3) := by decide +kernel
theorem dX11_forged_4 : decode cX11_forged 4 = .ok (.ifCond .eq 12, 3) := by decide +kernel
theorem dX11_forged_7 : decode cX11_forged 7 = .ok (.aload_n 0, 1) := by decide +kernel
theorem dX11_forged_8 : decode cX11_forged 8 = .ok (.iload_n 2, 1) := by decide +kernel
theorem dX11_forged_9 : decode cX11_forged 9 = .ok (.iload_n 3, 1) := by decide +kernel
theorem dX11_forged_10 : decode cX11_forged 10 = .ok (.invokevirtual 136, 3) := by decide +kernel
theorem dX11_forged_13 : decode cX11_forged 13 = .ok (.ifCond .ne 5, 3) := by decide +kernel
theorem dX11_forged_18 : decode cX11_forged 18 = .ok (.iload 4, 2) := by decide +kernel
theorem dX11_forged_20 : decode cX11_forged 20 = .ok (.ifCond .lt 23, 3) := by decide +kernel
theorem dX11_forged_23 : decode cX11_forged 23 = .ok (.iload 4, 2) := by decide +kernel
theorem dX11_forged_25 : decode cX11_forged 25 = .ok (.ldc 104, 2) := by decide +kernel
theorem dX11_forged_27 : decode cX11_forged 27 = .ok (.if_icmp .gt 16, 3) := by decide +kernel
theorem dX11_forged_30 : decode cX11_forged 30 = .ok (.iload 5, 2) := by decide +kernel
theorem dX11_forged_32 : decode cX11_forged 32 = .ok (.ifCond .lt 11, 3) := by decide +kernel
theorem dX11_forged_35 : decode cX11_forged 35 = .ok (.iload 5, 2) := by decide +kernel
theorem dX11_forged_37 : decode cX11_forged 37 = .ok (.sipush 997, 3) := by decide +kernel
theorem dX11_forged_40 : decode cX11_forged 40 = .ok (.if_icmp .lt 5, 3) := by decide +kernel
theorem dX11_forged_45 : decode cX11_forged 45 = .ok (.aload_n 0, 1) := by decide +kernel
theorem dX11_forged_46 : decode cX11_forged 46 = .ok (.iload_n 1, 1) := by decide +kernel
theorem dX11_forged_47 : decode cX11_forged 47 = .ok (.aload_n 0, 1) := by decide +kernel
theorem dX11_forged_48 : decode cX11_forged 48 = .ok (.getfield 11, 3) := by decide +kernel
theorem dX11_forged_51 : decode cX11_forged 51 = .ok (.iload_n 2, 1) := by decide +kernel
theorem dX11_forged_52 : decode cX11_forged 52 = .ok (.aaload, 1) := by decide +kernel
theorem dX11_forged_53 : decode cX11_forged 53 = .ok (.iload_n 3, 1) := by decide +kernel
theorem dX11_forged_54 : decode cX11_forged 54 = .ok (.iload 4, 2) := by decide +kernel
theorem dX11_forged_56 : decode cX11_forged 56 = .ok (.iload 5, 2) := by decide +kernel
theorem dX11_forged_58 : decode cX11_forged 58 = .ok (.invokevirtual 169, 3) := by decide +kernel
theorem dX11_send_0 : decode cX11_send 0 = .ok (.aload_n 2, 1) := by decide +kernel
theorem dX11_send_1 : decode cX11_send 1 = .ok (.getfield 354, 3) := by decide +kernel
theorem dX11_send_4 : decode cX11_send 4 = .ok (.getfield 357, 3) := by decide +kernel
theorem dX11_send_7 : decode cX11_send 7 = .ok (.ifCond .eq 27, 3) := by decide +kernel
theorem dX11_send_10 : decode cX11_send 10 = .ok (.iload 5, 2) := by decide +kernel
theorem dX11_send_12 : decode cX11_send 12 = .ok (.aload_n 2, 1) := by decide +kernel
theorem dX11_send_13 : decode cX11_send 13 = .ok (.iload_n 3, 1) := by decide +kernel
theorem dX11_send_14 : decode cX11_send 14 = .ok (.iload 4, 2) := by decide +kernel
theorem dX11_send_16 : decode cX11_send 16 = .ok (.invokevirtual 146, 3) := by decide +kernel
theorem dX11_send_19 : decode cX11_send 19 = .ok (.if_icmp .eq 15, 3) := by decide +kernel
theorem dX11_send_22 : decode cX11_send 22 = .ok (.aload_n 0, 1) := by decide +kernel
theorem dX11_send_23 : decode cX11_send 23 = .ok (.dup, 1) := by decide +kernel
theorem dX11_send_24 : decode cX11_send 24 = .ok (.getfield 348, 3) := by decide +kernel
theorem dX11_send_27 : decode cX11_send 27 = .ok (.iconst 1, 1) := by decide +kernel
theorem dX11_send_28 : decode cX11_send 28 = .ok (.iadd, 1) := by decide +kernel
theorem dX11_send_29 : decode cX11_send 29 = .ok (.putfield 348, 3) := by decide +kernel
theorem dX11_send_32 : decode cX11_send 32 = .ok (.iconst (-1), 1) := by decide +kernel
theorem dX11_send_33 : decode cX11_send 33 = .ok (.ireturn, 1) := by decide +kernel
theorem dX11_send_34 : decode cX11_send 34 = .ok (.aload_n 0, 1) := by decide +kernel
theorem dX11_send_35 : decode cX11_send 35 = .ok (.getfield 17, 3) := by decide +kernel
theorem dX11_send_38 : decode cX11_send 38 = .ok (.iload_n 1, 1) := by decide +kernel
theorem dX11_send_39 : decode cX11_send 39 = .ok (.aaload, 1) := by decide +kernel
theorem dX11_send_40 : decode cX11_send 40 = .ok (.aload_n 2, 1) := by decide +kernel
theorem dX11_send_41 : decode cX11_send 41 = .ok (.iload_n 3, 1) := by decide +kernel
theorem dX11_send_42 : decode cX11_send 42 = .ok (.aload_n 2, 1) := by decide +kernel
theorem dX11_send_43 : decode cX11_send 43 = .ok (.iload_n 3, 1) := by decide +kernel
theorem dX11_send_44 : decode cX11_send 44 = .ok (.invokevirtual 140, 3) := by decide +kernel
theorem dX11_send_47 : decode cX11_send 47 = .ok (.iload 4, 2) := by decide +kernel
theorem dX11_send_49 : decode cX11_send 49 = .ok (.iconst 3, 1) := by decide +kernel
theorem dX11_send_50 : decode cX11_send 50 = .ok (.iload 5, 2) := by decide +kernel
theorem dX11_send_52 : decode cX11_send 52 = .ok (.invokevirtual 360, 3) := by decide +kernel
theorem dX11_send_55 : decode cX11_send 55 = .ok (.invokevirtual 165, 3) := by decide +kernel
theorem dX11_send_58 : decode cX11_send 58 = .ok (.ireturn, 1) := by decide +kernel
set_option maxHeartbeats 4000000 in
set_option maxRecDepth 100000 in
theorem s_X11_send {P : PP} {a0 : Nat} {a1 : Int32} {a2 : Nat} {a3 : Int32} {a4 : Int32} {a5 : Int32} (I : IV P) (ha0 : At P a0 11) (ha1 : 0 ≤ a1.toInt ∧ a1.toInt ≤ 3) (ha2 : At P a2 1) : CtrI yX11_send cX11_send 6 (some Jvm.ClassFile.FieldType.int) ({ frames := 5, cells := 1, slots := 7, locals := 320 } : Room) 1 7 P [.ref a0, .int a1, .ref a2, .int a3, .int a4, .int a5] (fun r P2 => IV P2 ∧ EK [1, 6, 7, 11, 13] P P2 ∧ (-1 ≤ r.toInt ∧ r.toInt ≤ 39)) := by
  refine enI (lv := [(0, .ref a0), (1, .int a1), (2, .ref a2), (3, .int a3), (4, .int a4), (5, .int a5)]) (by decide) (Nat.le_of_ble_eq_true rfl) rfl (fun E D cy C Ci0 ret => ?_)
  have J34 : G E ({ frames := 5, cells := 1, slots := 7, locals := 320 } : Room) D cy 6 P 0 0 34 [(0, .ref a0), (1, .int a1), (2, .ref a2), (3, .int a3), (4, .int a4), (5, .int a5)] [] := by
    refine g_aload_n C dX11_send_34 rfl 0 rfl ?_
    obtain ⟨b21362, e21363, h21364⟩ := I.fld (ha0) 1 19 4 rfl
    refine g_getR C fi_X11_17 rfl e21363 (ha0).1 (ha0).2 dX11_send_35 ?_
    refine g_iload_n C dX11_send_38 rfl 1 rfl ?_
    obtain ⟨b21365, e21366, h21367⟩ := I.elm h21364 (by decide) (a1.toInt.toNat) (by omega)
    refine g_aldR C h21364.1 h21364.2.1 (by decide) (ix_in h21364.2.2 (by omega)) e21366 dX11_send_39 ?_
    refine g_aload_n C dX11_send_40 rfl 2 rfl ?_
    refine g_iload_n C dX11_send_41 rfl 3 rfl ?_
    refine g_aload_n C dX11_send_42 rfl 2 rfl ?_
    refine g_iload_n C dX11_send_43 rfl 3 rfl ?_
    refine g_callVI (rest := [.int a3, .ref a2, .ref b21365]) C mv_X11_140 [.int a3] (s_X1_pagesOf I ha2) (ha2).1 (ha2).2 rfl rfl (by decide) (Nat.le_of_ble_eq_true rfl) (by decide) dX11_send_44 (fun r21368 Y21369 h21370 => ?_)
    obtain ⟨Iy21371, Xy21372, h21370⟩ := h21370
    have Xz21373 : EK [1, 6, 7, 11, 13] P Y21369 := Xy21372.mono (by decide)
    have h21374 := Xy21372.at ha0
    have h21375 := Xy21372.at ha2
    have h21376 := Xy21372.at h21367
    have h21370 : True := h21370
    refine g_iload C dX11_send_47 4 rfl ?_
    refine g_iconst (v := 3) C dX11_send_49 (by decide) ?_
    refine g_iload C dX11_send_50 5 rfl ?_
    refine g_callVQ (rest := [.ref b21365]) C mv_X11_360 [.int a3, .int r21368, .int a4, .int 3, .int a5] (s_X1_paperOf Iy21371 h21375) (h21375).1 (h21375).2 rfl rfl (by decide) (Nat.le_of_ble_eq_true rfl) (by decide) dX11_send_52 (fun r21377 Y21378 h21379 => ?_)
    obtain ⟨Iy21380, Xy21381, h21379⟩ := h21379
    have Xz21382 : EK [1, 6, 7, 11, 13] P Y21378 := Xz21373.tr (Xy21381.mono (by decide))
    have h21383 := Xy21381.at h21374
    have h21384 := Xy21381.at h21375
    have h21385 := Xy21381.at h21376
    obtain ⟨b21387, rfl, h21379⟩ := h21379
    show G _ _ _ _ _ _ _ _ _ _ (.ref b21387 :: _)
    refine g_callVI (rest := []) C mv_X11_165 [.ref b21387] (s_X6_put Iy21380 h21385 h21379) (h21385).1 (h21385).2 rfl rfl (by decide) (Nat.le_of_ble_eq_true rfl) (by decide) dX11_send_55 (fun r21388 Y21389 h21390 => ?_)
    obtain ⟨Iy21391, Xy21392, h21390⟩ := h21390
    have Xz21393 : EK [1, 6, 7, 11, 13] P Y21389 := Xz21382.tr (Xy21392.mono (by decide))
    have h21394 := Xy21392.at h21383
    have h21395 := Xy21392.at h21384
    have h21390 : -1 ≤ r21388.toInt ∧ r21388.toInt ≤ 39 := h21390
    exact ret _ _ _ _ _ _ dX11_send_58 rfl (by decide) (by decide) ⟨Iy21391, Xz21393, (by omega)⟩
  refine g_aload_n C dX11_send_0 rfl 2 rfl ?_
  obtain ⟨b21396, e21397, h21398⟩ := I.fld (ha2) 2 3 0 rfl
  refine g_getR C fi_X11_354 rfl e21397 (ha2).1 (ha2).2 dX11_send_1 ?_
  refine g_getI C fi_X11_357 (by decide) (h21398.at).1 (h21398.at).2 dX11_send_4 ?_
  have u21400 := ti_rng (pI P b21396 5)
  refine b_if_eq C 34 dX11_send_7 (by decide) (fun h21399 => ?_) (fun h21399 => ?_)
  · have h21399 : (pI P b21396 5).toInt = 0 := congrArg Int32.toInt h21399
    exact J34 
  · have h21399 : (pI P b21396 5).toInt ≠ 0 := ti_ne h21399
    refine g_iload C dX11_send_10 5 rfl ?_
    refine g_aload_n C dX11_send_12 rfl 2 rfl ?_
    refine g_iload_n C dX11_send_13 rfl 3 rfl ?_
    refine g_iload C dX11_send_14 4 rfl ?_
    refine g_callVI (rest := [.int a5]) C mv_X11_146 [.int a3, .int a4] (s_X1_sealOf I ha2) (ha2).1 (ha2).2 rfl rfl (by decide) (Nat.le_of_ble_eq_true rfl) (by decide) dX11_send_16 (fun r21401 Y21402 h21403 => ?_)
    obtain ⟨rfl, h21403⟩ := h21403
    have h21403 : True := h21403
    have u21405 := ti_rng a5
    have u21406 := ti_rng r21401
    refine b_icmp_eq C 34 dX11_send_19 (by decide) (fun h21404 => ?_) (fun h21404 => ?_)
    · have h21404 : a5.toInt = r21401.toInt := congrArg Int32.toInt h21404
      exact J34 
    · have h21404 : a5.toInt ≠ r21401.toInt := ti_ne h21404
      refine g_aload_n C dX11_send_22 rfl 0 rfl ?_
      refine g_dup C dX11_send_23 rfl ?_
      refine g_getI C fi_X11_348 (by decide) (ha0).1 (ha0).2 dX11_send_24 ?_
      refine g_iconst (v := 1) C dX11_send_27 (by decide) ?_
      refine a_iadd C dX11_send_28 (fun z21407 => ?_)
      refine g_putI C fi_X11_348 rfl (ha0).1 (ha0).2 dX11_send_29 ?_
      refine gpW (ks := [11]) (I.setI (ha0) (rgOk.none rfl)) (EK.setI (ha0).2 (by decide)) (fun Y21409 Iy21410 Xy21411 w21412 w21413 => ?_)
      have Xz21414 : EK [1, 6, 7, 11, 13] P Y21409 := Xy21411.mono (by decide)
      have h21415 := Xy21411.at ha0
      have h21416 := Xy21411.at ha2
      refine g_iconst (v := (-1)) C dX11_send_32 (by decide) ?_
      exact ret _ _ _ _ _ _ dX11_send_33 rfl (by decide) (by decide) ⟨Iy21410, Xz21414, (by decide)⟩
theorem dX11_forged_16 : decode cX11_forged 16 = .ok (.iconst (-1), 1) := by decide +kernel
theorem dX11_forged_17 : decode cX11_forged 17 = .ok (.ireturn, 1) := by decide +kernel
theorem dX11_forged_43 : decode cX11_forged 43 = .ok (.iconst (-1), 1) := by decide +kernel
theorem dX11_forged_44 : decode cX11_forged 44 = .ok (.ireturn, 1) := by decide +kernel
theorem dX11_forged_61 : decode cX11_forged 61 = .ok (.ireturn, 1) := by decide +kernel
set_option maxHeartbeats 4000000 in
set_option maxRecDepth 100000 in
theorem s_X11_forged {P : PP} {a0 : Nat} {a1 : Int32} {a2 : Int32} {a3 : Int32} {a4 : Int32} {a5 : Int32} (I : IV P) (ha0 : At P a0 11) : CtrI yX11_forged cX11_forged 6 (some Jvm.ClassFile.FieldType.int) ({ frames := 6, cells := 1, slots := 7, locals := 384 } : Room) 1 7 P [.ref a0, .int a1, .int a2, .int a3, .int a4, .int a5] (fun r P2 => IV P2 ∧ EK [1, 6, 7, 11, 13] P P2 ∧ (-1 ≤ r.toInt ∧ r.toInt ≤ 39)) := by
  refine enI (lv := [(0, .ref a0), (1, .int a1), (2, .int a2), (3, .int a3), (4, .int a4), (5, .int a5)]) (by decide) (Nat.le_of_ble_eq_true rfl) rfl (fun E D cy C Ci0 ret => ?_)
  have J43 : G E ({ frames := 6, cells := 1, slots := 7, locals := 384 } : Room) D cy 6 P 0 0 43 [] [] := by
    refine g_iconst (v := (-1)) C dX11_forged_43 (by decide) ?_
    exact ret _ _ _ _ _ _ dX11_forged_44 rfl (by decide) (by decide) ⟨I, EK.rf, (by decide)⟩
  have J16 : G E ({ frames := 6, cells := 1, slots := 7, locals := 384 } : Room) D cy 6 P 0 0 16 [] [] := by
    refine g_iconst (v := (-1)) C dX11_forged_16 (by decide) ?_
    exact ret _ _ _ _ _ _ dX11_forged_17 rfl (by decide) (by decide) ⟨I, EK.rf, (by decide)⟩
  refine g_iload_n C dX11_forged_0 rfl 1 rfl ?_
  refine g_callSI (b := 0) (ci := 0) (rest := []) C ms_X11_158 [.int a1] (s_X11_isQuarter I) rfl rfl (by decide) (Nat.le_of_ble_eq_true rfl) (by decide) dX11_forged_1 (fun r21448 Y21449 h21450 => ?_)
  obtain ⟨rfl, h21450⟩ := h21450
  obtain ⟨h21450, hi21451⟩ := h21450
  have hi21451 : r21448.toInt = 0 ∨ (((0 : Int) ≤ a1.toInt ∧ a1.toInt ≤ (3 : Int))) := hi21451
  have h21450 : 0 ≤ r21448.toInt ∧ r21448.toInt ≤ 1 := h21450
  refine b_if_eq C 16 dX11_forged_4 (by decide) (fun h21452 => ?_) (fun h21452 => ?_)
  · have h21452 : r21448.toInt = 0 := congrArg Int32.toInt h21452
    clear hi21451
    refine g_lv (lv' := []) [] rfl ?_
    exact J16 
  · have h21452 : r21448.toInt ≠ 0 := ti_ne h21452
    replace hi21451 := hi21451.resolve_left (by omega)
    refine g_aload_n C dX11_forged_7 rfl 0 rfl ?_
    refine g_iload_n C dX11_forged_8 rfl 2 rfl ?_
    refine g_iload_n C dX11_forged_9 rfl 3 rfl ?_
    refine g_callVI (rest := []) C mv_X11_136 [.int a2, .int a3] (s_X11_isLeaflet I ha0) (ha0).1 (ha0).2 rfl rfl (by decide) (Nat.le_of_ble_eq_true rfl) (by decide) dX11_forged_10 (fun r21453 Y21454 h21455 => ?_)
    obtain ⟨rfl, h21455⟩ := h21455
    obtain ⟨h21455, hi21456⟩ := h21455
    have hi21456 : r21453.toInt = 0 ∨ (((0 : Int) ≤ a2.toInt ∧ a2.toInt ≤ (1 : Int)) ∧ ((0 : Int) ≤ a3.toInt ∧ a3.toInt ≤ (9999 : Int))) := hi21456
    have h21455 : 0 ≤ r21453.toInt ∧ r21453.toInt ≤ 1 := h21455
    refine b_if_ne C 18 dX11_forged_13 (by decide) (fun h21457 => ?_) (fun h21457 => ?_)
    · have h21457 : r21453.toInt ≠ 0 := ti_ne h21457
      replace hi21456 := hi21456.resolve_left (by omega)
      refine g_iload C dX11_forged_18 4 rfl ?_
      have u21459 := ti_rng a4
      refine b_if_lt C 43 dX11_forged_20 (by decide) (fun h21458 => ?_) (fun h21458 => ?_)
      · have h21458 : a4.toInt < 0 := h21458
        refine g_lv (lv' := []) [] rfl ?_
        exact J43 
      · have h21458 : 0 ≤ a4.toInt := h21458
        refine g_iload C dX11_forged_23 4 rfl ?_
        refine g_ldc (v := 65535) C kc_X11_104 dX11_forged_25 ?_
        have u21461 := ti_rng a4
        refine b_icmp_gt C 43 dX11_forged_27 (by decide) (fun h21460 => ?_) (fun h21460 => ?_)
        · have h21460 : 65535 < a4.toInt := h21460
          refine g_lv (lv' := []) [] rfl ?_
          exact J43 
        · have h21460 : a4.toInt ≤ 65535 := h21460
          refine g_iload C dX11_forged_30 5 rfl ?_
          have u21463 := ti_rng a5
          refine b_if_lt C 43 dX11_forged_32 (by decide) (fun h21462 => ?_) (fun h21462 => ?_)
          · have h21462 : a5.toInt < 0 := h21462
            refine g_lv (lv' := []) [] rfl ?_
            exact J43 
          · have h21462 : 0 ≤ a5.toInt := h21462
            refine g_iload C dX11_forged_35 5 rfl ?_
            refine g_sipush (v := 997) C dX11_forged_37 (by decide) ?_
            have u21465 := ti_rng a5
            refine b_icmp_lt C 45 dX11_forged_40 (by decide) (fun h21464 => ?_) (fun h21464 => ?_)
            · have h21464 : a5.toInt < 997 := h21464
              refine g_aload_n C dX11_forged_45 rfl 0 rfl ?_
              refine g_iload_n C dX11_forged_46 rfl 1 rfl ?_
              refine g_aload_n C dX11_forged_47 rfl 0 rfl ?_
              obtain ⟨b21466, e21467, h21468⟩ := I.fld (ha0) 0 17 2 rfl
              refine g_getR C fi_X11_11 rfl e21467 (ha0).1 (ha0).2 dX11_forged_48 ?_
              refine g_iload_n C dX11_forged_51 rfl 2 rfl ?_
              obtain ⟨b21469, e21470, h21471⟩ := I.elm h21468 (by decide) (a2.toInt.toNat) (by omega)
              refine g_aldR C h21468.1 h21468.2.1 (by decide) (ix_in h21468.2.2 (by omega)) e21470 dX11_forged_52 ?_
              refine g_iload_n C dX11_forged_53 rfl 3 rfl ?_
              refine g_iload C dX11_forged_54 4 rfl ?_
              refine g_iload C dX11_forged_56 5 rfl ?_
              refine g_callVI (rest := []) C mv_X11_169 [.int a1, .ref b21469, .int a3, .int a4, .int a5] (s_X11_send I ha0 (by omega) h21471) (ha0).1 (ha0).2 rfl rfl (by decide) (Nat.le_of_ble_eq_true rfl) (by decide) dX11_forged_58 (fun r21472 Y21473 h21474 => ?_)
              obtain ⟨Iy21475, Xy21476, h21474⟩ := h21474
              have Xz21477 : EK [1, 6, 7, 11, 13] P Y21473 := Xy21476.mono (by decide)
              have h21478 := Xy21476.at ha0
              have h21474 : -1 ≤ r21472.toInt ∧ r21472.toInt ≤ 39 := h21474
              exact ret _ _ _ _ _ _ dX11_forged_61 rfl (by decide) (by decide) ⟨Iy21475, Xz21477, (by omega)⟩
            · have h21464 : 997 ≤ a5.toInt := h21464
              refine g_lv (lv' := []) [] rfl ?_
              exact J43 
    · have h21457 : r21453.toInt = 0 := congrArg Int32.toInt h21457
      clear hi21456
      refine g_lv (lv' := []) [] rfl ?_
      exact J16 
theorem dX11_guard_0 : decode cX11_guard 0 = .ok (.iload_n 1, 1) := by decide +kernel
theorem dX11_guard_1 : decode cX11_guard 1 = .ok (.invokestatic 158, 3) := by decide +kernel
theorem dX11_guard_4 : decode cX11_guard 4 = .ok (.ifCond .eq 20, 3) := by decide +kernel
theorem dX11_guard_7 : decode cX11_guard 7 = .ok (.aload_n 0, 1) := by decide +kernel
theorem dX11_guard_8 : decode cX11_guard 8 = .ok (.iload_n 2, 1) := by decide +kernel
theorem dX11_guard_9 : decode cX11_guard 9 = .ok (.iload 4, 2) := by decide +kernel
theorem dX11_guard_11 : decode cX11_guard 11 = .ok (.invokevirtual 155, 3) := by decide +kernel
theorem dX11_isPageOf_0 : decode cX11_isPageOf 0 = .ok (.aload_n 0, 1) := by decide +kernel
theorem dX11_isPageOf_1 : decode cX11_isPageOf 1 = .ok (.iload_n 1, 1) := by decide +kernel
theorem dX11_isPageOf_2 : decode cX11_isPageOf 2 = .ok (.invokevirtual 97, 3) := by decide +kernel
theorem dX11_isPageOf_5 : decode cX11_isPageOf 5 = .ok (.ifCond .eq 24, 3) := by decide +kernel
theorem dX11_isPageOf_8 : decode cX11_isPageOf 8 = .ok (.iload_n 2, 1) := by decide +kernel
theorem dX11_isPageOf_9 : decode cX11_isPageOf 9 = .ok (.ifCond .lt 20, 3) := by decide +kernel
theorem dX11_isPageOf_12 : decode cX11_isPageOf 12 = .ok (.iload_n 2, 1) := by decide +kernel
theorem dX11_isPageOf_13 : decode cX11_isPageOf 13 = .ok (.aload_n 0, 1) := by decide +kernel
theorem dX11_isPageOf_14 : decode cX11_isPageOf 14 = .ok (.getfield 11, 3) := by decide +kernel
theorem dX11_isPageOf_17 : decode cX11_isPageOf 17 = .ok (.iload_n 1, 1) := by decide +kernel
theorem dX11_isPageOf_18 : decode cX11_isPageOf 18 = .ok (.aaload, 1) := by decide +kernel
theorem dX11_isPageOf_19 : decode cX11_isPageOf 19 = .ok (.invokevirtual 233, 3) := by decide +kernel
theorem dX11_isPageOf_22 : decode cX11_isPageOf 22 = .ok (.if_icmp .ge 7, 3) := by decide +kernel
theorem dX11_isPageOf_25 : decode cX11_isPageOf 25 = .ok (.iconst 1, 1) := by decide +kernel
theorem dX11_isPageOf_26 : decode cX11_isPageOf 26 = .ok (.goto 4, 3) := by decide +kernel
theorem dX11_isPageOf_29 : decode cX11_isPageOf 29 = .ok (.iconst 0, 1) := by decide +kernel
theorem dX11_isPageOf_30 : decode cX11_isPageOf 30 = .ok (.ireturn, 1) := by decide +kernel
set_option maxHeartbeats 4000000 in
set_option maxRecDepth 100000 in
theorem s_X11_isPageOf {P : PP} {a0 : Nat} {a1 : Int32} {a2 : Int32} (I : IV P) (ha0 : At P a0 11) : CtrI yX11_isPageOf cX11_isPageOf 3 (some Jvm.ClassFile.FieldType.boolean) ({ frames := 3, cells := 0, slots := 0, locals := 192 } : Room) 0 0 P [.ref a0, .int a1, .int a2] (fun r P2 => P = P2 ∧ (0 ≤ r.toInt ∧ r.toInt ≤ 1) ∧ (r.toInt = 0 ∨ (((0 : Int) ≤ a1.toInt ∧ a1.toInt ≤ (1 : Int)) ∧ ((0 : Int) ≤ a2.toInt ∧ a2.toInt ≤ (19 : Int))))) := by
  refine enI (lv := [(0, .ref a0), (1, .int a1), (2, .int a2)]) (by decide) (Nat.le_of_ble_eq_true rfl) rfl (fun E D cy C Ci0 ret => ?_)
  have J29 : G E ({ frames := 3, cells := 0, slots := 0, locals := 192 } : Room) D cy 3 P 0 0 29 [] [] := by
    refine g_iconst (v := 0) C dX11_isPageOf_29 (by decide) ?_
    exact ret _ _ _ _ _ _ dX11_isPageOf_30 rfl (by decide) (by decide) ⟨rfl, (by decide), Or.inl rfl⟩
  refine g_aload_n C dX11_isPageOf_0 rfl 0 rfl ?_
  refine g_iload_n C dX11_isPageOf_1 rfl 1 rfl ?_
  refine g_callVI (rest := []) C mv_X11_97 [.int a1] (s_X11_isTold I ha0) (ha0).1 (ha0).2 rfl rfl (by decide) (Nat.le_of_ble_eq_true rfl) (by decide) dX11_isPageOf_2 (fun r21502 Y21503 h21504 => ?_)
  obtain ⟨rfl, h21504⟩ := h21504
  obtain ⟨h21504, hi21505⟩ := h21504
  have hi21505 : r21502.toInt = 0 ∨ (((0 : Int) ≤ a1.toInt ∧ a1.toInt ≤ (1 : Int))) := hi21505
  have h21504 : 0 ≤ r21502.toInt ∧ r21502.toInt ≤ 1 := h21504
  refine b_if_eq C 29 dX11_isPageOf_5 (by decide) (fun h21506 => ?_) (fun h21506 => ?_)
  · have h21506 : r21502.toInt = 0 := congrArg Int32.toInt h21506
    clear hi21505
    refine g_lv (lv' := []) [] rfl ?_
    exact J29 
  · have h21506 : r21502.toInt ≠ 0 := ti_ne h21506
    replace hi21505 := hi21505.resolve_left (by omega)
    refine g_iload_n C dX11_isPageOf_8 rfl 2 rfl ?_
    have u21508 := ti_rng a2
    refine b_if_lt C 29 dX11_isPageOf_9 (by decide) (fun h21507 => ?_) (fun h21507 => ?_)
    · have h21507 : a2.toInt < 0 := h21507
      refine g_lv (lv' := []) [] rfl ?_
      exact J29 
    · have h21507 : 0 ≤ a2.toInt := h21507
      refine g_iload_n C dX11_isPageOf_12 rfl 2 rfl ?_
      refine g_aload_n C dX11_isPageOf_13 rfl 0 rfl ?_
      obtain ⟨b21509, e21510, h21511⟩ := I.fld (ha0) 0 17 2 rfl
      refine g_getR C fi_X11_11 rfl e21510 (ha0).1 (ha0).2 dX11_isPageOf_14 ?_
      refine g_iload_n C dX11_isPageOf_17 rfl 1 rfl ?_
      obtain ⟨b21512, e21513, h21514⟩ := I.elm h21511 (by decide) (a1.toInt.toNat) (by omega)
      refine g_aldR C h21511.1 h21511.2.1 (by decide) (ix_in h21511.2.2 (by omega)) e21513 dX11_isPageOf_18 ?_
      refine g_callVI (rest := [.int a2]) C mv_X11_233 [] (s_X1_all I h21514) (h21514).1 (h21514).2 rfl rfl (by decide) (Nat.le_of_ble_eq_true rfl) (by decide) dX11_isPageOf_19 (fun r21515 Y21516 h21517 => ?_)
      obtain ⟨rfl, h21517⟩ := h21517
      have h21517 : 0 ≤ r21515.toInt ∧ r21515.toInt ≤ 20 := h21517
      have u21519 := ti_rng a2
      refine b_icmp_ge C 29 dX11_isPageOf_22 (by decide) (fun h21518 => ?_) (fun h21518 => ?_)
      · have h21518 : r21515.toInt ≤ a2.toInt := h21518
        refine g_lv (lv' := []) [] rfl ?_
        exact J29 
      · have h21518 : a2.toInt < r21515.toInt := h21518
        refine g_iconst (v := 1) C dX11_isPageOf_25 (by decide) ?_
        refine g_goto C 30 dX11_isPageOf_26 (by decide) ?_
        exact ret _ _ _ _ _ _ dX11_isPageOf_30 rfl (by decide) (by decide) ⟨rfl, (by decide), Or.inr (by omega)⟩
theorem dX11_guard_14 : decode cX11_guard 14 = .ok (.ifCond .eq 10, 3) := by decide +kernel
theorem dX11_guard_17 : decode cX11_guard 17 = .ok (.iload_n 3, 1) := by decide +kernel
theorem dX11_guard_18 : decode cX11_guard 18 = .ok (.invokestatic 213, 3) := by decide +kernel
theorem dX11_guard_21 : decode cX11_guard 21 = .ok (.ifCond .ne 5, 3) := by decide +kernel
theorem dX11_guard_26 : decode cX11_guard 26 = .ok (.aload_n 0, 1) := by decide +kernel
theorem dX11_guard_27 : decode cX11_guard 27 = .ok (.iload_n 1, 1) := by decide +kernel
theorem dX11_guard_28 : decode cX11_guard 28 = .ok (.iload_n 2, 1) := by decide +kernel
theorem dX11_guard_29 : decode cX11_guard 29 = .ok (.iload_n 3, 1) := by decide +kernel
theorem dX11_guard_30 : decode cX11_guard 30 = .ok (.invokevirtual 216, 3) := by decide +kernel
theorem dX11_guard_33 : decode cX11_guard 33 = .ok (.astore 5, 2) := by decide +kernel
theorem dX11_guard_35 : decode cX11_guard 35 = .ok (.aload_n 0, 1) := by decide +kernel
theorem dX11_guard_36 : decode cX11_guard 36 = .ok (.getfield 53, 3) := by decide +kernel
theorem dX11_guard_39 : decode cX11_guard 39 = .ok (.iconst 0, 1) := by decide +kernel
theorem dX11_guard_40 : decode cX11_guard 40 = .ok (.aaload, 1) := by decide +kernel
theorem dX11_guard_41 : decode cX11_guard 41 = .ok (.astore 6, 2) := by decide +kernel
theorem dX11_guard_43 : decode cX11_guard 43 = .ok (.aload 6, 2) := by decide +kernel
theorem dX11_guard_45 : decode cX11_guard 45 = .ok (.aload 5, 2) := by decide +kernel
theorem dX11_guard_47 : decode cX11_guard 47 = .ok (.iconst (-1), 1) := by decide +kernel
theorem dX11_guard_48 : decode cX11_guard 48 = .ok (.invokevirtual 236, 3) := by decide +kernel
theorem dX11_guard_51 : decode cX11_guard 51 = .ok (.aload 6, 2) := by decide +kernel
theorem dX11_guard_53 : decode cX11_guard 53 = .ok (.iload 4, 2) := by decide +kernel
theorem dX11_guard_55 : decode cX11_guard 55 = .ok (.invokevirtual 272, 3) := by decide +kernel
theorem dX11_guard_58 : decode cX11_guard 58 = .ok (.iconst (-1), 1) := by decide +kernel
theorem dX11_guard_59 : decode cX11_guard 59 = .ok (.if_icmp .ne 5, 3) := by decide +kernel
theorem dX11_guard_64 : decode cX11_guard 64 = .ok (.aload 5, 2) := by decide +kernel
theorem dX11_guard_66 : decode cX11_guard 66 = .ok (.aload_n 0, 1) := by decide +kernel
theorem dX11_guard_67 : decode cX11_guard 67 = .ok (.getfield 11, 3) := by decide +kernel
theorem dX11_guard_70 : decode cX11_guard 70 = .ok (.iload_n 2, 1) := by decide +kernel
theorem dX11_guard_71 : decode cX11_guard 71 = .ok (.aaload, 1) := by decide +kernel
theorem dX11_guard_72 : decode cX11_guard 72 = .ok (.iload 4, 2) := by decide +kernel
theorem dX11_guard_74 : decode cX11_guard 74 = .ok (.invokevirtual 275, 3) := by decide +kernel
theorem dX5_fewestGuarding_0 : decode cX5_fewestGuarding 0 = .ok (.aload_n 0, 1) := by decide +kernel
theorem dX5_fewestGuarding_1 : decode cX5_fewestGuarding 1 = .ok (.aload_n 1, 1) := by decide +kernel
theorem dX5_fewestGuarding_2 : decode cX5_fewestGuarding 2 = .ok (.invokevirtual 73, 3) := by decide +kernel
theorem dX5_touchPapers_0 : decode cX5_touchPapers 0 = .ok (.iconst 0, 1) := by decide +kernel
theorem dX5_touchPapers_1 : decode cX5_touchPapers 1 = .ok (.istore_n 2, 1) := by decide +kernel
theorem dX5_touchPapers_2 : decode cX5_touchPapers 2 = .ok (.iload_n 2, 1) := by decide +kernel
theorem dX5_touchPapers_3 : decode cX5_touchPapers 3 = .ok (.bipush 16, 2) := by decide +kernel
theorem dX5_touchPapers_5 : decode cX5_touchPapers 5 = .ok (.if_icmp .ge 16, 3) := by decide +kernel
theorem dX5_touchPapers_8 : decode cX5_touchPapers 8 = .ok (.aload_n 0, 1) := by decide +kernel
theorem dX5_touchPapers_9 : decode cX5_touchPapers 9 = .ok (.getfield 21, 3) := by decide +kernel
theorem dX5_touchPapers_12 : decode cX5_touchPapers 12 = .ok (.iload_n 2, 1) := by decide +kernel
theorem dX5_touchPapers_13 : decode cX5_touchPapers 13 = .ok (.lconst 0, 1) := by decide +kernel
theorem dX5_touchPapers_14 : decode cX5_touchPapers 14 = .ok (.lastore, 1) := by decide +kernel
theorem dX5_touchPapers_15 : decode cX5_touchPapers 15 = .ok (.iinc 2 1, 3) := by decide +kernel
theorem dX5_touchPapers_18 : decode cX5_touchPapers 18 = .ok (.goto (-16), 3) := by decide +kernel
theorem dX5_touchPapers_21 : decode cX5_touchPapers 21 = .ok (.aload_n 0, 1) := by decide +kernel
theorem dX5_touchPapers_22 : decode cX5_touchPapers 22 = .ok (.getfield 50, 3) := by decide +kernel
theorem dX5_touchPapers_25 : decode cX5_touchPapers 25 = .ok (.istore_n 2, 1) := by decide +kernel
theorem dX5_touchPapers_26 : decode cX5_touchPapers 26 = .ok (.iload_n 2, 1) := by decide +kernel
theorem dX5_touchPapers_27 : decode cX5_touchPapers 27 = .ok (.aload_n 0, 1) := by decide +kernel
theorem dX5_touchPapers_28 : decode cX5_touchPapers 28 = .ok (.getfield 25, 3) := by decide +kernel
theorem dX5_touchPapers_31 : decode cX5_touchPapers 31 = .ok (.if_icmp .ge 68, 3) := by decide +kernel
theorem dX5_touchPapers_34 : decode cX5_touchPapers 34 = .ok (.aload_n 1, 1) := by decide +kernel
theorem dX5_touchPapers_35 : decode cX5_touchPapers 35 = .ok (.aload_n 0, 1) := by decide +kernel
theorem dX5_touchPapers_36 : decode cX5_touchPapers 36 = .ok (.getfield 9, 3) := by decide +kernel
theorem dX5_touchPapers_39 : decode cX5_touchPapers 39 = .ok (.iload_n 2, 1) := by decide +kernel
theorem dX5_touchPapers_40 : decode cX5_touchPapers 40 = .ok (.iaload, 1) := by decide +kernel
theorem dX5_touchPapers_41 : decode cX5_touchPapers 41 = .ok (.ldc 53, 2) := by decide +kernel
theorem dX5_touchPapers_43 : decode cX5_touchPapers 43 = .ok (.iand, 1) := by decide +kernel
theorem dX5_touchPapers_44 : decode cX5_touchPapers 44 = .ok (.invokevirtual 77, 3) := by decide +kernel
theorem dX5_touchPapers_47 : decode cX5_touchPapers 47 = .ok (.istore_n 3, 1) := by decide +kernel
theorem dX5_touchPapers_48 : decode cX5_touchPapers 48 = .ok (.iconst 0, 1) := by decide +kernel
theorem dX5_touchPapers_49 : decode cX5_touchPapers 49 = .ok (.istore 4, 2) := by decide +kernel
theorem dX5_touchPapers_51 : decode cX5_touchPapers 51 = .ok (.iload 4, 2) := by decide +kernel
theorem dX5_touchPapers_53 : decode cX5_touchPapers 53 = .ok (.aload_n 1, 1) := by decide +kernel
theorem dX5_touchPapers_54 : decode cX5_touchPapers 54 = .ok (.getfield 43, 3) := by decide +kernel
theorem dX5_touchPapers_57 : decode cX5_touchPapers 57 = .ok (.if_icmp .ge 36, 3) := by decide +kernel
theorem dX5_touchPapers_60 : decode cX5_touchPapers 60 = .ok (.iload_n 3, 1) := by decide +kernel
theorem dX5_touchPapers_61 : decode cX5_touchPapers 61 = .ok (.iload 4, 2) := by decide +kernel
theorem dX5_touchPapers_63 : decode cX5_touchPapers 63 = .ok (.ishr, 1) := by decide +kernel
theorem dX5_touchPapers_64 : decode cX5_touchPapers 64 = .ok (.iconst 1, 1) := by decide +kernel
theorem dX5_touchPapers_65 : decode cX5_touchPapers 65 = .ok (.iand, 1) := by decide +kernel
theorem dX5_touchPapers_66 : decode cX5_touchPapers 66 = .ok (.ifCond .eq 21, 3) := by decide +kernel
theorem dX5_touchPapers_69 : decode cX5_touchPapers 69 = .ok (.aload_n 0, 1) := by decide +kernel
theorem dX5_touchPapers_70 : decode cX5_touchPapers 70 = .ok (.getfield 21, 3) := by decide +kernel
theorem dX5_touchPapers_73 : decode cX5_touchPapers 73 = .ok (.iload 4, 2) := by decide +kernel
theorem dX5_touchPapers_75 : decode cX5_touchPapers 75 = .ok (.dup2, 1) := by decide +kernel
theorem dX5_touchPapers_76 : decode cX5_touchPapers 76 = .ok (.laload, 1) := by decide +kernel
theorem dX5_touchPapers_77 : decode cX5_touchPapers 77 = .ok (.lconst 1, 1) := by decide +kernel
theorem dX5_touchPapers_78 : decode cX5_touchPapers 78 = .ok (.iload_n 2, 1) := by decide +kernel
theorem dX5_touchPapers_79 : decode cX5_touchPapers 79 = .ok (.aload_n 0, 1) := by decide +kernel
theorem dX5_touchPapers_80 : decode cX5_touchPapers 80 = .ok (.getfield 50, 3) := by decide +kernel
theorem dX5_touchPapers_83 : decode cX5_touchPapers 83 = .ok (.isub, 1) := by decide +kernel
theorem dX5_touchPapers_84 : decode cX5_touchPapers 84 = .ok (.lshl, 1) := by decide +kernel
theorem dX5_touchPapers_85 : decode cX5_touchPapers 85 = .ok (.lor, 1) := by decide +kernel
theorem dX5_touchPapers_86 : decode cX5_touchPapers 86 = .ok (.lastore, 1) := by decide +kernel
theorem dX5_touchPapers_87 : decode cX5_touchPapers 87 = .ok (.iinc 4 1, 3) := by decide +kernel
theorem dX5_touchPapers_90 : decode cX5_touchPapers 90 = .ok (.goto (-39), 3) := by decide +kernel
theorem dX5_touchPapers_93 : decode cX5_touchPapers 93 = .ok (.iinc 2 1, 3) := by decide +kernel
theorem dX5_touchPapers_96 : decode cX5_touchPapers 96 = .ok (.goto (-70), 3) := by decide +kernel
theorem dX5_touchPapers_99 : decode cX5_touchPapers 99 = .ok (.return_, 1) := by decide +kernel
set_option maxHeartbeats 4000000 in
set_option maxRecDepth 100000 in
theorem s_X5_touchPapers {P : PP} {a0 : Nat} {a1 : Nat} (I : IV P) (ha0 : At P a0 5) (ha1 : At P a1 1) : CtrV yX5_touchPapers cX5_touchPapers 5 none ({ frames := 2, cells := 0, slots := 0, locals := 128 } : Room) 0 0 P [.ref a0, .ref a1] (fun P2 => IV P2 ∧ EK [] P P2) := by
  refine enV (lv := [(0, .ref a0), (1, .ref a1)]) (by decide) (Nat.le_of_ble_eq_true rfl) rfl (fun E D cy C Ci0 ret => ?_)
  have J26 : ∀ (n26 : Nat) (P26 : PP) (v26_2 : Int32), (44 - v26_2.toInt).toNat < n26 → (IV P26) → (EK [] P P26) → (0 ≤ v26_2.toInt ∧ v26_2.toInt ≤ 44) → G E ({ frames := 2, cells := 0, slots := 0, locals := 128 } : Room) D cy 5 P26 0 0 26 [(0, .ref a0), (1, .ref a1), (2, .int v26_2)] [] := by
    intro n26
    induction n26 with
    | zero => intro P26 v26_2 hm26 I26 X26 hv26_2; omega
    | succ n26 ih26 =>
      intro P26 v26_2 hm26 I26 X26 hv26_2
      have h22101 := X26.at ha0
      have h22102 := X26.at ha1
      have J51 : ∀ (n51 : Nat) (P51 : PP) (v51_3 : Int32) (v51_4 : Int32), (16 - v51_4.toInt).toNat < n51 → (IV P51) → (EK [] P P51) → (0 ≤ v26_2.toInt ∧ v26_2.toInt ≤ 43) → (0 ≤ v51_4.toInt ∧ v51_4.toInt ≤ 16) → (1 ≤ (pI P51 a0 4).toInt ∧ (pI P51 a0 4).toInt ≤ 44) → G E ({ frames := 2, cells := 0, slots := 0, locals := 128 } : Room) D cy 5 P51 0 0 51 [(0, .ref a0), (1, .ref a1), (2, .int v26_2), (3, .int v51_3), (4, .int v51_4)] [] := by
        intro n51
        induction n51 with
        | zero => intro P51 v51_3 v51_4 hm51 I51 X51 hv51_2 hv51_4 hq51_0; omega
        | succ n51 ih51 =>
          intro P51 v51_3 v51_4 hm51 I51 X51 hv51_2 hv51_4 hq51_0
          have h22103 := X51.at ha0
          have h22104 := X51.at ha1
          have J87 : ∀ (P87 : PP), (IV P87) → (EK [] P P87) → (0 ≤ v26_2.toInt ∧ v26_2.toInt ≤ 43) → (0 ≤ v51_4.toInt ∧ v51_4.toInt ≤ 15) → (1 ≤ (pI P87 a0 4).toInt ∧ (pI P87 a0 4).toInt ≤ 44) → (1 ≤ (pI P87 a1 5).toInt ∧ (pI P87 a1 5).toInt ≤ 16) → G E ({ frames := 2, cells := 0, slots := 0, locals := 128 } : Room) D cy 5 P87 0 0 87 [(0, .ref a0), (1, .ref a1), (2, .int v26_2), (3, .int v51_3), (4, .int v51_4)] [] := by
            intro P87 I87 X87 hv87_2 hv87_4 hq87_0 hq87_1
            have h22105 := X87.at ha0
            have h22106 := X87.at ha1
            refine s_iinc (lv0 := [(0, .ref a0), (1, .ref a1), (2, .int v26_2), (3, .int v51_3)]) (m := 1) C dX5_touchPapers_87 4 rfl (by decide) rfl (by decide) (by omega) (fun z22107 h22108 => ?_)
            have h22108 : z22107.toInt = v51_4.toInt + 1 := h22108
            refine g_goto C 51 dX5_touchPapers_90 (by decide) ?_
            refine g_lv (lv' := [(0, .ref a0), (1, .ref a1), (2, .int v26_2), (3, .int v51_3), (4, .int z22107)]) [1, 2, 3, 4, 0] rfl ?_
            exact ih51 P87 v51_3 z22107 (by omega) I87 X87 (by omega) (by omega) (by omega)
          refine g_iload C dX5_touchPapers_51 4 rfl ?_
          refine g_aload_n C dX5_touchPapers_53 rfl 1 rfl ?_
          refine g_getI C fi_X5_43 (by decide) (h22104).1 (h22104).2 dX5_touchPapers_54 ?_
          have h22109 := I51.rg (h22104) 5 rfl
          refine b_icmp_ge C 93 dX5_touchPapers_57 (by decide) (fun h22110 => ?_) (fun h22110 => ?_)
          · have h22110 : (pI P51 a1 5).toInt ≤ v51_4.toInt := h22110
            refine s_iinc (lv0 := [(0, .ref a0), (1, .ref a1), (3, .int v51_3), (4, .int v51_4)]) (m := 1) C dX5_touchPapers_93 2 rfl (by decide) rfl (by decide) (by omega) (fun z22111 h22112 => ?_)
            have h22112 : z22111.toInt = v26_2.toInt + 1 := h22112
            refine g_goto C 26 dX5_touchPapers_96 (by decide) ?_
            refine g_lv (lv' := [(0, .ref a0), (1, .ref a1), (2, .int z22111)]) [1, 2, 0] rfl ?_
            exact ih26 P51 z22111 (by omega) I51 X51 (by omega)
          · have h22110 : v51_4.toInt < (pI P51 a1 5).toInt := h22110
            refine g_iload_n C dX5_touchPapers_60 rfl 3 rfl ?_
            refine g_iload C dX5_touchPapers_61 4 rfl ?_
            refine a_ishr C dX5_touchPapers_63 (fun z22113 => ?_)
            refine g_iconst (v := 1) C dX5_touchPapers_64 (by decide) ?_
            refine s_iand C dX5_touchPapers_65 (by show 0 ≤ 1; omega) (fun z22115 h22116 => ?_)
            have h22116 : 0 ≤ z22115.toInt ∧ z22115.toInt ≤ 1 := h22116
            refine b_if_eq C 87 dX5_touchPapers_66 (by decide) (fun h22117 => ?_) (fun h22117 => ?_)
            · have h22117 : z22115.toInt = 0 := congrArg Int32.toInt h22117
              exact J87 P51 I51 X51 (by omega) (by omega) (by omega) (by omega)
            · have h22117 : z22115.toInt ≠ 0 := ti_ne h22117
              refine g_aload_n C dX5_touchPapers_69 rfl 0 rfl ?_
              obtain ⟨b22118, e22119, h22120⟩ := I51.fld (h22103) 3 14 16 rfl
              refine g_getR C fi_X5_21 rfl e22119 (h22103).1 (h22103).2 dX5_touchPapers_70 ?_
              refine g_iload C dX5_touchPapers_73 4 rfl ?_
              refine g_dup2_11 C dX5_touchPapers_75 rfl rfl ?_
              refine g_lald (j := (v51_4.toInt.toNat)) C h22120.1 h22120.2.1 (ix_in h22120.2.2 (by omega)) dX5_touchPapers_76 ?_
              refine g_topl (fun l22121 _ => ?_)
              refine g_lconst (v := 1) C dX5_touchPapers_77 (by decide) ?_
              refine g_iload_n C dX5_touchPapers_78 rfl 2 rfl ?_
              refine g_aload_n C dX5_touchPapers_79 rfl 0 rfl ?_
              refine g_getI C fi_X5_50 (by decide) (h22103).1 (h22103).2 dX5_touchPapers_80 ?_
              have h22122 := I51.rg (h22103) 5 rfl
              refine s_isub C dX5_touchPapers_83 (by show -2147483648 ≤ v26_2.toInt - (pI P51 a0 5).toInt ∧ v26_2.toInt - (pI P51 a0 5).toInt ≤ 2147483647; omega) (fun z22123 h22124 => ?_)
              have h22124 : z22123.toInt = v26_2.toInt - (pI P51 a0 5).toInt := h22124
              refine a_lshl C dX5_touchPapers_84 (fun l22125 => ?_)
              refine a_lor C dX5_touchPapers_85 (fun l22126 => ?_)
              refine g_last (j := (v51_4.toInt.toNat)) C h22120.1 h22120.2.1 (ix_in h22120.2.2 (by omega)) dX5_touchPapers_86 ?_
              refine gp (ks := []) (I51.setJ) (EK.setJ) (fun Y22127 Iy22128 Xy22129 => ?_)
              have q22130 := Xy22129.keep h22103 (by decide) 4
              have q22131 := Xy22129.keep h22104 (by decide) 5
              have q22132 := Xy22129.keep h22103 (by decide) 5
              have Xz22133 : EK [] P Y22127 := X51.tr (Xy22129.mono (by decide))
              have h22134 := Xy22129.at h22103
              have h22135 := Xy22129.at h22104
              exact J87 Y22127 Iy22128 Xz22133 (by omega) (by omega) (by omega) (by omega)
      refine g_iload_n C dX5_touchPapers_26 rfl 2 rfl ?_
      refine g_aload_n C dX5_touchPapers_27 rfl 0 rfl ?_
      refine g_getI C fi_X5_25 (by decide) (h22101).1 (h22101).2 dX5_touchPapers_28 ?_
      have h22136 := I26.rg (h22101) 4 rfl
      refine b_icmp_ge C 99 dX5_touchPapers_31 (by decide) (fun h22137 => ?_) (fun h22137 => ?_)
      · have h22137 : (pI P26 a0 4).toInt ≤ v26_2.toInt := h22137
        exact ret _ _ _ _ _ dX5_touchPapers_99 (by decide) (by decide) ⟨I26, X26⟩
      · have h22137 : v26_2.toInt < (pI P26 a0 4).toInt := h22137
        refine g_aload_n C dX5_touchPapers_34 rfl 1 rfl ?_
        refine g_aload_n C dX5_touchPapers_35 rfl 0 rfl ?_
        obtain ⟨b22138, e22139, h22140⟩ := I26.fld (h22101) 0 13 44 rfl
        refine g_getR C fi_X5_9 rfl e22139 (h22101).1 (h22101).2 dX5_touchPapers_36 ?_
        refine g_iload_n C dX5_touchPapers_39 rfl 2 rfl ?_
        refine g_iald (j := (v26_2.toInt.toNat)) C h22140.1 h22140.2.1 (ix_in h22140.2.2 (by omega)) dX5_touchPapers_40 ?_
        refine g_topi (fun z22141 _ => ?_)
        refine g_ldc (v := 1048575) C kc_X5_53 dX5_touchPapers_41 ?_
        refine s_iand C dX5_touchPapers_43 (by show 0 ≤ 1048575; omega) (fun z22142 h22143 => ?_)
        have h22143 : 0 ≤ z22142.toInt ∧ z22142.toInt ≤ 1048575 := h22143
        refine g_callVI (rest := []) C mv_X5_77 [.int z22142] (s_X1_withoutHidden I26 h22102) (h22102).1 (h22102).2 rfl rfl (by decide) (Nat.le_of_ble_eq_true rfl) (by decide) dX5_touchPapers_44 (fun r22144 Y22145 h22146 => ?_)
        obtain ⟨rfl, h22146⟩ := h22146
        have h22146 : True := h22146
        refine g_istore_n (lv' := [(3, .int r22144), (0, .ref a0), (1, .ref a1), (2, .int v26_2)]) C dX5_touchPapers_47 rfl (by decide) rfl ?_
        refine g_iconst (v := 0) C dX5_touchPapers_48 (by decide) ?_
        refine g_istore (lv' := [(4, .int 0), (3, .int r22144), (0, .ref a0), (1, .ref a1), (2, .int v26_2)]) C dX5_touchPapers_49 (by decide) rfl ?_
        refine g_lv (lv' := [(0, .ref a0), (1, .ref a1), (2, .int v26_2), (3, .int r22144), (4, .int 0)]) [2, 3, 4, 1, 0] rfl ?_
        exact J51 _ P26 r22144 0 (Nat.lt_succ_self _) I26 X26 (by omega) (by decide) (by omega)
  have J2 : ∀ (n2 : Nat) (P2 : PP) (v2_2 : Int32), (16 - v2_2.toInt).toNat < n2 → (IV P2) → (EK [] P P2) → (0 ≤ v2_2.toInt ∧ v2_2.toInt ≤ 16) → G E ({ frames := 2, cells := 0, slots := 0, locals := 128 } : Room) D cy 5 P2 0 0 2 [(0, .ref a0), (1, .ref a1), (2, .int v2_2)] [] := by
    intro n2
    induction n2 with
    | zero => intro P2 v2_2 hm2 I2 X2 hv2_2; omega
    | succ n2 ih2 =>
      intro P2 v2_2 hm2 I2 X2 hv2_2
      have h22147 := X2.at ha0
      have h22148 := X2.at ha1
      refine g_iload_n C dX5_touchPapers_2 rfl 2 rfl ?_
      refine g_bipush (v := 16) C dX5_touchPapers_3 (by decide) ?_
      refine b_icmp_ge C 21 dX5_touchPapers_5 (by decide) (fun h22149 => ?_) (fun h22149 => ?_)
      · have h22149 : 16 ≤ v2_2.toInt := h22149
        refine g_aload_n C dX5_touchPapers_21 rfl 0 rfl ?_
        refine g_getI C fi_X5_50 (by decide) (h22147).1 (h22147).2 dX5_touchPapers_22 ?_
        have h22150 := I2.rg (h22147) 5 rfl
        refine g_topi (fun z22151 h22152 => ?_)
        have h22152 : z22151.toInt = (pI P2 a0 5).toInt := congrArg Int32.toInt h22152
        refine g_istore_n (lv' := [(2, .int z22151), (0, .ref a0), (1, .ref a1)]) C dX5_touchPapers_25 rfl (by decide) rfl ?_
        refine g_lv (lv' := [(0, .ref a0), (1, .ref a1), (2, .int z22151)]) [1, 2, 0] rfl ?_
        exact J26 _ P2 z22151 (Nat.lt_succ_self _) I2 X2 (by omega)
      · have h22149 : v2_2.toInt < 16 := h22149
        refine g_aload_n C dX5_touchPapers_8 rfl 0 rfl ?_
        obtain ⟨b22153, e22154, h22155⟩ := I2.fld (h22147) 3 14 16 rfl
        refine g_getR C fi_X5_21 rfl e22154 (h22147).1 (h22147).2 dX5_touchPapers_9 ?_
        refine g_iload_n C dX5_touchPapers_12 rfl 2 rfl ?_
        refine g_lconst (v := 0) C dX5_touchPapers_13 (by decide) ?_
        refine g_last (j := (v2_2.toInt.toNat)) C h22155.1 h22155.2.1 (ix_in h22155.2.2 (by omega)) dX5_touchPapers_14 ?_
        refine gp (ks := []) (I2.setJ) (EK.setJ) (fun Y22156 Iy22157 Xy22158 => ?_)
        have Xz22159 : EK [] P Y22156 := X2.tr (Xy22158.mono (by decide))
        have h22160 := Xy22158.at h22147
        have h22161 := Xy22158.at h22148
        refine s_iinc (lv0 := [(0, .ref a0), (1, .ref a1)]) (m := 1) C dX5_touchPapers_15 2 rfl (by decide) rfl (by decide) (by omega) (fun z22162 h22163 => ?_)
        have h22163 : z22162.toInt = v2_2.toInt + 1 := h22163
        refine g_goto C 2 dX5_touchPapers_18 (by decide) ?_
        refine g_lv (lv' := [(0, .ref a0), (1, .ref a1), (2, .int z22162)]) [1, 2, 0] rfl ?_
        exact ih2 Y22156 z22162 (by omega) Iy22157 Xz22159 (by omega)
  refine g_iconst (v := 0) C dX5_touchPapers_0 (by decide) ?_
  refine g_istore_n (lv' := [(2, .int 0), (0, .ref a0), (1, .ref a1)]) C dX5_touchPapers_1 rfl (by decide) rfl ?_
  refine g_lv (lv' := [(0, .ref a0), (1, .ref a1), (2, .int 0)]) [1, 2, 0] rfl ?_
  exact J2 _ P 0 (Nat.lt_succ_self _) I EK.rf (by decide)
theorem dX5_fewestGuarding_5 : decode cX5_fewestGuarding 5 = .ok (.aload_n 1, 1) := by decide +kernel
theorem dX5_fewestGuarding_6 : decode cX5_fewestGuarding 6 = .ok (.iconst 1, 1) := by decide +kernel
theorem dX5_fewestGuarding_7 : decode cX5_fewestGuarding 7 = .ok (.iload_n 2, 1) := by decide +kernel
theorem dX5_fewestGuarding_8 : decode cX5_fewestGuarding 8 = .ok (.ishl, 1) := by decide +kernel
theorem dX5_fewestGuarding_9 : decode cX5_fewestGuarding 9 = .ok (.invokevirtual 77, 3) := by decide +kernel
theorem dX5_fewestGuarding_12 : decode cX5_fewestGuarding 12 = .ok (.istore_n 3, 1) := by decide +kernel
theorem dX5_fewestGuarding_13 : decode cX5_fewestGuarding 13 = .ok (.iload_n 3, 1) := by decide +kernel
theorem dX5_fewestGuarding_14 : decode cX5_fewestGuarding 14 = .ok (.invokestatic 62, 3) := by decide +kernel
theorem dX11_lowestPlace_0 : decode cX11_lowestPlace 0 = .ok (.iload_n 0, 1) := by decide +kernel
theorem dX11_lowestPlace_1 : decode cX11_lowestPlace 1 = .ok (.iload_n 0, 1) := by decide +kernel
theorem dX11_lowestPlace_2 : decode cX11_lowestPlace 2 = .ok (.ineg, 1) := by decide +kernel
theorem dX11_lowestPlace_3 : decode cX11_lowestPlace 3 = .ok (.iand, 1) := by decide +kernel
theorem dX11_lowestPlace_4 : decode cX11_lowestPlace 4 = .ok (.iconst 1, 1) := by decide +kernel
theorem dX11_lowestPlace_5 : decode cX11_lowestPlace 5 = .ok (.isub, 1) := by decide +kernel
theorem dX11_lowestPlace_6 : decode cX11_lowestPlace 6 = .ok (.invokestatic 150, 3) := by decide +kernel
theorem dJ6_bitCount_0f7a4_0 : decode cJ6_bitCount_0f7a4 0 = .ok (.iload_n 0, 1) := by decide +kernel
theorem dJ6_bitCount_0f7a4_1 : decode cJ6_bitCount_0f7a4 1 = .ok (.iload_n 0, 1) := by decide +kernel
theorem dJ6_bitCount_0f7a4_2 : decode cJ6_bitCount_0f7a4 2 = .ok (.iconst 1, 1) := by decide +kernel
theorem dJ6_bitCount_0f7a4_3 : decode cJ6_bitCount_0f7a4 3 = .ok (.iushr, 1) := by decide +kernel
theorem dJ6_bitCount_0f7a4_4 : decode cJ6_bitCount_0f7a4 4 = .ok (.ldc_w 265, 3) := by decide +kernel
theorem dJ6_bitCount_0f7a4_7 : decode cJ6_bitCount_0f7a4 7 = .ok (.iand, 1) := by decide +kernel
theorem dJ6_bitCount_0f7a4_8 : decode cJ6_bitCount_0f7a4 8 = .ok (.isub, 1) := by decide +kernel
theorem dJ6_bitCount_0f7a4_9 : decode cJ6_bitCount_0f7a4 9 = .ok (.istore_n 0, 1) := by decide +kernel
theorem dJ6_bitCount_0f7a4_10 : decode cJ6_bitCount_0f7a4 10 = .ok (.iload_n 0, 1) := by decide +kernel
theorem dJ6_bitCount_0f7a4_11 : decode cJ6_bitCount_0f7a4 11 = .ok (.ldc_w 266, 3) := by decide +kernel
theorem dJ6_bitCount_0f7a4_14 : decode cJ6_bitCount_0f7a4 14 = .ok (.iand, 1) := by decide +kernel
theorem dJ6_bitCount_0f7a4_15 : decode cJ6_bitCount_0f7a4 15 = .ok (.iload_n 0, 1) := by decide +kernel
theorem dJ6_bitCount_0f7a4_16 : decode cJ6_bitCount_0f7a4 16 = .ok (.iconst 2, 1) := by decide +kernel
theorem dJ6_bitCount_0f7a4_17 : decode cJ6_bitCount_0f7a4 17 = .ok (.iushr, 1) := by decide +kernel
theorem dJ6_bitCount_0f7a4_18 : decode cJ6_bitCount_0f7a4 18 = .ok (.ldc_w 266, 3) := by decide +kernel
theorem dJ6_bitCount_0f7a4_21 : decode cJ6_bitCount_0f7a4 21 = .ok (.iand, 1) := by decide +kernel
theorem dJ6_bitCount_0f7a4_22 : decode cJ6_bitCount_0f7a4 22 = .ok (.iadd, 1) := by decide +kernel
theorem dJ6_bitCount_0f7a4_23 : decode cJ6_bitCount_0f7a4 23 = .ok (.istore_n 0, 1) := by decide +kernel
theorem dJ6_bitCount_0f7a4_24 : decode cJ6_bitCount_0f7a4 24 = .ok (.iload_n 0, 1) := by decide +kernel
theorem dJ6_bitCount_0f7a4_25 : decode cJ6_bitCount_0f7a4 25 = .ok (.iload_n 0, 1) := by decide +kernel
theorem dJ6_bitCount_0f7a4_26 : decode cJ6_bitCount_0f7a4 26 = .ok (.iconst 4, 1) := by decide +kernel
theorem dJ6_bitCount_0f7a4_27 : decode cJ6_bitCount_0f7a4 27 = .ok (.iushr, 1) := by decide +kernel
theorem dJ6_bitCount_0f7a4_28 : decode cJ6_bitCount_0f7a4 28 = .ok (.iadd, 1) := by decide +kernel
theorem dJ6_bitCount_0f7a4_29 : decode cJ6_bitCount_0f7a4 29 = .ok (.ldc_w 267, 3) := by decide +kernel
theorem dJ6_bitCount_0f7a4_32 : decode cJ6_bitCount_0f7a4 32 = .ok (.iand, 1) := by decide +kernel
theorem dJ6_bitCount_0f7a4_33 : decode cJ6_bitCount_0f7a4 33 = .ok (.istore_n 0, 1) := by decide +kernel
theorem dJ6_bitCount_0f7a4_34 : decode cJ6_bitCount_0f7a4 34 = .ok (.iload_n 0, 1) := by decide +kernel
theorem dJ6_bitCount_0f7a4_35 : decode cJ6_bitCount_0f7a4 35 = .ok (.iload_n 0, 1) := by decide +kernel
theorem dJ6_bitCount_0f7a4_36 : decode cJ6_bitCount_0f7a4 36 = .ok (.bipush 8, 2) := by decide +kernel
theorem dJ6_bitCount_0f7a4_38 : decode cJ6_bitCount_0f7a4 38 = .ok (.iushr, 1) := by decide +kernel
theorem dJ6_bitCount_0f7a4_39 : decode cJ6_bitCount_0f7a4 39 = .ok (.iadd, 1) := by decide +kernel
theorem dJ6_bitCount_0f7a4_40 : decode cJ6_bitCount_0f7a4 40 = .ok (.istore_n 0, 1) := by decide +kernel
theorem dJ6_bitCount_0f7a4_41 : decode cJ6_bitCount_0f7a4 41 = .ok (.iload_n 0, 1) := by decide +kernel
theorem dJ6_bitCount_0f7a4_42 : decode cJ6_bitCount_0f7a4 42 = .ok (.iload_n 0, 1) := by decide +kernel
theorem dJ6_bitCount_0f7a4_43 : decode cJ6_bitCount_0f7a4 43 = .ok (.bipush 16, 2) := by decide +kernel
theorem dJ6_bitCount_0f7a4_45 : decode cJ6_bitCount_0f7a4 45 = .ok (.iushr, 1) := by decide +kernel
theorem dJ6_bitCount_0f7a4_46 : decode cJ6_bitCount_0f7a4 46 = .ok (.iadd, 1) := by decide +kernel
theorem dJ6_bitCount_0f7a4_47 : decode cJ6_bitCount_0f7a4 47 = .ok (.istore_n 0, 1) := by decide +kernel
theorem dJ6_bitCount_0f7a4_48 : decode cJ6_bitCount_0f7a4 48 = .ok (.iload_n 0, 1) := by decide +kernel
theorem dJ6_bitCount_0f7a4_49 : decode cJ6_bitCount_0f7a4 49 = .ok (.bipush 63, 2) := by decide +kernel
theorem dJ6_bitCount_0f7a4_51 : decode cJ6_bitCount_0f7a4 51 = .ok (.iand, 1) := by decide +kernel
theorem dJ6_bitCount_0f7a4_52 : decode cJ6_bitCount_0f7a4 52 = .ok (.ireturn, 1) := by decide +kernel
set_option maxHeartbeats 4000000 in
set_option maxRecDepth 100000 in
theorem s_J6_bitCount_0f7a4 {P : PP} {a0 : Int32} (I : IV P) : CtrI yJ6_bitCount_0f7a4 cJ6_bitCount_0f7a4 1 (some Jvm.ClassFile.FieldType.int) ({ frames := 1, cells := 0, slots := 0, locals := 64 } : Room) 0 0 P [.int a0] (fun r P2 => P = P2 ∧ (0 ≤ r.toInt ∧ r.toInt ≤ 63)) := by
  refine enI (lv := [(0, .int a0)]) (by decide) (Nat.le_of_ble_eq_true rfl) rfl (fun E D cy C Ci0 ret => ?_)
  refine g_iload_n C dJ6_bitCount_0f7a4_0 rfl 0 rfl ?_
  refine g_iload_n C dJ6_bitCount_0f7a4_1 rfl 0 rfl ?_
  refine g_iconst (v := 1) C dJ6_bitCount_0f7a4_2 (by decide) ?_
  refine a_iushr C dJ6_bitCount_0f7a4_3 (fun z22212 => ?_)
  refine g_ldcw (v := 1431655765) C kc_J6_265 dJ6_bitCount_0f7a4_4 ?_
  refine s_iand C dJ6_bitCount_0f7a4_7 (by show 0 ≤ 1431655765; omega) (fun z22214 h22215 => ?_)
  have h22215 : 0 ≤ z22214.toInt ∧ z22214.toInt ≤ 1431655765 := h22215
  refine a_isub C dJ6_bitCount_0f7a4_8 (fun z22216 => ?_)
  refine g_istore_n (lv' := [(0, .int z22216)]) C dJ6_bitCount_0f7a4_9 rfl (by decide) rfl ?_
  refine g_iload_n C dJ6_bitCount_0f7a4_10 rfl 0 rfl ?_
  refine g_ldcw (v := 858993459) C kc_J6_266 dJ6_bitCount_0f7a4_11 ?_
  refine s_iand C dJ6_bitCount_0f7a4_14 (by show 0 ≤ 858993459; omega) (fun z22218 h22219 => ?_)
  have h22219 : 0 ≤ z22218.toInt ∧ z22218.toInt ≤ 858993459 := h22219
  refine g_iload_n C dJ6_bitCount_0f7a4_15 rfl 0 rfl ?_
  refine g_iconst (v := 2) C dJ6_bitCount_0f7a4_16 (by decide) ?_
  refine a_iushr C dJ6_bitCount_0f7a4_17 (fun z22220 => ?_)
  refine g_ldcw (v := 858993459) C kc_J6_266 dJ6_bitCount_0f7a4_18 ?_
  refine s_iand C dJ6_bitCount_0f7a4_21 (by show 0 ≤ 858993459; omega) (fun z22222 h22223 => ?_)
  have h22223 : 0 ≤ z22222.toInt ∧ z22222.toInt ≤ 858993459 := h22223
  refine s_iadd C dJ6_bitCount_0f7a4_22 (by show -2147483648 ≤ z22218.toInt + z22222.toInt ∧ z22218.toInt + z22222.toInt ≤ 2147483647; omega) (fun z22224 h22225 => ?_)
  have h22225 : z22224.toInt = z22218.toInt + z22222.toInt := h22225
  refine g_istore_n (lv' := [(0, .int z22224)]) C dJ6_bitCount_0f7a4_23 rfl (by decide) rfl ?_
  refine g_iload_n C dJ6_bitCount_0f7a4_24 rfl 0 rfl ?_
  refine g_iload_n C dJ6_bitCount_0f7a4_25 rfl 0 rfl ?_
  refine g_iconst (v := 4) C dJ6_bitCount_0f7a4_26 (by decide) ?_
  refine a_iushr C dJ6_bitCount_0f7a4_27 (fun z22226 => ?_)
  refine a_iadd C dJ6_bitCount_0f7a4_28 (fun z22228 => ?_)
  refine g_ldcw (v := 252645135) C kc_J6_267 dJ6_bitCount_0f7a4_29 ?_
  refine s_iand C dJ6_bitCount_0f7a4_32 (by show 0 ≤ 252645135; omega) (fun z22230 h22231 => ?_)
  have h22231 : 0 ≤ z22230.toInt ∧ z22230.toInt ≤ 252645135 := h22231
  refine g_istore_n (lv' := [(0, .int z22230)]) C dJ6_bitCount_0f7a4_33 rfl (by decide) rfl ?_
  refine g_iload_n C dJ6_bitCount_0f7a4_34 rfl 0 rfl ?_
  refine g_iload_n C dJ6_bitCount_0f7a4_35 rfl 0 rfl ?_
  refine g_bipush (v := 8) C dJ6_bitCount_0f7a4_36 (by decide) ?_
  refine a_iushr C dJ6_bitCount_0f7a4_38 (fun z22232 => ?_)
  refine a_iadd C dJ6_bitCount_0f7a4_39 (fun z22234 => ?_)
  refine g_istore_n (lv' := [(0, .int z22234)]) C dJ6_bitCount_0f7a4_40 rfl (by decide) rfl ?_
  refine g_iload_n C dJ6_bitCount_0f7a4_41 rfl 0 rfl ?_
  refine g_iload_n C dJ6_bitCount_0f7a4_42 rfl 0 rfl ?_
  refine g_bipush (v := 16) C dJ6_bitCount_0f7a4_43 (by decide) ?_
  refine a_iushr C dJ6_bitCount_0f7a4_45 (fun z22236 => ?_)
  refine a_iadd C dJ6_bitCount_0f7a4_46 (fun z22238 => ?_)
  refine g_istore_n (lv' := [(0, .int z22238)]) C dJ6_bitCount_0f7a4_47 rfl (by decide) rfl ?_
  refine g_iload_n C dJ6_bitCount_0f7a4_48 rfl 0 rfl ?_
  refine g_bipush (v := 63) C dJ6_bitCount_0f7a4_49 (by decide) ?_
  refine s_iand C dJ6_bitCount_0f7a4_51 (by show 0 ≤ 63; omega) (fun z22240 h22241 => ?_)
  have h22241 : 0 ≤ z22240.toInt ∧ z22240.toInt ≤ 63 := h22241
  exact ret _ _ _ _ _ _ dJ6_bitCount_0f7a4_52 rfl (by decide) (by decide) ⟨rfl, (by omega)⟩
theorem dX11_lowestPlace_9 : decode cX11_lowestPlace 9 = .ok (.ireturn, 1) := by decide +kernel
set_option maxHeartbeats 4000000 in
set_option maxRecDepth 100000 in
theorem s_X11_lowestPlace {P : PP} {a0 : Int32} (I : IV P) : CtrI yX11_lowestPlace cX11_lowestPlace 1 (some Jvm.ClassFile.FieldType.int) ({ frames := 2, cells := 0, slots := 0, locals := 128 } : Room) 0 0 P [.int a0] (fun r P2 => P = P2 ∧ (0 ≤ r.toInt ∧ r.toInt ≤ 63)) := by
  refine enI (lv := [(0, .int a0)]) (by decide) (Nat.le_of_ble_eq_true rfl) rfl (fun E D cy C Ci0 ret => ?_)
  refine g_iload_n C dX11_lowestPlace_0 rfl 0 rfl ?_
  refine g_iload_n C dX11_lowestPlace_1 rfl 0 rfl ?_
  refine a_ineg C dX11_lowestPlace_2 (fun z22250 => ?_)
  refine a_iand C dX11_lowestPlace_3 (fun z22251 => ?_)
  refine g_iconst (v := 1) C dX11_lowestPlace_4 (by decide) ?_
  refine a_isub C dX11_lowestPlace_5 (fun z22253 => ?_)
  refine g_callSI (b := 0) (ci := 0) (rest := []) C ms_X11_150 [.int z22253] (s_J6_bitCount_0f7a4 I) rfl rfl (by decide) (Nat.le_of_ble_eq_true rfl) (by decide) dX11_lowestPlace_6 (fun r22255 Y22256 h22257 => ?_)
  obtain ⟨rfl, h22257⟩ := h22257
  have h22257 : 0 ≤ r22255.toInt ∧ r22255.toInt ≤ 63 := h22257
  exact ret _ _ _ _ _ _ dX11_lowestPlace_9 rfl (by decide) (by decide) ⟨rfl, (by omega)⟩
theorem dX5_fewestGuarding_17 : decode cX5_fewestGuarding 17 = .ok (.istore 4, 2) := by decide +kernel
theorem dX5_fewestGuarding_19 : decode cX5_fewestGuarding 19 = .ok (.aload_n 1, 1) := by decide +kernel
theorem dX5_fewestGuarding_20 : decode cX5_fewestGuarding 20 = .ok (.getfield 43, 3) := by decide +kernel
theorem dX5_fewestGuarding_23 : decode cX5_fewestGuarding 23 = .ok (.iconst 1, 1) := by decide +kernel
theorem dX5_fewestGuarding_24 : decode cX5_fewestGuarding 24 = .ok (.isub, 1) := by decide +kernel
theorem dX5_fewestGuarding_25 : decode cX5_fewestGuarding 25 = .ok (.istore 5, 2) := by decide +kernel
theorem dX5_fewestGuarding_27 : decode cX5_fewestGuarding 27 = .ok (.iload 4, 2) := by decide +kernel
theorem dX5_fewestGuarding_29 : decode cX5_fewestGuarding 29 = .ok (.iload 5, 2) := by decide +kernel
theorem dX5_fewestGuarding_31 : decode cX5_fewestGuarding 31 = .ok (.if_icmp .gt 10, 3) := by decide +kernel
theorem dX5_fewestGuarding_34 : decode cX5_fewestGuarding 34 = .ok (.iload 5, 2) := by decide +kernel
theorem dX5_fewestGuarding_36 : decode cX5_fewestGuarding 36 = .ok (.bipush 16, 2) := by decide +kernel
theorem dX5_fewestGuarding_38 : decode cX5_fewestGuarding 38 = .ok (.if_icmp .lt 5, 3) := by decide +kernel
theorem dX5_fewestGuarding_41 : decode cX5_fewestGuarding 41 = .ok (.iconst (-1), 1) := by decide +kernel
theorem dX5_fewestGuarding_42 : decode cX5_fewestGuarding 42 = .ok (.ireturn, 1) := by decide +kernel
theorem dX5_fewestGuarding_43 : decode cX5_fewestGuarding 43 = .ok (.aload_n 0, 1) := by decide +kernel
theorem dX5_fewestGuarding_44 : decode cX5_fewestGuarding 44 = .ok (.getfield 21, 3) := by decide +kernel
theorem dX5_fewestGuarding_47 : decode cX5_fewestGuarding 47 = .ok (.iload 4, 2) := by decide +kernel
theorem dX5_fewestGuarding_49 : decode cX5_fewestGuarding 49 = .ok (.laload, 1) := by decide +kernel
theorem dX5_fewestGuarding_50 : decode cX5_fewestGuarding 50 = .ok (.lstore 6, 2) := by decide +kernel
theorem dX5_fewestGuarding_52 : decode cX5_fewestGuarding 52 = .ok (.iconst 0, 1) := by decide +kernel
theorem dX5_fewestGuarding_53 : decode cX5_fewestGuarding 53 = .ok (.istore 8, 2) := by decide +kernel
theorem dX5_fewestGuarding_55 : decode cX5_fewestGuarding 55 = .ok (.iload 8, 2) := by decide +kernel
theorem dX5_fewestGuarding_57 : decode cX5_fewestGuarding 57 = .ok (.iload 5, 2) := by decide +kernel
theorem dX5_fewestGuarding_59 : decode cX5_fewestGuarding 59 = .ok (.if_icmp .gt 37, 3) := by decide +kernel
theorem dX5_fewestGuarding_62 : decode cX5_fewestGuarding 62 = .ok (.iload 8, 2) := by decide +kernel
theorem dX5_fewestGuarding_64 : decode cX5_fewestGuarding 64 = .ok (.iload 4, 2) := by decide +kernel
theorem dX5_fewestGuarding_66 : decode cX5_fewestGuarding 66 = .ok (.if_icmp .eq 24, 3) := by decide +kernel
theorem dX5_fewestGuarding_69 : decode cX5_fewestGuarding 69 = .ok (.iload_n 3, 1) := by decide +kernel
theorem dX5_fewestGuarding_70 : decode cX5_fewestGuarding 70 = .ok (.iload 8, 2) := by decide +kernel
theorem dX5_fewestGuarding_72 : decode cX5_fewestGuarding 72 = .ok (.ishr, 1) := by decide +kernel
theorem dX5_fewestGuarding_73 : decode cX5_fewestGuarding 73 = .ok (.iconst 1, 1) := by decide +kernel
theorem dX5_fewestGuarding_74 : decode cX5_fewestGuarding 74 = .ok (.iand, 1) := by decide +kernel
theorem dX5_fewestGuarding_75 : decode cX5_fewestGuarding 75 = .ok (.ifCond .eq 15, 3) := by decide +kernel
theorem dX5_fewestGuarding_78 : decode cX5_fewestGuarding 78 = .ok (.aload_n 0, 1) := by decide +kernel
theorem dX5_fewestGuarding_79 : decode cX5_fewestGuarding 79 = .ok (.getfield 21, 3) := by decide +kernel
theorem dX5_fewestGuarding_82 : decode cX5_fewestGuarding 82 = .ok (.iload 8, 2) := by decide +kernel
theorem dX5_fewestGuarding_84 : decode cX5_fewestGuarding 84 = .ok (.dup2, 1) := by decide +kernel
theorem dX5_fewestGuarding_85 : decode cX5_fewestGuarding 85 = .ok (.laload, 1) := by decide +kernel
theorem dX5_fewestGuarding_86 : decode cX5_fewestGuarding 86 = .ok (.lload 6, 2) := by decide +kernel
theorem dX5_fewestGuarding_88 : decode cX5_fewestGuarding 88 = .ok (.lxor, 1) := by decide +kernel
theorem dX5_fewestGuarding_89 : decode cX5_fewestGuarding 89 = .ok (.lastore, 1) := by decide +kernel
theorem dX5_fewestGuarding_90 : decode cX5_fewestGuarding 90 = .ok (.iinc 8 1, 3) := by decide +kernel
theorem dX5_fewestGuarding_93 : decode cX5_fewestGuarding 93 = .ok (.goto (-38), 3) := by decide +kernel
theorem dX5_fewestGuarding_96 : decode cX5_fewestGuarding 96 = .ok (.aload_n 0, 1) := by decide +kernel
theorem dX5_fewestGuarding_97 : decode cX5_fewestGuarding 97 = .ok (.getfield 21, 3) := by decide +kernel
theorem dX5_fewestGuarding_100 : decode cX5_fewestGuarding 100 = .ok (.iload 4, 2) := by decide +kernel
theorem dX5_fewestGuarding_102 : decode cX5_fewestGuarding 102 = .ok (.aload_n 0, 1) := by decide +kernel
theorem dX5_fewestGuarding_103 : decode cX5_fewestGuarding 103 = .ok (.getfield 21, 3) := by decide +kernel
theorem dX5_fewestGuarding_106 : decode cX5_fewestGuarding 106 = .ok (.iload 5, 2) := by decide +kernel
theorem dX5_fewestGuarding_108 : decode cX5_fewestGuarding 108 = .ok (.laload, 1) := by decide +kernel
theorem dX5_fewestGuarding_109 : decode cX5_fewestGuarding 109 = .ok (.lastore, 1) := by decide +kernel
theorem dX5_fewestGuarding_110 : decode cX5_fewestGuarding 110 = .ok (.aload_n 0, 1) := by decide +kernel
theorem dX5_fewestGuarding_111 : decode cX5_fewestGuarding 111 = .ok (.lload 6, 2) := by decide +kernel
theorem dX5_fewestGuarding_113 : decode cX5_fewestGuarding 113 = .ok (.iload 5, 2) := by decide +kernel
theorem dX5_fewestGuarding_115 : decode cX5_fewestGuarding 115 = .ok (.invokevirtual 80, 3) := by decide +kernel
theorem dX5_fewestTouched_0 : decode cX5_fewestTouched 0 = .ok (.lload_n 1, 1) := by decide +kernel
theorem dX5_fewestTouched_1 : decode cX5_fewestTouched 1 = .ok (.lstore 4, 2) := by decide +kernel
theorem dX5_fewestTouched_3 : decode cX5_fewestTouched 3 = .ok (.lload 4, 2) := by decide +kernel
theorem dX5_fewestTouched_5 : decode cX5_fewestTouched 5 = .ok (.invokestatic 84, 3) := by decide +kernel
theorem dJ13_bitCount_95d88_0 : decode cJ13_bitCount_95d88 0 = .ok (.lload_n 0, 1) := by decide +kernel
theorem dJ13_bitCount_95d88_1 : decode cJ13_bitCount_95d88 1 = .ok (.lload_n 0, 1) := by decide +kernel
theorem dJ13_bitCount_95d88_2 : decode cJ13_bitCount_95d88 2 = .ok (.iconst 1, 1) := by decide +kernel
theorem dJ13_bitCount_95d88_3 : decode cJ13_bitCount_95d88 3 = .ok (.lushr, 1) := by decide +kernel
theorem dJ13_bitCount_95d88_4 : decode cJ13_bitCount_95d88 4 = .ok (.ldc2_w 314, 3) := by decide +kernel
theorem dJ13_bitCount_95d88_7 : decode cJ13_bitCount_95d88 7 = .ok (.land, 1) := by decide +kernel
theorem dJ13_bitCount_95d88_8 : decode cJ13_bitCount_95d88 8 = .ok (.lsub, 1) := by decide +kernel
theorem dJ13_bitCount_95d88_9 : decode cJ13_bitCount_95d88 9 = .ok (.lstore_n 0, 1) := by decide +kernel
theorem dJ13_bitCount_95d88_10 : decode cJ13_bitCount_95d88 10 = .ok (.lload_n 0, 1) := by decide +kernel
theorem dJ13_bitCount_95d88_11 : decode cJ13_bitCount_95d88 11 = .ok (.ldc2_w 316, 3) := by decide +kernel
theorem dJ13_bitCount_95d88_14 : decode cJ13_bitCount_95d88 14 = .ok (.land, 1) := by decide +kernel
theorem dJ13_bitCount_95d88_15 : decode cJ13_bitCount_95d88 15 = .ok (.lload_n 0, 1) := by decide +kernel
theorem dJ13_bitCount_95d88_16 : decode cJ13_bitCount_95d88 16 = .ok (.iconst 2, 1) := by decide +kernel
theorem dJ13_bitCount_95d88_17 : decode cJ13_bitCount_95d88 17 = .ok (.lushr, 1) := by decide +kernel
theorem dJ13_bitCount_95d88_18 : decode cJ13_bitCount_95d88 18 = .ok (.ldc2_w 316, 3) := by decide +kernel
theorem dJ13_bitCount_95d88_21 : decode cJ13_bitCount_95d88 21 = .ok (.land, 1) := by decide +kernel
theorem dJ13_bitCount_95d88_22 : decode cJ13_bitCount_95d88 22 = .ok (.ladd, 1) := by decide +kernel
theorem dJ13_bitCount_95d88_23 : decode cJ13_bitCount_95d88 23 = .ok (.lstore_n 0, 1) := by decide +kernel
theorem dJ13_bitCount_95d88_24 : decode cJ13_bitCount_95d88 24 = .ok (.lload_n 0, 1) := by decide +kernel
theorem dJ13_bitCount_95d88_25 : decode cJ13_bitCount_95d88 25 = .ok (.lload_n 0, 1) := by decide +kernel
theorem dJ13_bitCount_95d88_26 : decode cJ13_bitCount_95d88 26 = .ok (.iconst 4, 1) := by decide +kernel
theorem dJ13_bitCount_95d88_27 : decode cJ13_bitCount_95d88 27 = .ok (.lushr, 1) := by decide +kernel
theorem dJ13_bitCount_95d88_28 : decode cJ13_bitCount_95d88 28 = .ok (.ladd, 1) := by decide +kernel
theorem dJ13_bitCount_95d88_29 : decode cJ13_bitCount_95d88 29 = .ok (.ldc2_w 318, 3) := by decide +kernel
theorem dJ13_bitCount_95d88_32 : decode cJ13_bitCount_95d88 32 = .ok (.land, 1) := by decide +kernel
theorem dJ13_bitCount_95d88_33 : decode cJ13_bitCount_95d88 33 = .ok (.lstore_n 0, 1) := by decide +kernel
theorem dJ13_bitCount_95d88_34 : decode cJ13_bitCount_95d88 34 = .ok (.lload_n 0, 1) := by decide +kernel
theorem dJ13_bitCount_95d88_35 : decode cJ13_bitCount_95d88 35 = .ok (.lload_n 0, 1) := by decide +kernel
theorem dJ13_bitCount_95d88_36 : decode cJ13_bitCount_95d88 36 = .ok (.bipush 8, 2) := by decide +kernel
theorem dJ13_bitCount_95d88_38 : decode cJ13_bitCount_95d88 38 = .ok (.lushr, 1) := by decide +kernel
theorem dJ13_bitCount_95d88_39 : decode cJ13_bitCount_95d88 39 = .ok (.ladd, 1) := by decide +kernel
theorem dJ13_bitCount_95d88_40 : decode cJ13_bitCount_95d88 40 = .ok (.lstore_n 0, 1) := by decide +kernel
theorem dJ13_bitCount_95d88_41 : decode cJ13_bitCount_95d88 41 = .ok (.lload_n 0, 1) := by decide +kernel
theorem dJ13_bitCount_95d88_42 : decode cJ13_bitCount_95d88 42 = .ok (.lload_n 0, 1) := by decide +kernel
theorem dJ13_bitCount_95d88_43 : decode cJ13_bitCount_95d88 43 = .ok (.bipush 16, 2) := by decide +kernel
theorem dJ13_bitCount_95d88_45 : decode cJ13_bitCount_95d88 45 = .ok (.lushr, 1) := by decide +kernel
theorem dJ13_bitCount_95d88_46 : decode cJ13_bitCount_95d88 46 = .ok (.ladd, 1) := by decide +kernel
theorem dJ13_bitCount_95d88_47 : decode cJ13_bitCount_95d88 47 = .ok (.lstore_n 0, 1) := by decide +kernel
theorem dJ13_bitCount_95d88_48 : decode cJ13_bitCount_95d88 48 = .ok (.lload_n 0, 1) := by decide +kernel
theorem dJ13_bitCount_95d88_49 : decode cJ13_bitCount_95d88 49 = .ok (.lload_n 0, 1) := by decide +kernel
theorem dJ13_bitCount_95d88_50 : decode cJ13_bitCount_95d88 50 = .ok (.bipush 32, 2) := by decide +kernel
theorem dJ13_bitCount_95d88_52 : decode cJ13_bitCount_95d88 52 = .ok (.lushr, 1) := by decide +kernel
theorem dJ13_bitCount_95d88_53 : decode cJ13_bitCount_95d88 53 = .ok (.ladd, 1) := by decide +kernel
theorem dJ13_bitCount_95d88_54 : decode cJ13_bitCount_95d88 54 = .ok (.lstore_n 0, 1) := by decide +kernel
theorem dJ13_bitCount_95d88_55 : decode cJ13_bitCount_95d88 55 = .ok (.lload_n 0, 1) := by decide +kernel
theorem dJ13_bitCount_95d88_56 : decode cJ13_bitCount_95d88 56 = .ok (.l2i, 1) := by decide +kernel
theorem dJ13_bitCount_95d88_57 : decode cJ13_bitCount_95d88 57 = .ok (.bipush 127, 2) := by decide +kernel
theorem dJ13_bitCount_95d88_59 : decode cJ13_bitCount_95d88 59 = .ok (.iand, 1) := by decide +kernel
theorem dJ13_bitCount_95d88_60 : decode cJ13_bitCount_95d88 60 = .ok (.ireturn, 1) := by decide +kernel
set_option maxHeartbeats 4000000 in
set_option maxRecDepth 100000 in
theorem s_J13_bitCount_95d88 {P : PP} {a0 : Int64} (I : IV P) : CtrI yJ13_bitCount_95d88 cJ13_bitCount_95d88 2 (some Jvm.ClassFile.FieldType.int) ({ frames := 1, cells := 0, slots := 0, locals := 64 } : Room) 0 0 P [.long a0] (fun r P2 => P = P2 ∧ (0 ≤ r.toInt ∧ r.toInt ≤ 127)) := by
  refine enI (lv := [(0, .long a0)]) (by decide) (Nat.le_of_ble_eq_true rfl) rfl (fun E D cy C Ci0 ret => ?_)
  refine g_lload_n C dJ13_bitCount_95d88_0 rfl 0 rfl ?_
  refine g_lload_n C dJ13_bitCount_95d88_1 rfl 0 rfl ?_
  refine g_iconst (v := 1) C dJ13_bitCount_95d88_2 (by decide) ?_
  refine a_lushr C dJ13_bitCount_95d88_3 (fun l22345 => ?_)
  refine g_ldc2 (v := 6148914691236517205) C kl_J13_314 dJ13_bitCount_95d88_4 ?_
  refine g_topl (fun l22346 el22346 => ?_)
  have hz_l22346 : ¬ l22346 = 0 := by rw [el22346]; decide
  refine a_land C dJ13_bitCount_95d88_7 (fun l22347 => ?_)
  refine a_lsub C dJ13_bitCount_95d88_8 (fun l22348 => ?_)
  refine g_lstore_n (lv' := [(0, .long l22348)]) C dJ13_bitCount_95d88_9 rfl (by decide) rfl ?_
  refine g_lload_n C dJ13_bitCount_95d88_10 rfl 0 rfl ?_
  refine g_ldc2 (v := 3689348814741910323) C kl_J13_316 dJ13_bitCount_95d88_11 ?_
  refine g_topl (fun l22349 el22349 => ?_)
  have hz_l22349 : ¬ l22349 = 0 := by rw [el22349]; decide
  refine a_land C dJ13_bitCount_95d88_14 (fun l22350 => ?_)
  refine g_lload_n C dJ13_bitCount_95d88_15 rfl 0 rfl ?_
  refine g_iconst (v := 2) C dJ13_bitCount_95d88_16 (by decide) ?_
  refine a_lushr C dJ13_bitCount_95d88_17 (fun l22351 => ?_)
  refine g_ldc2 (v := 3689348814741910323) C kl_J13_316 dJ13_bitCount_95d88_18 ?_
  refine g_topl (fun l22352 el22352 => ?_)
  have hz_l22352 : ¬ l22352 = 0 := by rw [el22352]; decide
  refine a_land C dJ13_bitCount_95d88_21 (fun l22353 => ?_)
  refine a_ladd C dJ13_bitCount_95d88_22 (fun l22354 => ?_)
  refine g_lstore_n (lv' := [(0, .long l22354)]) C dJ13_bitCount_95d88_23 rfl (by decide) rfl ?_
  refine g_lload_n C dJ13_bitCount_95d88_24 rfl 0 rfl ?_
  refine g_lload_n C dJ13_bitCount_95d88_25 rfl 0 rfl ?_
  refine g_iconst (v := 4) C dJ13_bitCount_95d88_26 (by decide) ?_
  refine a_lushr C dJ13_bitCount_95d88_27 (fun l22355 => ?_)
  refine a_ladd C dJ13_bitCount_95d88_28 (fun l22356 => ?_)
  refine g_ldc2 (v := 1085102592571150095) C kl_J13_318 dJ13_bitCount_95d88_29 ?_
  refine g_topl (fun l22357 el22357 => ?_)
  have hz_l22357 : ¬ l22357 = 0 := by rw [el22357]; decide
  refine a_land C dJ13_bitCount_95d88_32 (fun l22358 => ?_)
  refine g_lstore_n (lv' := [(0, .long l22358)]) C dJ13_bitCount_95d88_33 rfl (by decide) rfl ?_
  refine g_lload_n C dJ13_bitCount_95d88_34 rfl 0 rfl ?_
  refine g_lload_n C dJ13_bitCount_95d88_35 rfl 0 rfl ?_
  refine g_bipush (v := 8) C dJ13_bitCount_95d88_36 (by decide) ?_
  refine a_lushr C dJ13_bitCount_95d88_38 (fun l22359 => ?_)
  refine a_ladd C dJ13_bitCount_95d88_39 (fun l22360 => ?_)
  refine g_lstore_n (lv' := [(0, .long l22360)]) C dJ13_bitCount_95d88_40 rfl (by decide) rfl ?_
  refine g_lload_n C dJ13_bitCount_95d88_41 rfl 0 rfl ?_
  refine g_lload_n C dJ13_bitCount_95d88_42 rfl 0 rfl ?_
  refine g_bipush (v := 16) C dJ13_bitCount_95d88_43 (by decide) ?_
  refine a_lushr C dJ13_bitCount_95d88_45 (fun l22361 => ?_)
  refine a_ladd C dJ13_bitCount_95d88_46 (fun l22362 => ?_)
  refine g_lstore_n (lv' := [(0, .long l22362)]) C dJ13_bitCount_95d88_47 rfl (by decide) rfl ?_
  refine g_lload_n C dJ13_bitCount_95d88_48 rfl 0 rfl ?_
  refine g_lload_n C dJ13_bitCount_95d88_49 rfl 0 rfl ?_
  refine g_bipush (v := 32) C dJ13_bitCount_95d88_50 (by decide) ?_
  refine a_lushr C dJ13_bitCount_95d88_52 (fun l22363 => ?_)
  refine a_ladd C dJ13_bitCount_95d88_53 (fun l22364 => ?_)
  refine g_lstore_n (lv' := [(0, .long l22364)]) C dJ13_bitCount_95d88_54 rfl (by decide) rfl ?_
  refine g_lload_n C dJ13_bitCount_95d88_55 rfl 0 rfl ?_
  refine a_l2i C dJ13_bitCount_95d88_56 (fun z22365 => ?_)
  refine g_bipush (v := 127) C dJ13_bitCount_95d88_57 (by decide) ?_
  refine s_iand C dJ13_bitCount_95d88_59 (by show 0 ≤ 127; omega) (fun z22366 h22367 => ?_)
  have h22367 : 0 ≤ z22366.toInt ∧ z22366.toInt ≤ 127 := h22367
  exact ret _ _ _ _ _ _ dJ13_bitCount_95d88_60 rfl (by decide) (by decide) ⟨rfl, (by omega)⟩
theorem dX5_fewestTouched_8 : decode cX5_fewestTouched 8 = .ok (.istore 6, 2) := by decide +kernel
theorem dX5_fewestTouched_10 : decode cX5_fewestTouched 10 = .ok (.iconst 1, 1) := by decide +kernel
theorem dX5_fewestTouched_11 : decode cX5_fewestTouched 11 = .ok (.istore 7, 2) := by decide +kernel
theorem dX5_fewestTouched_13 : decode cX5_fewestTouched 13 = .ok (.iload 7, 2) := by decide +kernel
theorem dX5_fewestTouched_15 : decode cX5_fewestTouched 15 = .ok (.iconst 1, 1) := by decide +kernel
theorem dX5_fewestTouched_16 : decode cX5_fewestTouched 16 = .ok (.iload_n 3, 1) := by decide +kernel
theorem dX5_fewestTouched_17 : decode cX5_fewestTouched 17 = .ok (.ishl, 1) := by decide +kernel
theorem dX5_fewestTouched_18 : decode cX5_fewestTouched 18 = .ok (.if_icmp .ge 42, 3) := by decide +kernel
theorem dX5_fewestTouched_21 : decode cX5_fewestTouched 21 = .ok (.iload 6, 2) := by decide +kernel
theorem dX5_fewestTouched_23 : decode cX5_fewestTouched 23 = .ok (.iconst 1, 1) := by decide +kernel
theorem dX5_fewestTouched_24 : decode cX5_fewestTouched 24 = .ok (.if_icmp .le 36, 3) := by decide +kernel
theorem dX5_fewestTouched_27 : decode cX5_fewestTouched 27 = .ok (.lload 4, 2) := by decide +kernel
theorem dX5_fewestTouched_29 : decode cX5_fewestTouched 29 = .ok (.aload_n 0, 1) := by decide +kernel
theorem dX5_fewestTouched_30 : decode cX5_fewestTouched 30 = .ok (.getfield 21, 3) := by decide +kernel
theorem dX5_fewestTouched_33 : decode cX5_fewestTouched 33 = .ok (.iload 7, 2) := by decide +kernel
theorem dX5_fewestTouched_35 : decode cX5_fewestTouched 35 = .ok (.invokestatic 62, 3) := by decide +kernel
theorem dX5_fewestTouched_38 : decode cX5_fewestTouched 38 = .ok (.laload, 1) := by decide +kernel
theorem dX11_housesServed_0 : decode cX11_housesServed 0 = .ok (.iconst 0, 1) := by decide +kernel
theorem dX11_housesServed_1 : decode cX11_housesServed 1 = .ok (.istore_n 2, 1) := by decide +kernel
theorem dX11_housesServed_2 : decode cX11_housesServed 2 = .ok (.iconst 0, 1) := by decide +kernel
theorem dX11_housesServed_3 : decode cX11_housesServed 3 = .ok (.istore_n 3, 1) := by decide +kernel
theorem dX11_housesServed_4 : decode cX11_housesServed 4 = .ok (.iload_n 3, 1) := by decide +kernel
theorem dX11_housesServed_5 : decode cX11_housesServed 5 = .ok (.iconst 4, 1) := by decide +kernel
theorem dX11_housesServed_6 : decode cX11_housesServed 6 = .ok (.if_icmp .ge 38, 3) := by decide +kernel
theorem dX11_housesServed_9 : decode cX11_housesServed 9 = .ok (.aload_n 0, 1) := by decide +kernel
theorem dX11_housesServed_10 : decode cX11_housesServed 10 = .ok (.getfield 35, 3) := by decide +kernel
theorem dX11_housesServed_13 : decode cX11_housesServed 13 = .ok (.iload_n 3, 1) := by decide +kernel
theorem dX11_housesServed_14 : decode cX11_housesServed 14 = .ok (.iaload, 1) := by decide +kernel
theorem dX11_housesServed_15 : decode cX11_housesServed 15 = .ok (.iconst (-1), 1) := by decide +kernel
theorem dX11_housesServed_16 : decode cX11_housesServed 16 = .ok (.if_icmp .eq 22, 3) := by decide +kernel
theorem dX11_housesServed_19 : decode cX11_housesServed 19 = .ok (.aload_n 0, 1) := by decide +kernel
theorem dX11_housesServed_20 : decode cX11_housesServed 20 = .ok (.getfield 35, 3) := by decide +kernel
theorem dX11_housesServed_23 : decode cX11_housesServed 23 = .ok (.iload_n 3, 1) := by decide +kernel
theorem dX11_housesServed_24 : decode cX11_housesServed 24 = .ok (.iaload, 1) := by decide +kernel
theorem dX11_housesServed_25 : decode cX11_housesServed 25 = .ok (.iload_n 1, 1) := by decide +kernel
theorem dX11_housesServed_26 : decode cX11_housesServed 26 = .ok (.if_icmp .gt 12, 3) := by decide +kernel
theorem dX11_housesServed_29 : decode cX11_housesServed 29 = .ok (.iload_n 2, 1) := by decide +kernel
theorem dX11_housesServed_30 : decode cX11_housesServed 30 = .ok (.aload_n 0, 1) := by decide +kernel
theorem dX11_housesServed_31 : decode cX11_housesServed 31 = .ok (.getfield 32, 3) := by decide +kernel
theorem dX11_housesServed_34 : decode cX11_housesServed 34 = .ok (.iload_n 3, 1) := by decide +kernel
theorem dX11_housesServed_35 : decode cX11_housesServed 35 = .ok (.iaload, 1) := by decide +kernel
theorem dX11_housesServed_36 : decode cX11_housesServed 36 = .ok (.iadd, 1) := by decide +kernel
theorem dX11_housesServed_37 : decode cX11_housesServed 37 = .ok (.istore_n 2, 1) := by decide +kernel
theorem dX11_housesServed_38 : decode cX11_housesServed 38 = .ok (.iinc 3 1, 3) := by decide +kernel
theorem dX11_housesServed_41 : decode cX11_housesServed 41 = .ok (.goto (-37), 3) := by decide +kernel
theorem dX11_housesServed_44 : decode cX11_housesServed 44 = .ok (.iload_n 2, 1) := by decide +kernel
theorem dX11_housesServed_45 : decode cX11_housesServed 45 = .ok (.ireturn, 1) := by decide +kernel
set_option maxHeartbeats 4000000 in
set_option maxRecDepth 100000 in
theorem s_X11_housesServed {P : PP} {a0 : Nat} {a1 : Int32} (I : IV P) (ha0 : At P a0 11) : CtrI yX11_housesServed cX11_housesServed 4 (some Jvm.ClassFile.FieldType.int) ({ frames := 1, cells := 0, slots := 0, locals := 64 } : Room) 0 0 P [.ref a0, .int a1] (fun r P2 => P = P2 ∧ (True)) := by
  refine enI (lv := [(0, .ref a0), (1, .int a1)]) (by decide) (Nat.le_of_ble_eq_true rfl) rfl (fun E D cy C Ci0 ret => ?_)
  have J4 : ∀ (n4 : Nat) (v4_2 : Int32) (v4_3 : Int32), (4 - v4_3.toInt).toNat < n4 → (0 ≤ v4_3.toInt ∧ v4_3.toInt ≤ 4) → G E ({ frames := 1, cells := 0, slots := 0, locals := 64 } : Room) D cy 4 P 0 0 4 [(0, .ref a0), (1, .int a1), (2, .int v4_2), (3, .int v4_3)] [] := by
    intro n4
    induction n4 with
    | zero => intro v4_2 v4_3 hm4 hv4_3; omega
    | succ n4 ih4 =>
      intro v4_2 v4_3 hm4 hv4_3
      have J38 : ∀ (v38_2 : Int32), (0 ≤ v4_3.toInt ∧ v4_3.toInt ≤ 3) → G E ({ frames := 1, cells := 0, slots := 0, locals := 64 } : Room) D cy 4 P 0 0 38 [(0, .ref a0), (1, .int a1), (2, .int v38_2), (3, .int v4_3)] [] := by
        intro v38_2 hv38_3
        refine s_iinc (lv0 := [(0, .ref a0), (1, .int a1), (2, .int v38_2)]) (m := 1) C dX11_housesServed_38 3 rfl (by decide) rfl (by decide) (by omega) (fun z22475 h22476 => ?_)
        have h22476 : z22475.toInt = v4_3.toInt + 1 := h22476
        refine g_goto C 4 dX11_housesServed_41 (by decide) ?_
        refine g_lv (lv' := [(0, .ref a0), (1, .int a1), (2, .int v38_2), (3, .int z22475)]) [1, 2, 3, 0] rfl ?_
        exact ih4 v38_2 z22475 (by omega) (by omega)
      refine g_iload_n C dX11_housesServed_4 rfl 3 rfl ?_
      refine g_iconst (v := 4) C dX11_housesServed_5 (by decide) ?_
      refine b_icmp_ge C 44 dX11_housesServed_6 (by decide) (fun h22477 => ?_) (fun h22477 => ?_)
      · have h22477 : 4 ≤ v4_3.toInt := h22477
        refine g_iload_n C dX11_housesServed_44 rfl 2 rfl ?_
        exact ret _ _ _ _ _ _ dX11_housesServed_45 rfl (by decide) (by decide) ⟨rfl, trivial⟩
      · have h22477 : v4_3.toInt < 4 := h22477
        refine g_aload_n C dX11_housesServed_9 rfl 0 rfl ?_
        obtain ⟨b22478, e22479, h22480⟩ := I.fld (ha0) 6 13 4 rfl
        refine g_getR C fi_X11_35 rfl e22479 (ha0).1 (ha0).2 dX11_housesServed_10 ?_
        refine g_iload_n C dX11_housesServed_13 rfl 3 rfl ?_
        refine g_iald (j := (v4_3.toInt.toNat)) C h22480.1 h22480.2.1 (ix_in h22480.2.2 (by omega)) dX11_housesServed_14 ?_
        refine g_topi (fun z22481 _ => ?_)
        refine g_iconst (v := (-1)) C dX11_housesServed_15 (by decide) ?_
        have u22483 := ti_rng z22481
        refine b_icmp_eq C 38 dX11_housesServed_16 (by decide) (fun h22482 => ?_) (fun h22482 => ?_)
        · have h22482 : z22481.toInt = (-1) := congrArg Int32.toInt h22482
          exact J38 v4_2 (by omega)
        · have h22482 : z22481.toInt ≠ (-1) := ti_ne h22482
          refine g_aload_n C dX11_housesServed_19 rfl 0 rfl ?_
          refine g_getR C fi_X11_35 rfl e22479 (ha0).1 (ha0).2 dX11_housesServed_20 ?_
          refine g_iload_n C dX11_housesServed_23 rfl 3 rfl ?_
          refine g_iald (j := (v4_3.toInt.toNat)) C h22480.1 h22480.2.1 (ix_in h22480.2.2 (by omega)) dX11_housesServed_24 ?_
          refine g_topi (fun z22484 _ => ?_)
          refine g_iload_n C dX11_housesServed_25 rfl 1 rfl ?_
          have u22486 := ti_rng z22484
          have u22487 := ti_rng a1
          refine b_icmp_gt C 38 dX11_housesServed_26 (by decide) (fun h22485 => ?_) (fun h22485 => ?_)
          · have h22485 : a1.toInt < z22484.toInt := h22485
            exact J38 v4_2 (by omega)
          · have h22485 : z22484.toInt ≤ a1.toInt := h22485
            refine g_iload_n C dX11_housesServed_29 rfl 2 rfl ?_
            refine g_aload_n C dX11_housesServed_30 rfl 0 rfl ?_
            obtain ⟨b22488, e22489, h22490⟩ := I.fld (ha0) 5 13 4 rfl
            refine g_getR C fi_X11_32 rfl e22489 (ha0).1 (ha0).2 dX11_housesServed_31 ?_
            refine g_iload_n C dX11_housesServed_34 rfl 3 rfl ?_
            refine g_iald (j := (v4_3.toInt.toNat)) C h22490.1 h22490.2.1 (ix_in h22490.2.2 (by omega)) dX11_housesServed_35 ?_
            refine g_topi (fun z22491 _ => ?_)
            refine a_iadd C dX11_housesServed_36 (fun z22492 => ?_)
            refine g_istore_n (lv' := [(2, .int z22492), (0, .ref a0), (1, .int a1), (3, .int v4_3)]) C dX11_housesServed_37 rfl (by decide) rfl ?_
            refine g_lv (lv' := [(0, .ref a0), (1, .int a1), (2, .int z22492), (3, .int v4_3)]) [1, 2, 0, 3] rfl ?_
            exact J38 z22492 (by omega)
  refine g_iconst (v := 0) C dX11_housesServed_0 (by decide) ?_
  refine g_istore_n (lv' := [(2, .int 0), (0, .ref a0), (1, .int a1)]) C dX11_housesServed_1 rfl (by decide) rfl ?_
  refine g_iconst (v := 0) C dX11_housesServed_2 (by decide) ?_
  refine g_istore_n (lv' := [(3, .int 0), (2, .int 0), (0, .ref a0), (1, .int a1)]) C dX11_housesServed_3 rfl (by decide) rfl ?_
  refine g_lv (lv' := [(0, .ref a0), (1, .int a1), (2, .int 0), (3, .int 0)]) [2, 3, 1, 0] rfl ?_
  exact J4 _ 0 0 (Nat.lt_succ_self _) (by decide)
theorem dX11_init_0 : decode cX11_init 0 = .ok (.aload_n 0, 1) := by decide +kernel
theorem dX11_init_1 : decode cX11_init 1 = .ok (.invokespecial 3, 3) := by decide +kernel
theorem dX11_init_4 : decode cX11_init 4 = .ok (.aload_n 0, 1) := by decide +kernel
theorem dX11_init_5 : decode cX11_init 5 = .ok (.iconst 2, 1) := by decide +kernel
theorem dX11_init_6 : decode cX11_init 6 = .ok (.anewarray 9, 3) := by decide +kernel
theorem dX11_isRoomAnywhere_0 : decode cX11_isRoomAnywhere 0 = .ok (.iconst 0, 1) := by decide +kernel
theorem dX11_isRoomAnywhere_1 : decode cX11_isRoomAnywhere 1 = .ok (.istore_n 1, 1) := by decide +kernel
theorem dX11_isRoomAnywhere_2 : decode cX11_isRoomAnywhere 2 = .ok (.iload_n 1, 1) := by decide +kernel
theorem dX11_isRoomAnywhere_3 : decode cX11_isRoomAnywhere 3 = .ok (.iconst 4, 1) := by decide +kernel
theorem dX11_isRoomAnywhere_4 : decode cX11_isRoomAnywhere 4 = .ok (.if_icmp .ge 25, 3) := by decide +kernel
theorem dX11_isRoomAnywhere_7 : decode cX11_isRoomAnywhere 7 = .ok (.aload_n 0, 1) := by decide +kernel
theorem dX11_isRoomAnywhere_8 : decode cX11_isRoomAnywhere 8 = .ok (.getfield 17, 3) := by decide +kernel
theorem dX11_isRoomAnywhere_11 : decode cX11_isRoomAnywhere 11 = .ok (.iload_n 1, 1) := by decide +kernel
theorem dX11_isRoomAnywhere_12 : decode cX11_isRoomAnywhere 12 = .ok (.aaload, 1) := by decide +kernel
theorem dX11_isRoomAnywhere_13 : decode cX11_isRoomAnywhere 13 = .ok (.getfield 336, 3) := by decide +kernel
theorem dX11_isRoomAnywhere_16 : decode cX11_isRoomAnywhere 16 = .ok (.bipush 40, 2) := by decide +kernel
theorem dX11_isRoomAnywhere_18 : decode cX11_isRoomAnywhere 18 = .ok (.if_icmp .ge 5, 3) := by decide +kernel
theorem dX11_isRoomAnywhere_21 : decode cX11_isRoomAnywhere 21 = .ok (.iconst 1, 1) := by decide +kernel
theorem dX11_isRoomAnywhere_22 : decode cX11_isRoomAnywhere 22 = .ok (.ireturn, 1) := by decide +kernel
theorem dX11_isRoomAnywhere_23 : decode cX11_isRoomAnywhere 23 = .ok (.iinc 1 1, 3) := by decide +kernel
theorem dX11_isRoomAnywhere_26 : decode cX11_isRoomAnywhere 26 = .ok (.goto (-24), 3) := by decide +kernel
theorem dX11_isRoomAnywhere_29 : decode cX11_isRoomAnywhere 29 = .ok (.iconst 0, 1) := by decide +kernel
theorem dX11_isRoomAnywhere_30 : decode cX11_isRoomAnywhere 30 = .ok (.ireturn, 1) := by decide +kernel
set_option maxHeartbeats 4000000 in
set_option maxRecDepth 100000 in
theorem s_X11_isRoomAnywhere {P : PP} {a0 : Nat} (I : IV P) (ha0 : At P a0 11) : CtrI yX11_isRoomAnywhere cX11_isRoomAnywhere 2 (some Jvm.ClassFile.FieldType.boolean) ({ frames := 1, cells := 0, slots := 0, locals := 64 } : Room) 0 0 P [.ref a0] (fun r P2 => P = P2 ∧ (0 ≤ r.toInt ∧ r.toInt ≤ 1)) := by
  refine enI (lv := [(0, .ref a0)]) (by decide) (Nat.le_of_ble_eq_true rfl) rfl (fun E D cy C Ci0 ret => ?_)
  have J2 : ∀ (n2 : Nat) (v2_1 : Int32), (4 - v2_1.toInt).toNat < n2 → (0 ≤ v2_1.toInt ∧ v2_1.toInt ≤ 4) → G E ({ frames := 1, cells := 0, slots := 0, locals := 64 } : Room) D cy 2 P 0 0 2 [(0, .ref a0), (1, .int v2_1)] [] := by
    intro n2
    induction n2 with
    | zero => intro v2_1 hm2 hv2_1; omega
    | succ n2 ih2 =>
      intro v2_1 hm2 hv2_1
      refine g_iload_n C dX11_isRoomAnywhere_2 rfl 1 rfl ?_
      refine g_iconst (v := 4) C dX11_isRoomAnywhere_3 (by decide) ?_
      refine b_icmp_ge C 29 dX11_isRoomAnywhere_4 (by decide) (fun h22549 => ?_) (fun h22549 => ?_)
      · have h22549 : 4 ≤ v2_1.toInt := h22549
        refine g_iconst (v := 0) C dX11_isRoomAnywhere_29 (by decide) ?_
        exact ret _ _ _ _ _ _ dX11_isRoomAnywhere_30 rfl (by decide) (by decide) ⟨rfl, (by decide)⟩
      · have h22549 : v2_1.toInt < 4 := h22549
        refine g_aload_n C dX11_isRoomAnywhere_7 rfl 0 rfl ?_
        obtain ⟨b22550, e22551, h22552⟩ := I.fld (ha0) 1 19 4 rfl
        refine g_getR C fi_X11_17 rfl e22551 (ha0).1 (ha0).2 dX11_isRoomAnywhere_8 ?_
        refine g_iload_n C dX11_isRoomAnywhere_11 rfl 1 rfl ?_
        obtain ⟨b22553, e22554, h22555⟩ := I.elm h22552 (by decide) (v2_1.toInt.toNat) (by omega)
        refine g_aldR C h22552.1 h22552.2.1 (by decide) (ix_in h22552.2.2 (by omega)) e22554 dX11_isRoomAnywhere_12 ?_
        refine g_getI C fi_X11_336 (by decide) (h22555).1 (h22555).2 dX11_isRoomAnywhere_13 ?_
        have h22556 := I.rg (h22555) 1 rfl
        refine g_bipush (v := 40) C dX11_isRoomAnywhere_16 (by decide) ?_
        refine b_icmp_ge C 23 dX11_isRoomAnywhere_18 (by decide) (fun h22557 => ?_) (fun h22557 => ?_)
        · have h22557 : 40 ≤ (pI P b22553 1).toInt := h22557
          refine s_iinc (lv0 := [(0, .ref a0)]) (m := 1) C dX11_isRoomAnywhere_23 1 rfl (by decide) rfl (by decide) (by omega) (fun z22558 h22559 => ?_)
          have h22559 : z22558.toInt = v2_1.toInt + 1 := h22559
          refine g_goto C 2 dX11_isRoomAnywhere_26 (by decide) ?_
          refine g_lv (lv' := [(0, .ref a0), (1, .int z22558)]) [1, 0] rfl ?_
          exact ih2 z22558 (by omega) (by omega)
        · have h22557 : (pI P b22553 1).toInt < 40 := h22557
          refine g_iconst (v := 1) C dX11_isRoomAnywhere_21 (by decide) ?_
          exact ret _ _ _ _ _ _ dX11_isRoomAnywhere_22 rfl (by decide) (by decide) ⟨rfl, (by decide)⟩
  refine g_iconst (v := 0) C dX11_isRoomAnywhere_0 (by decide) ?_
  refine g_istore_n (lv' := [(1, .int 0), (0, .ref a0)]) C dX11_isRoomAnywhere_1 rfl (by decide) rfl ?_
  refine g_lv (lv' := [(0, .ref a0), (1, .int 0)]) [1, 0] rfl ?_
  exact J2 _ 0 (Nat.lt_succ_self _) (by decide)
theorem dX11_leaflet_0 : decode cX11_leaflet 0 = .ok (.aload_n 0, 1) := by decide +kernel
theorem dX11_leaflet_1 : decode cX11_leaflet 1 = .ok (.iload_n 1, 1) := by decide +kernel
theorem dX11_leaflet_2 : decode cX11_leaflet 2 = .ok (.iload_n 2, 1) := by decide +kernel
theorem dX11_leaflet_3 : decode cX11_leaflet 3 = .ok (.invokevirtual 136, 3) := by decide +kernel
theorem dX11_leaflet_6 : decode cX11_leaflet 6 = .ok (.ifCond .ne 5, 3) := by decide +kernel
theorem dX11_leaflet_9 : decode cX11_leaflet 9 = .ok (.iconst (-1), 1) := by decide +kernel
theorem dX11_leaflet_10 : decode cX11_leaflet 10 = .ok (.ireturn, 1) := by decide +kernel
theorem dX11_leaflet_11 : decode cX11_leaflet 11 = .ok (.aload_n 0, 1) := by decide +kernel
theorem dX11_leaflet_12 : decode cX11_leaflet 12 = .ok (.getfield 11, 3) := by decide +kernel
theorem dX11_leaflet_15 : decode cX11_leaflet 15 = .ok (.iload_n 1, 1) := by decide +kernel
theorem dX11_leaflet_16 : decode cX11_leaflet 16 = .ok (.aaload, 1) := by decide +kernel
theorem dX11_leaflet_17 : decode cX11_leaflet 17 = .ok (.astore 4, 2) := by decide +kernel
theorem dX11_leaflet_19 : decode cX11_leaflet 19 = .ok (.aload 4, 2) := by decide +kernel
theorem dX11_leaflet_21 : decode cX11_leaflet 21 = .ok (.iload_n 2, 1) := by decide +kernel
theorem dX11_leaflet_22 : decode cX11_leaflet 22 = .ok (.invokevirtual 140, 3) := by decide +kernel
theorem dX11_leaflet_25 : decode cX11_leaflet 25 = .ok (.istore 5, 2) := by decide +kernel
theorem dX11_leaflet_27 : decode cX11_leaflet 27 = .ok (.iload_n 3, 1) := by decide +kernel
theorem dX11_leaflet_28 : decode cX11_leaflet 28 = .ok (.tableswitch 63 0 3 #[32, 35, 43, 57], 32) := by decide +kernel
theorem dX11_leaflet_60 : decode cX11_leaflet 60 = .ok (.iload 5, 2) := by decide +kernel
theorem dX11_leaflet_62 : decode cX11_leaflet 62 = .ok (.ireturn, 1) := by decide +kernel
theorem dX11_leaflet_63 : decode cX11_leaflet 63 = .ok (.aload 4, 2) := by decide +kernel
theorem dX11_leaflet_65 : decode cX11_leaflet 65 = .ok (.iload 5, 2) := by decide +kernel
theorem dX11_leaflet_67 : decode cX11_leaflet 67 = .ok (.invokevirtual 143, 3) := by decide +kernel
theorem dX11_leaflet_70 : decode cX11_leaflet 70 = .ok (.ireturn, 1) := by decide +kernel
theorem dX11_leaflet_71 : decode cX11_leaflet 71 = .ok (.aload 4, 2) := by decide +kernel
theorem dX11_leaflet_73 : decode cX11_leaflet 73 = .ok (.iload_n 2, 1) := by decide +kernel
theorem dX11_leaflet_74 : decode cX11_leaflet 74 = .ok (.aload 4, 2) := by decide +kernel
theorem dX11_leaflet_76 : decode cX11_leaflet 76 = .ok (.iload 5, 2) := by decide +kernel
theorem dX11_leaflet_78 : decode cX11_leaflet 78 = .ok (.invokevirtual 143, 3) := by decide +kernel
theorem dX11_leaflet_81 : decode cX11_leaflet 81 = .ok (.invokevirtual 146, 3) := by decide +kernel
theorem dX11_leaflet_84 : decode cX11_leaflet 84 = .ok (.ireturn, 1) := by decide +kernel
theorem dX11_leaflet_85 : decode cX11_leaflet 85 = .ok (.iload 5, 2) := by decide +kernel
theorem dX11_leaflet_87 : decode cX11_leaflet 87 = .ok (.invokestatic 150, 3) := by decide +kernel
theorem dX11_leaflet_90 : decode cX11_leaflet 90 = .ok (.ireturn, 1) := by decide +kernel
theorem dX11_leaflet_91 : decode cX11_leaflet 91 = .ok (.iconst (-1), 1) := by decide +kernel
theorem dX11_leaflet_92 : decode cX11_leaflet 92 = .ok (.ireturn, 1) := by decide +kernel
set_option maxHeartbeats 4000000 in
set_option maxRecDepth 100000 in
theorem s_X11_leaflet {P : PP} {a0 : Nat} {a1 : Int32} {a2 : Int32} {a3 : Int32} (I : IV P) (ha0 : At P a0 11) : CtrI yX11_leaflet cX11_leaflet 6 (some Jvm.ClassFile.FieldType.int) ({ frames := 5, cells := 0, slots := 0, locals := 320 } : Room) 0 0 P [.ref a0, .int a1, .int a2, .int a3] (fun r P2 => IV P2 ∧ EK [1, 13] P P2 ∧ (True)) := by
  refine enI (lv := [(0, .ref a0), (1, .int a1), (2, .int a2), (3, .int a3)]) (by decide) (Nat.le_of_ble_eq_true rfl) rfl (fun E D cy C Ci0 ret => ?_)
  refine g_aload_n C dX11_leaflet_0 rfl 0 rfl ?_
  refine g_iload_n C dX11_leaflet_1 rfl 1 rfl ?_
  refine g_iload_n C dX11_leaflet_2 rfl 2 rfl ?_
  refine g_callVI (rest := []) C mv_X11_136 [.int a1, .int a2] (s_X11_isLeaflet I ha0) (ha0).1 (ha0).2 rfl rfl (by decide) (Nat.le_of_ble_eq_true rfl) (by decide) dX11_leaflet_3 (fun r22593 Y22594 h22595 => ?_)
  obtain ⟨rfl, h22595⟩ := h22595
  obtain ⟨h22595, hi22596⟩ := h22595
  have hi22596 : r22593.toInt = 0 ∨ (((0 : Int) ≤ a1.toInt ∧ a1.toInt ≤ (1 : Int)) ∧ ((0 : Int) ≤ a2.toInt ∧ a2.toInt ≤ (9999 : Int))) := hi22596
  have h22595 : 0 ≤ r22593.toInt ∧ r22593.toInt ≤ 1 := h22595
  refine b_if_ne C 11 dX11_leaflet_6 (by decide) (fun h22597 => ?_) (fun h22597 => ?_)
  · have h22597 : r22593.toInt ≠ 0 := ti_ne h22597
    replace hi22596 := hi22596.resolve_left (by omega)
    refine g_aload_n C dX11_leaflet_11 rfl 0 rfl ?_
    obtain ⟨b22598, e22599, h22600⟩ := I.fld (ha0) 0 17 2 rfl
    refine g_getR C fi_X11_11 rfl e22599 (ha0).1 (ha0).2 dX11_leaflet_12 ?_
    refine g_iload_n C dX11_leaflet_15 rfl 1 rfl ?_
    obtain ⟨b22601, e22602, h22603⟩ := I.elm h22600 (by decide) (a1.toInt.toNat) (by omega)
    refine g_aldR C h22600.1 h22600.2.1 (by decide) (ix_in h22600.2.2 (by omega)) e22602 dX11_leaflet_16 ?_
    refine g_astore (lv' := [(4, .ref b22601), (0, .ref a0), (1, .int a1), (2, .int a2), (3, .int a3)]) C dX11_leaflet_17 (by decide) rfl ?_
    refine g_aload C dX11_leaflet_19 0 rfl ?_
    refine g_iload_n C dX11_leaflet_21 rfl 3 rfl ?_
    refine g_callVI (rest := []) C mv_X11_140 [.int a2] (s_X1_pagesOf I h22603) (h22603).1 (h22603).2 rfl rfl (by decide) (Nat.le_of_ble_eq_true rfl) (by decide) dX11_leaflet_22 (fun r22604 Y22605 h22606 => ?_)
    obtain ⟨Iy22607, Xy22608, h22606⟩ := h22606
    have Xz22609 : EK [1, 13] P Y22605 := Xy22608.mono (by decide)
    have h22610 := Xy22608.at ha0
    have h22611 := Xy22608.at h22603
    have h22606 : True := h22606
    refine g_istore (lv' := [(5, .int r22604), (4, .ref b22601), (0, .ref a0), (1, .int a1), (2, .int a2), (3, .int a3)]) C dX11_leaflet_25 (by decide) rfl ?_
    refine g_iload_n C dX11_leaflet_27 rfl 5 rfl ?_
    by_cases h22612 : a3.toInt < 0 ∨ 3 < a3.toInt
    · refine g_tableOut C 91 dX11_leaflet_28 h22612 (by decide) ?_
      refine g_iconst (v := (-1)) C dX11_leaflet_91 (by decide) ?_
      exact ret _ _ _ _ _ _ dX11_leaflet_92 rfl (by decide) (by decide) ⟨Iy22607, Xz22609, trivial⟩
    · rcases (show a3.toInt = 0 ∨ a3.toInt = 1 ∨ a3.toInt = 2 ∨ a3.toInt = 3 by omega) with h22613 | h22613 | h22613 | h22613
      · refine g_tableIn C 60 dX11_leaflet_28 (by omega) (by omega) (by rw [h22613]; rfl) (by decide) ?_
        refine g_iload C dX11_leaflet_60 0 rfl ?_
        exact ret _ _ _ _ _ _ dX11_leaflet_62 rfl (by decide) (by decide) ⟨Iy22607, Xz22609, trivial⟩
      · refine g_tableIn C 63 dX11_leaflet_28 (by omega) (by omega) (by rw [h22613]; rfl) (by decide) ?_
        refine g_aload C dX11_leaflet_63 1 rfl ?_
        refine g_iload C dX11_leaflet_65 0 rfl ?_
        refine g_callVI (rest := []) C mv_X11_143 [.int r22604] (s_X1_sumOf Iy22607 h22611) (h22611).1 (h22611).2 rfl rfl (by decide) (Nat.le_of_ble_eq_true rfl) (by decide) dX11_leaflet_67 (fun r22614 Y22615 h22616 => ?_)
        obtain ⟨rfl, h22616⟩ := h22616
        have h22616 : True := h22616
        exact ret _ _ _ _ _ _ dX11_leaflet_70 rfl (by decide) (by decide) ⟨Iy22607, Xz22609, trivial⟩
      · refine g_tableIn C 71 dX11_leaflet_28 (by omega) (by omega) (by rw [h22613]; rfl) (by decide) ?_
        refine g_aload C dX11_leaflet_71 1 rfl ?_
        refine g_iload_n C dX11_leaflet_73 rfl 4 rfl ?_
        refine g_aload C dX11_leaflet_74 1 rfl ?_
        refine g_iload C dX11_leaflet_76 0 rfl ?_
        refine g_callVI (rest := [.int a2, .ref b22601]) C mv_X11_143 [.int r22604] (s_X1_sumOf Iy22607 h22611) (h22611).1 (h22611).2 rfl rfl (by decide) (Nat.le_of_ble_eq_true rfl) (by decide) dX11_leaflet_78 (fun r22617 Y22618 h22619 => ?_)
        obtain ⟨rfl, h22619⟩ := h22619
        have h22619 : True := h22619
        refine g_callVI (rest := []) C mv_X11_146 [.int a2, .int r22617] (s_X1_sealOf Iy22607 h22611) (h22611).1 (h22611).2 rfl rfl (by decide) (Nat.le_of_ble_eq_true rfl) (by decide) dX11_leaflet_81 (fun r22620 Y22621 h22622 => ?_)
        obtain ⟨rfl, h22622⟩ := h22622
        have h22622 : True := h22622
        exact ret _ _ _ _ _ _ dX11_leaflet_84 rfl (by decide) (by decide) ⟨Iy22607, Xz22609, trivial⟩
      · refine g_tableIn C 85 dX11_leaflet_28 (by omega) (by omega) (by rw [h22613]; rfl) (by decide) ?_
        refine g_iload C dX11_leaflet_85 0 rfl ?_
        refine g_callSI (b := 0) (ci := 0) (rest := []) C ms_X11_150 [.int r22604] (s_J6_bitCount_0f7a4 Iy22607) rfl rfl (by decide) (Nat.le_of_ble_eq_true rfl) (by decide) dX11_leaflet_87 (fun r22623 Y22624 h22625 => ?_)
        obtain ⟨rfl, h22625⟩ := h22625
        have h22625 : 0 ≤ r22623.toInt ∧ r22623.toInt ≤ 63 := h22625
        exact ret _ _ _ _ _ _ dX11_leaflet_90 rfl (by decide) (by decide) ⟨Iy22607, Xz22609, trivial⟩
  · have h22597 : r22593.toInt = 0 := congrArg Int32.toInt h22597
    clear hi22596
    refine g_iconst (v := (-1)) C dX11_leaflet_9 (by decide) ?_
    exact ret _ _ _ _ _ _ dX11_leaflet_10 rfl (by decide) (by decide) ⟨I, EK.rf, trivial⟩
