theorem dX11_doubles_19 : decode cX11_doubles 19 = .ok (.ifCond .ne 5, 3) := by decide +kernel
theorem dX11_doubles_22 : decode cX11_doubles 22 = .ok (.iconst (-1), 1) := by decide +kernel
theorem dX11_doubles_23 : decode cX11_doubles 23 = .ok (.ireturn, 1) := by decide +kernel
theorem dX11_doubles_24 : decode cX11_doubles 24 = .ok (.aload_n 0, 1) := by decide +kernel
theorem dX11_doubles_25 : decode cX11_doubles 25 = .ok (.iload_n 1, 1) := by decide +kernel
theorem dX11_doubles_26 : decode cX11_doubles 26 = .ok (.iload_n 2, 1) := by decide +kernel
theorem dX11_doubles_27 : decode cX11_doubles 27 = .ok (.iload_n 3, 1) := by decide +kernel
theorem dX11_doubles_28 : decode cX11_doubles 28 = .ok (.invokevirtual 216, 3) := by decide +kernel
theorem dX11_doubles_31 : decode cX11_doubles 31 = .ok (.astore 4, 2) := by decide +kernel
theorem dX11_doubles_33 : decode cX11_doubles 33 = .ok (.aload_n 0, 1) := by decide +kernel
theorem dX11_doubles_34 : decode cX11_doubles 34 = .ok (.getfield 53, 3) := by decide +kernel
theorem dX11_doubles_37 : decode cX11_doubles 37 = .ok (.iconst 0, 1) := by decide +kernel
theorem dX11_doubles_38 : decode cX11_doubles 38 = .ok (.aaload, 1) := by decide +kernel
theorem dX11_doubles_39 : decode cX11_doubles 39 = .ok (.astore 5, 2) := by decide +kernel
theorem dX11_doubles_41 : decode cX11_doubles 41 = .ok (.aload 5, 2) := by decide +kernel
theorem dX11_doubles_43 : decode cX11_doubles 43 = .ok (.aload 4, 2) := by decide +kernel
theorem dX11_doubles_45 : decode cX11_doubles 45 = .ok (.iconst (-1), 1) := by decide +kernel
theorem dX11_doubles_46 : decode cX11_doubles 46 = .ok (.invokevirtual 236, 3) := by decide +kernel
theorem dX11_doubles_49 : decode cX11_doubles 49 = .ok (.aload 5, 2) := by decide +kernel
theorem dX11_doubles_51 : decode cX11_doubles 51 = .ok (.getfield 246, 3) := by decide +kernel
theorem dX11_doubles_54 : decode cX11_doubles 54 = .ok (.istore 6, 2) := by decide +kernel
theorem dX11_doubles_56 : decode cX11_doubles 56 = .ok (.iconst 0, 1) := by decide +kernel
theorem dX11_doubles_57 : decode cX11_doubles 57 = .ok (.istore 7, 2) := by decide +kernel
theorem dX11_doubles_59 : decode cX11_doubles 59 = .ok (.aload 4, 2) := by decide +kernel
theorem dX11_doubles_61 : decode cX11_doubles 61 = .ok (.getfield 263, 3) := by decide +kernel
theorem dX11_doubles_64 : decode cX11_doubles 64 = .ok (.istore 8, 2) := by decide +kernel
theorem dX11_doubles_66 : decode cX11_doubles 66 = .ok (.iload 8, 2) := by decide +kernel
theorem dX11_doubles_68 : decode cX11_doubles 68 = .ok (.aload 4, 2) := by decide +kernel
theorem dX11_doubles_70 : decode cX11_doubles 70 = .ok (.getfield 266, 3) := by decide +kernel
theorem dX11_doubles_73 : decode cX11_doubles 73 = .ok (.if_icmp .ge 31, 3) := by decide +kernel
theorem dX11_doubles_76 : decode cX11_doubles 76 = .ok (.aload 5, 2) := by decide +kernel
theorem dX11_doubles_78 : decode cX11_doubles 78 = .ok (.aload 4, 2) := by decide +kernel
theorem dX11_doubles_80 : decode cX11_doubles 80 = .ok (.iload 8, 2) := by decide +kernel
theorem dX11_doubles_82 : decode cX11_doubles 82 = .ok (.invokevirtual 236, 3) := by decide +kernel
theorem dX11_doubles_85 : decode cX11_doubles 85 = .ok (.aload 5, 2) := by decide +kernel
theorem dX11_doubles_87 : decode cX11_doubles 87 = .ok (.getfield 246, 3) := by decide +kernel
theorem dX11_doubles_90 : decode cX11_doubles 90 = .ok (.iload 6, 2) := by decide +kernel
theorem dX11_doubles_92 : decode cX11_doubles 92 = .ok (.if_icmp .ne 6, 3) := by decide +kernel
theorem dX11_doubles_95 : decode cX11_doubles 95 = .ok (.iinc 7 1, 3) := by decide +kernel
theorem dX11_doubles_98 : decode cX11_doubles 98 = .ok (.iinc 8 1, 3) := by decide +kernel
theorem dX11_doubles_101 : decode cX11_doubles 101 = .ok (.goto (-35), 3) := by decide +kernel
theorem dX11_doubles_104 : decode cX11_doubles 104 = .ok (.iload 7, 2) := by decide +kernel
theorem dX11_doubles_106 : decode cX11_doubles 106 = .ok (.ireturn, 1) := by decide +kernel
set_option maxHeartbeats 4000000 in
set_option maxRecDepth 100000 in
theorem s_X11_doubles {P : PP} {a0 : Nat} {a1 : Int32} {a2 : Int32} {a3 : Int32} (I : IV P) (ha0 : At P a0 11) : CtrI yX11_doubles cX11_doubles 9 (some Jvm.ClassFile.FieldType.int) ({ frames := 4, cells := 0, slots := 0, locals := 256 } : Room) 0 0 P [.ref a0, .int a1, .int a2, .int a3] (fun r P2 => IV P2 ∧ EK [0, 5, 13] P P2 ∧ (True)) := by
  refine enI (lv := [(0, .ref a0), (1, .int a1), (2, .int a2), (3, .int a3)]) (by decide) (Nat.le_of_ble_eq_true rfl) rfl (fun E D cy C Ci0 ret => ?_)
  have J66 : ∀ (n66 : Nat) (P66 : PP) (b66_4 : Nat) (b66_5 : Nat) (v66_6 : Int32) (v66_7 : Int32) (v66_8 : Int32), (44 - v66_8.toInt).toNat < n66 → (IV P66) → (EK [0, 5, 13] P P66) → (At P66 b66_4 5) → (At P66 b66_5 0) → (0 ≤ v66_6.toInt ∧ v66_6.toInt ≤ 20) → (0 ≤ v66_8.toInt ∧ v66_8.toInt ≤ 44) → G E ({ frames := 4, cells := 0, slots := 0, locals := 256 } : Room) D cy 9 P66 0 0 66 [(4, .ref b66_4), (5, .ref b66_5), (6, .int v66_6), (7, .int v66_7), (8, .int v66_8)] [] := by
    intro n66
    induction n66 with
    | zero => intro P66 b66_4 b66_5 v66_6 v66_7 v66_8 hm66 I66 X66 hb66_4 hb66_5 hv66_6 hv66_8; omega
    | succ n66 ih66 =>
      intro P66 b66_4 b66_5 v66_6 v66_7 v66_8 hm66 I66 X66 hb66_4 hb66_5 hv66_6 hv66_8
      have h19371 := X66.at ha0
      have J98 : ∀ (P98 : PP) (b98_4 : Nat) (b98_5 : Nat) (v98_7 : Int32), (IV P98) → (EK [0, 5, 13] P P98) → (At P98 b98_4 5) → (At P98 b98_5 0) → (0 ≤ v66_8.toInt ∧ v66_8.toInt ≤ 43) → (1 ≤ (pI P98 b98_4 4).toInt ∧ (pI P98 b98_4 4).toInt ≤ 44) → G E ({ frames := 4, cells := 0, slots := 0, locals := 256 } : Room) D cy 9 P98 0 0 98 [(4, .ref b98_4), (5, .ref b98_5), (6, .int v66_6), (7, .int v98_7), (8, .int v66_8)] [] := by
        intro P98 b98_4 b98_5 v98_7 I98 X98 hb98_4 hb98_5 hv98_8 hq98_0
        have h19372 := X98.at ha0
        refine s_iinc (lv0 := [(4, .ref b98_4), (5, .ref b98_5), (6, .int v66_6), (7, .int v98_7)]) (m := 1) C dX11_doubles_98 4 rfl (by decide) rfl (by decide) (by omega) (fun z19373 h19374 => ?_)
        have h19374 : z19373.toInt = v66_8.toInt + 1 := h19374
        refine g_goto C 66 dX11_doubles_101 (by decide) ?_
        refine g_lv (lv' := [(4, .ref b98_4), (5, .ref b98_5), (6, .int v66_6), (7, .int v98_7), (8, .int z19373)]) [1, 2, 3, 4, 0] rfl ?_
        exact ih66 P98 b98_4 b98_5 v66_6 v98_7 z19373 (by omega) I98 X98 hb98_4 hb98_5 (by omega) (by omega)
      refine g_iload C dX11_doubles_66 4 rfl ?_
      refine g_aload C dX11_doubles_68 0 rfl ?_
      refine g_getI C fi_X11_266 (by decide) (hb66_4).1 (hb66_4).2 dX11_doubles_70 ?_
      have h19375 := I66.rg (hb66_4) 4 rfl
      refine b_icmp_ge C 104 dX11_doubles_73 (by decide) (fun h19376 => ?_) (fun h19376 => ?_)
      · have h19376 : (pI P66 b66_4 4).toInt ≤ v66_8.toInt := h19376
        refine g_iload C dX11_doubles_104 3 rfl ?_
        exact ret _ _ _ _ _ _ dX11_doubles_106 rfl (by decide) (by decide) ⟨I66, X66, trivial⟩
      · have h19376 : v66_8.toInt < (pI P66 b66_4 4).toInt := h19376
        refine g_aload C dX11_doubles_76 1 rfl ?_
        refine g_aload C dX11_doubles_78 0 rfl ?_
        refine g_iload C dX11_doubles_80 4 rfl ?_
        refine g_callVV (rest := []) C mv_X11_236 [.ref b66_4, .int v66_8] (s_X0_take I66 hb66_5 hb66_4) (hb66_5).1 (hb66_5).2 rfl rfl (by decide) (Nat.le_of_ble_eq_true rfl) (by decide) dX11_doubles_82 (fun Y19378 h19379 => ?_)
        obtain ⟨Iy19380, Xy19381⟩ := h19379
        have q19382 := Xy19381.keep hb66_4 (by decide) 4
        have Xz19383 : EK [0, 5, 13] P Y19378 := X66.tr (Xy19381.mono (by decide))
        have h19384 := Xy19381.at h19371
        have h19385 := Xy19381.at hb66_4
        have h19386 := Xy19381.at hb66_5
        refine g_aload C dX11_doubles_85 1 rfl ?_
        refine g_getI C fi_X11_246 (by decide) (h19386).1 (h19386).2 dX11_doubles_87 ?_
        have h19387 := Iy19380.rg (h19386) 2 rfl
        refine g_iload C dX11_doubles_90 2 rfl ?_
        refine b_icmp_ne C 98 dX11_doubles_92 (by decide) (fun h19388 => ?_) (fun h19388 => ?_)
        · have h19388 : (pI Y19378 b66_5 2).toInt ≠ v66_6.toInt := ti_ne h19388
          exact J98 Y19378 b66_4 b66_5 v66_7 Iy19380 Xz19383 h19385 h19386 (by omega) (by omega)
        · have h19388 : (pI Y19378 b66_5 2).toInt = v66_6.toInt := congrArg Int32.toInt h19388
          refine a_iinc (lv0 := [(4, .ref b66_4), (5, .ref b66_5), (6, .int v66_6), (8, .int v66_8)]) C dX11_doubles_95 3 rfl (by decide) rfl (fun z19389 => ?_)
          refine g_lv (lv' := [(4, .ref b66_4), (5, .ref b66_5), (6, .int v66_6), (7, .int z19389), (8, .int v66_8)]) [1, 2, 3, 0, 4] rfl ?_
          exact J98 Y19378 b66_4 b66_5 z19389 Iy19380 Xz19383 h19385 h19386 (by omega) (by omega)
  have J22 : G E ({ frames := 4, cells := 0, slots := 0, locals := 256 } : Room) D cy 9 P 0 0 22 [] [] := by
    refine g_iconst (v := (-1)) C dX11_doubles_22 (by decide) ?_
    exact ret _ _ _ _ _ _ dX11_doubles_23 rfl (by decide) (by decide) ⟨I, EK.rf, trivial⟩
  refine g_iload_n C dX11_doubles_0 rfl 1 rfl ?_
  refine g_callSI (b := 0) (ci := 0) (rest := []) C ms_X11_158 [.int a1] (s_X11_isQuarter I) rfl rfl (by decide) (Nat.le_of_ble_eq_true rfl) (by decide) dX11_doubles_1 (fun r19391 Y19392 h19393 => ?_)
  obtain ⟨rfl, h19393⟩ := h19393
  obtain ⟨h19393, hi19394⟩ := h19393
  have hi19394 : r19391.toInt = 0 ∨ (((0 : Int) ≤ a1.toInt ∧ a1.toInt ≤ (3 : Int))) := hi19394
  have h19393 : 0 ≤ r19391.toInt ∧ r19391.toInt ≤ 1 := h19393
  refine b_if_eq C 22 dX11_doubles_4 (by decide) (fun h19395 => ?_) (fun h19395 => ?_)
  · have h19395 : r19391.toInt = 0 := congrArg Int32.toInt h19395
    clear hi19394
    refine g_lv (lv' := []) [] rfl ?_
    exact J22 
  · have h19395 : r19391.toInt ≠ 0 := ti_ne h19395
    replace hi19394 := hi19394.resolve_left (by omega)
    refine g_aload_n C dX11_doubles_7 rfl 0 rfl ?_
    refine g_iload_n C dX11_doubles_8 rfl 2 rfl ?_
    refine g_callVI (rest := []) C mv_X11_97 [.int a2] (s_X11_isTold I ha0) (ha0).1 (ha0).2 rfl rfl (by decide) (Nat.le_of_ble_eq_true rfl) (by decide) dX11_doubles_9 (fun r19396 Y19397 h19398 => ?_)
    obtain ⟨rfl, h19398⟩ := h19398
    obtain ⟨h19398, hi19399⟩ := h19398
    have hi19399 : r19396.toInt = 0 ∨ (((0 : Int) ≤ a2.toInt ∧ a2.toInt ≤ (1 : Int))) := hi19399
    have h19398 : 0 ≤ r19396.toInt ∧ r19396.toInt ≤ 1 := h19398
    refine b_if_eq C 22 dX11_doubles_12 (by decide) (fun h19400 => ?_) (fun h19400 => ?_)
    · have h19400 : r19396.toInt = 0 := congrArg Int32.toInt h19400
      clear hi19399
      refine g_lv (lv' := []) [] rfl ?_
      exact J22 
    · have h19400 : r19396.toInt ≠ 0 := ti_ne h19400
      replace hi19399 := hi19399.resolve_left (by omega)
      refine g_iload_n C dX11_doubles_15 rfl 3 rfl ?_
      refine g_callSI (b := 0) (ci := 0) (rest := []) C ms_X11_213 [.int a3] (s_X11_isOctet I) rfl rfl (by decide) (Nat.le_of_ble_eq_true rfl) (by decide) dX11_doubles_16 (fun r19401 Y19402 h19403 => ?_)
      obtain ⟨rfl, h19403⟩ := h19403
      obtain ⟨h19403, hi19404⟩ := h19403
      have hi19404 : r19401.toInt = 0 ∨ (((0 : Int) ≤ a3.toInt ∧ a3.toInt ≤ (1 : Int))) := hi19404
      have h19403 : 0 ≤ r19401.toInt ∧ r19401.toInt ≤ 1 := h19403
      refine b_if_ne C 24 dX11_doubles_19 (by decide) (fun h19405 => ?_) (fun h19405 => ?_)
      · have h19405 : r19401.toInt ≠ 0 := ti_ne h19405
        replace hi19404 := hi19404.resolve_left (by omega)
        refine g_aload_n C dX11_doubles_24 rfl 0 rfl ?_
        refine g_iload_n C dX11_doubles_25 rfl 1 rfl ?_
        refine g_iload_n C dX11_doubles_26 rfl 2 rfl ?_
        refine g_iload_n C dX11_doubles_27 rfl 3 rfl ?_
        refine g_callVQ (rest := []) C mv_X11_216 [.int a1, .int a2, .int a3] (s_X11_gather I ha0 (by omega) (by omega) (by omega)) (ha0).1 (ha0).2 rfl rfl (by decide) (Nat.le_of_ble_eq_true rfl) (by decide) dX11_doubles_28 (fun r19406 Y19407 h19408 => ?_)
        obtain ⟨Iy19409, Xy19410, h19408⟩ := h19408
        have Xz19411 : EK [0, 5, 13] P Y19407 := Xy19410.mono (by decide)
        have h19412 := Xy19410.at ha0
        obtain ⟨b19414, rfl, h19408⟩ := h19408
        show G _ _ _ _ _ _ _ _ _ _ (.ref b19414 :: _)
        refine g_astore (lv' := [(4, .ref b19414), (0, .ref a0), (1, .int a1), (2, .int a2), (3, .int a3)]) C dX11_doubles_31 (by decide) rfl ?_
        refine g_aload_n C dX11_doubles_33 rfl 1 rfl ?_
        obtain ⟨b19415, e19416, h19417⟩ := Iy19409.fld (h19412) 9 16 2 rfl
        refine g_getR C fi_X11_53 rfl e19416 (h19412).1 (h19412).2 dX11_doubles_34 ?_
        refine g_iconst (v := 0) C dX11_doubles_37 (by decide) ?_
        obtain ⟨b19418, e19419, h19420⟩ := Iy19409.elm h19417 (by decide) 0 (by decide)
        refine g_aldR C h19417.1 h19417.2.1 (by decide) (IX.litn (j := 0) h19417.2.2 rfl (by decide) (by decide)) e19419 dX11_doubles_38 ?_
        refine g_astore (lv' := [(5, .ref b19418), (4, .ref b19414), (0, .ref a0), (1, .int a1), (2, .int a2), (3, .int a3)]) C dX11_doubles_39 (by decide) rfl ?_
        refine g_aload C dX11_doubles_41 0 rfl ?_
        refine g_aload C dX11_doubles_43 1 rfl ?_
        refine g_iconst (v := (-1)) C dX11_doubles_45 (by decide) ?_
        refine g_callVV (rest := []) C mv_X11_236 [.ref b19414, .int (-1)] (s_X0_take Iy19409 h19420 h19408) (h19420).1 (h19420).2 rfl rfl (by decide) (Nat.le_of_ble_eq_true rfl) (by decide) dX11_doubles_46 (fun Y19422 h19423 => ?_)
        obtain ⟨Iy19424, Xy19425⟩ := h19423
        have Xz19426 : EK [0, 5, 13] P Y19422 := Xz19411.tr (Xy19425.mono (by decide))
        have h19427 := Xy19425.at h19412
        have h19428 := Xy19425.at h19408
        have h19429 := Xy19425.at h19420
        refine g_aload C dX11_doubles_49 0 rfl ?_
        refine g_getI C fi_X11_246 (by decide) (h19429).1 (h19429).2 dX11_doubles_51 ?_
        have h19430 := Iy19424.rg (h19429) 2 rfl
        refine g_topi (fun z19431 h19432 => ?_)
        have h19432 : z19431.toInt = (pI Y19422 b19418 2).toInt := congrArg Int32.toInt h19432
        refine g_istore (lv' := [(6, .int z19431), (5, .ref b19418), (4, .ref b19414), (0, .ref a0), (1, .int a1), (2, .int a2), (3, .int a3)]) C dX11_doubles_54 (by decide) rfl ?_
        refine g_iconst (v := 0) C dX11_doubles_56 (by decide) ?_
        refine g_istore (lv' := [(7, .int 0), (6, .int z19431), (5, .ref b19418), (4, .ref b19414), (0, .ref a0), (1, .int a1), (2, .int a2), (3, .int a3)]) C dX11_doubles_57 (by decide) rfl ?_
        refine g_aload C dX11_doubles_59 3 rfl ?_
        refine g_getI C fi_X11_263 (by decide) (h19428).1 (h19428).2 dX11_doubles_61 ?_
        have h19433 := Iy19424.rg (h19428) 5 rfl
        refine g_topi (fun z19434 h19435 => ?_)
        have h19435 : z19434.toInt = (pI Y19422 b19414 5).toInt := congrArg Int32.toInt h19435
        refine g_istore (lv' := [(8, .int z19434), (7, .int 0), (6, .int z19431), (5, .ref b19418), (4, .ref b19414), (0, .ref a0), (1, .int a1), (2, .int a2), (3, .int a3)]) C dX11_doubles_64 (by decide) rfl ?_
        refine g_lv (lv' := [(4, .ref b19414), (5, .ref b19418), (6, .int z19431), (7, .int 0), (8, .int z19434)]) [4, 3, 2, 1, 0] rfl ?_
        exact J66 _ Y19422 b19414 b19418 z19431 0 z19434 (Nat.lt_succ_self _) Iy19424 Xz19426 h19428 h19429 (by omega) (by omega)
      · have h19405 : r19401.toInt = 0 := congrArg Int32.toInt h19405
        clear hi19404
        refine g_lv (lv' := []) [] rfl ?_
        exact J22 
theorem dX11_draw_0 : decode cX11_draw 0 = .ok (.iconst (-1), 1) := by decide +kernel
theorem dX11_draw_1 : decode cX11_draw 1 = .ok (.istore_n 2, 1) := by decide +kernel
theorem dX11_draw_2 : decode cX11_draw 2 = .ok (.aload_n 0, 1) := by decide +kernel
theorem dX11_draw_3 : decode cX11_draw 3 = .ok (.iload_n 1, 1) := by decide +kernel
theorem dX11_draw_4 : decode cX11_draw 4 = .ok (.invokevirtual 97, 3) := by decide +kernel
theorem dX11_draw_7 : decode cX11_draw 7 = .ok (.ifCond .eq 52, 3) := by decide +kernel
theorem dX11_draw_10 : decode cX11_draw 10 = .ok (.aload_n 0, 1) := by decide +kernel
theorem dX11_draw_11 : decode cX11_draw 11 = .ok (.iload_n 1, 1) := by decide +kernel
theorem dX11_draw_12 : decode cX11_draw 12 = .ok (.invokevirtual 105, 3) := by decide +kernel
theorem dX11_isTouched_0 : decode cX11_isTouched 0 = .ok (.iconst 0, 1) := by decide +kernel
theorem dX11_isTouched_1 : decode cX11_isTouched 1 = .ok (.istore_n 2, 1) := by decide +kernel
theorem dX11_isTouched_2 : decode cX11_isTouched 2 = .ok (.iload_n 2, 1) := by decide +kernel
theorem dX11_isTouched_3 : decode cX11_isTouched 3 = .ok (.iconst 4, 1) := by decide +kernel
theorem dX11_isTouched_4 : decode cX11_isTouched 4 = .ok (.if_icmp .ge 24, 3) := by decide +kernel
theorem dX11_isTouched_7 : decode cX11_isTouched 7 = .ok (.aload_n 0, 1) := by decide +kernel
theorem dX11_isTouched_8 : decode cX11_isTouched 8 = .ok (.getfield 17, 3) := by decide +kernel
theorem dX11_isTouched_11 : decode cX11_isTouched 11 = .ok (.iload_n 2, 1) := by decide +kernel
theorem dX11_isTouched_12 : decode cX11_isTouched 12 = .ok (.aaload, 1) := by decide +kernel
theorem dX11_isTouched_13 : decode cX11_isTouched 13 = .ok (.iload_n 1, 1) := by decide +kernel
theorem dX11_isTouched_14 : decode cX11_isTouched 14 = .ok (.invokevirtual 351, 3) := by decide +kernel
theorem dX6_touches_0 : decode cX6_touches 0 = .ok (.iconst 0, 1) := by decide +kernel
theorem dX6_touches_1 : decode cX6_touches 1 = .ok (.istore_n 2, 1) := by decide +kernel
theorem dX6_touches_2 : decode cX6_touches 2 = .ok (.iload_n 2, 1) := by decide +kernel
theorem dX6_touches_3 : decode cX6_touches 3 = .ok (.aload_n 0, 1) := by decide +kernel
theorem dX6_touches_4 : decode cX6_touches 4 = .ok (.getfield 17, 3) := by decide +kernel
theorem dX6_touches_7 : decode cX6_touches 7 = .ok (.if_icmp .ge 24, 3) := by decide +kernel
theorem dX6_touches_10 : decode cX6_touches 10 = .ok (.aload_n 0, 1) := by decide +kernel
theorem dX6_touches_11 : decode cX6_touches 11 = .ok (.getfield 11, 3) := by decide +kernel
theorem dX6_touches_14 : decode cX6_touches 14 = .ok (.iload_n 2, 1) := by decide +kernel
theorem dX6_touches_15 : decode cX6_touches 15 = .ok (.aaload, 1) := by decide +kernel
theorem dX6_touches_16 : decode cX6_touches 16 = .ok (.iload_n 1, 1) := by decide +kernel
theorem dX6_touches_17 : decode cX6_touches 17 = .ok (.invokestatic 32, 3) := by decide +kernel
theorem dX6_touches_20 : decode cX6_touches 20 = .ok (.ifCond .eq 5, 3) := by decide +kernel
theorem dX6_touches_23 : decode cX6_touches 23 = .ok (.iconst 1, 1) := by decide +kernel
theorem dX6_touches_24 : decode cX6_touches 24 = .ok (.ireturn, 1) := by decide +kernel
theorem dX6_touches_25 : decode cX6_touches 25 = .ok (.iinc 2 1, 3) := by decide +kernel
theorem dX6_touches_28 : decode cX6_touches 28 = .ok (.goto (-26), 3) := by decide +kernel
theorem dX6_touches_31 : decode cX6_touches 31 = .ok (.iconst 0, 1) := by decide +kernel
theorem dX6_touches_32 : decode cX6_touches 32 = .ok (.ireturn, 1) := by decide +kernel
set_option maxHeartbeats 4000000 in
set_option maxRecDepth 100000 in
theorem s_X6_touches {P : PP} {a0 : Nat} {a1 : Int32} (I : IV P) (ha0 : At P a0 6) : CtrI yX6_touches cX6_touches 3 (some Jvm.ClassFile.FieldType.boolean) ({ frames := 2, cells := 0, slots := 0, locals := 128 } : Room) 0 0 P [.ref a0, .int a1] (fun r P2 => P = P2 ∧ (0 ≤ r.toInt ∧ r.toInt ≤ 1)) := by
  refine enI (lv := [(0, .ref a0), (1, .int a1)]) (by decide) (Nat.le_of_ble_eq_true rfl) rfl (fun E D cy C Ci0 ret => ?_)
  have J2 : ∀ (n2 : Nat) (v2_2 : Int32), (40 - v2_2.toInt).toNat < n2 → (0 ≤ v2_2.toInt ∧ v2_2.toInt ≤ 40) → G E ({ frames := 2, cells := 0, slots := 0, locals := 128 } : Room) D cy 3 P 0 0 2 [(0, .ref a0), (1, .int a1), (2, .int v2_2)] [] := by
    intro n2
    induction n2 with
    | zero => intro v2_2 hm2 hv2_2; omega
    | succ n2 ih2 =>
      intro v2_2 hm2 hv2_2
      refine g_iload_n C dX6_touches_2 rfl 2 rfl ?_
      refine g_aload_n C dX6_touches_3 rfl 0 rfl ?_
      refine g_getI C fi_X6_17 (by decide) (ha0).1 (ha0).2 dX6_touches_4 ?_
      have h19748 := I.rg (ha0) 1 rfl
      refine b_icmp_ge C 31 dX6_touches_7 (by decide) (fun h19749 => ?_) (fun h19749 => ?_)
      · have h19749 : (pI P a0 1).toInt ≤ v2_2.toInt := h19749
        refine g_iconst (v := 0) C dX6_touches_31 (by decide) ?_
        exact ret _ _ _ _ _ _ dX6_touches_32 rfl (by decide) (by decide) ⟨rfl, (by decide)⟩
      · have h19749 : v2_2.toInt < (pI P a0 1).toInt := h19749
        refine g_aload_n C dX6_touches_10 rfl 0 rfl ?_
        obtain ⟨b19750, e19751, h19752⟩ := I.fld (ha0) 0 20 40 rfl
        refine g_getR C fi_X6_11 rfl e19751 (ha0).1 (ha0).2 dX6_touches_11 ?_
        refine g_iload_n C dX6_touches_14 rfl 2 rfl ?_
        refine g_aldQ (j := (v2_2.toInt.toNat)) C h19752.1 h19752.2.1 (by decide) (ix_in h19752.2.2 (by omega)) dX6_touches_15 ?_
        rcases I.pap h19752 (v2_2.toInt.toNat) with e19754 | ⟨b19753, e19754, h19755⟩
        · rw [e19754]
          show G _ _ _ _ _ _ _ _ _ _ (.null :: _)
          refine g_iload_n C dX6_touches_16 rfl 1 rfl ?_
          refine g_callSI (b := 0) (ci := 0) (rest := []) C ms_X6_32 [.null, .int a1] (s_X6_isTouchingn0 I) rfl rfl (by decide) (Nat.le_of_ble_eq_true rfl) (by decide) dX6_touches_17 (fun r19756 Y19757 h19758 => ?_)
          obtain ⟨rfl, h19758⟩ := h19758
          have h19758 : 0 ≤ r19756.toInt ∧ r19756.toInt ≤ 0 := h19758
          refine b_if_eq C 25 dX6_touches_20 (by decide) (fun h19759 => ?_) (fun h19759 => ?_)
          · have h19759 : r19756.toInt = 0 := congrArg Int32.toInt h19759
            refine s_iinc (lv0 := [(0, .ref a0), (1, .int a1)]) (m := 1) C dX6_touches_25 2 rfl (by decide) rfl (by decide) (by omega) (fun z19760 h19761 => ?_)
            have h19761 : z19760.toInt = v2_2.toInt + 1 := h19761
            refine g_goto C 2 dX6_touches_28 (by decide) ?_
            refine g_lv (lv' := [(0, .ref a0), (1, .int a1), (2, .int z19760)]) [1, 2, 0] rfl ?_
            exact ih2 z19760 (by omega) (by omega)
          · have h19759 : r19756.toInt ≠ 0 := ti_ne h19759
            omega
        · rw [e19754]
          show G _ _ _ _ _ _ _ _ _ _ (.ref b19753 :: _)
          refine g_iload_n C dX6_touches_16 rfl 1 rfl ?_
          refine g_callSI (b := 0) (ci := 0) (rest := []) C ms_X6_32 [.ref b19753, .int a1] (s_X6_isTouching I h19755) rfl rfl (by decide) (Nat.le_of_ble_eq_true rfl) (by decide) dX6_touches_17 (fun r19762 Y19763 h19764 => ?_)
          obtain ⟨rfl, h19764⟩ := h19764
          have h19764 : 0 ≤ r19762.toInt ∧ r19762.toInt ≤ 1 := h19764
          refine b_if_eq C 25 dX6_touches_20 (by decide) (fun h19765 => ?_) (fun h19765 => ?_)
          · have h19765 : r19762.toInt = 0 := congrArg Int32.toInt h19765
            refine s_iinc (lv0 := [(0, .ref a0), (1, .int a1)]) (m := 1) C dX6_touches_25 2 rfl (by decide) rfl (by decide) (by omega) (fun z19766 h19767 => ?_)
            have h19767 : z19766.toInt = v2_2.toInt + 1 := h19767
            refine g_goto C 2 dX6_touches_28 (by decide) ?_
            refine g_lv (lv' := [(0, .ref a0), (1, .int a1), (2, .int z19766)]) [1, 2, 0] rfl ?_
            exact ih2 z19766 (by omega) (by omega)
          · have h19765 : r19762.toInt ≠ 0 := ti_ne h19765
            refine g_iconst (v := 1) C dX6_touches_23 (by decide) ?_
            exact ret _ _ _ _ _ _ dX6_touches_24 rfl (by decide) (by decide) ⟨rfl, (by decide)⟩
  refine g_iconst (v := 0) C dX6_touches_0 (by decide) ?_
  refine g_istore_n (lv' := [(2, .int 0), (0, .ref a0), (1, .int a1)]) C dX6_touches_1 rfl (by decide) rfl ?_
  refine g_lv (lv' := [(0, .ref a0), (1, .int a1), (2, .int 0)]) [1, 2, 0] rfl ?_
  exact J2 _ 0 (Nat.lt_succ_self _) (by decide)
theorem dX11_isTouched_17 : decode cX11_isTouched 17 = .ok (.ifCond .eq 5, 3) := by decide +kernel
theorem dX11_isTouched_20 : decode cX11_isTouched 20 = .ok (.iconst 1, 1) := by decide +kernel
theorem dX11_isTouched_21 : decode cX11_isTouched 21 = .ok (.ireturn, 1) := by decide +kernel
theorem dX11_isTouched_22 : decode cX11_isTouched 22 = .ok (.iinc 2 1, 3) := by decide +kernel
theorem dX11_isTouched_25 : decode cX11_isTouched 25 = .ok (.goto (-23), 3) := by decide +kernel
theorem dX11_isTouched_28 : decode cX11_isTouched 28 = .ok (.iconst 0, 1) := by decide +kernel
theorem dX11_isTouched_29 : decode cX11_isTouched 29 = .ok (.ireturn, 1) := by decide +kernel
set_option maxHeartbeats 4000000 in
set_option maxRecDepth 100000 in
theorem s_X11_isTouched {P : PP} {a0 : Nat} {a1 : Int32} (I : IV P) (ha0 : At P a0 11) : CtrI yX11_isTouched cX11_isTouched 3 (some Jvm.ClassFile.FieldType.boolean) ({ frames := 3, cells := 0, slots := 0, locals := 192 } : Room) 0 0 P [.ref a0, .int a1] (fun r P2 => P = P2 ∧ (0 ≤ r.toInt ∧ r.toInt ≤ 1)) := by
  refine enI (lv := [(0, .ref a0), (1, .int a1)]) (by decide) (Nat.le_of_ble_eq_true rfl) rfl (fun E D cy C Ci0 ret => ?_)
  have J2 : ∀ (n2 : Nat) (v2_2 : Int32), (4 - v2_2.toInt).toNat < n2 → (0 ≤ v2_2.toInt ∧ v2_2.toInt ≤ 4) → G E ({ frames := 3, cells := 0, slots := 0, locals := 192 } : Room) D cy 3 P 0 0 2 [(0, .ref a0), (1, .int a1), (2, .int v2_2)] [] := by
    intro n2
    induction n2 with
    | zero => intro v2_2 hm2 hv2_2; omega
    | succ n2 ih2 =>
      intro v2_2 hm2 hv2_2
      refine g_iload_n C dX11_isTouched_2 rfl 2 rfl ?_
      refine g_iconst (v := 4) C dX11_isTouched_3 (by decide) ?_
      refine b_icmp_ge C 28 dX11_isTouched_4 (by decide) (fun h19833 => ?_) (fun h19833 => ?_)
      · have h19833 : 4 ≤ v2_2.toInt := h19833
        refine g_iconst (v := 0) C dX11_isTouched_28 (by decide) ?_
        exact ret _ _ _ _ _ _ dX11_isTouched_29 rfl (by decide) (by decide) ⟨rfl, (by decide)⟩
      · have h19833 : v2_2.toInt < 4 := h19833
        refine g_aload_n C dX11_isTouched_7 rfl 0 rfl ?_
        obtain ⟨b19834, e19835, h19836⟩ := I.fld (ha0) 1 19 4 rfl
        refine g_getR C fi_X11_17 rfl e19835 (ha0).1 (ha0).2 dX11_isTouched_8 ?_
        refine g_iload_n C dX11_isTouched_11 rfl 2 rfl ?_
        obtain ⟨b19837, e19838, h19839⟩ := I.elm h19836 (by decide) (v2_2.toInt.toNat) (by omega)
        refine g_aldR C h19836.1 h19836.2.1 (by decide) (ix_in h19836.2.2 (by omega)) e19838 dX11_isTouched_12 ?_
        refine g_iload_n C dX11_isTouched_13 rfl 1 rfl ?_
        refine g_callVI (rest := []) C mv_X11_351 [.int a1] (s_X6_touches I h19839) (h19839).1 (h19839).2 rfl rfl (by decide) (Nat.le_of_ble_eq_true rfl) (by decide) dX11_isTouched_14 (fun r19840 Y19841 h19842 => ?_)
        obtain ⟨rfl, h19842⟩ := h19842
        have h19842 : 0 ≤ r19840.toInt ∧ r19840.toInt ≤ 1 := h19842
        refine b_if_eq C 22 dX11_isTouched_17 (by decide) (fun h19843 => ?_) (fun h19843 => ?_)
        · have h19843 : r19840.toInt = 0 := congrArg Int32.toInt h19843
          refine s_iinc (lv0 := [(0, .ref a0), (1, .int a1)]) (m := 1) C dX11_isTouched_22 2 rfl (by decide) rfl (by decide) (by omega) (fun z19844 h19845 => ?_)
          have h19845 : z19844.toInt = v2_2.toInt + 1 := h19845
          refine g_goto C 2 dX11_isTouched_25 (by decide) ?_
          refine g_lv (lv' := [(0, .ref a0), (1, .int a1), (2, .int z19844)]) [1, 2, 0] rfl ?_
          exact ih2 z19844 (by omega) (by omega)
        · have h19843 : r19840.toInt ≠ 0 := ti_ne h19843
          refine g_iconst (v := 1) C dX11_isTouched_20 (by decide) ?_
          exact ret _ _ _ _ _ _ dX11_isTouched_21 rfl (by decide) (by decide) ⟨rfl, (by decide)⟩
  refine g_iconst (v := 0) C dX11_isTouched_0 (by decide) ?_
  refine g_istore_n (lv' := [(2, .int 0), (0, .ref a0), (1, .int a1)]) C dX11_isTouched_1 rfl (by decide) rfl ?_
  refine g_lv (lv' := [(0, .ref a0), (1, .int a1), (2, .int 0)]) [1, 2, 0] rfl ?_
  exact J2 _ 0 (Nat.lt_succ_self _) (by decide)
theorem dX11_draw_15 : decode cX11_draw 15 = .ok (.ifCond .ne 44, 3) := by decide +kernel
theorem dX11_draw_18 : decode cX11_draw 18 = .ok (.aload_n 0, 1) := by decide +kernel
theorem dX11_draw_19 : decode cX11_draw 19 = .ok (.getfield 41, 3) := by decide +kernel
theorem dX11_draw_22 : decode cX11_draw 22 = .ok (.aload_n 0, 1) := by decide +kernel
theorem dX11_draw_23 : decode cX11_draw 23 = .ok (.getfield 11, 3) := by decide +kernel
theorem dX11_draw_26 : decode cX11_draw 26 = .ok (.iload_n 1, 1) := by decide +kernel
theorem dX11_draw_27 : decode cX11_draw 27 = .ok (.aaload, 1) := by decide +kernel
theorem dX11_draw_28 : decode cX11_draw 28 = .ok (.getfield 100, 3) := by decide +kernel
theorem dX11_draw_31 : decode cX11_draw 31 = .ok (.invokevirtual 124, 3) := by decide +kernel
theorem dX4_faultFor_0 : decode cX4_faultFor 0 = .ok (.aload_n 0, 1) := by decide +kernel
theorem dX4_faultFor_1 : decode cX4_faultFor 1 = .ok (.getfield 21, 3) := by decide +kernel
theorem dX4_faultFor_4 : decode cX4_faultFor 4 = .ok (.invokevirtual 25, 3) := by decide +kernel
theorem dX4_faultFor_7 : decode cX4_faultFor 7 = .ok (.aload_n 0, 1) := by decide +kernel
theorem dX4_faultFor_8 : decode cX4_faultFor 8 = .ok (.getfield 12, 3) := by decide +kernel
theorem dX4_faultFor_11 : decode cX4_faultFor 11 = .ok (.invokevirtual 28, 3) := by decide +kernel
theorem dX9_rewind_0 : decode cX9_rewind 0 = .ok (.aload_n 0, 1) := by decide +kernel
theorem dX9_rewind_1 : decode cX9_rewind 1 = .ok (.iconst 0, 1) := by decide +kernel
theorem dX9_rewind_2 : decode cX9_rewind 2 = .ok (.putfield 19, 3) := by decide +kernel
theorem dX9_rewind_5 : decode cX9_rewind 5 = .ok (.return_, 1) := by decide +kernel
set_option maxHeartbeats 4000000 in
set_option maxRecDepth 100000 in
theorem s_X9_rewind {P : PP} {a0 : Nat} (I : IV P) (ha0 : At P a0 9) : CtrV yX9_rewind cX9_rewind 1 none ({ frames := 1, cells := 0, slots := 0, locals := 64 } : Room) 0 0 P [.ref a0] (fun P2 => IV P2 ∧ EK [9] P P2) := by
  refine enV (lv := [(0, .ref a0)]) (by decide) (Nat.le_of_ble_eq_true rfl) rfl (fun E D cy C Ci0 ret => ?_)
  refine g_aload_n C dX9_rewind_0 rfl 0 rfl ?_
  refine g_iconst (v := 0) C dX9_rewind_1 (by decide) ?_
  refine g_putI C fi_X9_19 rfl (ha0).1 (ha0).2 dX9_rewind_2 ?_
  refine gpW (ks := [9]) (I.setI (ha0) (rgOk.of rfl (by decide))) (EK.setI (ha0).2 (by decide)) (fun Y19885 Iy19886 Xy19887 w19888 w19889 => ?_)
  have w19889 : (pI Y19885 a0 4).toInt = 0 := w19889
  have Xz19890 : EK [9] P Y19885 := Xy19887.mono (by decide)
  have h19891 := Xy19887.at ha0
  exact ret _ _ _ _ _ dX9_rewind_5 (by decide) (by decide) ⟨Iy19886, Xz19890⟩
theorem dX4_faultFor_14 : decode cX4_faultFor 14 = .ok (.iconst 0, 1) := by decide +kernel
theorem dX4_faultFor_15 : decode cX4_faultFor 15 = .ok (.istore_n 2, 1) := by decide +kernel
theorem dX4_faultFor_16 : decode cX4_faultFor 16 = .ok (.iload_n 2, 1) := by decide +kernel
theorem dX4_faultFor_17 : decode cX4_faultFor 17 = .ok (.sipush 1000, 3) := by decide +kernel
theorem dX4_faultFor_20 : decode cX4_faultFor 20 = .ok (.if_icmp .gt 40, 3) := by decide +kernel
theorem dX4_faultFor_23 : decode cX4_faultFor 23 = .ok (.aload_n 0, 1) := by decide +kernel
theorem dX4_faultFor_24 : decode cX4_faultFor 24 = .ok (.getfield 12, 3) := by decide +kernel
theorem dX4_faultFor_27 : decode cX4_faultFor 27 = .ok (.invokevirtual 31, 3) := by decide +kernel
theorem dX9_next_0 : decode cX9_next 0 = .ok (.aload_n 0, 1) := by decide +kernel
theorem dX9_next_1 : decode cX9_next 1 = .ok (.getfield 19, 3) := by decide +kernel
theorem dX9_next_4 : decode cX9_next 4 = .ok (.aload_n 0, 1) := by decide +kernel
theorem dX9_next_5 : decode cX9_next 5 = .ok (.getfield 15, 3) := by decide +kernel
theorem dX9_next_8 : decode cX9_next 8 = .ok (.if_icmp .ge 44, 3) := by decide +kernel
theorem dX9_next_11 : decode cX9_next 11 = .ok (.aload_n 0, 1) := by decide +kernel
theorem dX9_next_12 : decode cX9_next 12 = .ok (.getfield 9, 3) := by decide +kernel
theorem dX9_next_15 : decode cX9_next 15 = .ok (.aload_n 0, 1) := by decide +kernel
theorem dX9_next_16 : decode cX9_next 16 = .ok (.getfield 19, 3) := by decide +kernel
theorem dX9_next_19 : decode cX9_next 19 = .ok (.iaload, 1) := by decide +kernel
theorem dX9_next_20 : decode cX9_next 20 = .ok (.bipush 10, 2) := by decide +kernel
theorem dX9_next_22 : decode cX9_next 22 = .ok (.if_icmp .eq 17, 3) := by decide +kernel
theorem dX9_next_25 : decode cX9_next 25 = .ok (.aload_n 0, 1) := by decide +kernel
theorem dX9_next_26 : decode cX9_next 26 = .ok (.getfield 9, 3) := by decide +kernel
theorem dX9_next_29 : decode cX9_next 29 = .ok (.aload_n 0, 1) := by decide +kernel
theorem dX9_next_30 : decode cX9_next 30 = .ok (.getfield 19, 3) := by decide +kernel
theorem dX9_next_33 : decode cX9_next 33 = .ok (.iaload, 1) := by decide +kernel
theorem dX9_next_34 : decode cX9_next 34 = .ok (.bipush 32, 2) := by decide +kernel
theorem dX9_next_36 : decode cX9_next 36 = .ok (.if_icmp .ne 16, 3) := by decide +kernel
theorem dX9_next_52 : decode cX9_next 52 = .ok (.aload_n 0, 1) := by decide +kernel
theorem dX9_next_53 : decode cX9_next 53 = .ok (.aload_n 0, 1) := by decide +kernel
theorem dX9_next_54 : decode cX9_next 54 = .ok (.getfield 19, 3) := by decide +kernel
theorem dX9_next_57 : decode cX9_next 57 = .ok (.putfield 22, 3) := by decide +kernel
theorem dX9_next_60 : decode cX9_next 60 = .ok (.aload_n 0, 1) := by decide +kernel
theorem dX9_next_61 : decode cX9_next 61 = .ok (.getfield 22, 3) := by decide +kernel
theorem dX9_next_64 : decode cX9_next 64 = .ok (.aload_n 0, 1) := by decide +kernel
theorem dX9_next_65 : decode cX9_next 65 = .ok (.getfield 15, 3) := by decide +kernel
theorem dX9_next_68 : decode cX9_next 68 = .ok (.if_icmp .lt 9, 3) := by decide +kernel
theorem dX9_next_77 : decode cX9_next 77 = .ok (.aload_n 0, 1) := by decide +kernel
theorem dX9_next_78 : decode cX9_next 78 = .ok (.getfield 9, 3) := by decide +kernel
theorem dX9_next_81 : decode cX9_next 81 = .ok (.aload_n 0, 1) := by decide +kernel
theorem dX9_next_82 : decode cX9_next 82 = .ok (.getfield 22, 3) := by decide +kernel
theorem dX9_next_85 : decode cX9_next 85 = .ok (.iaload, 1) := by decide +kernel
theorem dX9_next_86 : decode cX9_next 86 = .ok (.istore_n 1, 1) := by decide +kernel
theorem dX9_next_87 : decode cX9_next 87 = .ok (.iload_n 1, 1) := by decide +kernel
theorem dX9_next_88 : decode cX9_next 88 = .ok (.bipush 97, 2) := by decide +kernel
theorem dX9_next_90 : decode cX9_next 90 = .ok (.if_icmp .lt 43, 3) := by decide +kernel
theorem dX9_next_93 : decode cX9_next 93 = .ok (.iload_n 1, 1) := by decide +kernel
theorem dX9_next_94 : decode cX9_next 94 = .ok (.bipush 122, 2) := by decide +kernel
theorem dX9_next_96 : decode cX9_next 96 = .ok (.if_icmp .gt 37, 3) := by decide +kernel
theorem dX9_next_99 : decode cX9_next 99 = .ok (.aload_n 0, 1) := by decide +kernel
theorem dX9_next_100 : decode cX9_next 100 = .ok (.bipush 97, 2) := by decide +kernel
theorem dX9_next_102 : decode cX9_next 102 = .ok (.bipush 122, 2) := by decide +kernel
theorem dX9_next_104 : decode cX9_next 104 = .ok (.invokevirtual 28, 3) := by decide +kernel
theorem dX9_takeRun_0 : decode cX9_takeRun 0 = .ok (.aload_n 0, 1) := by decide +kernel
theorem dX9_takeRun_1 : decode cX9_takeRun 1 = .ok (.getfield 19, 3) := by decide +kernel
theorem dX9_takeRun_4 : decode cX9_takeRun 4 = .ok (.aload_n 0, 1) := by decide +kernel
theorem dX9_takeRun_5 : decode cX9_takeRun 5 = .ok (.getfield 15, 3) := by decide +kernel
theorem dX9_takeRun_8 : decode cX9_takeRun 8 = .ok (.if_icmp .ge 42, 3) := by decide +kernel
theorem dX9_takeRun_11 : decode cX9_takeRun 11 = .ok (.aload_n 0, 1) := by decide +kernel
theorem dX9_takeRun_12 : decode cX9_takeRun 12 = .ok (.getfield 9, 3) := by decide +kernel
theorem dX9_takeRun_15 : decode cX9_takeRun 15 = .ok (.aload_n 0, 1) := by decide +kernel
theorem dX9_takeRun_16 : decode cX9_takeRun 16 = .ok (.getfield 19, 3) := by decide +kernel
theorem dX9_takeRun_19 : decode cX9_takeRun 19 = .ok (.iaload, 1) := by decide +kernel
theorem dX9_takeRun_20 : decode cX9_takeRun 20 = .ok (.iload_n 1, 1) := by decide +kernel
theorem dX9_takeRun_21 : decode cX9_takeRun 21 = .ok (.if_icmp .lt 29, 3) := by decide +kernel
theorem dX9_takeRun_24 : decode cX9_takeRun 24 = .ok (.aload_n 0, 1) := by decide +kernel
theorem dX9_takeRun_25 : decode cX9_takeRun 25 = .ok (.getfield 9, 3) := by decide +kernel
theorem dX9_takeRun_28 : decode cX9_takeRun 28 = .ok (.aload_n 0, 1) := by decide +kernel
theorem dX9_takeRun_29 : decode cX9_takeRun 29 = .ok (.getfield 19, 3) := by decide +kernel
theorem dX9_takeRun_32 : decode cX9_takeRun 32 = .ok (.iaload, 1) := by decide +kernel
theorem dX9_takeRun_33 : decode cX9_takeRun 33 = .ok (.iload_n 2, 1) := by decide +kernel
theorem dX9_takeRun_34 : decode cX9_takeRun 34 = .ok (.if_icmp .gt 16, 3) := by decide +kernel
theorem dX9_takeRun_37 : decode cX9_takeRun 37 = .ok (.aload_n 0, 1) := by decide +kernel
theorem dX9_takeRun_38 : decode cX9_takeRun 38 = .ok (.dup, 1) := by decide +kernel
theorem dX9_takeRun_39 : decode cX9_takeRun 39 = .ok (.getfield 19, 3) := by decide +kernel
theorem dX9_takeRun_42 : decode cX9_takeRun 42 = .ok (.iconst 1, 1) := by decide +kernel
theorem dX9_takeRun_43 : decode cX9_takeRun 43 = .ok (.iadd, 1) := by decide +kernel
theorem dX9_takeRun_44 : decode cX9_takeRun 44 = .ok (.putfield 19, 3) := by decide +kernel
theorem dX9_takeRun_47 : decode cX9_takeRun 47 = .ok (.goto (-47), 3) := by decide +kernel
theorem dX9_takeRun_50 : decode cX9_takeRun 50 = .ok (.return_, 1) := by decide +kernel
set_option maxHeartbeats 4000000 in
set_option maxRecDepth 100000 in
theorem s_X9_takeRun {P : PP} {a0 : Nat} {a1 : Int32} {a2 : Int32} (I : IV P) (ha0 : At P a0 9) : CtrV yX9_takeRun cX9_takeRun 3 none ({ frames := 1, cells := 0, slots := 0, locals := 64 } : Room) 0 0 P [.ref a0, .int a1, .int a2] (fun P2 => IV P2 ∧ EK [9] P P2) := by
  refine enV (lv := [(0, .ref a0), (1, .int a1), (2, .int a2)]) (by decide) (Nat.le_of_ble_eq_true rfl) rfl (fun E D cy C Ci0 ret => ?_)
  have J0 : ∀ (n0 : Nat) (P0 : PP), (1000 - (pI P0 a0 4).toInt).toNat < n0 → (IV P0) → (EK [9] P P0) → G E ({ frames := 1, cells := 0, slots := 0, locals := 64 } : Room) D cy 3 P0 0 0 0 [(0, .ref a0), (1, .int a1), (2, .int a2)] [] := by
    intro n0
    induction n0 with
    | zero => intro P0 hm0 I0 X0; omega
    | succ n0 ih0 =>
      intro P0 hm0 I0 X0
      have h19997 := X0.at ha0
      refine g_aload_n C dX9_takeRun_0 rfl 0 rfl ?_
      refine g_getI C fi_X9_19 (by decide) (h19997).1 (h19997).2 dX9_takeRun_1 ?_
      have h19998 := I0.rg (h19997) 4 rfl
      refine g_aload_n C dX9_takeRun_4 rfl 0 rfl ?_
      refine g_getI C fi_X9_15 (by decide) (h19997).1 (h19997).2 dX9_takeRun_5 ?_
      have h19999 := I0.rg (h19997) 1 rfl
      refine b_icmp_ge C 50 dX9_takeRun_8 (by decide) (fun h20000 => ?_) (fun h20000 => ?_)
      · have h20000 : (pI P0 a0 1).toInt ≤ (pI P0 a0 4).toInt := h20000
        exact ret _ _ _ _ _ dX9_takeRun_50 (by decide) (by decide) ⟨I0, X0⟩
      · have h20000 : (pI P0 a0 4).toInt < (pI P0 a0 1).toInt := h20000
        refine g_aload_n C dX9_takeRun_11 rfl 0 rfl ?_
        obtain ⟨b20001, e20002, h20003⟩ := I0.fld (h19997) 0 13 1000 rfl
        refine g_getR C fi_X9_9 rfl e20002 (h19997).1 (h19997).2 dX9_takeRun_12 ?_
        refine g_aload_n C dX9_takeRun_15 rfl 0 rfl ?_
        refine g_getI C fi_X9_19 (by decide) (h19997).1 (h19997).2 dX9_takeRun_16 ?_
        refine g_iald (j := ((pI P0 a0 4).toInt.toNat)) C h20003.1 h20003.2.1 (ix_in h20003.2.2 (by omega)) dX9_takeRun_19 ?_
        refine g_topi (fun z20004 _ => ?_)
        refine g_iload_n C dX9_takeRun_20 rfl 1 rfl ?_
        have u20006 := ti_rng z20004
        have u20007 := ti_rng a1
        refine b_icmp_lt C 50 dX9_takeRun_21 (by decide) (fun h20005 => ?_) (fun h20005 => ?_)
        · have h20005 : z20004.toInt < a1.toInt := h20005
          exact ret _ _ _ _ _ dX9_takeRun_50 (by decide) (by decide) ⟨I0, X0⟩
        · have h20005 : a1.toInt ≤ z20004.toInt := h20005
          refine g_aload_n C dX9_takeRun_24 rfl 0 rfl ?_
          refine g_getR C fi_X9_9 rfl e20002 (h19997).1 (h19997).2 dX9_takeRun_25 ?_
          refine g_aload_n C dX9_takeRun_28 rfl 0 rfl ?_
          refine g_getI C fi_X9_19 (by decide) (h19997).1 (h19997).2 dX9_takeRun_29 ?_
          refine g_iald (j := ((pI P0 a0 4).toInt.toNat)) C h20003.1 h20003.2.1 (ix_in h20003.2.2 (by omega)) dX9_takeRun_32 ?_
          refine g_topi (fun z20008 _ => ?_)
          refine g_iload_n C dX9_takeRun_33 rfl 2 rfl ?_
          have u20010 := ti_rng z20008
          have u20011 := ti_rng a2
          refine b_icmp_gt C 50 dX9_takeRun_34 (by decide) (fun h20009 => ?_) (fun h20009 => ?_)
          · have h20009 : a2.toInt < z20008.toInt := h20009
            exact ret _ _ _ _ _ dX9_takeRun_50 (by decide) (by decide) ⟨I0, X0⟩
          · have h20009 : z20008.toInt ≤ a2.toInt := h20009
            refine g_aload_n C dX9_takeRun_37 rfl 0 rfl ?_
            refine g_dup C dX9_takeRun_38 rfl ?_
            refine g_getI C fi_X9_19 (by decide) (h19997).1 (h19997).2 dX9_takeRun_39 ?_
            refine g_iconst (v := 1) C dX9_takeRun_42 (by decide) ?_
            refine s_iadd C dX9_takeRun_43 (by show -2147483648 ≤ (pI P0 a0 4).toInt + 1 ∧ (pI P0 a0 4).toInt + 1 ≤ 2147483647; omega) (fun z20012 h20013 => ?_)
            have h20013 : z20012.toInt = (pI P0 a0 4).toInt + 1 := h20013
            refine g_putI C fi_X9_19 rfl (h19997).1 (h19997).2 dX9_takeRun_44 ?_
            refine gpW (ks := [9]) (I0.setI (h19997) (rgOk.of rfl (by omega))) (EK.setI (h19997).2 (by decide)) (fun Y20014 Iy20015 Xy20016 w20017 w20018 => ?_)
            have q20019 := w20017 1 (by decide)
            have Xz20020 : EK [9] P Y20014 := X0.tr (Xy20016.mono (by decide))
            have h20021 := Xy20016.at h19997
            refine g_goto C 0 dX9_takeRun_47 (by decide) ?_
            exact ih0 Y20014 (by omega) Iy20015 Xz20020
  exact J0 _ P (Nat.lt_succ_self _) I EK.rf
theorem dX9_next_39 : decode cX9_next 39 = .ok (.aload_n 0, 1) := by decide +kernel
theorem dX9_next_40 : decode cX9_next 40 = .ok (.dup, 1) := by decide +kernel
theorem dX9_next_41 : decode cX9_next 41 = .ok (.getfield 19, 3) := by decide +kernel
theorem dX9_next_44 : decode cX9_next 44 = .ok (.iconst 1, 1) := by decide +kernel
theorem dX9_next_45 : decode cX9_next 45 = .ok (.iadd, 1) := by decide +kernel
theorem dX9_next_46 : decode cX9_next 46 = .ok (.putfield 19, 3) := by decide +kernel
theorem dX9_next_49 : decode cX9_next 49 = .ok (.goto (-49), 3) := by decide +kernel
theorem dX9_next_71 : decode cX9_next 71 = .ok (.aload_n 0, 1) := by decide +kernel
theorem dX9_next_72 : decode cX9_next 72 = .ok (.iconst 0, 1) := by decide +kernel
theorem dX9_next_73 : decode cX9_next 73 = .ok (.putfield 25, 3) := by decide +kernel
theorem dX9_next_76 : decode cX9_next 76 = .ok (.return_, 1) := by decide +kernel
theorem dX9_next_107 : decode cX9_next 107 = .ok (.aload_n 0, 1) := by decide +kernel
theorem dX9_next_108 : decode cX9_next 108 = .ok (.aload_n 0, 1) := by decide +kernel
theorem dX9_next_109 : decode cX9_next 109 = .ok (.getfield 19, 3) := by decide +kernel
theorem dX9_next_112 : decode cX9_next 112 = .ok (.aload_n 0, 1) := by decide +kernel
theorem dX9_next_113 : decode cX9_next 113 = .ok (.getfield 22, 3) := by decide +kernel
theorem dX9_next_116 : decode cX9_next 116 = .ok (.isub, 1) := by decide +kernel
theorem dX9_next_117 : decode cX9_next 117 = .ok (.bipush 8, 2) := by decide +kernel
theorem dX9_next_119 : decode cX9_next 119 = .ok (.if_icmp .gt 7, 3) := by decide +kernel
theorem dX9_next_122 : decode cX9_next 122 = .ok (.iconst 1, 1) := by decide +kernel
theorem dX9_next_123 : decode cX9_next 123 = .ok (.goto 4, 3) := by decide +kernel
theorem dX9_next_126 : decode cX9_next 126 = .ok (.iconst 4, 1) := by decide +kernel
theorem dX9_next_127 : decode cX9_next 127 = .ok (.putfield 25, 3) := by decide +kernel
theorem dX9_next_130 : decode cX9_next 130 = .ok (.goto 93, 3) := by decide +kernel
theorem dX9_next_133 : decode cX9_next 133 = .ok (.iload_n 1, 1) := by decide +kernel
theorem dX9_next_134 : decode cX9_next 134 = .ok (.bipush 48, 2) := by decide +kernel
theorem dX9_next_136 : decode cX9_next 136 = .ok (.if_icmp .lt 62, 3) := by decide +kernel
theorem dX9_next_139 : decode cX9_next 139 = .ok (.iload_n 1, 1) := by decide +kernel
theorem dX9_next_140 : decode cX9_next 140 = .ok (.bipush 57, 2) := by decide +kernel
theorem dX9_next_142 : decode cX9_next 142 = .ok (.if_icmp .gt 56, 3) := by decide +kernel
theorem dX9_next_145 : decode cX9_next 145 = .ok (.aload_n 0, 1) := by decide +kernel
theorem dX9_next_146 : decode cX9_next 146 = .ok (.bipush 48, 2) := by decide +kernel
theorem dX9_next_148 : decode cX9_next 148 = .ok (.bipush 57, 2) := by decide +kernel
theorem dX9_next_150 : decode cX9_next 150 = .ok (.invokevirtual 28, 3) := by decide +kernel
theorem dX9_next_153 : decode cX9_next 153 = .ok (.aload_n 0, 1) := by decide +kernel
theorem dX9_next_154 : decode cX9_next 154 = .ok (.aload_n 0, 1) := by decide +kernel
theorem dX9_next_155 : decode cX9_next 155 = .ok (.getfield 19, 3) := by decide +kernel
theorem dX9_next_158 : decode cX9_next 158 = .ok (.aload_n 0, 1) := by decide +kernel
theorem dX9_next_159 : decode cX9_next 159 = .ok (.getfield 22, 3) := by decide +kernel
theorem dX9_next_162 : decode cX9_next 162 = .ok (.isub, 1) := by decide +kernel
theorem dX9_next_163 : decode cX9_next 163 = .ok (.iconst 4, 1) := by decide +kernel
theorem dX9_next_164 : decode cX9_next 164 = .ok (.if_icmp .gt 7, 3) := by decide +kernel
theorem dX9_next_167 : decode cX9_next 167 = .ok (.iconst 2, 1) := by decide +kernel
theorem dX9_next_168 : decode cX9_next 168 = .ok (.goto 4, 3) := by decide +kernel
theorem dX9_next_171 : decode cX9_next 171 = .ok (.iconst 4, 1) := by decide +kernel
theorem dX9_next_172 : decode cX9_next 172 = .ok (.putfield 25, 3) := by decide +kernel
theorem dX9_next_175 : decode cX9_next 175 = .ok (.aload_n 0, 1) := by decide +kernel
theorem dX9_next_176 : decode cX9_next 176 = .ok (.aload_n 0, 1) := by decide +kernel
theorem dX9_next_177 : decode cX9_next 177 = .ok (.getfield 25, 3) := by decide +kernel
theorem dX9_next_180 : decode cX9_next 180 = .ok (.iconst 2, 1) := by decide +kernel
theorem dX9_next_181 : decode cX9_next 181 = .ok (.if_icmp .ne 10, 3) := by decide +kernel
theorem dX9_next_184 : decode cX9_next 184 = .ok (.aload_n 0, 1) := by decide +kernel
theorem dX9_next_185 : decode cX9_next 185 = .ok (.invokevirtual 32, 3) := by decide +kernel
theorem dX9_next_191 : decode cX9_next 191 = .ok (.iconst (-1), 1) := by decide +kernel
theorem dX9_next_198 : decode cX9_next 198 = .ok (.aload_n 0, 1) := by decide +kernel
theorem dX9_next_199 : decode cX9_next 199 = .ok (.dup, 1) := by decide +kernel
theorem dX9_next_200 : decode cX9_next 200 = .ok (.getfield 19, 3) := by decide +kernel
theorem dX9_next_203 : decode cX9_next 203 = .ok (.iconst 1, 1) := by decide +kernel
theorem dX9_next_204 : decode cX9_next 204 = .ok (.iadd, 1) := by decide +kernel
theorem dX9_next_205 : decode cX9_next 205 = .ok (.putfield 19, 3) := by decide +kernel
theorem dX9_next_208 : decode cX9_next 208 = .ok (.aload_n 0, 1) := by decide +kernel
theorem dX9_next_209 : decode cX9_next 209 = .ok (.iload_n 1, 1) := by decide +kernel
theorem dX9_next_210 : decode cX9_next 210 = .ok (.bipush 59, 2) := by decide +kernel
theorem dX9_next_212 : decode cX9_next 212 = .ok (.if_icmp .ne 7, 3) := by decide +kernel
theorem dX9_next_215 : decode cX9_next 215 = .ok (.iconst 3, 1) := by decide +kernel
theorem dX9_next_216 : decode cX9_next 216 = .ok (.goto 4, 3) := by decide +kernel
theorem dX9_next_219 : decode cX9_next 219 = .ok (.iconst 4, 1) := by decide +kernel
theorem dX9_next_223 : decode cX9_next 223 = .ok (.return_, 1) := by decide +kernel
theorem dX9_numberHere_0 : decode cX9_numberHere 0 = .ok (.iconst 0, 1) := by decide +kernel
theorem dX9_numberHere_1 : decode cX9_numberHere 1 = .ok (.istore_n 1, 1) := by decide +kernel
theorem dX9_numberHere_2 : decode cX9_numberHere 2 = .ok (.aload_n 0, 1) := by decide +kernel
theorem dX9_numberHere_3 : decode cX9_numberHere 3 = .ok (.getfield 22, 3) := by decide +kernel
theorem dX9_numberHere_6 : decode cX9_numberHere 6 = .ok (.istore_n 2, 1) := by decide +kernel
theorem dX9_numberHere_7 : decode cX9_numberHere 7 = .ok (.iload_n 2, 1) := by decide +kernel
theorem dX9_numberHere_8 : decode cX9_numberHere 8 = .ok (.aload_n 0, 1) := by decide +kernel
theorem dX9_numberHere_9 : decode cX9_numberHere 9 = .ok (.getfield 19, 3) := by decide +kernel
theorem dX9_numberHere_12 : decode cX9_numberHere 12 = .ok (.if_icmp .ge 24, 3) := by decide +kernel
theorem dX9_numberHere_15 : decode cX9_numberHere 15 = .ok (.iload_n 1, 1) := by decide +kernel
theorem dX9_numberHere_16 : decode cX9_numberHere 16 = .ok (.bipush 10, 2) := by decide +kernel
theorem dX9_numberHere_18 : decode cX9_numberHere 18 = .ok (.imul, 1) := by decide +kernel
theorem dX9_numberHere_19 : decode cX9_numberHere 19 = .ok (.aload_n 0, 1) := by decide +kernel
theorem dX9_numberHere_20 : decode cX9_numberHere 20 = .ok (.getfield 9, 3) := by decide +kernel
theorem dX9_numberHere_23 : decode cX9_numberHere 23 = .ok (.iload_n 2, 1) := by decide +kernel
theorem dX9_numberHere_24 : decode cX9_numberHere 24 = .ok (.iaload, 1) := by decide +kernel
theorem dX9_numberHere_25 : decode cX9_numberHere 25 = .ok (.iadd, 1) := by decide +kernel
theorem dX9_numberHere_26 : decode cX9_numberHere 26 = .ok (.bipush 48, 2) := by decide +kernel
theorem dX9_numberHere_28 : decode cX9_numberHere 28 = .ok (.isub, 1) := by decide +kernel
theorem dX9_numberHere_29 : decode cX9_numberHere 29 = .ok (.istore_n 1, 1) := by decide +kernel
theorem dX9_numberHere_30 : decode cX9_numberHere 30 = .ok (.iinc 2 1, 3) := by decide +kernel
theorem dX9_numberHere_33 : decode cX9_numberHere 33 = .ok (.goto (-26), 3) := by decide +kernel
theorem dX9_numberHere_36 : decode cX9_numberHere 36 = .ok (.iload_n 1, 1) := by decide +kernel
theorem dX9_numberHere_37 : decode cX9_numberHere 37 = .ok (.ireturn, 1) := by decide +kernel
set_option maxHeartbeats 4000000 in
set_option maxRecDepth 100000 in
theorem s_X9_numberHere {P : PP} {a0 : Nat} (I : IV P) (ha0 : At P a0 9) : CtrI yX9_numberHere cX9_numberHere 3 (some Jvm.ClassFile.FieldType.int) ({ frames := 1, cells := 0, slots := 0, locals := 64 } : Room) 0 0 P [.ref a0] (fun r P2 => P = P2 ∧ (True)) := by
  refine enI (lv := [(0, .ref a0)]) (by decide) (Nat.le_of_ble_eq_true rfl) rfl (fun E D cy C Ci0 ret => ?_)
  have J7 : ∀ (n7 : Nat) (v7_1 : Int32) (v7_2 : Int32), (1000 - v7_2.toInt).toNat < n7 → (0 ≤ v7_2.toInt ∧ v7_2.toInt ≤ 1000) → G E ({ frames := 1, cells := 0, slots := 0, locals := 64 } : Room) D cy 3 P 0 0 7 [(0, .ref a0), (1, .int v7_1), (2, .int v7_2)] [] := by
    intro n7
    induction n7 with
    | zero => intro v7_1 v7_2 hm7 hv7_2; omega
    | succ n7 ih7 =>
      intro v7_1 v7_2 hm7 hv7_2
      refine g_iload_n C dX9_numberHere_7 rfl 2 rfl ?_
      refine g_aload_n C dX9_numberHere_8 rfl 0 rfl ?_
      refine g_getI C fi_X9_19 (by decide) (ha0).1 (ha0).2 dX9_numberHere_9 ?_
      have h20179 := I.rg (ha0) 4 rfl
      refine b_icmp_ge C 36 dX9_numberHere_12 (by decide) (fun h20180 => ?_) (fun h20180 => ?_)
      · have h20180 : (pI P a0 4).toInt ≤ v7_2.toInt := h20180
        refine g_iload_n C dX9_numberHere_36 rfl 1 rfl ?_
        exact ret _ _ _ _ _ _ dX9_numberHere_37 rfl (by decide) (by decide) ⟨rfl, trivial⟩
      · have h20180 : v7_2.toInt < (pI P a0 4).toInt := h20180
        refine g_iload_n C dX9_numberHere_15 rfl 1 rfl ?_
        refine g_bipush (v := 10) C dX9_numberHere_16 (by decide) ?_
        refine a_imul C dX9_numberHere_18 (fun z20181 => ?_)
        refine g_aload_n C dX9_numberHere_19 rfl 0 rfl ?_
        obtain ⟨b20183, e20184, h20185⟩ := I.fld (ha0) 0 13 1000 rfl
        refine g_getR C fi_X9_9 rfl e20184 (ha0).1 (ha0).2 dX9_numberHere_20 ?_
        refine g_iload_n C dX9_numberHere_23 rfl 2 rfl ?_
        refine g_iald (j := (v7_2.toInt.toNat)) C h20185.1 h20185.2.1 (ix_in h20185.2.2 (by omega)) dX9_numberHere_24 ?_
        refine g_topi (fun z20186 _ => ?_)
        refine a_iadd C dX9_numberHere_25 (fun z20187 => ?_)
        refine g_bipush (v := 48) C dX9_numberHere_26 (by decide) ?_
        refine a_isub C dX9_numberHere_28 (fun z20189 => ?_)
        refine g_istore_n (lv' := [(1, .int z20189), (0, .ref a0), (2, .int v7_2)]) C dX9_numberHere_29 rfl (by decide) rfl ?_
        refine s_iinc (lv0 := [(1, .int z20189), (0, .ref a0)]) (m := 1) C dX9_numberHere_30 2 rfl (by decide) rfl (by decide) (by omega) (fun z20191 h20192 => ?_)
        have h20192 : z20191.toInt = v7_2.toInt + 1 := h20192
        refine g_goto C 7 dX9_numberHere_33 (by decide) ?_
        refine g_lv (lv' := [(0, .ref a0), (1, .int z20189), (2, .int z20191)]) [2, 1, 0] rfl ?_
        exact ih7 z20189 z20191 (by omega) (by omega)
  refine g_iconst (v := 0) C dX9_numberHere_0 (by decide) ?_
  refine g_istore_n (lv' := [(1, .int 0), (0, .ref a0)]) C dX9_numberHere_1 rfl (by decide) rfl ?_
  refine g_aload_n C dX9_numberHere_2 rfl 1 rfl ?_
  refine g_getI C fi_X9_22 (by decide) (ha0).1 (ha0).2 dX9_numberHere_3 ?_
  have h20193 := I.rg (ha0) 3 rfl
  refine g_topi (fun z20194 h20195 => ?_)
  have h20195 : z20194.toInt = (pI P a0 3).toInt := congrArg Int32.toInt h20195
  refine g_istore_n (lv' := [(2, .int z20194), (1, .int 0), (0, .ref a0)]) C dX9_numberHere_6 rfl (by decide) rfl ?_
  refine g_lv (lv' := [(0, .ref a0), (1, .int 0), (2, .int z20194)]) [2, 1, 0] rfl ?_
  exact J7 _ 0 z20194 (Nat.lt_succ_self _) (by omega)
theorem dX9_next_188 : decode cX9_next 188 = .ok (.goto 4, 3) := by decide +kernel
theorem dX9_next_192 : decode cX9_next 192 = .ok (.putfield 36, 3) := by decide +kernel
theorem dX9_next_195 : decode cX9_next 195 = .ok (.goto 28, 3) := by decide +kernel
theorem dX9_next_220 : decode cX9_next 220 = .ok (.putfield 25, 3) := by decide +kernel
set_option maxHeartbeats 4000000 in
set_option maxRecDepth 100000 in
theorem s_X9_next {P : PP} {a0 : Nat} (I : IV P) (ha0 : At P a0 9) : CtrV yX9_next cX9_next 2 none ({ frames := 2, cells := 0, slots := 0, locals := 128 } : Room) 0 0 P [.ref a0] (fun P2 => IV P2 ∧ EK [9] P P2) := by
  refine enV (lv := [(0, .ref a0)]) (by decide) (Nat.le_of_ble_eq_true rfl) rfl (fun E D cy C Ci0 ret => ?_)
  have J220 : ∀ (P220 : PP) (v220_s0 : Int32), (IV P220) → (EK [9] P P220) → (3 ≤ v220_s0.toInt ∧ v220_s0.toInt ≤ 4) → (1 ≤ (pI P220 a0 1).toInt ∧ (pI P220 a0 1).toInt ≤ 1000) → (0 ≤ (pI P220 a0 3).toInt ∧ (pI P220 a0 3).toInt ≤ 999) → (1 ≤ (pI P220 a0 4).toInt ∧ (pI P220 a0 4).toInt ≤ 1001) → G E ({ frames := 2, cells := 0, slots := 0, locals := 128 } : Room) D cy 2 P220 0 0 220 [] [.int v220_s0, .ref a0] := by
    intro P220 v220_s0 I220 X220 hv220_s0 hq220_0 hq220_1 hq220_2
    have h20398 := X220.at ha0
    refine g_putI C fi_X9_25 rfl (h20398).1 (h20398).2 dX9_next_220 ?_
    refine gpW (ks := [9]) (I220.setI (h20398) (rgOk.none rfl)) (EK.setI (h20398).2 (by decide)) (fun Y20399 Iy20400 Xy20401 w20402 w20403 => ?_)
    have q20404 := w20402 1 (by decide)
    have q20405 := w20402 3 (by decide)
    have q20406 := w20402 4 (by decide)
    have Xz20407 : EK [9] P Y20399 := X220.tr (Xy20401.mono (by decide))
    have h20408 := Xy20401.at h20398
    exact ret _ _ _ _ _ dX9_next_223 (by decide) (by decide) ⟨Iy20400, Xz20407⟩
  have J198 : ∀ (P198 : PP) (v198_1 : Int32), (IV P198) → (EK [9] P P198) → (1 ≤ (pI P198 a0 1).toInt ∧ (pI P198 a0 1).toInt ≤ 1000) → (0 ≤ (pI P198 a0 3).toInt ∧ (pI P198 a0 3).toInt ≤ 999) → ((pI P198 a0 4).toInt = (pI P198 a0 3).toInt) → G E ({ frames := 2, cells := 0, slots := 0, locals := 128 } : Room) D cy 2 P198 0 0 198 [(0, .ref a0), (1, .int v198_1)] [] := by
    intro P198 v198_1 I198 X198 hq198_0 hq198_1 rel198_0
    have h20409 := X198.at ha0
    have h20410 := I198.rg h20409 4 rfl
    refine g_aload_n C dX9_next_198 rfl 0 rfl ?_
    refine g_dup C dX9_next_199 rfl ?_
    refine g_getI C fi_X9_19 (by decide) (h20409).1 (h20409).2 dX9_next_200 ?_
    refine g_iconst (v := 1) C dX9_next_203 (by decide) ?_
    refine s_iadd C dX9_next_204 (by show -2147483648 ≤ (pI P198 a0 4).toInt + 1 ∧ (pI P198 a0 4).toInt + 1 ≤ 2147483647; omega) (fun z20411 h20412 => ?_)
    have h20412 : z20411.toInt = (pI P198 a0 4).toInt + 1 := h20412
    refine g_putI C fi_X9_19 rfl (h20409).1 (h20409).2 dX9_next_205 ?_
    refine gpW (ks := [9]) (I198.setI (h20409) (rgOk.of rfl (by omega))) (EK.setI (h20409).2 (by decide)) (fun Y20413 Iy20414 Xy20415 w20416 w20417 => ?_)
    have q20418 := w20416 1 (by decide)
    have q20419 := w20416 3 (by decide)
    have Xz20420 : EK [9] P Y20413 := X198.tr (Xy20415.mono (by decide))
    have h20421 := Xy20415.at h20409
    refine g_aload_n C dX9_next_208 rfl 0 rfl ?_
    refine g_iload_n C dX9_next_209 rfl 1 rfl ?_
    refine g_bipush (v := 59) C dX9_next_210 (by decide) ?_
    have u20423 := ti_rng v198_1
    refine b_icmp_ne C 219 dX9_next_212 (by decide) (fun h20422 => ?_) (fun h20422 => ?_)
    · have h20422 : v198_1.toInt ≠ 59 := ti_ne h20422
      refine g_iconst (v := 4) C dX9_next_219 (by decide) ?_
      refine g_lv (lv' := []) [] rfl ?_
      exact J220 Y20413 4 Iy20414 Xz20420 (by decide) (by omega) (by omega) (by omega)
    · have h20422 : v198_1.toInt = 59 := congrArg Int32.toInt h20422
      refine g_iconst (v := 3) C dX9_next_215 (by decide) ?_
      refine g_goto C 220 dX9_next_216 (by decide) ?_
      refine g_lv (lv' := []) [] rfl ?_
      exact J220 Y20413 3 Iy20414 Xz20420 (by decide) (by omega) (by omega) (by omega)
  have J192 : ∀ (P192 : PP) (v192_s0 : Int32), (IV P192) → (EK [9] P P192) → (2 ≤ (pI P192 a0 2).toInt ∧ (pI P192 a0 2).toInt ≤ 4) → G E ({ frames := 2, cells := 0, slots := 0, locals := 128 } : Room) D cy 2 P192 0 0 192 [] [.int v192_s0, .ref a0] := by
    intro P192 v192_s0 I192 X192 hq192_0
    have h20424 := X192.at ha0
    refine g_putI C fi_X9_36 rfl (h20424).1 (h20424).2 dX9_next_192 ?_
    refine gpW (ks := [9]) (I192.setI (h20424) (rgOk.none rfl)) (EK.setI (h20424).2 (by decide)) (fun Y20425 Iy20426 Xy20427 w20428 w20429 => ?_)
    have q20430 := w20428 2 (by decide)
    have Xz20431 : EK [9] P Y20425 := X192.tr (Xy20427.mono (by decide))
    have h20432 := Xy20427.at h20424
    refine g_goto C 223 dX9_next_195 (by decide) ?_
    exact ret _ _ _ _ _ dX9_next_223 (by decide) (by decide) ⟨Iy20426, Xz20431⟩
  have J172 : ∀ (P172 : PP) (v172_s0 : Int32), (IV P172) → (EK [9] P P172) → (2 ≤ v172_s0.toInt ∧ v172_s0.toInt ≤ 4) → G E ({ frames := 2, cells := 0, slots := 0, locals := 128 } : Room) D cy 2 P172 0 0 172 [(0, .ref a0)] [.int v172_s0, .ref a0] := by
    intro P172 v172_s0 I172 X172 hv172_s0
    have h20433 := X172.at ha0
    refine g_putI C fi_X9_25 rfl (h20433).1 (h20433).2 dX9_next_172 ?_
    refine gpW (ks := [9]) (I172.setI (h20433) (rgOk.none rfl)) (EK.setI (h20433).2 (by decide)) (fun Y20434 Iy20435 Xy20436 w20437 w20438 => ?_)
    have Xz20439 : EK [9] P Y20434 := X172.tr (Xy20436.mono (by decide))
    have h20440 := Xy20436.at h20433
    refine g_aload_n C dX9_next_175 rfl 0 rfl ?_
    refine g_aload_n C dX9_next_176 rfl 0 rfl ?_
    refine g_getI C fi_X9_25 (by decide) (h20440).1 (h20440).2 dX9_next_177 ?_
    refine g_iconst (v := 2) C dX9_next_180 (by decide) ?_
    refine b_icmp_ne C 191 dX9_next_181 (by decide) (fun h20441 => ?_) (fun h20441 => ?_)
    · have h20441 : (pI Y20434 a0 2).toInt ≠ 2 := ti_ne h20441
      refine g_iconst (v := (-1)) C dX9_next_191 (by decide) ?_
      refine g_lv (lv' := []) [] rfl ?_
      exact J192 Y20434 (-1) Iy20435 Xz20439 (by omega)
    · have h20441 : (pI Y20434 a0 2).toInt = 2 := congrArg Int32.toInt h20441
      refine g_aload_n C dX9_next_184 rfl 0 rfl ?_
      refine g_callVI (rest := [.ref a0]) C mv_X9_32 [] (s_X9_numberHere Iy20435 h20440) (h20440).1 (h20440).2 rfl rfl (by decide) (Nat.le_of_ble_eq_true rfl) (by decide) dX9_next_185 (fun r20442 Y20443 h20444 => ?_)
      obtain ⟨rfl, h20444⟩ := h20444
      have h20444 : True := h20444
      refine g_goto C 192 dX9_next_188 (by decide) ?_
      refine g_lv (lv' := []) [] rfl ?_
      exact J192 Y20434 r20442 Iy20435 Xz20439 (by omega)
  have J133 : ∀ (P133 : PP) (v133_1 : Int32), (IV P133) → (EK [9] P P133) → (1 ≤ (pI P133 a0 1).toInt ∧ (pI P133 a0 1).toInt ≤ 1000) → (0 ≤ (pI P133 a0 3).toInt ∧ (pI P133 a0 3).toInt ≤ 999) → ((pI P133 a0 4).toInt = (pI P133 a0 3).toInt) → G E ({ frames := 2, cells := 0, slots := 0, locals := 128 } : Room) D cy 2 P133 0 0 133 [(0, .ref a0), (1, .int v133_1)] [] := by
    intro P133 v133_1 I133 X133 hq133_0 hq133_1 rel133_0
    have h20445 := X133.at ha0
    have h20446 := I133.rg h20445 4 rfl
    refine g_iload_n C dX9_next_133 rfl 1 rfl ?_
    refine g_bipush (v := 48) C dX9_next_134 (by decide) ?_
    have u20448 := ti_rng v133_1
    refine b_icmp_lt C 198 dX9_next_136 (by decide) (fun h20447 => ?_) (fun h20447 => ?_)
    · have h20447 : v133_1.toInt < 48 := h20447
      exact J198 P133 v133_1 I133 X133 (by omega) (by omega) (by show (pI P133 a0 4).toInt = (pI P133 a0 3).toInt; omega)
    · have h20447 : 48 ≤ v133_1.toInt := h20447
      refine g_iload_n C dX9_next_139 rfl 1 rfl ?_
      refine g_bipush (v := 57) C dX9_next_140 (by decide) ?_
      have u20450 := ti_rng v133_1
      refine b_icmp_gt C 198 dX9_next_142 (by decide) (fun h20449 => ?_) (fun h20449 => ?_)
      · have h20449 : 57 < v133_1.toInt := h20449
        exact J198 P133 v133_1 I133 X133 (by omega) (by omega) (by show (pI P133 a0 4).toInt = (pI P133 a0 3).toInt; omega)
      · have h20449 : v133_1.toInt ≤ 57 := h20449
        refine g_aload_n C dX9_next_145 rfl 0 rfl ?_
        refine g_bipush (v := 48) C dX9_next_146 (by decide) ?_
        refine g_bipush (v := 57) C dX9_next_148 (by decide) ?_
        refine g_callVV (rest := []) C mv_X9_28 [.int 48, .int 57] (s_X9_takeRun I133 h20445) (h20445).1 (h20445).2 rfl rfl (by decide) (Nat.le_of_ble_eq_true rfl) (by decide) dX9_next_150 (fun Y20452 h20453 => ?_)
        obtain ⟨Iy20454, Xy20455⟩ := h20453
        have Xz20456 : EK [9] P Y20452 := X133.tr (Xy20455.mono (by decide))
        have h20457 := Xy20455.at h20445
        refine g_aload_n C dX9_next_153 rfl 0 rfl ?_
        refine g_aload_n C dX9_next_154 rfl 0 rfl ?_
        refine g_getI C fi_X9_19 (by decide) (h20457).1 (h20457).2 dX9_next_155 ?_
        have h20458 := Iy20454.rg (h20457) 4 rfl
        refine g_aload_n C dX9_next_158 rfl 0 rfl ?_
        refine g_getI C fi_X9_22 (by decide) (h20457).1 (h20457).2 dX9_next_159 ?_
        have h20459 := Iy20454.rg (h20457) 3 rfl
        refine s_isub C dX9_next_162 (by show -2147483648 ≤ (pI Y20452 a0 4).toInt - (pI Y20452 a0 3).toInt ∧ (pI Y20452 a0 4).toInt - (pI Y20452 a0 3).toInt ≤ 2147483647; omega) (fun z20460 h20461 => ?_)
        have h20461 : z20460.toInt = (pI Y20452 a0 4).toInt - (pI Y20452 a0 3).toInt := h20461
        refine g_iconst (v := 4) C dX9_next_163 (by decide) ?_
        refine b_icmp_gt C 171 dX9_next_164 (by decide) (fun h20462 => ?_) (fun h20462 => ?_)
        · have h20462 : 4 < z20460.toInt := h20462
          refine g_iconst (v := 4) C dX9_next_171 (by decide) ?_
          refine g_lv (lv' := [(0, .ref a0)]) [0] rfl ?_
          exact J172 Y20452 4 Iy20454 Xz20456 (by decide)
        · have h20462 : z20460.toInt ≤ 4 := h20462
          refine g_iconst (v := 2) C dX9_next_167 (by decide) ?_
          refine g_goto C 172 dX9_next_168 (by decide) ?_
          refine g_lv (lv' := [(0, .ref a0)]) [0] rfl ?_
          exact J172 Y20452 2 Iy20454 Xz20456 (by decide)
  have J127 : ∀ (P127 : PP) (v127_s0 : Int32), (IV P127) → (EK [9] P P127) → (1 ≤ v127_s0.toInt ∧ v127_s0.toInt ≤ 4) → G E ({ frames := 2, cells := 0, slots := 0, locals := 128 } : Room) D cy 2 P127 0 0 127 [] [.int v127_s0, .ref a0] := by
    intro P127 v127_s0 I127 X127 hv127_s0
    have h20463 := X127.at ha0
    refine g_putI C fi_X9_25 rfl (h20463).1 (h20463).2 dX9_next_127 ?_
    refine gpW (ks := [9]) (I127.setI (h20463) (rgOk.none rfl)) (EK.setI (h20463).2 (by decide)) (fun Y20464 Iy20465 Xy20466 w20467 w20468 => ?_)
    have Xz20469 : EK [9] P Y20464 := X127.tr (Xy20466.mono (by decide))
    have h20470 := Xy20466.at h20463
    refine g_goto C 223 dX9_next_130 (by decide) ?_
    exact ret _ _ _ _ _ dX9_next_223 (by decide) (by decide) ⟨Iy20465, Xz20469⟩
  have J52 : ∀ (P52 : PP), (IV P52) → (EK [9] P P52) → G E ({ frames := 2, cells := 0, slots := 0, locals := 128 } : Room) D cy 2 P52 0 0 52 [(0, .ref a0)] [] := by
    intro P52 I52 X52
    have h20471 := X52.at ha0
    refine g_aload_n C dX9_next_52 rfl 0 rfl ?_
    refine g_aload_n C dX9_next_53 rfl 0 rfl ?_
    refine g_getI C fi_X9_19 (by decide) (h20471).1 (h20471).2 dX9_next_54 ?_
    have h20472 := I52.rg (h20471) 4 rfl
    refine g_putI C fi_X9_22 rfl (h20471).1 (h20471).2 dX9_next_57 ?_
    refine gpW (ks := [9]) (I52.setI (h20471) (rgOk.of rfl (by omega))) (EK.setI (h20471).2 (by decide)) (fun Y20473 Iy20474 Xy20475 w20476 w20477 => ?_)
    have q20478 := w20476 4 (by decide)
    have Xz20479 : EK [9] P Y20473 := X52.tr (Xy20475.mono (by decide))
    have h20480 := Xy20475.at h20471
    refine g_aload_n C dX9_next_60 rfl 0 rfl ?_
    refine g_getI C fi_X9_22 (by decide) (h20480).1 (h20480).2 dX9_next_61 ?_
    refine g_aload_n C dX9_next_64 rfl 0 rfl ?_
    refine g_getI C fi_X9_15 (by decide) (h20480).1 (h20480).2 dX9_next_65 ?_
    have h20481 := Iy20474.rg (h20480) 1 rfl
    refine b_icmp_lt C 77 dX9_next_68 (by decide) (fun h20482 => ?_) (fun h20482 => ?_)
    · have h20482 : (pI Y20473 a0 3).toInt < (pI Y20473 a0 1).toInt := h20482
      refine g_aload_n C dX9_next_77 rfl 0 rfl ?_
      obtain ⟨b20483, e20484, h20485⟩ := Iy20474.fld (h20480) 0 13 1000 rfl
      refine g_getR C fi_X9_9 rfl e20484 (h20480).1 (h20480).2 dX9_next_78 ?_
      refine g_aload_n C dX9_next_81 rfl 0 rfl ?_
      refine g_getI C fi_X9_22 (by decide) (h20480).1 (h20480).2 dX9_next_82 ?_
      refine g_iald (j := ((pI Y20473 a0 3).toInt.toNat)) C h20485.1 h20485.2.1 (ix_in h20485.2.2 (by omega)) dX9_next_85 ?_
      refine g_topi (fun z20486 _ => ?_)
      refine g_istore_n (lv' := [(1, .int z20486), (0, .ref a0)]) C dX9_next_86 rfl (by decide) rfl ?_
      refine g_iload_n C dX9_next_87 rfl 0 rfl ?_
      refine g_bipush (v := 97) C dX9_next_88 (by decide) ?_
      have u20488 := ti_rng z20486
      refine b_icmp_lt C 133 dX9_next_90 (by decide) (fun h20487 => ?_) (fun h20487 => ?_)
      · have h20487 : z20486.toInt < 97 := h20487
        refine g_lv (lv' := [(0, .ref a0), (1, .int z20486)]) [1, 0] rfl ?_
        exact J133 Y20473 z20486 Iy20474 Xz20479 (by omega) (by omega) (by show (pI Y20473 a0 4).toInt = (pI Y20473 a0 3).toInt; omega)
      · have h20487 : 97 ≤ z20486.toInt := h20487
        refine g_iload_n C dX9_next_93 rfl 0 rfl ?_
        refine g_bipush (v := 122) C dX9_next_94 (by decide) ?_
        have u20490 := ti_rng z20486
        refine b_icmp_gt C 133 dX9_next_96 (by decide) (fun h20489 => ?_) (fun h20489 => ?_)
        · have h20489 : 122 < z20486.toInt := h20489
          refine g_lv (lv' := [(0, .ref a0), (1, .int z20486)]) [1, 0] rfl ?_
          exact J133 Y20473 z20486 Iy20474 Xz20479 (by omega) (by omega) (by show (pI Y20473 a0 4).toInt = (pI Y20473 a0 3).toInt; omega)
        · have h20489 : z20486.toInt ≤ 122 := h20489
          refine g_aload_n C dX9_next_99 rfl 1 rfl ?_
          refine g_bipush (v := 97) C dX9_next_100 (by decide) ?_
          refine g_bipush (v := 122) C dX9_next_102 (by decide) ?_
          refine g_callVV (rest := []) C mv_X9_28 [.int 97, .int 122] (s_X9_takeRun Iy20474 h20480) (h20480).1 (h20480).2 rfl rfl (by decide) (Nat.le_of_ble_eq_true rfl) (by decide) dX9_next_104 (fun Y20492 h20493 => ?_)
          obtain ⟨Iy20494, Xy20495⟩ := h20493
          have Xz20496 : EK [9] P Y20492 := Xz20479.tr (Xy20495.mono (by decide))
          have h20497 := Xy20495.at h20480
          refine g_aload_n C dX9_next_107 rfl 1 rfl ?_
          refine g_aload_n C dX9_next_108 rfl 1 rfl ?_
          refine g_getI C fi_X9_19 (by decide) (h20497).1 (h20497).2 dX9_next_109 ?_
          have h20498 := Iy20494.rg (h20497) 4 rfl
          refine g_aload_n C dX9_next_112 rfl 1 rfl ?_
          refine g_getI C fi_X9_22 (by decide) (h20497).1 (h20497).2 dX9_next_113 ?_
          have h20499 := Iy20494.rg (h20497) 3 rfl
          refine s_isub C dX9_next_116 (by show -2147483648 ≤ (pI Y20492 a0 4).toInt - (pI Y20492 a0 3).toInt ∧ (pI Y20492 a0 4).toInt - (pI Y20492 a0 3).toInt ≤ 2147483647; omega) (fun z20500 h20501 => ?_)
          have h20501 : z20500.toInt = (pI Y20492 a0 4).toInt - (pI Y20492 a0 3).toInt := h20501
          refine g_bipush (v := 8) C dX9_next_117 (by decide) ?_
          refine b_icmp_gt C 126 dX9_next_119 (by decide) (fun h20502 => ?_) (fun h20502 => ?_)
          · have h20502 : 8 < z20500.toInt := h20502
            refine g_iconst (v := 4) C dX9_next_126 (by decide) ?_
            refine g_lv (lv' := []) [] rfl ?_
            exact J127 Y20492 4 Iy20494 Xz20496 (by decide)
          · have h20502 : z20500.toInt ≤ 8 := h20502
            refine g_iconst (v := 1) C dX9_next_122 (by decide) ?_
            refine g_goto C 127 dX9_next_123 (by decide) ?_
            refine g_lv (lv' := []) [] rfl ?_
            exact J127 Y20492 1 Iy20494 Xz20496 (by decide)
    · have h20482 : (pI Y20473 a0 1).toInt ≤ (pI Y20473 a0 3).toInt := h20482
      refine g_aload_n C dX9_next_71 rfl 0 rfl ?_
      refine g_iconst (v := 0) C dX9_next_72 (by decide) ?_
      refine g_putI C fi_X9_25 rfl (h20480).1 (h20480).2 dX9_next_73 ?_
      refine gpW (ks := [9]) (Iy20474.setI (h20480) (rgOk.none rfl)) (EK.setI (h20480).2 (by decide)) (fun Y20503 Iy20504 Xy20505 w20506 w20507 => ?_)
      have w20507 : (pI Y20503 a0 2).toInt = 0 := w20507
      have q20508 := w20506 4 (by decide)
      have q20509 := w20506 3 (by decide)
      have q20510 := w20506 1 (by decide)
      have Xz20511 : EK [9] P Y20503 := Xz20479.tr (Xy20505.mono (by decide))
      have h20512 := Xy20505.at h20480
      exact ret _ _ _ _ _ dX9_next_76 (by decide) (by decide) ⟨Iy20504, Xz20511⟩
  have J0 : ∀ (n0 : Nat) (P0 : PP), (1000 - (pI P0 a0 4).toInt).toNat < n0 → (IV P0) → (EK [9] P P0) → G E ({ frames := 2, cells := 0, slots := 0, locals := 128 } : Room) D cy 2 P0 0 0 0 [(0, .ref a0)] [] := by
    intro n0
    induction n0 with
    | zero => intro P0 hm0 I0 X0; omega
    | succ n0 ih0 =>
      intro P0 hm0 I0 X0
      have h20513 := X0.at ha0
      have J39 : (1 ≤ (pI P0 a0 1).toInt ∧ (pI P0 a0 1).toInt ≤ 1000) → (0 ≤ (pI P0 a0 4).toInt ∧ (pI P0 a0 4).toInt ≤ 999) → G E ({ frames := 2, cells := 0, slots := 0, locals := 128 } : Room) D cy 2 P0 0 0 39 [(0, .ref a0)] [] := by
        intro hq39_0 hq39_1
        have h20514 := X0.at ha0
        refine g_aload_n C dX9_next_39 rfl 0 rfl ?_
        refine g_dup C dX9_next_40 rfl ?_
        refine g_getI C fi_X9_19 (by decide) (h20514).1 (h20514).2 dX9_next_41 ?_
        refine g_iconst (v := 1) C dX9_next_44 (by decide) ?_
        refine s_iadd C dX9_next_45 (by show -2147483648 ≤ (pI P0 a0 4).toInt + 1 ∧ (pI P0 a0 4).toInt + 1 ≤ 2147483647; omega) (fun z20515 h20516 => ?_)
        have h20516 : z20515.toInt = (pI P0 a0 4).toInt + 1 := h20516
        refine g_putI C fi_X9_19 rfl (h20514).1 (h20514).2 dX9_next_46 ?_
        refine gpW (ks := [9]) (I0.setI (h20514) (rgOk.of rfl (by omega))) (EK.setI (h20514).2 (by decide)) (fun Y20517 Iy20518 Xy20519 w20520 w20521 => ?_)
        have q20522 := w20520 1 (by decide)
        have Xz20523 : EK [9] P Y20517 := X0.tr (Xy20519.mono (by decide))
        have h20524 := Xy20519.at h20514
        refine g_goto C 0 dX9_next_49 (by decide) ?_
        exact ih0 Y20517 (by omega) Iy20518 Xz20523
      refine g_aload_n C dX9_next_0 rfl 0 rfl ?_
      refine g_getI C fi_X9_19 (by decide) (h20513).1 (h20513).2 dX9_next_1 ?_
      have h20525 := I0.rg (h20513) 4 rfl
      refine g_aload_n C dX9_next_4 rfl 0 rfl ?_
      refine g_getI C fi_X9_15 (by decide) (h20513).1 (h20513).2 dX9_next_5 ?_
      have h20526 := I0.rg (h20513) 1 rfl
      refine b_icmp_ge C 52 dX9_next_8 (by decide) (fun h20527 => ?_) (fun h20527 => ?_)
      · have h20527 : (pI P0 a0 1).toInt ≤ (pI P0 a0 4).toInt := h20527
        exact J52 P0 I0 X0
      · have h20527 : (pI P0 a0 4).toInt < (pI P0 a0 1).toInt := h20527
        refine g_aload_n C dX9_next_11 rfl 0 rfl ?_
        obtain ⟨b20528, e20529, h20530⟩ := I0.fld (h20513) 0 13 1000 rfl
        refine g_getR C fi_X9_9 rfl e20529 (h20513).1 (h20513).2 dX9_next_12 ?_
        refine g_aload_n C dX9_next_15 rfl 0 rfl ?_
        refine g_getI C fi_X9_19 (by decide) (h20513).1 (h20513).2 dX9_next_16 ?_
        refine g_iald (j := ((pI P0 a0 4).toInt.toNat)) C h20530.1 h20530.2.1 (ix_in h20530.2.2 (by omega)) dX9_next_19 ?_
        refine g_topi (fun z20531 _ => ?_)
        refine g_bipush (v := 10) C dX9_next_20 (by decide) ?_
        have u20533 := ti_rng z20531
        refine b_icmp_eq C 39 dX9_next_22 (by decide) (fun h20532 => ?_) (fun h20532 => ?_)
        · have h20532 : z20531.toInt = 10 := congrArg Int32.toInt h20532
          exact J39 (by omega) (by omega)
        · have h20532 : z20531.toInt ≠ 10 := ti_ne h20532
          refine g_aload_n C dX9_next_25 rfl 0 rfl ?_
          refine g_getR C fi_X9_9 rfl e20529 (h20513).1 (h20513).2 dX9_next_26 ?_
          refine g_aload_n C dX9_next_29 rfl 0 rfl ?_
          refine g_getI C fi_X9_19 (by decide) (h20513).1 (h20513).2 dX9_next_30 ?_
          refine g_iald (j := ((pI P0 a0 4).toInt.toNat)) C h20530.1 h20530.2.1 (ix_in h20530.2.2 (by omega)) dX9_next_33 ?_
          refine g_topi (fun z20534 _ => ?_)
          refine g_bipush (v := 32) C dX9_next_34 (by decide) ?_
          have u20536 := ti_rng z20534
          refine b_icmp_ne C 52 dX9_next_36 (by decide) (fun h20535 => ?_) (fun h20535 => ?_)
          · have h20535 : z20534.toInt ≠ 32 := ti_ne h20535
            exact J52 P0 I0 X0
          · have h20535 : z20534.toInt = 32 := congrArg Int32.toInt h20535
            exact J39 (by omega) (by omega)
  exact J0 _ P (Nat.lt_succ_self _) I EK.rf
theorem dX4_faultFor_30 : decode cX4_faultFor 30 = .ok (.aload_n 0, 1) := by decide +kernel
theorem dX4_faultFor_31 : decode cX4_faultFor 31 = .ok (.getfield 12, 3) := by decide +kernel
theorem dX4_faultFor_34 : decode cX4_faultFor 34 = .ok (.getfield 34, 3) := by decide +kernel
theorem dX4_faultFor_37 : decode cX4_faultFor 37 = .ok (.ifCond .ne 5, 3) := by decide +kernel
theorem dX4_faultFor_42 : decode cX4_faultFor 42 = .ok (.aload_n 0, 1) := by decide +kernel
theorem dX4_faultFor_43 : decode cX4_faultFor 43 = .ok (.iload_n 1, 1) := by decide +kernel
theorem dX4_faultFor_44 : decode cX4_faultFor 44 = .ok (.invokevirtual 38, 3) := by decide +kernel
theorem dX4_statementFault_0 : decode cX4_statementFault 0 = .ok (.aload_n 0, 1) := by decide +kernel
theorem dX4_statementFault_1 : decode cX4_statementFault 1 = .ok (.getfield 12, 3) := by decide +kernel
theorem dX4_statementFault_4 : decode cX4_statementFault 4 = .ok (.ldc 42, 2) := by decide +kernel
theorem dX4_statementFault_6 : decode cX4_statementFault 6 = .ok (.invokevirtual 44, 3) := by decide +kernel
theorem dX9_isWord_0 : decode cX9_isWord 0 = .ok (.aload_n 0, 1) := by decide +kernel
theorem dX9_isWord_1 : decode cX9_isWord 1 = .ok (.getfield 25, 3) := by decide +kernel
theorem dX9_isWord_4 : decode cX9_isWord 4 = .ok (.iconst 1, 1) := by decide +kernel
theorem dX9_isWord_5 : decode cX9_isWord 5 = .ok (.if_icmp .ne 19, 3) := by decide +kernel
theorem dX9_isWord_8 : decode cX9_isWord 8 = .ok (.aload_n 0, 1) := by decide +kernel
theorem dX9_isWord_9 : decode cX9_isWord 9 = .ok (.getfield 19, 3) := by decide +kernel
theorem dX9_isWord_12 : decode cX9_isWord 12 = .ok (.aload_n 0, 1) := by decide +kernel
theorem dX9_isWord_13 : decode cX9_isWord 13 = .ok (.getfield 22, 3) := by decide +kernel
theorem dX9_isWord_16 : decode cX9_isWord 16 = .ok (.isub, 1) := by decide +kernel
theorem dX9_isWord_17 : decode cX9_isWord 17 = .ok (.aload_n 1, 1) := by decide +kernel
theorem dX9_isWord_18 : decode cX9_isWord 18 = .ok (.invokevirtual 39, 3) := by decide +kernel
theorem dX9_isWord_21 : decode cX9_isWord 21 = .ok (.if_icmp .eq 5, 3) := by decide +kernel
theorem dX9_isWord_24 : decode cX9_isWord 24 = .ok (.iconst 0, 1) := by decide +kernel
theorem dX9_isWord_25 : decode cX9_isWord 25 = .ok (.ireturn, 1) := by decide +kernel
theorem dX9_isWord_26 : decode cX9_isWord 26 = .ok (.iconst 0, 1) := by decide +kernel
theorem dX9_isWord_27 : decode cX9_isWord 27 = .ok (.istore_n 2, 1) := by decide +kernel
theorem dX9_isWord_28 : decode cX9_isWord 28 = .ok (.iload_n 2, 1) := by decide +kernel
theorem dX9_isWord_29 : decode cX9_isWord 29 = .ok (.aload_n 1, 1) := by decide +kernel
theorem dX9_isWord_30 : decode cX9_isWord 30 = .ok (.invokevirtual 39, 3) := by decide +kernel
theorem dX9_isWord_33 : decode cX9_isWord 33 = .ok (.if_icmp .ge 30, 3) := by decide +kernel
theorem dX9_isWord_36 : decode cX9_isWord 36 = .ok (.aload_n 0, 1) := by decide +kernel
theorem dX9_isWord_37 : decode cX9_isWord 37 = .ok (.getfield 9, 3) := by decide +kernel
theorem dX9_isWord_40 : decode cX9_isWord 40 = .ok (.aload_n 0, 1) := by decide +kernel
theorem dX9_isWord_41 : decode cX9_isWord 41 = .ok (.getfield 22, 3) := by decide +kernel
theorem dX9_isWord_44 : decode cX9_isWord 44 = .ok (.iload_n 2, 1) := by decide +kernel
theorem dX9_isWord_45 : decode cX9_isWord 45 = .ok (.iadd, 1) := by decide +kernel
theorem dX9_isWord_46 : decode cX9_isWord 46 = .ok (.iaload, 1) := by decide +kernel
theorem dX9_isWord_47 : decode cX9_isWord 47 = .ok (.aload_n 1, 1) := by decide +kernel
theorem dX9_isWord_48 : decode cX9_isWord 48 = .ok (.iload_n 2, 1) := by decide +kernel
theorem dX9_isWord_49 : decode cX9_isWord 49 = .ok (.invokevirtual 43, 3) := by decide +kernel
theorem dX9_isWord_52 : decode cX9_isWord 52 = .ok (.if_icmp .eq 5, 3) := by decide +kernel
theorem dX9_isWord_55 : decode cX9_isWord 55 = .ok (.iconst 0, 1) := by decide +kernel
theorem dX9_isWord_56 : decode cX9_isWord 56 = .ok (.ireturn, 1) := by decide +kernel
theorem dX9_isWord_57 : decode cX9_isWord 57 = .ok (.iinc 2 1, 3) := by decide +kernel
theorem dX9_isWord_60 : decode cX9_isWord 60 = .ok (.goto (-32), 3) := by decide +kernel
theorem dX9_isWord_63 : decode cX9_isWord 63 = .ok (.iconst 1, 1) := by decide +kernel
theorem dX9_isWord_64 : decode cX9_isWord 64 = .ok (.ireturn, 1) := by decide +kernel
set_option maxHeartbeats 4000000 in
set_option maxRecDepth 100000 in
theorem s_X9_isWord {P : PP} {a0 : Nat} {i9 : Nat} (I : IV P) (ha0 : At P a0 9) (hi9 : i9 < 4) : CtrID yX9_isWord cX9_isWord 3 (some Jvm.ClassFile.FieldType.boolean) ({ frames := 5, cells := 0, slots := 0, locals := 320 } : Room) 0 0 P (fun D => [.ref a0, .ref (D.2 100 i9)]) (fun r P2 => P = P2 ∧ (0 ≤ r.toInt ∧ r.toInt ≤ 1)) := by
  intro D cy
  refine enIx (lv := [(0, .ref a0), (1, .ref (D.2 100 i9))]) (by decide) (Nat.le_of_ble_eq_true rfl) rfl (fun E C Ci0 ret => ?_)
  have J28 : ∀ (n28 : Nat) (v28_2 : Int32), (5 - v28_2.toInt).toNat < n28 → (0 ≤ v28_2.toInt ∧ v28_2.toInt ≤ 5) → (1 ≤ (pI P a0 2).toInt ∧ (pI P a0 2).toInt ≤ 1) → ((pI P a0 4).toInt - (pI P a0 3).toInt = ((lenS.getD i9 0 : Nat) : Int)) → (0 ≤ v28_2.toInt) → G E ({ frames := 5, cells := 0, slots := 0, locals := 320 } : Room) D cy 3 P 0 0 28 [(0, .ref a0), (1, .ref (D.2 100 i9)), (2, .int v28_2)] [] := by
    intro n28
    induction n28 with
    | zero => intro v28_2 hm28 hv28_2 hq28_0 rel28_0 rel28_1; omega
    | succ n28 ih28 =>
      intro v28_2 hm28 hv28_2 hq28_0 rel28_0 rel28_1
      have h20714 := I.rg ha0 4 rfl
      have h20715 := I.rg ha0 3 rfl
      refine g_iload_n C dX9_isWord_28 rfl 2 rfl ?_
      refine g_aload_n C dX9_isWord_29 rfl 1 rfl ?_
      refine g_callKI C hi9 (rest := [.int v28_2]) mk_X9_39 [] (k_J0_length hi9) rfl rfl (by decide) (Nat.le_of_ble_eq_true rfl) (by decide) dX9_isWord_30 (fun r20716 Y20717 h20718 => ?_)
      obtain ⟨rfl, h20718⟩ := h20718
      have h20718 : r20716.toInt = (lenS.getD i9 0 : Nat) := by rw [h20718]; exact (len_in i9 hi9).1
      have h20719 := (len_in i9 hi9).2
      refine b_icmp_ge C 63 dX9_isWord_33 (by decide) (fun h20720 => ?_) (fun h20720 => ?_)
      · have h20720 : r20716.toInt ≤ v28_2.toInt := h20720
        refine g_iconst (v := 1) C dX9_isWord_63 (by decide) ?_
        exact ret _ _ _ _ _ _ dX9_isWord_64 rfl (by decide) (by decide) ⟨rfl, (by decide)⟩
      · have h20720 : v28_2.toInt < r20716.toInt := h20720
        refine g_aload_n C dX9_isWord_36 rfl 0 rfl ?_
        obtain ⟨b20721, e20722, h20723⟩ := I.fld (ha0) 0 13 1000 rfl
        refine g_getR C fi_X9_9 rfl e20722 (ha0).1 (ha0).2 dX9_isWord_37 ?_
        refine g_aload_n C dX9_isWord_40 rfl 0 rfl ?_
        refine g_getI C fi_X9_22 (by decide) (ha0).1 (ha0).2 dX9_isWord_41 ?_
        refine g_iload_n C dX9_isWord_44 rfl 2 rfl ?_
        refine s_iadd C dX9_isWord_45 (by show -2147483648 ≤ (pI P a0 3).toInt + v28_2.toInt ∧ (pI P a0 3).toInt + v28_2.toInt ≤ 2147483647; omega) (fun z20724 h20725 => ?_)
        have h20725 : z20724.toInt = (pI P a0 3).toInt + v28_2.toInt := h20725
        refine g_iald (j := (z20724.toInt.toNat)) C h20723.1 h20723.2.1 (ix_in h20723.2.2 (by omega)) dX9_isWord_46 ?_
        refine g_topi (fun z20726 _ => ?_)
        refine g_aload_n C dX9_isWord_47 rfl 1 rfl ?_
        refine g_iload_n C dX9_isWord_48 rfl 2 rfl ?_
        refine g_callKI C hi9 (rest := [.int z20726]) mk_X9_43 [.int v28_2] (k_J0_charAt hi9 (by omega) (by omega)) rfl rfl (by decide) (Nat.le_of_ble_eq_true rfl) (by decide) dX9_isWord_49 (fun r20727 Y20728 h20729 => ?_)
        subst h20729
        have u20731 := ti_rng z20726
        have u20732 := ti_rng r20727
        refine b_icmp_eq C 57 dX9_isWord_52 (by decide) (fun h20730 => ?_) (fun h20730 => ?_)
        · have h20730 : z20726.toInt = r20727.toInt := congrArg Int32.toInt h20730
          refine s_iinc (lv0 := [(0, .ref a0), (1, .ref (D.2 100 i9))]) (m := 1) C dX9_isWord_57 2 rfl (by decide) rfl (by decide) (by omega) (fun z20733 h20734 => ?_)
          have h20734 : z20733.toInt = v28_2.toInt + 1 := h20734
          refine g_goto C 28 dX9_isWord_60 (by decide) ?_
          refine g_lv (lv' := [(0, .ref a0), (1, .ref (D.2 100 i9)), (2, .int z20733)]) [1, 2, 0] rfl ?_
          exact ih28 z20733 (by omega) (by omega) (by omega) (by show (pI P a0 4).toInt - (pI P a0 3).toInt = ((lenS.getD i9 0 : Nat) : Int); omega) (by show 0 ≤ z20733.toInt; omega)
        · have h20730 : z20726.toInt ≠ r20727.toInt := ti_ne h20730
          refine g_iconst (v := 0) C dX9_isWord_55 (by decide) ?_
          exact ret _ _ _ _ _ _ dX9_isWord_56 rfl (by decide) (by decide) ⟨rfl, (by decide)⟩
  have J24 : G E ({ frames := 5, cells := 0, slots := 0, locals := 320 } : Room) D cy 3 P 0 0 24 [] [] := by
    refine g_iconst (v := 0) C dX9_isWord_24 (by decide) ?_
    exact ret _ _ _ _ _ _ dX9_isWord_25 rfl (by decide) (by decide) ⟨rfl, (by decide)⟩
  refine g_aload_n C dX9_isWord_0 rfl 0 rfl ?_
  refine g_getI C fi_X9_25 (by decide) (ha0).1 (ha0).2 dX9_isWord_1 ?_
  refine g_iconst (v := 1) C dX9_isWord_4 (by decide) ?_
  have u20736 := ti_rng (pI P a0 2)
  refine b_icmp_ne C 24 dX9_isWord_5 (by decide) (fun h20735 => ?_) (fun h20735 => ?_)
  · have h20735 : (pI P a0 2).toInt ≠ 1 := ti_ne h20735
    refine g_lv (lv' := []) [] rfl ?_
    exact J24 
  · have h20735 : (pI P a0 2).toInt = 1 := congrArg Int32.toInt h20735
    refine g_aload_n C dX9_isWord_8 rfl 0 rfl ?_
    refine g_getI C fi_X9_19 (by decide) (ha0).1 (ha0).2 dX9_isWord_9 ?_
    have h20737 := I.rg (ha0) 4 rfl
    refine g_aload_n C dX9_isWord_12 rfl 0 rfl ?_
    refine g_getI C fi_X9_22 (by decide) (ha0).1 (ha0).2 dX9_isWord_13 ?_
    have h20738 := I.rg (ha0) 3 rfl
    refine s_isub C dX9_isWord_16 (by show -2147483648 ≤ (pI P a0 4).toInt - (pI P a0 3).toInt ∧ (pI P a0 4).toInt - (pI P a0 3).toInt ≤ 2147483647; omega) (fun z20739 h20740 => ?_)
    have h20740 : z20739.toInt = (pI P a0 4).toInt - (pI P a0 3).toInt := h20740
    refine g_aload_n C dX9_isWord_17 rfl 1 rfl ?_
    refine g_callKI C hi9 (rest := [.int z20739]) mk_X9_39 [] (k_J0_length hi9) rfl rfl (by decide) (Nat.le_of_ble_eq_true rfl) (by decide) dX9_isWord_18 (fun r20741 Y20742 h20743 => ?_)
    obtain ⟨rfl, h20743⟩ := h20743
    have h20743 : r20741.toInt = (lenS.getD i9 0 : Nat) := by rw [h20743]; exact (len_in i9 hi9).1
    have h20744 := (len_in i9 hi9).2
    refine b_icmp_eq C 26 dX9_isWord_21 (by decide) (fun h20745 => ?_) (fun h20745 => ?_)
    · have h20745 : z20739.toInt = r20741.toInt := congrArg Int32.toInt h20745
      refine g_iconst (v := 0) C dX9_isWord_26 (by decide) ?_
      refine g_istore_n (lv' := [(2, .int 0), (0, .ref a0), (1, .ref (D.2 100 i9))]) C dX9_isWord_27 rfl (by decide) rfl ?_
      refine g_lv (lv' := [(0, .ref a0), (1, .ref (D.2 100 i9)), (2, .int 0)]) [1, 2, 0] rfl ?_
      exact J28 _ 0 (Nat.lt_succ_self _) (by decide) (by omega) (by show (pI P a0 4).toInt - (pI P a0 3).toInt = ((lenS.getD i9 0 : Nat) : Int); omega) (by show 0 ≤ 0; omega)
    · have h20745 : z20739.toInt ≠ r20741.toInt := ti_ne h20745
      refine g_lv (lv' := []) [] rfl ?_
      exact J24 
theorem dX4_statementFault_9 : decode cX4_statementFault 9 = .ok (.ifCond .eq 8, 3) := by decide +kernel
theorem dX4_statementFault_17 : decode cX4_statementFault 17 = .ok (.aload_n 0, 1) := by decide +kernel
theorem dX4_statementFault_18 : decode cX4_statementFault 18 = .ok (.getfield 12, 3) := by decide +kernel
theorem dX4_statementFault_21 : decode cX4_statementFault 21 = .ok (.ldc 52, 2) := by decide +kernel
theorem dX4_statementFault_23 : decode cX4_statementFault 23 = .ok (.invokevirtual 44, 3) := by decide +kernel
theorem dX4_statementFault_26 : decode cX4_statementFault 26 = .ok (.ifCond .eq 26, 3) := by decide +kernel
theorem dX4_statementFault_52 : decode cX4_statementFault 52 = .ok (.aload_n 0, 1) := by decide +kernel
theorem dX4_statementFault_53 : decode cX4_statementFault 53 = .ok (.getfield 12, 3) := by decide +kernel
theorem dX4_statementFault_56 : decode cX4_statementFault 56 = .ok (.ldc 63, 2) := by decide +kernel
theorem dX4_statementFault_58 : decode cX4_statementFault 58 = .ok (.invokevirtual 44, 3) := by decide +kernel
theorem dX4_statementFault_61 : decode cX4_statementFault 61 = .ok (.ifCond .eq 28, 3) := by decide +kernel
theorem dX4_statementFault_89 : decode cX4_statementFault 89 = .ok (.aload_n 0, 1) := by decide +kernel
theorem dX4_statementFault_90 : decode cX4_statementFault 90 = .ok (.getfield 12, 3) := by decide +kernel
theorem dX4_statementFault_93 : decode cX4_statementFault 93 = .ok (.ldc 71, 2) := by decide +kernel
theorem dX4_statementFault_95 : decode cX4_statementFault 95 = .ok (.invokevirtual 44, 3) := by decide +kernel
theorem dX4_statementFault_98 : decode cX4_statementFault 98 = .ok (.ifCond .eq 26, 3) := by decide +kernel
theorem dX4_statementFault_124 : decode cX4_statementFault 124 = .ok (.aload_n 0, 1) := by decide +kernel
theorem dX4_statementFault_125 : decode cX4_statementFault 125 = .ok (.iconst 1, 1) := by decide +kernel
theorem dX4_statementFault_126 : decode cX4_statementFault 126 = .ok (.invokevirtual 57, 3) := by decide +kernel
theorem dX4_wrong_0 : decode cX4_wrong 0 = .ok (.iload_n 1, 1) := by decide +kernel
theorem dX4_wrong_1 : decode cX4_wrong 1 = .ok (.bipush 16, 2) := by decide +kernel
theorem dX4_wrong_3 : decode cX4_wrong 3 = .ok (.aload_n 0, 1) := by decide +kernel
theorem dX4_wrong_4 : decode cX4_wrong 4 = .ok (.getfield 12, 3) := by decide +kernel
theorem dX4_wrong_7 : decode cX4_wrong 7 = .ok (.getfield 96, 3) := by decide +kernel
theorem dX4_wrong_10 : decode cX4_wrong 10 = .ok (.imul, 1) := by decide +kernel
theorem dX4_wrong_11 : decode cX4_wrong 11 = .ok (.iadd, 1) := by decide +kernel
theorem dX4_wrong_12 : decode cX4_wrong 12 = .ok (.ireturn, 1) := by decide +kernel
set_option maxHeartbeats 4000000 in
set_option maxRecDepth 100000 in
theorem s_X4_wrong {P : PP} {a0 : Nat} {a1 : Int32} (I : IV P) (ha0 : At P a0 4) (ha1 : 1 ≤ a1.toInt ∧ a1.toInt ≤ 5) : CtrI yX4_wrong cX4_wrong 2 (some Jvm.ClassFile.FieldType.int) ({ frames := 1, cells := 0, slots := 0, locals := 64 } : Room) 0 0 P [.ref a0, .int a1] (fun r P2 => P = P2 ∧ (1 ≤ r.toInt ∧ r.toInt ≤ 16005)) := by
  refine enI (lv := [(0, .ref a0), (1, .int a1)]) (by decide) (Nat.le_of_ble_eq_true rfl) rfl (fun E D cy C Ci0 ret => ?_)
  refine g_iload_n C dX4_wrong_0 rfl 1 rfl ?_
  refine g_bipush (v := 16) C dX4_wrong_1 (by decide) ?_
  refine g_aload_n C dX4_wrong_3 rfl 0 rfl ?_
  obtain ⟨b20773, e20774, h20775⟩ := I.fld (ha0) 0 9 0 rfl
  refine g_getR C fi_X4_12 rfl e20774 (ha0).1 (ha0).2 dX4_wrong_4 ?_
  refine g_getI C fi_X4_96 (by decide) (h20775.at).1 (h20775.at).2 dX4_wrong_7 ?_
  have h20776 := I.rg (h20775.at) 3 rfl
  refine s_imul C dX4_wrong_10 (by show -2147483648 ≤ 16 * (pI P b20773 3).toInt ∧ 16 * (pI P b20773 3).toInt ≤ 2147483647; omega) (fun z20777 h20778 => ?_)
  have h20778 : z20777.toInt = 16 * (pI P b20773 3).toInt := h20778
  refine s_iadd C dX4_wrong_11 (by show -2147483648 ≤ a1.toInt + z20777.toInt ∧ a1.toInt + z20777.toInt ≤ 2147483647; omega) (fun z20779 h20780 => ?_)
  have h20780 : z20779.toInt = a1.toInt + z20777.toInt := h20780
  exact ret _ _ _ _ _ _ dX4_wrong_12 rfl (by decide) (by decide) ⟨rfl, (by omega)⟩
theorem dX4_statementFault_101 : decode cX4_statementFault 101 = .ok (.aload_n 0, 1) := by decide +kernel
theorem dX4_statementFault_102 : decode cX4_statementFault 102 = .ok (.getfield 21, 3) := by decide +kernel
theorem dX4_statementFault_105 : decode cX4_statementFault 105 = .ok (.getfield 73, 3) := by decide +kernel
theorem dX4_statementFault_108 : decode cX4_statementFault 108 = .ok (.ifCond .eq 11, 3) := by decide +kernel
theorem dX4_statementFault_119 : decode cX4_statementFault 119 = .ok (.aload_n 0, 1) := by decide +kernel
theorem dX4_statementFault_120 : decode cX4_statementFault 120 = .ok (.invokevirtual 75, 3) := by decide +kernel
theorem dX4_statementFault_129 : decode cX4_statementFault 129 = .ok (.ireturn, 1) := by decide +kernel
theorem dX4_sealFault_0 : decode cX4_sealFault 0 = .ok (.aload_n 0, 1) := by decide +kernel
theorem dX4_sealFault_1 : decode cX4_sealFault 1 = .ok (.iconst 1, 1) := by decide +kernel
theorem dX4_sealFault_2 : decode cX4_sealFault 2 = .ok (.sipush 996, 3) := by decide +kernel
theorem dX4_sealFault_5 : decode cX4_sealFault 5 = .ok (.invokevirtual 78, 3) := by decide +kernel
theorem dX4_numberFault_0 : decode cX4_numberFault 0 = .ok (.aload_n 0, 1) := by decide +kernel
theorem dX4_numberFault_1 : decode cX4_numberFault 1 = .ok (.getfield 12, 3) := by decide +kernel
theorem dX4_numberFault_4 : decode cX4_numberFault 4 = .ok (.invokevirtual 31, 3) := by decide +kernel
theorem dX4_numberFault_7 : decode cX4_numberFault 7 = .ok (.aload_n 0, 1) := by decide +kernel
theorem dX4_numberFault_8 : decode cX4_numberFault 8 = .ok (.getfield 12, 3) := by decide +kernel
theorem dX4_numberFault_11 : decode cX4_numberFault 11 = .ok (.getfield 34, 3) := by decide +kernel
theorem dX4_numberFault_14 : decode cX4_numberFault 14 = .ok (.iconst 2, 1) := by decide +kernel
theorem dX4_numberFault_15 : decode cX4_numberFault 15 = .ok (.if_icmp .eq 9, 3) := by decide +kernel
theorem dX4_numberFault_18 : decode cX4_numberFault 18 = .ok (.aload_n 0, 1) := by decide +kernel
theorem dX4_numberFault_19 : decode cX4_numberFault 19 = .ok (.iconst 1, 1) := by decide +kernel
theorem dX4_numberFault_20 : decode cX4_numberFault 20 = .ok (.invokevirtual 57, 3) := by decide +kernel
theorem dX4_numberFault_23 : decode cX4_numberFault 23 = .ok (.ireturn, 1) := by decide +kernel
theorem dX4_numberFault_24 : decode cX4_numberFault 24 = .ok (.aload_n 0, 1) := by decide +kernel
theorem dX4_numberFault_25 : decode cX4_numberFault 25 = .ok (.getfield 12, 3) := by decide +kernel
theorem dX4_numberFault_28 : decode cX4_numberFault 28 = .ok (.getfield 82, 3) := by decide +kernel
theorem dX4_numberFault_31 : decode cX4_numberFault 31 = .ok (.iload_n 1, 1) := by decide +kernel
theorem dX4_numberFault_32 : decode cX4_numberFault 32 = .ok (.if_icmp .lt 14, 3) := by decide +kernel
theorem dX4_numberFault_35 : decode cX4_numberFault 35 = .ok (.aload_n 0, 1) := by decide +kernel
theorem dX4_numberFault_36 : decode cX4_numberFault 36 = .ok (.getfield 12, 3) := by decide +kernel
theorem dX4_numberFault_39 : decode cX4_numberFault 39 = .ok (.getfield 82, 3) := by decide +kernel
theorem dX4_numberFault_42 : decode cX4_numberFault 42 = .ok (.iload_n 2, 1) := by decide +kernel
theorem dX4_numberFault_43 : decode cX4_numberFault 43 = .ok (.if_icmp .le 11, 3) := by decide +kernel
theorem dX4_numberFault_46 : decode cX4_numberFault 46 = .ok (.aload_n 0, 1) := by decide +kernel
theorem dX4_numberFault_47 : decode cX4_numberFault 47 = .ok (.iconst 4, 1) := by decide +kernel
theorem dX4_numberFault_48 : decode cX4_numberFault 48 = .ok (.invokevirtual 57, 3) := by decide +kernel
theorem dX4_numberFault_51 : decode cX4_numberFault 51 = .ok (.goto 4, 3) := by decide +kernel
theorem dX4_numberFault_54 : decode cX4_numberFault 54 = .ok (.iconst 0, 1) := by decide +kernel
theorem dX4_numberFault_55 : decode cX4_numberFault 55 = .ok (.ireturn, 1) := by decide +kernel
set_option maxHeartbeats 4000000 in
set_option maxRecDepth 100000 in
theorem s_X4_numberFault {P : PP} {a0 : Nat} {a1 : Int32} {a2 : Int32} (I : IV P) (ha0 : At P a0 4) : CtrI yX4_numberFault cX4_numberFault 3 (some Jvm.ClassFile.FieldType.int) ({ frames := 3, cells := 0, slots := 0, locals := 192 } : Room) 0 0 P [.ref a0, .int a1, .int a2] (fun r P2 => IV P2 ∧ EK [9] P P2 ∧ (0 ≤ r.toInt ∧ r.toInt ≤ 16005) ∧ (r.toInt ≠ 0 ∨ ∀ b, pR P2 a0 0 = some b → (a1.toInt ≤ (pI P2 b 5).toInt ∧ (pI P2 b 5).toInt ≤ a2.toInt))) := by
  refine enI (lv := [(0, .ref a0), (1, .int a1), (2, .int a2)]) (by decide) (Nat.le_of_ble_eq_true rfl) rfl (fun E D cy C Ci0 ret => ?_)
  have J46 : ∀ (P46 : PP), (IV P46) → (EK [9] P P46) → (∀ b, pR P46 a0 0 = some b → 2 ≤ (pI P46 b 2).toInt ∧ (pI P46 b 2).toInt ≤ 2) → (∀ b, pR P46 a0 0 = some b → (pI P46 b 5).toInt ≤ 2147483647) → G E ({ frames := 3, cells := 0, slots := 0, locals := 192 } : Room) D cy 3 P46 0 0 46 [(0, .ref a0)] [] := by
    intro P46 I46 X46 hq46_0 hq46_1
    have h20839 := X46.at ha0
    obtain ⟨b20840, e20841, h20842⟩ := I46.fld (h20839) 0 9 0 rfl
    have hq46_0 := hq46_0 b20840 e20841
    have hq46_1 := hq46_1 b20840 e20841
    refine g_aload_n C dX4_numberFault_46 rfl 0 rfl ?_
    refine g_iconst (v := 4) C dX4_numberFault_47 (by decide) ?_
    refine g_callVI (rest := []) C mv_X4_57 [.int 4] (s_X4_wrong I46 h20839 (by decide)) (h20839).1 (h20839).2 rfl rfl (by decide) (Nat.le_of_ble_eq_true rfl) (by decide) dX4_numberFault_48 (fun r20843 Y20844 h20845 => ?_)
    obtain ⟨rfl, h20845⟩ := h20845
    have h20845 : 1 ≤ r20843.toInt ∧ r20843.toInt ≤ 16005 := h20845
    refine g_goto C 55 dX4_numberFault_51 (by decide) ?_
    exact ret _ _ _ _ _ _ dX4_numberFault_55 rfl (by decide) (by decide) ⟨I46, X46, (by omega), Or.inl (by omega)⟩
  refine g_aload_n C dX4_numberFault_0 rfl 0 rfl ?_
  obtain ⟨b20846, e20847, h20848⟩ := I.fld (ha0) 0 9 0 rfl
  refine g_getR C fi_X4_12 rfl e20847 (ha0).1 (ha0).2 dX4_numberFault_1 ?_
  refine g_callVV (rest := []) C mv_X4_31 [] (s_X9_next I h20848.at) (h20848.at).1 (h20848.at).2 rfl rfl (by decide) (Nat.le_of_ble_eq_true rfl) (by decide) dX4_numberFault_4 (fun Y20850 h20851 => ?_)
  obtain ⟨Iy20852, Xy20853⟩ := h20851
  have Xz20854 : EK [9] P Y20850 := Xy20853.mono (by decide)
  have h20855 := Xy20853.at ha0
  refine g_aload_n C dX4_numberFault_7 rfl 0 rfl ?_
  obtain ⟨b20856, e20857, h20858⟩ := Iy20852.fld (h20855) 0 9 0 rfl
  refine g_getR C fi_X4_12 rfl e20857 (h20855).1 (h20855).2 dX4_numberFault_8 ?_
  refine g_getI C fi_X4_34 (by decide) (h20858.at).1 (h20858.at).2 dX4_numberFault_11 ?_
  refine g_iconst (v := 2) C dX4_numberFault_14 (by decide) ?_
  have u20860 := ti_rng (pI Y20850 b20856 2)
  refine b_icmp_eq C 24 dX4_numberFault_15 (by decide) (fun h20859 => ?_) (fun h20859 => ?_)
  · have h20859 : (pI Y20850 b20856 2).toInt = 2 := congrArg Int32.toInt h20859
    refine g_aload_n C dX4_numberFault_24 rfl 0 rfl ?_
    refine g_getR C fi_X4_12 rfl e20857 (h20855).1 (h20855).2 dX4_numberFault_25 ?_
    refine g_getI C fi_X4_82 (by decide) (h20858.at).1 (h20858.at).2 dX4_numberFault_28 ?_
    refine g_iload_n C dX4_numberFault_31 rfl 1 rfl ?_
    have u20862 := ti_rng (pI Y20850 b20856 5)
    have u20863 := ti_rng a1
    refine b_icmp_lt C 46 dX4_numberFault_32 (by decide) (fun h20861 => ?_) (fun h20861 => ?_)
    · have h20861 : (pI Y20850 b20856 5).toInt < a1.toInt := h20861
      refine g_lv (lv' := [(0, .ref a0)]) [0] rfl ?_
      exact J46 Y20850 Iy20852 Xz20854 (fun b9 e9 => by rw [e20857] at e9; cases e9; omega) (fun b9 e9 => by rw [e20857] at e9; cases e9; omega)
    · have h20861 : a1.toInt ≤ (pI Y20850 b20856 5).toInt := h20861
      refine g_aload_n C dX4_numberFault_35 rfl 0 rfl ?_
      refine g_getR C fi_X4_12 rfl e20857 (h20855).1 (h20855).2 dX4_numberFault_36 ?_
      refine g_getI C fi_X4_82 (by decide) (h20858.at).1 (h20858.at).2 dX4_numberFault_39 ?_
      refine g_iload_n C dX4_numberFault_42 rfl 2 rfl ?_
      have u20865 := ti_rng (pI Y20850 b20856 5)
      have u20866 := ti_rng a2
      refine b_icmp_le C 54 dX4_numberFault_43 (by decide) (fun h20864 => ?_) (fun h20864 => ?_)
      · have h20864 : (pI Y20850 b20856 5).toInt ≤ a2.toInt := h20864
        refine g_iconst (v := 0) C dX4_numberFault_54 (by decide) ?_
        exact ret _ _ _ _ _ _ dX4_numberFault_55 rfl (by decide) (by decide) ⟨Iy20852, Xz20854, (by decide), Or.inr (fun b9 e9 => by rw [e20857] at e9; cases e9; omega)⟩
      · have h20864 : a2.toInt < (pI Y20850 b20856 5).toInt := h20864
        refine g_lv (lv' := [(0, .ref a0)]) [0] rfl ?_
        exact J46 Y20850 Iy20852 Xz20854 (fun b9 e9 => by rw [e20857] at e9; cases e9; omega) (fun b9 e9 => by rw [e20857] at e9; cases e9; omega)
  · have h20859 : (pI Y20850 b20856 2).toInt ≠ 2 := ti_ne h20859
    refine g_aload_n C dX4_numberFault_18 rfl 0 rfl ?_
    refine g_iconst (v := 1) C dX4_numberFault_19 (by decide) ?_
    refine g_callVI (rest := []) C mv_X4_57 [.int 1] (s_X4_wrong Iy20852 h20855 (by decide)) (h20855).1 (h20855).2 rfl rfl (by decide) (Nat.le_of_ble_eq_true rfl) (by decide) dX4_numberFault_20 (fun r20867 Y20868 h20869 => ?_)
    obtain ⟨rfl, h20869⟩ := h20869
    have h20869 : 1 ≤ r20867.toInt ∧ r20867.toInt ≤ 16005 := h20869
    exact ret _ _ _ _ _ _ dX4_numberFault_23 rfl (by decide) (by decide) ⟨Iy20852, Xz20854, (by omega), Or.inl (by omega)⟩
theorem dX4_sealFault_8 : decode cX4_sealFault 8 = .ok (.istore_n 1, 1) := by decide +kernel
theorem dX4_sealFault_9 : decode cX4_sealFault 9 = .ok (.iload_n 1, 1) := by decide +kernel
theorem dX4_sealFault_10 : decode cX4_sealFault 10 = .ok (.ifCond .eq 5, 3) := by decide +kernel
theorem dX4_sealFault_15 : decode cX4_sealFault 15 = .ok (.aload_n 0, 1) := by decide +kernel
theorem dX4_sealFault_16 : decode cX4_sealFault 16 = .ok (.getfield 21, 3) := by decide +kernel
theorem dX4_sealFault_19 : decode cX4_sealFault 19 = .ok (.aload_n 0, 1) := by decide +kernel
theorem dX4_sealFault_20 : decode cX4_sealFault 20 = .ok (.getfield 12, 3) := by decide +kernel
theorem dX4_sealFault_23 : decode cX4_sealFault 23 = .ok (.getfield 82, 3) := by decide +kernel
theorem dX4_sealFault_26 : decode cX4_sealFault 26 = .ok (.putfield 73, 3) := by decide +kernel
theorem dX4_sealFault_29 : decode cX4_sealFault 29 = .ok (.aload_n 0, 1) := by decide +kernel
theorem dX4_sealFault_30 : decode cX4_sealFault 30 = .ok (.invokevirtual 88, 3) := by decide +kernel
theorem dX4_endFault_0 : decode cX4_endFault 0 = .ok (.aload_n 0, 1) := by decide +kernel
theorem dX4_endFault_1 : decode cX4_endFault 1 = .ok (.getfield 12, 3) := by decide +kernel
theorem dX4_endFault_4 : decode cX4_endFault 4 = .ok (.invokevirtual 31, 3) := by decide +kernel
theorem dX4_endFault_7 : decode cX4_endFault 7 = .ok (.aload_n 0, 1) := by decide +kernel
theorem dX4_endFault_8 : decode cX4_endFault 8 = .ok (.getfield 12, 3) := by decide +kernel
theorem dX4_endFault_11 : decode cX4_endFault 11 = .ok (.getfield 34, 3) := by decide +kernel
theorem dX4_endFault_14 : decode cX4_endFault 14 = .ok (.iconst 3, 1) := by decide +kernel
theorem dX4_endFault_15 : decode cX4_endFault 15 = .ok (.if_icmp .ne 7, 3) := by decide +kernel
theorem dX4_endFault_18 : decode cX4_endFault 18 = .ok (.iconst 0, 1) := by decide +kernel
theorem dX4_endFault_19 : decode cX4_endFault 19 = .ok (.goto 8, 3) := by decide +kernel
theorem dX4_endFault_22 : decode cX4_endFault 22 = .ok (.aload_n 0, 1) := by decide +kernel
theorem dX4_endFault_23 : decode cX4_endFault 23 = .ok (.iconst 1, 1) := by decide +kernel
theorem dX4_endFault_24 : decode cX4_endFault 24 = .ok (.invokevirtual 57, 3) := by decide +kernel
theorem dX4_endFault_27 : decode cX4_endFault 27 = .ok (.ireturn, 1) := by decide +kernel
set_option maxHeartbeats 4000000 in
set_option maxRecDepth 100000 in
theorem s_X4_endFault {P : PP} {a0 : Nat} (I : IV P) (ha0 : At P a0 4) : CtrI yX4_endFault cX4_endFault 1 (some Jvm.ClassFile.FieldType.int) ({ frames := 3, cells := 0, slots := 0, locals := 192 } : Room) 0 0 P [.ref a0] (fun r P2 => IV P2 ∧ EK [9] P P2 ∧ (0 ≤ r.toInt ∧ r.toInt ≤ 16005)) := by
  refine enI (lv := [(0, .ref a0)]) (by decide) (Nat.le_of_ble_eq_true rfl) rfl (fun E D cy C Ci0 ret => ?_)
  refine g_aload_n C dX4_endFault_0 rfl 0 rfl ?_
  obtain ⟨b20915, e20916, h20917⟩ := I.fld (ha0) 0 9 0 rfl
  refine g_getR C fi_X4_12 rfl e20916 (ha0).1 (ha0).2 dX4_endFault_1 ?_
  refine g_callVV (rest := []) C mv_X4_31 [] (s_X9_next I h20917.at) (h20917.at).1 (h20917.at).2 rfl rfl (by decide) (Nat.le_of_ble_eq_true rfl) (by decide) dX4_endFault_4 (fun Y20919 h20920 => ?_)
  obtain ⟨Iy20921, Xy20922⟩ := h20920
  have Xz20923 : EK [9] P Y20919 := Xy20922.mono (by decide)
  have h20924 := Xy20922.at ha0
  refine g_aload_n C dX4_endFault_7 rfl 0 rfl ?_
  obtain ⟨b20925, e20926, h20927⟩ := Iy20921.fld (h20924) 0 9 0 rfl
  refine g_getR C fi_X4_12 rfl e20926 (h20924).1 (h20924).2 dX4_endFault_8 ?_
  refine g_getI C fi_X4_34 (by decide) (h20927.at).1 (h20927.at).2 dX4_endFault_11 ?_
  refine g_iconst (v := 3) C dX4_endFault_14 (by decide) ?_
  have u20929 := ti_rng (pI Y20919 b20925 2)
  refine b_icmp_ne C 22 dX4_endFault_15 (by decide) (fun h20928 => ?_) (fun h20928 => ?_)
  · have h20928 : (pI Y20919 b20925 2).toInt ≠ 3 := ti_ne h20928
    refine g_aload_n C dX4_endFault_22 rfl 0 rfl ?_
    refine g_iconst (v := 1) C dX4_endFault_23 (by decide) ?_
    refine g_callVI (rest := []) C mv_X4_57 [.int 1] (s_X4_wrong Iy20921 h20924 (by decide)) (h20924).1 (h20924).2 rfl rfl (by decide) (Nat.le_of_ble_eq_true rfl) (by decide) dX4_endFault_24 (fun r20930 Y20931 h20932 => ?_)
    obtain ⟨rfl, h20932⟩ := h20932
    have h20932 : 1 ≤ r20930.toInt ∧ r20930.toInt ≤ 16005 := h20932
    exact ret _ _ _ _ _ _ dX4_endFault_27 rfl (by decide) (by decide) ⟨Iy20921, Xz20923, (by omega)⟩
  · have h20928 : (pI Y20919 b20925 2).toInt = 3 := congrArg Int32.toInt h20928
    refine g_iconst (v := 0) C dX4_endFault_18 (by decide) ?_
    refine g_goto C 27 dX4_endFault_19 (by decide) ?_
    exact ret _ _ _ _ _ _ dX4_endFault_27 rfl (by decide) (by decide) ⟨Iy20921, Xz20923, (by decide)⟩
theorem dX4_sealFault_13 : decode cX4_sealFault 13 = .ok (.iload_n 1, 1) := by decide +kernel
theorem dX4_sealFault_14 : decode cX4_sealFault 14 = .ok (.ireturn, 1) := by decide +kernel
theorem dX4_sealFault_33 : decode cX4_sealFault 33 = .ok (.ireturn, 1) := by decide +kernel
set_option maxHeartbeats 4000000 in
set_option maxRecDepth 100000 in
theorem s_X4_sealFault {P : PP} {a0 : Nat} (I : IV P) (ha0 : At P a0 4) : CtrI yX4_sealFault cX4_sealFault 2 (some Jvm.ClassFile.FieldType.int) ({ frames := 4, cells := 0, slots := 0, locals := 256 } : Room) 0 0 P [.ref a0] (fun r P2 => IV P2 ∧ EK [3, 9] P P2 ∧ (0 ≤ r.toInt ∧ r.toInt ≤ 16005)) := by
  refine enI (lv := [(0, .ref a0)]) (by decide) (Nat.le_of_ble_eq_true rfl) rfl (fun E D cy C Ci0 ret => ?_)
  refine g_aload_n C dX4_sealFault_0 rfl 0 rfl ?_
  refine g_iconst (v := 1) C dX4_sealFault_1 (by decide) ?_
  refine g_sipush (v := 996) C dX4_sealFault_2 (by decide) ?_
  refine g_callVI (rest := []) C mv_X4_78 [.int 1, .int 996] (s_X4_numberFault I ha0) (ha0).1 (ha0).2 rfl rfl (by decide) (Nat.le_of_ble_eq_true rfl) (by decide) dX4_sealFault_5 (fun r20970 Y20971 h20972 => ?_)
  obtain ⟨Iy20973, Xy20974, h20972⟩ := h20972
  have Xz20975 : EK [3, 9] P Y20971 := Xy20974.mono (by decide)
  have h20976 := Xy20974.at ha0
  obtain ⟨h20972, hi20977⟩ := h20972
  have h20972 : 0 ≤ r20970.toInt ∧ r20970.toInt ≤ 16005 := h20972
  refine g_istore_n (lv' := [(1, .int r20970), (0, .ref a0)]) C dX4_sealFault_8 rfl (by decide) rfl ?_
  refine g_iload_n C dX4_sealFault_9 rfl 0 rfl ?_
  refine b_if_eq C 15 dX4_sealFault_10 (by decide) (fun h20978 => ?_) (fun h20978 => ?_)
  · have h20978 : r20970.toInt = 0 := congrArg Int32.toInt h20978
    obtain ⟨b20979, e20980, h20981⟩ := Iy20973.fld (h20976) 0 9 0 rfl
    have hi20977 := (hi20977.resolve_left (fun z => z h20978)) b20979 e20980
    have hi20977 : 1 ≤ (pI Y20971 b20979 5).toInt ∧ (pI Y20971 b20979 5).toInt ≤ 996 := hi20977
    refine g_aload_n C dX4_sealFault_15 rfl 1 rfl ?_
    obtain ⟨b20982, e20983, h20984⟩ := Iy20973.fld (h20976) 1 3 0 rfl
    refine g_getR C fi_X4_21 rfl e20983 (h20976).1 (h20976).2 dX4_sealFault_16 ?_
    refine g_aload_n C dX4_sealFault_19 rfl 1 rfl ?_
    refine g_getR C fi_X4_12 rfl e20980 (h20976).1 (h20976).2 dX4_sealFault_20 ?_
    refine g_getI C fi_X4_82 (by decide) (h20981.at).1 (h20981.at).2 dX4_sealFault_23 ?_
    refine g_putI C fi_X4_73 rfl (h20984.at).1 (h20984.at).2 dX4_sealFault_26 ?_
    refine gpW (ks := [3]) (Iy20973.setI (h20984.at) (rgOk.none rfl)) (EK.setI (h20984.at).2 (by decide)) (fun Y20985 Iy20986 Xy20987 w20988 w20989 => ?_)
    have q20990 := Xy20987.keep (h20981.at) (by decide) 5
    have Xz20991 : EK [3, 9] P Y20985 := Xz20975.tr (Xy20987.mono (by decide))
    have e20992 := Xy20987.ref h20976 (by decide) e20980
    have e20993 := Xy20987.ref h20976 (by decide) e20983
    have h20994 := Xy20987.at h20976
    have h20995 := Xy20987.ar h20981
    have h20996 := Xy20987.ar h20984
    refine g_aload_n C dX4_sealFault_29 rfl 1 rfl ?_
    refine g_callVI (rest := []) C mv_X4_88 [] (s_X4_endFault Iy20986 h20994) (h20994).1 (h20994).2 rfl rfl (by decide) (Nat.le_of_ble_eq_true rfl) (by decide) dX4_sealFault_30 (fun r20997 Y20998 h20999 => ?_)
    obtain ⟨Iy21000, Xy21001, h20999⟩ := h20999
    have q21002 := Xy21001.keep (h20996.at) (by decide) 5
    have Xz21003 : EK [3, 9] P Y20998 := Xz20991.tr (Xy21001.mono (by decide))
    have e21004 := Xy21001.ref h20994 (by decide) e20993
    have h21005 := Xy21001.at h20994
    have h21006 := Xy21001.ar h20996
    have h20999 : 0 ≤ r20997.toInt ∧ r20997.toInt ≤ 16005 := h20999
    exact ret _ _ _ _ _ _ dX4_sealFault_33 rfl (by decide) (by decide) ⟨Iy21000, Xz21003, (by omega)⟩
  · have h20978 : r20970.toInt ≠ 0 := ti_ne h20978
    refine g_iload_n C dX4_sealFault_13 rfl 0 rfl ?_
    exact ret _ _ _ _ _ _ dX4_sealFault_14 rfl (by decide) (by decide) ⟨Iy20973, Xz20975, (by omega)⟩
theorem dX4_statementFault_64 : decode cX4_statementFault 64 = .ok (.aload_n 0, 1) := by decide +kernel
theorem dX4_statementFault_65 : decode cX4_statementFault 65 = .ok (.getfield 21, 3) := by decide +kernel
theorem dX4_statementFault_68 : decode cX4_statementFault 68 = .ok (.getfield 65, 3) := by decide +kernel
theorem dX4_statementFault_71 : decode cX4_statementFault 71 = .ok (.iconst 4, 1) := by decide +kernel
theorem dX4_statementFault_72 : decode cX4_statementFault 72 = .ok (.if_icmp .lt 11, 3) := by decide +kernel
theorem dX4_statementFault_83 : decode cX4_statementFault 83 = .ok (.aload_n 0, 1) := by decide +kernel
theorem dX4_statementFault_84 : decode cX4_statementFault 84 = .ok (.iload_n 1, 1) := by decide +kernel
theorem dX4_statementFault_85 : decode cX4_statementFault 85 = .ok (.invokevirtual 68, 3) := by decide +kernel
theorem dX4_statementFault_111 : decode cX4_statementFault 111 = .ok (.aload_n 0, 1) := by decide +kernel
theorem dX4_statementFault_112 : decode cX4_statementFault 112 = .ok (.iconst 3, 1) := by decide +kernel
theorem dX4_statementFault_113 : decode cX4_statementFault 113 = .ok (.invokevirtual 57, 3) := by decide +kernel
theorem dX4_statementFault_116 : decode cX4_statementFault 116 = .ok (.goto 7, 3) := by decide +kernel
theorem dX4_statementFault_123 : decode cX4_statementFault 123 = .ok (.ireturn, 1) := by decide +kernel
theorem dX4_sumFault_0 : decode cX4_sumFault 0 = .ok (.iconst 0, 1) := by decide +kernel
theorem dX4_sumFault_1 : decode cX4_sumFault 1 = .ok (.istore_n 2, 1) := by decide +kernel
theorem dX4_sumFault_2 : decode cX4_sumFault 2 = .ok (.iconst 0, 1) := by decide +kernel
theorem dX4_sumFault_3 : decode cX4_sumFault 3 = .ok (.istore_n 3, 1) := by decide +kernel
theorem dX4_sumFault_4 : decode cX4_sumFault 4 = .ok (.iload_n 3, 1) := by decide +kernel
theorem dX4_sumFault_5 : decode cX4_sumFault 5 = .ok (.bipush 16, 2) := by decide +kernel
theorem dX4_sumFault_7 : decode cX4_sumFault 7 = .ok (.if_icmp .gt 129, 3) := by decide +kernel
theorem dX4_sumFault_10 : decode cX4_sumFault 10 = .ok (.aload_n 0, 1) := by decide +kernel
theorem dX4_sumFault_11 : decode cX4_sumFault 11 = .ok (.getfield 12, 3) := by decide +kernel
theorem dX4_sumFault_14 : decode cX4_sumFault 14 = .ok (.invokevirtual 31, 3) := by decide +kernel
theorem dX4_sumFault_17 : decode cX4_sumFault 17 = .ok (.aload_n 0, 1) := by decide +kernel
theorem dX4_sumFault_18 : decode cX4_sumFault 18 = .ok (.getfield 12, 3) := by decide +kernel
theorem dX4_sumFault_21 : decode cX4_sumFault 21 = .ok (.getfield 34, 3) := by decide +kernel
theorem dX4_sumFault_24 : decode cX4_sumFault 24 = .ok (.iconst 3, 1) := by decide +kernel
theorem dX4_sumFault_25 : decode cX4_sumFault 25 = .ok (.if_icmp .ne 39, 3) := by decide +kernel
theorem dX4_sumFault_28 : decode cX4_sumFault 28 = .ok (.iload_n 3, 1) := by decide +kernel
theorem dX4_sumFault_29 : decode cX4_sumFault 29 = .ok (.iconst 2, 1) := by decide +kernel
theorem dX4_sumFault_30 : decode cX4_sumFault 30 = .ok (.if_icmp .lt 34, 3) := by decide +kernel
theorem dX4_sumFault_33 : decode cX4_sumFault 33 = .ok (.aload_n 0, 1) := by decide +kernel
theorem dX4_sumFault_34 : decode cX4_sumFault 34 = .ok (.getfield 21, 3) := by decide +kernel
theorem dX4_sumFault_37 : decode cX4_sumFault 37 = .ok (.getfield 94, 3) := by decide +kernel
theorem dX4_sumFault_40 : decode cX4_sumFault 40 = .ok (.aload_n 0, 1) := by decide +kernel
theorem dX4_sumFault_41 : decode cX4_sumFault 41 = .ok (.getfield 21, 3) := by decide +kernel
theorem dX4_sumFault_44 : decode cX4_sumFault 44 = .ok (.getfield 65, 3) := by decide +kernel
theorem dX4_sumFault_47 : decode cX4_sumFault 47 = .ok (.iload_n 2, 1) := by decide +kernel
theorem dX4_sumFault_48 : decode cX4_sumFault 48 = .ok (.iastore, 1) := by decide +kernel
theorem dX4_sumFault_49 : decode cX4_sumFault 49 = .ok (.aload_n 0, 1) := by decide +kernel
theorem dX4_sumFault_50 : decode cX4_sumFault 50 = .ok (.getfield 21, 3) := by decide +kernel
theorem dX4_sumFault_53 : decode cX4_sumFault 53 = .ok (.dup, 1) := by decide +kernel
theorem dX4_sumFault_54 : decode cX4_sumFault 54 = .ok (.getfield 65, 3) := by decide +kernel
theorem dX4_sumFault_57 : decode cX4_sumFault 57 = .ok (.iconst 1, 1) := by decide +kernel
theorem dX4_sumFault_58 : decode cX4_sumFault 58 = .ok (.iadd, 1) := by decide +kernel
theorem dX4_sumFault_59 : decode cX4_sumFault 59 = .ok (.putfield 65, 3) := by decide +kernel
theorem dX4_sumFault_62 : decode cX4_sumFault 62 = .ok (.iconst 0, 1) := by decide +kernel
theorem dX4_sumFault_63 : decode cX4_sumFault 63 = .ok (.ireturn, 1) := by decide +kernel
theorem dX4_sumFault_64 : decode cX4_sumFault 64 = .ok (.aload_n 0, 1) := by decide +kernel
theorem dX4_sumFault_65 : decode cX4_sumFault 65 = .ok (.getfield 12, 3) := by decide +kernel
theorem dX4_sumFault_68 : decode cX4_sumFault 68 = .ok (.getfield 34, 3) := by decide +kernel
theorem dX4_sumFault_71 : decode cX4_sumFault 71 = .ok (.iconst 2, 1) := by decide +kernel
theorem dX4_sumFault_72 : decode cX4_sumFault 72 = .ok (.if_icmp .eq 9, 3) := by decide +kernel
theorem dX4_sumFault_75 : decode cX4_sumFault 75 = .ok (.aload_n 0, 1) := by decide +kernel
theorem dX4_sumFault_76 : decode cX4_sumFault 76 = .ok (.iconst 1, 1) := by decide +kernel
theorem dX4_sumFault_77 : decode cX4_sumFault 77 = .ok (.invokevirtual 57, 3) := by decide +kernel
theorem dX4_sumFault_80 : decode cX4_sumFault 80 = .ok (.ireturn, 1) := by decide +kernel
theorem dX4_sumFault_81 : decode cX4_sumFault 81 = .ok (.aload_n 0, 1) := by decide +kernel
theorem dX4_sumFault_82 : decode cX4_sumFault 82 = .ok (.getfield 12, 3) := by decide +kernel
theorem dX4_sumFault_85 : decode cX4_sumFault 85 = .ok (.getfield 82, 3) := by decide +kernel
theorem dX4_sumFault_88 : decode cX4_sumFault 88 = .ok (.iload_n 1, 1) := by decide +kernel
theorem dX4_sumFault_89 : decode cX4_sumFault 89 = .ok (.if_icmp .lt 9, 3) := by decide +kernel
theorem dX4_sumFault_92 : decode cX4_sumFault 92 = .ok (.aload_n 0, 1) := by decide +kernel
theorem dX4_sumFault_93 : decode cX4_sumFault 93 = .ok (.iconst 4, 1) := by decide +kernel
theorem dX4_sumFault_94 : decode cX4_sumFault 94 = .ok (.invokevirtual 57, 3) := by decide +kernel
theorem dX4_sumFault_97 : decode cX4_sumFault 97 = .ok (.ireturn, 1) := by decide +kernel
theorem dX4_sumFault_98 : decode cX4_sumFault 98 = .ok (.iload_n 2, 1) := by decide +kernel
theorem dX4_sumFault_99 : decode cX4_sumFault 99 = .ok (.aload_n 0, 1) := by decide +kernel
theorem dX4_sumFault_100 : decode cX4_sumFault 100 = .ok (.getfield 12, 3) := by decide +kernel
theorem dX4_sumFault_103 : decode cX4_sumFault 103 = .ok (.getfield 82, 3) := by decide +kernel
theorem dX4_sumFault_106 : decode cX4_sumFault 106 = .ok (.ishr, 1) := by decide +kernel
theorem dX4_sumFault_107 : decode cX4_sumFault 107 = .ok (.iconst 1, 1) := by decide +kernel
theorem dX4_sumFault_108 : decode cX4_sumFault 108 = .ok (.iand, 1) := by decide +kernel
theorem dX4_sumFault_109 : decode cX4_sumFault 109 = .ok (.ifCond .eq 9, 3) := by decide +kernel
theorem dX4_sumFault_112 : decode cX4_sumFault 112 = .ok (.aload_n 0, 1) := by decide +kernel
theorem dX4_sumFault_113 : decode cX4_sumFault 113 = .ok (.iconst 3, 1) := by decide +kernel
theorem dX4_sumFault_114 : decode cX4_sumFault 114 = .ok (.invokevirtual 57, 3) := by decide +kernel
theorem dX4_sumFault_117 : decode cX4_sumFault 117 = .ok (.ireturn, 1) := by decide +kernel
theorem dX4_sumFault_118 : decode cX4_sumFault 118 = .ok (.iload_n 2, 1) := by decide +kernel
theorem dX4_sumFault_119 : decode cX4_sumFault 119 = .ok (.iconst 1, 1) := by decide +kernel
theorem dX4_sumFault_120 : decode cX4_sumFault 120 = .ok (.aload_n 0, 1) := by decide +kernel
theorem dX4_sumFault_121 : decode cX4_sumFault 121 = .ok (.getfield 12, 3) := by decide +kernel
theorem dX4_sumFault_124 : decode cX4_sumFault 124 = .ok (.getfield 82, 3) := by decide +kernel
theorem dX4_sumFault_127 : decode cX4_sumFault 127 = .ok (.ishl, 1) := by decide +kernel
theorem dX4_sumFault_128 : decode cX4_sumFault 128 = .ok (.ior, 1) := by decide +kernel
theorem dX4_sumFault_129 : decode cX4_sumFault 129 = .ok (.istore_n 2, 1) := by decide +kernel
theorem dX4_sumFault_130 : decode cX4_sumFault 130 = .ok (.iinc 3 1, 3) := by decide +kernel
theorem dX4_sumFault_133 : decode cX4_sumFault 133 = .ok (.goto (-129), 3) := by decide +kernel
theorem dX4_sumFault_136 : decode cX4_sumFault 136 = .ok (.aload_n 0, 1) := by decide +kernel
theorem dX4_sumFault_137 : decode cX4_sumFault 137 = .ok (.iconst 1, 1) := by decide +kernel
theorem dX4_sumFault_138 : decode cX4_sumFault 138 = .ok (.invokevirtual 57, 3) := by decide +kernel
theorem dX4_sumFault_141 : decode cX4_sumFault 141 = .ok (.ireturn, 1) := by decide +kernel
set_option maxHeartbeats 4000000 in
set_option maxRecDepth 100000 in
theorem s_X4_sumFault {P : PP} {a0 : Nat} {a1 : Int32} (I : IV P) (ha0 : At P a0 4) (hf0 : ∀ b, pR P a0 1 = some b → 0 ≤ (pI P b 2).toInt ∧ (pI P b 2).toInt ≤ 3) : CtrI yX4_sumFault cX4_sumFault 4 (some Jvm.ClassFile.FieldType.int) ({ frames := 3, cells := 0, slots := 0, locals := 192 } : Room) 0 0 P [.ref a0, .int a1] (fun r P2 => IV P2 ∧ EK [3, 9, 13] P P2 ∧ (0 ≤ r.toInt ∧ r.toInt ≤ 16005)) := by
  refine enI (lv := [(0, .ref a0), (1, .int a1)]) (by decide) (Nat.le_of_ble_eq_true rfl) rfl (fun E D cy C Ci0 ret => ?_)
  have J4 : ∀ (n4 : Nat) (P4 : PP) (v4_2 : Int32) (v4_3 : Int32), (17 - v4_3.toInt).toNat < n4 → (IV P4) → (EK [3, 9, 13] P P4) → (0 ≤ v4_3.toInt ∧ v4_3.toInt ≤ 17) → (∀ b, pR P4 a0 1 = some b → 0 ≤ (pI P4 b 2).toInt ∧ (pI P4 b 2).toInt ≤ 3) → G E ({ frames := 3, cells := 0, slots := 0, locals := 192 } : Room) D cy 4 P4 0 0 4 [(0, .ref a0), (1, .int a1), (2, .int v4_2), (3, .int v4_3)] [] := by
    intro n4
    induction n4 with
    | zero => intro P4 v4_2 v4_3 hm4 I4 X4 hv4_3 hq4_0; omega
    | succ n4 ih4 =>
      intro P4 v4_2 v4_3 hm4 I4 X4 hv4_3 hq4_0
      have h21974 := X4.at ha0
      obtain ⟨b21975, e21976, h21977⟩ := I4.fld (h21974) 1 3 0 rfl
      have hq4_0 := hq4_0 b21975 e21976
      have J64 : ∀ (P64 : PP), (IV P64) → (EK [3, 9, 13] P P64) → (0 ≤ v4_3.toInt ∧ v4_3.toInt ≤ 16) → (∀ b, pR P64 a0 1 = some b → 0 ≤ (pI P64 b 2).toInt ∧ (pI P64 b 2).toInt ≤ 3) → G E ({ frames := 3, cells := 0, slots := 0, locals := 192 } : Room) D cy 4 P64 0 0 64 [(0, .ref a0), (1, .int a1), (2, .int v4_2), (3, .int v4_3)] [] := by
        intro P64 I64 X64 hv64_3 hq64_0
        have h21978 := X64.at ha0
        obtain ⟨b21979, e21980, h21981⟩ := I64.fld (h21978) 1 3 0 rfl
        have hq64_0 := hq64_0 b21979 e21980
        refine g_aload_n C dX4_sumFault_64 rfl 0 rfl ?_
        obtain ⟨b21982, e21983, h21984⟩ := I64.fld (h21978) 0 9 0 rfl
        refine g_getR C fi_X4_12 rfl e21983 (h21978).1 (h21978).2 dX4_sumFault_65 ?_
        refine g_getI C fi_X4_34 (by decide) (h21984.at).1 (h21984.at).2 dX4_sumFault_68 ?_
        refine g_iconst (v := 2) C dX4_sumFault_71 (by decide) ?_
        have u21986 := ti_rng (pI P64 b21982 2)
        refine b_icmp_eq C 81 dX4_sumFault_72 (by decide) (fun h21985 => ?_) (fun h21985 => ?_)
        · have h21985 : (pI P64 b21982 2).toInt = 2 := congrArg Int32.toInt h21985
          refine g_aload_n C dX4_sumFault_81 rfl 0 rfl ?_
          refine g_getR C fi_X4_12 rfl e21983 (h21978).1 (h21978).2 dX4_sumFault_82 ?_
          refine g_getI C fi_X4_82 (by decide) (h21984.at).1 (h21984.at).2 dX4_sumFault_85 ?_
          refine g_iload_n C dX4_sumFault_88 rfl 1 rfl ?_
          have u21988 := ti_rng (pI P64 b21982 5)
          have u21989 := ti_rng a1
          refine b_icmp_lt C 98 dX4_sumFault_89 (by decide) (fun h21987 => ?_) (fun h21987 => ?_)
          · have h21987 : (pI P64 b21982 5).toInt < a1.toInt := h21987
            refine g_iload_n C dX4_sumFault_98 rfl 2 rfl ?_
            refine g_aload_n C dX4_sumFault_99 rfl 0 rfl ?_
            refine g_getR C fi_X4_12 rfl e21983 (h21978).1 (h21978).2 dX4_sumFault_100 ?_
            refine g_getI C fi_X4_82 (by decide) (h21984.at).1 (h21984.at).2 dX4_sumFault_103 ?_
            refine a_ishr C dX4_sumFault_106 (fun z21990 => ?_)
            refine g_iconst (v := 1) C dX4_sumFault_107 (by decide) ?_
            refine s_iand C dX4_sumFault_108 (by show 0 ≤ 1; omega) (fun z21992 h21993 => ?_)
            have h21993 : 0 ≤ z21992.toInt ∧ z21992.toInt ≤ 1 := h21993
            refine b_if_eq C 118 dX4_sumFault_109 (by decide) (fun h21994 => ?_) (fun h21994 => ?_)
            · have h21994 : z21992.toInt = 0 := congrArg Int32.toInt h21994
              refine g_iload_n C dX4_sumFault_118 rfl 2 rfl ?_
              refine g_iconst (v := 1) C dX4_sumFault_119 (by decide) ?_
              refine g_aload_n C dX4_sumFault_120 rfl 0 rfl ?_
              refine g_getR C fi_X4_12 rfl e21983 (h21978).1 (h21978).2 dX4_sumFault_121 ?_
              refine g_getI C fi_X4_82 (by decide) (h21984.at).1 (h21984.at).2 dX4_sumFault_124 ?_
              refine a_ishl C dX4_sumFault_127 (fun z21995 => ?_)
              refine a_ior C dX4_sumFault_128 (fun z21997 => ?_)
              refine g_istore_n (lv' := [(2, .int z21997), (0, .ref a0), (1, .int a1), (3, .int v4_3)]) C dX4_sumFault_129 rfl (by decide) rfl ?_
              refine s_iinc (lv0 := [(2, .int z21997), (0, .ref a0), (1, .int a1)]) (m := 1) C dX4_sumFault_130 3 rfl (by decide) rfl (by decide) (by omega) (fun z21999 h22000 => ?_)
              have h22000 : z21999.toInt = v4_3.toInt + 1 := h22000
              refine g_goto C 4 dX4_sumFault_133 (by decide) ?_
              refine g_lv (lv' := [(0, .ref a0), (1, .int a1), (2, .int z21997), (3, .int z21999)]) [2, 3, 1, 0] rfl ?_
              exact ih4 P64 z21997 z21999 (by omega) I64 X64 (by omega) (fun b9 e9 => by rw [e21980] at e9; cases e9; omega)
            · have h21994 : z21992.toInt ≠ 0 := ti_ne h21994
              refine g_aload_n C dX4_sumFault_112 rfl 0 rfl ?_
              refine g_iconst (v := 3) C dX4_sumFault_113 (by decide) ?_
              refine g_callVI (rest := []) C mv_X4_57 [.int 3] (s_X4_wrong I64 h21978 (by decide)) (h21978).1 (h21978).2 rfl rfl (by decide) (Nat.le_of_ble_eq_true rfl) (by decide) dX4_sumFault_114 (fun r22001 Y22002 h22003 => ?_)
              obtain ⟨rfl, h22003⟩ := h22003
              have h22003 : 1 ≤ r22001.toInt ∧ r22001.toInt ≤ 16005 := h22003
              exact ret _ _ _ _ _ _ dX4_sumFault_117 rfl (by decide) (by decide) ⟨I64, X64, (by omega)⟩
          · have h21987 : a1.toInt ≤ (pI P64 b21982 5).toInt := h21987
            refine g_aload_n C dX4_sumFault_92 rfl 0 rfl ?_
            refine g_iconst (v := 4) C dX4_sumFault_93 (by decide) ?_
            refine g_callVI (rest := []) C mv_X4_57 [.int 4] (s_X4_wrong I64 h21978 (by decide)) (h21978).1 (h21978).2 rfl rfl (by decide) (Nat.le_of_ble_eq_true rfl) (by decide) dX4_sumFault_94 (fun r22004 Y22005 h22006 => ?_)
            obtain ⟨rfl, h22006⟩ := h22006
            have h22006 : 1 ≤ r22004.toInt ∧ r22004.toInt ≤ 16005 := h22006
            exact ret _ _ _ _ _ _ dX4_sumFault_97 rfl (by decide) (by decide) ⟨I64, X64, (by omega)⟩
        · have h21985 : (pI P64 b21982 2).toInt ≠ 2 := ti_ne h21985
          refine g_aload_n C dX4_sumFault_75 rfl 0 rfl ?_
          refine g_iconst (v := 1) C dX4_sumFault_76 (by decide) ?_
          refine g_callVI (rest := []) C mv_X4_57 [.int 1] (s_X4_wrong I64 h21978 (by decide)) (h21978).1 (h21978).2 rfl rfl (by decide) (Nat.le_of_ble_eq_true rfl) (by decide) dX4_sumFault_77 (fun r22007 Y22008 h22009 => ?_)
          obtain ⟨rfl, h22009⟩ := h22009
          have h22009 : 1 ≤ r22007.toInt ∧ r22007.toInt ≤ 16005 := h22009
          exact ret _ _ _ _ _ _ dX4_sumFault_80 rfl (by decide) (by decide) ⟨I64, X64, (by omega)⟩
      refine g_iload_n C dX4_sumFault_4 rfl 3 rfl ?_
      refine g_bipush (v := 16) C dX4_sumFault_5 (by decide) ?_
      refine b_icmp_gt C 136 dX4_sumFault_7 (by decide) (fun h22010 => ?_) (fun h22010 => ?_)
      · have h22010 : 16 < v4_3.toInt := h22010
        refine g_aload_n C dX4_sumFault_136 rfl 0 rfl ?_
        refine g_iconst (v := 1) C dX4_sumFault_137 (by decide) ?_
        refine g_callVI (rest := []) C mv_X4_57 [.int 1] (s_X4_wrong I4 h21974 (by decide)) (h21974).1 (h21974).2 rfl rfl (by decide) (Nat.le_of_ble_eq_true rfl) (by decide) dX4_sumFault_138 (fun r22011 Y22012 h22013 => ?_)
        obtain ⟨rfl, h22013⟩ := h22013
        have h22013 : 1 ≤ r22011.toInt ∧ r22011.toInt ≤ 16005 := h22013
        exact ret _ _ _ _ _ _ dX4_sumFault_141 rfl (by decide) (by decide) ⟨I4, X4, (by omega)⟩
      · have h22010 : v4_3.toInt ≤ 16 := h22010
        refine g_aload_n C dX4_sumFault_10 rfl 0 rfl ?_
        obtain ⟨b22014, e22015, h22016⟩ := I4.fld (h21974) 0 9 0 rfl
        refine g_getR C fi_X4_12 rfl e22015 (h21974).1 (h21974).2 dX4_sumFault_11 ?_
        refine g_callVV (rest := []) C mv_X4_31 [] (s_X9_next I4 h22016.at) (h22016.at).1 (h22016.at).2 rfl rfl (by decide) (Nat.le_of_ble_eq_true rfl) (by decide) dX4_sumFault_14 (fun Y22018 h22019 => ?_)
        obtain ⟨Iy22020, Xy22021⟩ := h22019
        have q22022 := Xy22021.keep (h21977.at) (by decide) 2
        have Xz22023 : EK [3, 9, 13] P Y22018 := X4.tr (Xy22021.mono (by decide))
        have e22024 := Xy22021.ref h21974 (by decide) e21976
        have h22025 := Xy22021.at h21974
        have h22026 := Xy22021.ar h21977
        refine g_aload_n C dX4_sumFault_17 rfl 0 rfl ?_
        obtain ⟨b22027, e22028, h22029⟩ := Iy22020.fld (h22025) 0 9 0 rfl
        refine g_getR C fi_X4_12 rfl e22028 (h22025).1 (h22025).2 dX4_sumFault_18 ?_
        refine g_getI C fi_X4_34 (by decide) (h22029.at).1 (h22029.at).2 dX4_sumFault_21 ?_
        refine g_iconst (v := 3) C dX4_sumFault_24 (by decide) ?_
        have u22031 := ti_rng (pI Y22018 b22027 2)
        refine b_icmp_ne C 64 dX4_sumFault_25 (by decide) (fun h22030 => ?_) (fun h22030 => ?_)
        · have h22030 : (pI Y22018 b22027 2).toInt ≠ 3 := ti_ne h22030
          exact J64 Y22018 Iy22020 Xz22023 (by omega) (fun b9 e9 => by rw [e22024] at e9; cases e9; omega)
        · have h22030 : (pI Y22018 b22027 2).toInt = 3 := congrArg Int32.toInt h22030
          refine g_iload_n C dX4_sumFault_28 rfl 3 rfl ?_
          refine g_iconst (v := 2) C dX4_sumFault_29 (by decide) ?_
          refine b_icmp_lt C 64 dX4_sumFault_30 (by decide) (fun h22032 => ?_) (fun h22032 => ?_)
          · have h22032 : v4_3.toInt < 2 := h22032
            exact J64 Y22018 Iy22020 Xz22023 (by omega) (fun b9 e9 => by rw [e22024] at e9; cases e9; omega)
          · have h22032 : 2 ≤ v4_3.toInt := h22032
            refine g_aload_n C dX4_sumFault_33 rfl 0 rfl ?_
            refine g_getR C fi_X4_21 rfl e22024 (h22025).1 (h22025).2 dX4_sumFault_34 ?_
            obtain ⟨b22033, e22034, h22035⟩ := Iy22020.fld (h22026.at) 1 13 4 rfl
            refine g_getR C fi_X4_94 rfl e22034 (h22026.at).1 (h22026.at).2 dX4_sumFault_37 ?_
            refine g_aload_n C dX4_sumFault_40 rfl 0 rfl ?_
            refine g_getR C fi_X4_21 rfl e22024 (h22025).1 (h22025).2 dX4_sumFault_41 ?_
            refine g_getI C fi_X4_65 (by decide) (h22026.at).1 (h22026.at).2 dX4_sumFault_44 ?_
            refine g_iload_n C dX4_sumFault_47 rfl 2 rfl ?_
            refine g_iast (j := ((pI Y22018 b21975 2).toInt.toNat)) C h22035.1 h22035.2.1 (ix_in h22035.2.2 (by omega)) dX4_sumFault_48 ?_
            refine gp (ks := [13]) (Iy22020.setA h22035 (by decide)) (EK.setI h22035.2.1 (by decide)) (fun Y22036 Iy22037 Xy22038 => ?_)
            have q22039 := Xy22038.keep (h22026.at) (by decide) 2
            have q22040 := Xy22038.keep (h22029.at) (by decide) 2
            have Xz22041 : EK [3, 9, 13] P Y22036 := Xz22023.tr (Xy22038.mono (by decide))
            have e22042 := Xy22038.ref h22025 (by decide) e22024
            have e22043 := Xy22038.ref h22025 (by decide) e22028
            have h22044 := Xy22038.at h22025
            have h22045 := Xy22038.ar h22026
            have h22046 := Xy22038.ar h22029
            refine g_aload_n C dX4_sumFault_49 rfl 0 rfl ?_
            refine g_getR C fi_X4_21 rfl e22042 (h22044).1 (h22044).2 dX4_sumFault_50 ?_
            refine g_dup C dX4_sumFault_53 rfl ?_
            refine g_getI C fi_X4_65 (by decide) (h22045.at).1 (h22045.at).2 dX4_sumFault_54 ?_
            refine g_iconst (v := 1) C dX4_sumFault_57 (by decide) ?_
            refine s_iadd C dX4_sumFault_58 (by show -2147483648 ≤ (pI Y22036 b21975 2).toInt + 1 ∧ (pI Y22036 b21975 2).toInt + 1 ≤ 2147483647; omega) (fun z22047 h22048 => ?_)
            have h22048 : z22047.toInt = (pI Y22036 b21975 2).toInt + 1 := h22048
            refine g_putI C fi_X4_65 rfl (h22045.at).1 (h22045.at).2 dX4_sumFault_59 ?_
            refine gpW (ks := [3]) (Iy22037.setI (h22045.at) (rgOk.of rfl (by omega))) (EK.setI (h22045.at).2 (by decide)) (fun Y22049 Iy22050 Xy22051 w22052 w22053 => ?_)
            have q22054 := Xy22051.keep (h22046.at) (by decide) 2
            have Xz22055 : EK [3, 9, 13] P Y22049 := Xz22041.tr (Xy22051.mono (by decide))
            have e22056 := Xy22051.ref h22044 (by decide) e22042
            have e22057 := Xy22051.ref h22044 (by decide) e22043
            have h22058 := Xy22051.at h22044
            have h22059 := Xy22051.ar h22045
            have h22060 := Xy22051.ar h22046
            refine g_iconst (v := 0) C dX4_sumFault_62 (by decide) ?_
            exact ret _ _ _ _ _ _ dX4_sumFault_63 rfl (by decide) (by decide) ⟨Iy22050, Xz22055, (by decide)⟩
  obtain ⟨b22061, e22062, h22063⟩ := I.fld (ha0) 1 3 0 rfl
  have hf0 := hf0 b22061 e22062
  refine g_iconst (v := 0) C dX4_sumFault_0 (by decide) ?_
  refine g_istore_n (lv' := [(2, .int 0), (0, .ref a0), (1, .int a1)]) C dX4_sumFault_1 rfl (by decide) rfl ?_
  refine g_iconst (v := 0) C dX4_sumFault_2 (by decide) ?_
  refine g_istore_n (lv' := [(3, .int 0), (2, .int 0), (0, .ref a0), (1, .int a1)]) C dX4_sumFault_3 rfl (by decide) rfl ?_
  refine g_lv (lv' := [(0, .ref a0), (1, .int a1), (2, .int 0), (3, .int 0)]) [2, 3, 1, 0] rfl ?_
  exact J4 _ P 0 0 (Nat.lt_succ_self _) I EK.rf (by decide) (fun b9 e9 => by rw [e22062] at e9; cases e9; omega)
theorem dX4_statementFault_29 : decode cX4_statementFault 29 = .ok (.aload_n 0, 1) := by decide +kernel
theorem dX4_statementFault_30 : decode cX4_statementFault 30 = .ok (.getfield 21, 3) := by decide +kernel
theorem dX4_statementFault_33 : decode cX4_statementFault 33 = .ok (.getfield 54, 3) := by decide +kernel
theorem dX4_statementFault_36 : decode cX4_statementFault 36 = .ok (.ifCond .eq 11, 3) := by decide +kernel
theorem dX4_statementFault_47 : decode cX4_statementFault 47 = .ok (.aload_n 0, 1) := by decide +kernel
theorem dX4_statementFault_48 : decode cX4_statementFault 48 = .ok (.invokevirtual 60, 3) := by decide +kernel
theorem dX4_statementFault_75 : decode cX4_statementFault 75 = .ok (.aload_n 0, 1) := by decide +kernel
theorem dX4_statementFault_76 : decode cX4_statementFault 76 = .ok (.iconst 5, 1) := by decide +kernel
theorem dX4_statementFault_77 : decode cX4_statementFault 77 = .ok (.invokevirtual 57, 3) := by decide +kernel
theorem dX4_statementFault_80 : decode cX4_statementFault 80 = .ok (.goto 8, 3) := by decide +kernel
theorem dX4_statementFault_88 : decode cX4_statementFault 88 = .ok (.ireturn, 1) := by decide +kernel
theorem dX4_firstFault_0 : decode cX4_firstFault 0 = .ok (.aload_n 0, 1) := by decide +kernel
theorem dX4_firstFault_1 : decode cX4_firstFault 1 = .ok (.iconst 1, 1) := by decide +kernel
theorem dX4_firstFault_2 : decode cX4_firstFault 2 = .ok (.bipush 16, 2) := by decide +kernel
theorem dX4_firstFault_4 : decode cX4_firstFault 4 = .ok (.invokevirtual 78, 3) := by decide +kernel
theorem dX4_firstFault_7 : decode cX4_firstFault 7 = .ok (.istore_n 1, 1) := by decide +kernel
theorem dX4_firstFault_8 : decode cX4_firstFault 8 = .ok (.iload_n 1, 1) := by decide +kernel
theorem dX4_firstFault_9 : decode cX4_firstFault 9 = .ok (.ifCond .eq 5, 3) := by decide +kernel
theorem dX4_firstFault_12 : decode cX4_firstFault 12 = .ok (.iload_n 1, 1) := by decide +kernel
theorem dX4_firstFault_13 : decode cX4_firstFault 13 = .ok (.ireturn, 1) := by decide +kernel
theorem dX4_firstFault_14 : decode cX4_firstFault 14 = .ok (.aload_n 0, 1) := by decide +kernel
theorem dX4_firstFault_15 : decode cX4_firstFault 15 = .ok (.getfield 21, 3) := by decide +kernel
theorem dX4_firstFault_18 : decode cX4_firstFault 18 = .ok (.aload_n 0, 1) := by decide +kernel
theorem dX4_firstFault_19 : decode cX4_firstFault 19 = .ok (.getfield 12, 3) := by decide +kernel
theorem dX4_firstFault_22 : decode cX4_firstFault 22 = .ok (.getfield 82, 3) := by decide +kernel
theorem dX4_firstFault_25 : decode cX4_firstFault 25 = .ok (.putfield 54, 3) := by decide +kernel
theorem dX4_firstFault_28 : decode cX4_firstFault 28 = .ok (.aload_n 0, 1) := by decide +kernel
theorem dX4_firstFault_29 : decode cX4_firstFault 29 = .ok (.iconst 2, 1) := by decide +kernel
theorem dX4_firstFault_30 : decode cX4_firstFault 30 = .ok (.bipush 9, 2) := by decide +kernel
theorem dX4_firstFault_32 : decode cX4_firstFault 32 = .ok (.invokevirtual 78, 3) := by decide +kernel
theorem dX4_firstFault_35 : decode cX4_firstFault 35 = .ok (.istore_n 1, 1) := by decide +kernel
theorem dX4_firstFault_36 : decode cX4_firstFault 36 = .ok (.iload_n 1, 1) := by decide +kernel
theorem dX4_firstFault_37 : decode cX4_firstFault 37 = .ok (.ifCond .eq 5, 3) := by decide +kernel
theorem dX4_firstFault_40 : decode cX4_firstFault 40 = .ok (.iload_n 1, 1) := by decide +kernel
theorem dX4_firstFault_41 : decode cX4_firstFault 41 = .ok (.ireturn, 1) := by decide +kernel
theorem dX4_firstFault_42 : decode cX4_firstFault 42 = .ok (.aload_n 0, 1) := by decide +kernel
theorem dX4_firstFault_43 : decode cX4_firstFault 43 = .ok (.getfield 21, 3) := by decide +kernel
theorem dX4_firstFault_46 : decode cX4_firstFault 46 = .ok (.aload_n 0, 1) := by decide +kernel
theorem dX4_firstFault_47 : decode cX4_firstFault 47 = .ok (.getfield 12, 3) := by decide +kernel
theorem dX4_firstFault_50 : decode cX4_firstFault 50 = .ok (.getfield 82, 3) := by decide +kernel
theorem dX4_firstFault_53 : decode cX4_firstFault 53 = .ok (.putfield 91, 3) := by decide +kernel
theorem dX4_firstFault_56 : decode cX4_firstFault 56 = .ok (.aload_n 0, 1) := by decide +kernel
theorem dX4_firstFault_57 : decode cX4_firstFault 57 = .ok (.invokevirtual 88, 3) := by decide +kernel
theorem dX4_firstFault_60 : decode cX4_firstFault 60 = .ok (.ireturn, 1) := by decide +kernel
set_option maxHeartbeats 4000000 in
set_option maxRecDepth 100000 in
theorem s_X4_firstFault {P : PP} {a0 : Nat} (I : IV P) (ha0 : At P a0 4) : CtrI yX4_firstFault cX4_firstFault 2 (some Jvm.ClassFile.FieldType.int) ({ frames := 4, cells := 0, slots := 0, locals := 256 } : Room) 0 0 P [.ref a0] (fun r P2 => IV P2 ∧ EK [3, 9] P P2 ∧ (0 ≤ r.toInt ∧ r.toInt ≤ 16005)) := by
  refine enI (lv := [(0, .ref a0)]) (by decide) (Nat.le_of_ble_eq_true rfl) rfl (fun E D cy C Ci0 ret => ?_)
  refine g_aload_n C dX4_firstFault_0 rfl 0 rfl ?_
  refine g_iconst (v := 1) C dX4_firstFault_1 (by decide) ?_
  refine g_bipush (v := 16) C dX4_firstFault_2 (by decide) ?_
  refine g_callVI (rest := []) C mv_X4_78 [.int 1, .int 16] (s_X4_numberFault I ha0) (ha0).1 (ha0).2 rfl rfl (by decide) (Nat.le_of_ble_eq_true rfl) (by decide) dX4_firstFault_4 (fun r22187 Y22188 h22189 => ?_)
  obtain ⟨Iy22190, Xy22191, h22189⟩ := h22189
  have Xz22192 : EK [3, 9] P Y22188 := Xy22191.mono (by decide)
  have h22193 := Xy22191.at ha0
  obtain ⟨h22189, hi22194⟩ := h22189
  have h22189 : 0 ≤ r22187.toInt ∧ r22187.toInt ≤ 16005 := h22189
  refine g_istore_n (lv' := [(1, .int r22187), (0, .ref a0)]) C dX4_firstFault_7 rfl (by decide) rfl ?_
  refine g_iload_n C dX4_firstFault_8 rfl 0 rfl ?_
  refine b_if_eq C 14 dX4_firstFault_9 (by decide) (fun h22195 => ?_) (fun h22195 => ?_)
  · have h22195 : r22187.toInt = 0 := congrArg Int32.toInt h22195
    obtain ⟨b22196, e22197, h22198⟩ := Iy22190.fld (h22193) 0 9 0 rfl
    have hi22194 := (hi22194.resolve_left (fun z => z h22195)) b22196 e22197
    have hi22194 : 1 ≤ (pI Y22188 b22196 5).toInt ∧ (pI Y22188 b22196 5).toInt ≤ 16 := hi22194
    refine g_aload_n C dX4_firstFault_14 rfl 1 rfl ?_
    obtain ⟨b22199, e22200, h22201⟩ := Iy22190.fld (h22193) 1 3 0 rfl
    refine g_getR C fi_X4_21 rfl e22200 (h22193).1 (h22193).2 dX4_firstFault_15 ?_
    refine g_aload_n C dX4_firstFault_18 rfl 1 rfl ?_
    refine g_getR C fi_X4_12 rfl e22197 (h22193).1 (h22193).2 dX4_firstFault_19 ?_
    refine g_getI C fi_X4_82 (by decide) (h22198.at).1 (h22198.at).2 dX4_firstFault_22 ?_
    refine g_putI C fi_X4_54 rfl (h22201.at).1 (h22201.at).2 dX4_firstFault_25 ?_
    refine gpW (ks := [3]) (Iy22190.setI (h22201.at) (rgOk.none rfl)) (EK.setI (h22201.at).2 (by decide)) (fun Y22202 Iy22203 Xy22204 w22205 w22206 => ?_)
    have q22207 := Xy22204.keep (h22198.at) (by decide) 5
    have Xz22208 : EK [3, 9] P Y22202 := Xz22192.tr (Xy22204.mono (by decide))
    have e22209 := Xy22204.ref h22193 (by decide) e22197
    have e22210 := Xy22204.ref h22193 (by decide) e22200
    have h22211 := Xy22204.at h22193
    have h22212 := Xy22204.ar h22198
    have h22213 := Xy22204.ar h22201
    refine g_aload_n C dX4_firstFault_28 rfl 1 rfl ?_
    refine g_iconst (v := 2) C dX4_firstFault_29 (by decide) ?_
    refine g_bipush (v := 9) C dX4_firstFault_30 (by decide) ?_
    refine g_callVI (rest := []) C mv_X4_78 [.int 2, .int 9] (s_X4_numberFault Iy22203 h22211) (h22211).1 (h22211).2 rfl rfl (by decide) (Nat.le_of_ble_eq_true rfl) (by decide) dX4_firstFault_32 (fun r22214 Y22215 h22216 => ?_)
    obtain ⟨Iy22217, Xy22218, h22216⟩ := h22216
    have q22219 := Xy22218.keep (h22213.at) (by decide) 3
    have Xz22220 : EK [3, 9] P Y22215 := Xz22208.tr (Xy22218.mono (by decide))
    have e22221 := Xy22218.ref h22211 (by decide) e22210
    have h22222 := Xy22218.at h22211
    have h22223 := Xy22218.ar h22213
    obtain ⟨h22216, hi22224⟩ := h22216
    have h22216 : 0 ≤ r22214.toInt ∧ r22214.toInt ≤ 16005 := h22216
    refine g_istore_n (lv' := [(1, .int r22214), (0, .ref a0)]) C dX4_firstFault_35 rfl (by decide) rfl ?_
    refine g_iload_n C dX4_firstFault_36 rfl 0 rfl ?_
    refine b_if_eq C 42 dX4_firstFault_37 (by decide) (fun h22225 => ?_) (fun h22225 => ?_)
    · have h22225 : r22214.toInt = 0 := congrArg Int32.toInt h22225
      obtain ⟨b22226, e22227, h22228⟩ := Iy22217.fld (h22222) 0 9 0 rfl
      have hi22224 := (hi22224.resolve_left (fun z => z h22225)) b22226 e22227
      have hi22224 : 2 ≤ (pI Y22215 b22226 5).toInt ∧ (pI Y22215 b22226 5).toInt ≤ 9 := hi22224
      refine g_aload_n C dX4_firstFault_42 rfl 1 rfl ?_
      refine g_getR C fi_X4_21 rfl e22221 (h22222).1 (h22222).2 dX4_firstFault_43 ?_
      refine g_aload_n C dX4_firstFault_46 rfl 1 rfl ?_
      refine g_getR C fi_X4_12 rfl e22227 (h22222).1 (h22222).2 dX4_firstFault_47 ?_
      refine g_getI C fi_X4_82 (by decide) (h22228.at).1 (h22228.at).2 dX4_firstFault_50 ?_
      refine g_putI C fi_X4_91 rfl (h22223.at).1 (h22223.at).2 dX4_firstFault_53 ?_
      refine gpW (ks := [3]) (Iy22217.setI (h22223.at) (rgOk.none rfl)) (EK.setI (h22223.at).2 (by decide)) (fun Y22229 Iy22230 Xy22231 w22232 w22233 => ?_)
      have q22234 := w22232 3 (by decide)
      have q22235 := Xy22231.keep (h22228.at) (by decide) 5
      have Xz22236 : EK [3, 9] P Y22229 := Xz22220.tr (Xy22231.mono (by decide))
      have e22237 := Xy22231.ref h22222 (by decide) e22221
      have e22238 := Xy22231.ref h22222 (by decide) e22227
      have h22239 := Xy22231.at h22222
      have h22240 := Xy22231.ar h22223
      have h22241 := Xy22231.ar h22228
      refine g_aload_n C dX4_firstFault_56 rfl 1 rfl ?_
      refine g_callVI (rest := []) C mv_X4_88 [] (s_X4_endFault Iy22230 h22239) (h22239).1 (h22239).2 rfl rfl (by decide) (Nat.le_of_ble_eq_true rfl) (by decide) dX4_firstFault_57 (fun r22242 Y22243 h22244 => ?_)
      obtain ⟨Iy22245, Xy22246, h22244⟩ := h22244
      have q22247 := Xy22246.keep (h22240.at) (by decide) 3
      have q22248 := Xy22246.keep (h22240.at) (by decide) 4
      have Xz22249 : EK [3, 9] P Y22243 := Xz22236.tr (Xy22246.mono (by decide))
      have e22250 := Xy22246.ref h22239 (by decide) e22237
      have h22251 := Xy22246.at h22239
      have h22252 := Xy22246.ar h22240
      have h22244 : 0 ≤ r22242.toInt ∧ r22242.toInt ≤ 16005 := h22244
      exact ret _ _ _ _ _ _ dX4_firstFault_60 rfl (by decide) (by decide) ⟨Iy22245, Xz22249, (by omega)⟩
    · have h22225 : r22214.toInt ≠ 0 := ti_ne h22225
      refine g_iload_n C dX4_firstFault_40 rfl 0 rfl ?_
      exact ret _ _ _ _ _ _ dX4_firstFault_41 rfl (by decide) (by decide) ⟨Iy22217, Xz22220, (by omega)⟩
  · have h22195 : r22187.toInt ≠ 0 := ti_ne h22195
    refine g_iload_n C dX4_firstFault_12 rfl 0 rfl ?_
    exact ret _ _ _ _ _ _ dX4_firstFault_13 rfl (by decide) (by decide) ⟨Iy22190, Xz22192, (by omega)⟩
theorem dX4_statementFault_12 : decode cX4_statementFault 12 = .ok (.aload_n 0, 1) := by decide +kernel
theorem dX4_statementFault_13 : decode cX4_statementFault 13 = .ok (.invokevirtual 48, 3) := by decide +kernel
theorem dX4_statementFault_39 : decode cX4_statementFault 39 = .ok (.aload_n 0, 1) := by decide +kernel
theorem dX4_statementFault_40 : decode cX4_statementFault 40 = .ok (.iconst 3, 1) := by decide +kernel
theorem dX4_statementFault_41 : decode cX4_statementFault 41 = .ok (.invokevirtual 57, 3) := by decide +kernel
theorem dX4_statementFault_44 : decode cX4_statementFault 44 = .ok (.goto 7, 3) := by decide +kernel
theorem dX4_statementFault_51 : decode cX4_statementFault 51 = .ok (.ireturn, 1) := by decide +kernel
theorem dX4_oddsFault_0 : decode cX4_oddsFault 0 = .ok (.aload_n 0, 1) := by decide +kernel
theorem dX4_oddsFault_1 : decode cX4_oddsFault 1 = .ok (.iconst 1, 1) := by decide +kernel
theorem dX4_oddsFault_2 : decode cX4_oddsFault 2 = .ok (.bipush 20, 2) := by decide +kernel
theorem dX4_oddsFault_4 : decode cX4_oddsFault 4 = .ok (.invokevirtual 78, 3) := by decide +kernel
theorem dX4_oddsFault_7 : decode cX4_oddsFault 7 = .ok (.istore_n 1, 1) := by decide +kernel
theorem dX4_oddsFault_8 : decode cX4_oddsFault 8 = .ok (.iload_n 1, 1) := by decide +kernel
theorem dX4_oddsFault_9 : decode cX4_oddsFault 9 = .ok (.ifCond .eq 5, 3) := by decide +kernel
theorem dX4_oddsFault_12 : decode cX4_oddsFault 12 = .ok (.iload_n 1, 1) := by decide +kernel
theorem dX4_oddsFault_13 : decode cX4_oddsFault 13 = .ok (.ireturn, 1) := by decide +kernel
theorem dX4_oddsFault_14 : decode cX4_oddsFault 14 = .ok (.aload_n 0, 1) := by decide +kernel
theorem dX4_oddsFault_15 : decode cX4_oddsFault 15 = .ok (.getfield 12, 3) := by decide +kernel
theorem dX4_oddsFault_18 : decode cX4_oddsFault 18 = .ok (.getfield 82, 3) := by decide +kernel
theorem dX4_oddsFault_21 : decode cX4_oddsFault 21 = .ok (.istore_n 2, 1) := by decide +kernel
theorem dX4_oddsFault_22 : decode cX4_oddsFault 22 = .ok (.aload_n 0, 1) := by decide +kernel
theorem dX4_oddsFault_23 : decode cX4_oddsFault 23 = .ok (.getfield 21, 3) := by decide +kernel
theorem dX4_oddsFault_26 : decode cX4_oddsFault 26 = .ok (.getfield 85, 3) := by decide +kernel
theorem dX4_oddsFault_29 : decode cX4_oddsFault 29 = .ok (.iload_n 2, 1) := by decide +kernel
theorem dX4_oddsFault_30 : decode cX4_oddsFault 30 = .ok (.iaload, 1) := by decide +kernel
theorem dX4_oddsFault_31 : decode cX4_oddsFault 31 = .ok (.iconst (-1), 1) := by decide +kernel
theorem dX4_oddsFault_32 : decode cX4_oddsFault 32 = .ok (.if_icmp .eq 9, 3) := by decide +kernel
theorem dX4_oddsFault_35 : decode cX4_oddsFault 35 = .ok (.aload_n 0, 1) := by decide +kernel
theorem dX4_oddsFault_36 : decode cX4_oddsFault 36 = .ok (.iconst 3, 1) := by decide +kernel
theorem dX4_oddsFault_37 : decode cX4_oddsFault 37 = .ok (.invokevirtual 57, 3) := by decide +kernel
theorem dX4_oddsFault_40 : decode cX4_oddsFault 40 = .ok (.ireturn, 1) := by decide +kernel
theorem dX4_oddsFault_41 : decode cX4_oddsFault 41 = .ok (.aload_n 0, 1) := by decide +kernel
theorem dX4_oddsFault_42 : decode cX4_oddsFault 42 = .ok (.iconst 0, 1) := by decide +kernel
theorem dX4_oddsFault_43 : decode cX4_oddsFault 43 = .ok (.sipush 999, 3) := by decide +kernel
theorem dX4_oddsFault_46 : decode cX4_oddsFault 46 = .ok (.invokevirtual 78, 3) := by decide +kernel
theorem dX4_oddsFault_49 : decode cX4_oddsFault 49 = .ok (.istore_n 1, 1) := by decide +kernel
theorem dX4_oddsFault_50 : decode cX4_oddsFault 50 = .ok (.iload_n 1, 1) := by decide +kernel
theorem dX4_oddsFault_51 : decode cX4_oddsFault 51 = .ok (.ifCond .eq 5, 3) := by decide +kernel
theorem dX4_oddsFault_54 : decode cX4_oddsFault 54 = .ok (.iload_n 1, 1) := by decide +kernel
theorem dX4_oddsFault_55 : decode cX4_oddsFault 55 = .ok (.ireturn, 1) := by decide +kernel
theorem dX4_oddsFault_56 : decode cX4_oddsFault 56 = .ok (.aload_n 0, 1) := by decide +kernel
theorem dX4_oddsFault_57 : decode cX4_oddsFault 57 = .ok (.getfield 21, 3) := by decide +kernel
theorem dX4_oddsFault_60 : decode cX4_oddsFault 60 = .ok (.getfield 85, 3) := by decide +kernel
theorem dX4_oddsFault_63 : decode cX4_oddsFault 63 = .ok (.iload_n 2, 1) := by decide +kernel
theorem dX4_oddsFault_64 : decode cX4_oddsFault 64 = .ok (.aload_n 0, 1) := by decide +kernel
theorem dX4_oddsFault_65 : decode cX4_oddsFault 65 = .ok (.getfield 12, 3) := by decide +kernel
theorem dX4_oddsFault_68 : decode cX4_oddsFault 68 = .ok (.getfield 82, 3) := by decide +kernel
theorem dX4_oddsFault_71 : decode cX4_oddsFault 71 = .ok (.iastore, 1) := by decide +kernel
theorem dX4_oddsFault_72 : decode cX4_oddsFault 72 = .ok (.aload_n 0, 1) := by decide +kernel
theorem dX4_oddsFault_73 : decode cX4_oddsFault 73 = .ok (.invokevirtual 88, 3) := by decide +kernel
theorem dX4_oddsFault_76 : decode cX4_oddsFault 76 = .ok (.ireturn, 1) := by decide +kernel
set_option maxHeartbeats 4000000 in
set_option maxRecDepth 100000 in
theorem s_X4_oddsFault {P : PP} {a0 : Nat} (I : IV P) (ha0 : At P a0 4) : CtrI yX4_oddsFault cX4_oddsFault 3 (some Jvm.ClassFile.FieldType.int) ({ frames := 4, cells := 0, slots := 0, locals := 256 } : Room) 0 0 P [.ref a0] (fun r P2 => IV P2 ∧ EK [9, 13] P P2 ∧ (0 ≤ r.toInt ∧ r.toInt ≤ 16005)) := by
  refine enI (lv := [(0, .ref a0)]) (by decide) (Nat.le_of_ble_eq_true rfl) rfl (fun E D cy C Ci0 ret => ?_)
  refine g_aload_n C dX4_oddsFault_0 rfl 0 rfl ?_
  refine g_iconst (v := 1) C dX4_oddsFault_1 (by decide) ?_
  refine g_bipush (v := 20) C dX4_oddsFault_2 (by decide) ?_
  refine g_callVI (rest := []) C mv_X4_78 [.int 1, .int 20] (s_X4_numberFault I ha0) (ha0).1 (ha0).2 rfl rfl (by decide) (Nat.le_of_ble_eq_true rfl) (by decide) dX4_oddsFault_4 (fun r22379 Y22380 h22381 => ?_)
  obtain ⟨Iy22382, Xy22383, h22381⟩ := h22381
  have Xz22384 : EK [9, 13] P Y22380 := Xy22383.mono (by decide)
  have h22385 := Xy22383.at ha0
  obtain ⟨h22381, hi22386⟩ := h22381
  have h22381 : 0 ≤ r22379.toInt ∧ r22379.toInt ≤ 16005 := h22381
  refine g_istore_n (lv' := [(1, .int r22379), (0, .ref a0)]) C dX4_oddsFault_7 rfl (by decide) rfl ?_
  refine g_iload_n C dX4_oddsFault_8 rfl 0 rfl ?_
  refine b_if_eq C 14 dX4_oddsFault_9 (by decide) (fun h22387 => ?_) (fun h22387 => ?_)
  · have h22387 : r22379.toInt = 0 := congrArg Int32.toInt h22387
    obtain ⟨b22388, e22389, h22390⟩ := Iy22382.fld (h22385) 0 9 0 rfl
    have hi22386 := (hi22386.resolve_left (fun z => z h22387)) b22388 e22389
    have hi22386 : 1 ≤ (pI Y22380 b22388 5).toInt ∧ (pI Y22380 b22388 5).toInt ≤ 20 := hi22386
    refine g_aload_n C dX4_oddsFault_14 rfl 1 rfl ?_
    refine g_getR C fi_X4_12 rfl e22389 (h22385).1 (h22385).2 dX4_oddsFault_15 ?_
    refine g_getI C fi_X4_82 (by decide) (h22390.at).1 (h22390.at).2 dX4_oddsFault_18 ?_
    refine g_topi (fun z22391 h22392 => ?_)
    have h22392 : z22391.toInt = (pI Y22380 b22388 5).toInt := congrArg Int32.toInt h22392
    refine g_istore_n (lv' := [(2, .int z22391), (1, .int r22379), (0, .ref a0)]) C dX4_oddsFault_21 rfl (by decide) rfl ?_
    refine g_aload_n C dX4_oddsFault_22 rfl 2 rfl ?_
    obtain ⟨b22393, e22394, h22395⟩ := Iy22382.fld (h22385) 1 3 0 rfl
    refine g_getR C fi_X4_21 rfl e22394 (h22385).1 (h22385).2 dX4_oddsFault_23 ?_
    obtain ⟨b22396, e22397, h22398⟩ := Iy22382.fld (h22395.at) 0 13 21 rfl
    refine g_getR C fi_X4_85 rfl e22397 (h22395.at).1 (h22395.at).2 dX4_oddsFault_26 ?_
    refine g_iload_n C dX4_oddsFault_29 rfl 0 rfl ?_
    refine g_iald (j := (z22391.toInt.toNat)) C h22398.1 h22398.2.1 (ix_in h22398.2.2 (by omega)) dX4_oddsFault_30 ?_
    refine g_topi (fun z22399 _ => ?_)
    refine g_iconst (v := (-1)) C dX4_oddsFault_31 (by decide) ?_
    have u22401 := ti_rng z22399
    refine b_icmp_eq C 41 dX4_oddsFault_32 (by decide) (fun h22400 => ?_) (fun h22400 => ?_)
    · have h22400 : z22399.toInt = (-1) := congrArg Int32.toInt h22400
      refine g_aload_n C dX4_oddsFault_41 rfl 2 rfl ?_
      refine g_iconst (v := 0) C dX4_oddsFault_42 (by decide) ?_
      refine g_sipush (v := 999) C dX4_oddsFault_43 (by decide) ?_
      refine g_callVI (rest := []) C mv_X4_78 [.int 0, .int 999] (s_X4_numberFault Iy22382 h22385) (h22385).1 (h22385).2 rfl rfl (by decide) (Nat.le_of_ble_eq_true rfl) (by decide) dX4_oddsFault_46 (fun r22402 Y22403 h22404 => ?_)
      obtain ⟨Iy22405, Xy22406, h22404⟩ := h22404
      have Xz22407 : EK [9, 13] P Y22403 := Xz22384.tr (Xy22406.mono (by decide))
      have h22408 := Xy22406.at h22385
      obtain ⟨h22404, hi22409⟩ := h22404
      have h22404 : 0 ≤ r22402.toInt ∧ r22402.toInt ≤ 16005 := h22404
      refine g_istore_n (lv' := [(1, .int r22402), (2, .int z22391), (0, .ref a0)]) C dX4_oddsFault_49 rfl (by decide) rfl ?_
      refine g_iload_n C dX4_oddsFault_50 rfl 0 rfl ?_
      refine b_if_eq C 56 dX4_oddsFault_51 (by decide) (fun h22410 => ?_) (fun h22410 => ?_)
      · have h22410 : r22402.toInt = 0 := congrArg Int32.toInt h22410
        obtain ⟨b22411, e22412, h22413⟩ := Iy22405.fld (h22408) 0 9 0 rfl
        have hi22409 := (hi22409.resolve_left (fun z => z h22410)) b22411 e22412
        have hi22409 : 0 ≤ (pI Y22403 b22411 5).toInt ∧ (pI Y22403 b22411 5).toInt ≤ 999 := hi22409
        refine g_aload_n C dX4_oddsFault_56 rfl 2 rfl ?_
        obtain ⟨b22414, e22415, h22416⟩ := Iy22405.fld (h22408) 1 3 0 rfl
        refine g_getR C fi_X4_21 rfl e22415 (h22408).1 (h22408).2 dX4_oddsFault_57 ?_
        obtain ⟨b22417, e22418, h22419⟩ := Iy22405.fld (h22416.at) 0 13 21 rfl
        refine g_getR C fi_X4_85 rfl e22418 (h22416.at).1 (h22416.at).2 dX4_oddsFault_60 ?_
        refine g_iload_n C dX4_oddsFault_63 rfl 1 rfl ?_
        refine g_aload_n C dX4_oddsFault_64 rfl 2 rfl ?_
        refine g_getR C fi_X4_12 rfl e22412 (h22408).1 (h22408).2 dX4_oddsFault_65 ?_
        refine g_getI C fi_X4_82 (by decide) (h22413.at).1 (h22413.at).2 dX4_oddsFault_68 ?_
        refine g_iast (j := (z22391.toInt.toNat)) C h22419.1 h22419.2.1 (ix_in h22419.2.2 (by omega)) dX4_oddsFault_71 ?_
        refine gp (ks := [13]) (Iy22405.setA h22419 (by decide)) (EK.setI h22419.2.1 (by decide)) (fun Y22420 Iy22421 Xy22422 => ?_)
        have q22423 := Xy22422.keep (h22413.at) (by decide) 5
        have Xz22424 : EK [9, 13] P Y22420 := Xz22407.tr (Xy22422.mono (by decide))
        have e22425 := Xy22422.ref h22408 (by decide) e22412
        have h22426 := Xy22422.at h22408
        have h22427 := Xy22422.ar h22413
        refine g_aload_n C dX4_oddsFault_72 rfl 2 rfl ?_
        refine g_callVI (rest := []) C mv_X4_88 [] (s_X4_endFault Iy22421 h22426) (h22426).1 (h22426).2 rfl rfl (by decide) (Nat.le_of_ble_eq_true rfl) (by decide) dX4_oddsFault_73 (fun r22428 Y22429 h22430 => ?_)
        obtain ⟨Iy22431, Xy22432, h22430⟩ := h22430
        have Xz22433 : EK [9, 13] P Y22429 := Xz22424.tr (Xy22432.mono (by decide))
        have h22434 := Xy22432.at h22426
        have h22430 : 0 ≤ r22428.toInt ∧ r22428.toInt ≤ 16005 := h22430
        exact ret _ _ _ _ _ _ dX4_oddsFault_76 rfl (by decide) (by decide) ⟨Iy22431, Xz22433, (by omega)⟩
      · have h22410 : r22402.toInt ≠ 0 := ti_ne h22410
        refine g_iload_n C dX4_oddsFault_54 rfl 0 rfl ?_
        exact ret _ _ _ _ _ _ dX4_oddsFault_55 rfl (by decide) (by decide) ⟨Iy22405, Xz22407, (by omega)⟩
    · have h22400 : z22399.toInt ≠ (-1) := ti_ne h22400
      refine g_aload_n C dX4_oddsFault_35 rfl 2 rfl ?_
      refine g_iconst (v := 3) C dX4_oddsFault_36 (by decide) ?_
      refine g_callVI (rest := []) C mv_X4_57 [.int 3] (s_X4_wrong Iy22382 h22385 (by decide)) (h22385).1 (h22385).2 rfl rfl (by decide) (Nat.le_of_ble_eq_true rfl) (by decide) dX4_oddsFault_37 (fun r22435 Y22436 h22437 => ?_)
      obtain ⟨rfl, h22437⟩ := h22437
      have h22437 : 1 ≤ r22435.toInt ∧ r22435.toInt ≤ 16005 := h22437
      exact ret _ _ _ _ _ _ dX4_oddsFault_40 rfl (by decide) (by decide) ⟨Iy22382, Xz22384, (by omega)⟩
  · have h22387 : r22379.toInt ≠ 0 := ti_ne h22387
    refine g_iload_n C dX4_oddsFault_12 rfl 0 rfl ?_
    exact ret _ _ _ _ _ _ dX4_oddsFault_13 rfl (by decide) (by decide) ⟨Iy22382, Xz22384, (by omega)⟩
theorem dX4_statementFault_16 : decode cX4_statementFault 16 = .ok (.ireturn, 1) := by decide +kernel
set_option maxHeartbeats 4000000 in
set_option maxRecDepth 100000 in
theorem s_X4_statementFault {P : PP} {a0 : Nat} {a1 : Int32} (I : IV P) (ha0 : At P a0 4) : CtrI yX4_statementFault cX4_statementFault 2 (some Jvm.ClassFile.FieldType.int) ({ frames := 6, cells := 0, slots := 0, locals := 384 } : Room) 0 0 P [.ref a0, .int a1] (fun r P2 => IV P2 ∧ EK [3, 9, 13] P P2 ∧ (0 ≤ r.toInt ∧ r.toInt ≤ 16005)) := by
  refine enI (lv := [(0, .ref a0), (1, .int a1)]) (by decide) (Nat.le_of_ble_eq_true rfl) rfl (fun E D cy C Ci0 ret => ?_)
  refine g_aload_n C dX4_statementFault_0 rfl 0 rfl ?_
  obtain ⟨b22512, e22513, h22514⟩ := I.fld (ha0) 0 9 0 rfl
  refine g_getR C fi_X4_12 rfl e22513 (ha0).1 (ha0).2 dX4_statementFault_1 ?_
  refine g_ldcS (i := 0) C (by decide) dX4_statementFault_4 ?_
  refine g_callVIx (rest := []) C mv_X4_44 [.ref (D.2 100 0)] (s_X9_isWord (i9 := 0) I h22514.at (by decide) D cy) (h22514.at).1 (h22514.at).2 rfl rfl (by decide) (Nat.le_of_ble_eq_true rfl) (by decide) dX4_statementFault_6 (fun r22515 Y22516 h22517 => ?_)
  obtain ⟨rfl, h22517⟩ := h22517
  have h22517 : 0 ≤ r22515.toInt ∧ r22515.toInt ≤ 1 := h22517
  refine b_if_eq C 17 dX4_statementFault_9 (by decide) (fun h22518 => ?_) (fun h22518 => ?_)
  · have h22518 : r22515.toInt = 0 := congrArg Int32.toInt h22518
    refine g_aload_n C dX4_statementFault_17 rfl 0 rfl ?_
    refine g_getR C fi_X4_12 rfl e22513 (ha0).1 (ha0).2 dX4_statementFault_18 ?_
    refine g_ldcS (i := 1) C (by decide) dX4_statementFault_21 ?_
    refine g_callVIx (rest := []) C mv_X4_44 [.ref (D.2 100 1)] (s_X9_isWord (i9 := 1) I h22514.at (by decide) D cy) (h22514.at).1 (h22514.at).2 rfl rfl (by decide) (Nat.le_of_ble_eq_true rfl) (by decide) dX4_statementFault_23 (fun r22519 Y22520 h22521 => ?_)
    obtain ⟨rfl, h22521⟩ := h22521
    have h22521 : 0 ≤ r22519.toInt ∧ r22519.toInt ≤ 1 := h22521
    refine b_if_eq C 52 dX4_statementFault_26 (by decide) (fun h22522 => ?_) (fun h22522 => ?_)
    · have h22522 : r22519.toInt = 0 := congrArg Int32.toInt h22522
      refine g_aload_n C dX4_statementFault_52 rfl 0 rfl ?_
      refine g_getR C fi_X4_12 rfl e22513 (ha0).1 (ha0).2 dX4_statementFault_53 ?_
      refine g_ldcS (i := 2) C (by decide) dX4_statementFault_56 ?_
      refine g_callVIx (rest := []) C mv_X4_44 [.ref (D.2 100 2)] (s_X9_isWord (i9 := 2) I h22514.at (by decide) D cy) (h22514.at).1 (h22514.at).2 rfl rfl (by decide) (Nat.le_of_ble_eq_true rfl) (by decide) dX4_statementFault_58 (fun r22523 Y22524 h22525 => ?_)
      obtain ⟨rfl, h22525⟩ := h22525
      have h22525 : 0 ≤ r22523.toInt ∧ r22523.toInt ≤ 1 := h22525
      refine b_if_eq C 89 dX4_statementFault_61 (by decide) (fun h22526 => ?_) (fun h22526 => ?_)
      · have h22526 : r22523.toInt = 0 := congrArg Int32.toInt h22526
        refine g_aload_n C dX4_statementFault_89 rfl 0 rfl ?_
        refine g_getR C fi_X4_12 rfl e22513 (ha0).1 (ha0).2 dX4_statementFault_90 ?_
        refine g_ldcS (i := 3) C (by decide) dX4_statementFault_93 ?_
        refine g_callVIx (rest := []) C mv_X4_44 [.ref (D.2 100 3)] (s_X9_isWord (i9 := 3) I h22514.at (by decide) D cy) (h22514.at).1 (h22514.at).2 rfl rfl (by decide) (Nat.le_of_ble_eq_true rfl) (by decide) dX4_statementFault_95 (fun r22527 Y22528 h22529 => ?_)
        obtain ⟨rfl, h22529⟩ := h22529
        have h22529 : 0 ≤ r22527.toInt ∧ r22527.toInt ≤ 1 := h22529
        refine b_if_eq C 124 dX4_statementFault_98 (by decide) (fun h22530 => ?_) (fun h22530 => ?_)
        · have h22530 : r22527.toInt = 0 := congrArg Int32.toInt h22530
          refine g_aload_n C dX4_statementFault_124 rfl 0 rfl ?_
          refine g_iconst (v := 1) C dX4_statementFault_125 (by decide) ?_
          refine g_callVI (rest := []) C mv_X4_57 [.int 1] (s_X4_wrong I ha0 (by decide)) (ha0).1 (ha0).2 rfl rfl (by decide) (Nat.le_of_ble_eq_true rfl) (by decide) dX4_statementFault_126 (fun r22531 Y22532 h22533 => ?_)
          obtain ⟨rfl, h22533⟩ := h22533
          have h22533 : 1 ≤ r22531.toInt ∧ r22531.toInt ≤ 16005 := h22533
          exact ret _ _ _ _ _ _ dX4_statementFault_129 rfl (by decide) (by decide) ⟨I, EK.rf, (by omega)⟩
        · have h22530 : r22527.toInt ≠ 0 := ti_ne h22530
          refine g_aload_n C dX4_statementFault_101 rfl 0 rfl ?_
          obtain ⟨b22534, e22535, h22536⟩ := I.fld (ha0) 1 3 0 rfl
          refine g_getR C fi_X4_21 rfl e22535 (ha0).1 (ha0).2 dX4_statementFault_102 ?_
          refine g_getI C fi_X4_73 (by decide) (h22536.at).1 (h22536.at).2 dX4_statementFault_105 ?_
          have u22538 := ti_rng (pI P b22534 5)
          refine b_if_eq C 119 dX4_statementFault_108 (by decide) (fun h22537 => ?_) (fun h22537 => ?_)
          · have h22537 : (pI P b22534 5).toInt = 0 := congrArg Int32.toInt h22537
            refine g_aload_n C dX4_statementFault_119 rfl 0 rfl ?_
            refine g_callVI (rest := []) C mv_X4_75 [] (s_X4_sealFault I ha0) (ha0).1 (ha0).2 rfl rfl (by decide) (Nat.le_of_ble_eq_true rfl) (by decide) dX4_statementFault_120 (fun r22539 Y22540 h22541 => ?_)
            obtain ⟨Iy22542, Xy22543, h22541⟩ := h22541
            have Xz22544 : EK [3, 9, 13] P Y22540 := Xy22543.mono (by decide)
            have h22545 := Xy22543.at ha0
            have h22541 : 0 ≤ r22539.toInt ∧ r22539.toInt ≤ 16005 := h22541
            exact ret _ _ _ _ _ _ dX4_statementFault_123 rfl (by decide) (by decide) ⟨Iy22542, Xz22544, (by omega)⟩
          · have h22537 : (pI P b22534 5).toInt ≠ 0 := ti_ne h22537
            refine g_aload_n C dX4_statementFault_111 rfl 0 rfl ?_
            refine g_iconst (v := 3) C dX4_statementFault_112 (by decide) ?_
            refine g_callVI (rest := []) C mv_X4_57 [.int 3] (s_X4_wrong I ha0 (by decide)) (ha0).1 (ha0).2 rfl rfl (by decide) (Nat.le_of_ble_eq_true rfl) (by decide) dX4_statementFault_113 (fun r22546 Y22547 h22548 => ?_)
            obtain ⟨rfl, h22548⟩ := h22548
            have h22548 : 1 ≤ r22546.toInt ∧ r22546.toInt ≤ 16005 := h22548
            refine g_goto C 123 dX4_statementFault_116 (by decide) ?_
            exact ret _ _ _ _ _ _ dX4_statementFault_123 rfl (by decide) (by decide) ⟨I, EK.rf, (by omega)⟩
      · have h22526 : r22523.toInt ≠ 0 := ti_ne h22526
        refine g_aload_n C dX4_statementFault_64 rfl 0 rfl ?_
        obtain ⟨b22549, e22550, h22551⟩ := I.fld (ha0) 1 3 0 rfl
        refine g_getR C fi_X4_21 rfl e22550 (ha0).1 (ha0).2 dX4_statementFault_65 ?_
        refine g_getI C fi_X4_65 (by decide) (h22551.at).1 (h22551.at).2 dX4_statementFault_68 ?_
        have h22552 := I.rg (h22551.at) 2 rfl
        refine g_iconst (v := 4) C dX4_statementFault_71 (by decide) ?_
        refine b_icmp_lt C 83 dX4_statementFault_72 (by decide) (fun h22553 => ?_) (fun h22553 => ?_)
        · have h22553 : (pI P b22549 2).toInt < 4 := h22553
          refine g_aload_n C dX4_statementFault_83 rfl 0 rfl ?_
          refine g_iload_n C dX4_statementFault_84 rfl 1 rfl ?_
          refine g_callVI (rest := []) C mv_X4_68 [.int a1] (s_X4_sumFault I ha0 (fun b9 e9 => by rw [e22550] at e9; cases e9; show 0 ≤ (pI P b22549 2).toInt ∧ (pI P b22549 2).toInt ≤ 3; omega)) (ha0).1 (ha0).2 rfl rfl (by decide) (Nat.le_of_ble_eq_true rfl) (by decide) dX4_statementFault_85 (fun r22554 Y22555 h22556 => ?_)
          obtain ⟨Iy22557, Xy22558, h22556⟩ := h22556
          have Xz22559 : EK [3, 9, 13] P Y22555 := Xy22558.mono (by decide)
          have h22560 := Xy22558.at ha0
          have h22556 : 0 ≤ r22554.toInt ∧ r22554.toInt ≤ 16005 := h22556
          exact ret _ _ _ _ _ _ dX4_statementFault_88 rfl (by decide) (by decide) ⟨Iy22557, Xz22559, (by omega)⟩
        · have h22553 : 4 ≤ (pI P b22549 2).toInt := h22553
          refine g_aload_n C dX4_statementFault_75 rfl 0 rfl ?_
          refine g_iconst (v := 5) C dX4_statementFault_76 (by decide) ?_
          refine g_callVI (rest := []) C mv_X4_57 [.int 5] (s_X4_wrong I ha0 (by decide)) (ha0).1 (ha0).2 rfl rfl (by decide) (Nat.le_of_ble_eq_true rfl) (by decide) dX4_statementFault_77 (fun r22561 Y22562 h22563 => ?_)
          obtain ⟨rfl, h22563⟩ := h22563
          have h22563 : 1 ≤ r22561.toInt ∧ r22561.toInt ≤ 16005 := h22563
          refine g_goto C 88 dX4_statementFault_80 (by decide) ?_
          exact ret _ _ _ _ _ _ dX4_statementFault_88 rfl (by decide) (by decide) ⟨I, EK.rf, (by omega)⟩
    · have h22522 : r22519.toInt ≠ 0 := ti_ne h22522
      refine g_aload_n C dX4_statementFault_29 rfl 0 rfl ?_
      obtain ⟨b22564, e22565, h22566⟩ := I.fld (ha0) 1 3 0 rfl
      refine g_getR C fi_X4_21 rfl e22565 (ha0).1 (ha0).2 dX4_statementFault_30 ?_
      refine g_getI C fi_X4_54 (by decide) (h22566.at).1 (h22566.at).2 dX4_statementFault_33 ?_
      have u22568 := ti_rng (pI P b22564 3)
      refine b_if_eq C 47 dX4_statementFault_36 (by decide) (fun h22567 => ?_) (fun h22567 => ?_)
      · have h22567 : (pI P b22564 3).toInt = 0 := congrArg Int32.toInt h22567
        refine g_aload_n C dX4_statementFault_47 rfl 0 rfl ?_
        refine g_callVI (rest := []) C mv_X4_60 [] (s_X4_firstFault I ha0) (ha0).1 (ha0).2 rfl rfl (by decide) (Nat.le_of_ble_eq_true rfl) (by decide) dX4_statementFault_48 (fun r22569 Y22570 h22571 => ?_)
        obtain ⟨Iy22572, Xy22573, h22571⟩ := h22571
        have Xz22574 : EK [3, 9, 13] P Y22570 := Xy22573.mono (by decide)
        have h22575 := Xy22573.at ha0
        have h22571 : 0 ≤ r22569.toInt ∧ r22569.toInt ≤ 16005 := h22571
        exact ret _ _ _ _ _ _ dX4_statementFault_51 rfl (by decide) (by decide) ⟨Iy22572, Xz22574, (by omega)⟩
      · have h22567 : (pI P b22564 3).toInt ≠ 0 := ti_ne h22567
        refine g_aload_n C dX4_statementFault_39 rfl 0 rfl ?_
        refine g_iconst (v := 3) C dX4_statementFault_40 (by decide) ?_
        refine g_callVI (rest := []) C mv_X4_57 [.int 3] (s_X4_wrong I ha0 (by decide)) (ha0).1 (ha0).2 rfl rfl (by decide) (Nat.le_of_ble_eq_true rfl) (by decide) dX4_statementFault_41 (fun r22576 Y22577 h22578 => ?_)
        obtain ⟨rfl, h22578⟩ := h22578
        have h22578 : 1 ≤ r22576.toInt ∧ r22576.toInt ≤ 16005 := h22578
        refine g_goto C 51 dX4_statementFault_44 (by decide) ?_
        exact ret _ _ _ _ _ _ dX4_statementFault_51 rfl (by decide) (by decide) ⟨I, EK.rf, (by omega)⟩
  · have h22518 : r22515.toInt ≠ 0 := ti_ne h22518
    refine g_aload_n C dX4_statementFault_12 rfl 0 rfl ?_
    refine g_callVI (rest := []) C mv_X4_48 [] (s_X4_oddsFault I ha0) (ha0).1 (ha0).2 rfl rfl (by decide) (Nat.le_of_ble_eq_true rfl) (by decide) dX4_statementFault_13 (fun r22579 Y22580 h22581 => ?_)
    obtain ⟨Iy22582, Xy22583, h22581⟩ := h22581
    have Xz22584 : EK [3, 9, 13] P Y22580 := Xy22583.mono (by decide)
    have h22585 := Xy22583.at ha0
    have h22581 : 0 ≤ r22579.toInt ∧ r22579.toInt ≤ 16005 := h22581
    exact ret _ _ _ _ _ _ dX4_statementFault_16 rfl (by decide) (by decide) ⟨Iy22582, Xz22584, (by omega)⟩
theorem dX4_faultFor_40 : decode cX4_faultFor 40 = .ok (.iconst 0, 1) := by decide +kernel
theorem dX4_faultFor_41 : decode cX4_faultFor 41 = .ok (.ireturn, 1) := by decide +kernel
theorem dX4_faultFor_47 : decode cX4_faultFor 47 = .ok (.istore_n 3, 1) := by decide +kernel
theorem dX4_faultFor_48 : decode cX4_faultFor 48 = .ok (.iload_n 3, 1) := by decide +kernel
theorem dX4_faultFor_49 : decode cX4_faultFor 49 = .ok (.ifCond .eq 5, 3) := by decide +kernel
theorem dX4_faultFor_52 : decode cX4_faultFor 52 = .ok (.iload_n 3, 1) := by decide +kernel
theorem dX4_faultFor_53 : decode cX4_faultFor 53 = .ok (.ireturn, 1) := by decide +kernel
theorem dX4_faultFor_54 : decode cX4_faultFor 54 = .ok (.iinc 2 1, 3) := by decide +kernel
theorem dX4_faultFor_57 : decode cX4_faultFor 57 = .ok (.goto (-41), 3) := by decide +kernel
theorem dX4_faultFor_60 : decode cX4_faultFor 60 = .ok (.iconst 0, 1) := by decide +kernel
theorem dX4_faultFor_61 : decode cX4_faultFor 61 = .ok (.ireturn, 1) := by decide +kernel
set_option maxHeartbeats 4000000 in
set_option maxRecDepth 100000 in
theorem s_X4_faultFor {P : PP} {a0 : Nat} {a1 : Int32} (I : IV P) (ha0 : At P a0 4) : CtrI yX4_faultFor cX4_faultFor 4 (some Jvm.ClassFile.FieldType.int) ({ frames := 7, cells := 0, slots := 0, locals := 448 } : Room) 0 0 P [.ref a0, .int a1] (fun r P2 => IV P2 ∧ EK [3, 9, 13] P P2 ∧ (0 ≤ r.toInt ∧ r.toInt ≤ 16005)) := by
  refine enI (lv := [(0, .ref a0), (1, .int a1)]) (by decide) (Nat.le_of_ble_eq_true rfl) rfl (fun E D cy C Ci0 ret => ?_)
  have J16 : ∀ (n16 : Nat) (P16 : PP) (v16_2 : Int32), (1001 - v16_2.toInt).toNat < n16 → (IV P16) → (EK [3, 9, 13] P P16) → (0 ≤ v16_2.toInt ∧ v16_2.toInt ≤ 1001) → G E ({ frames := 7, cells := 0, slots := 0, locals := 448 } : Room) D cy 4 P16 0 0 16 [(0, .ref a0), (1, .int a1), (2, .int v16_2)] [] := by
    intro n16
    induction n16 with
    | zero => intro P16 v16_2 hm16 I16 X16 hv16_2; omega
    | succ n16 ih16 =>
      intro P16 v16_2 hm16 I16 X16 hv16_2
      have h23362 := X16.at ha0
      refine g_iload_n C dX4_faultFor_16 rfl 2 rfl ?_
      refine g_sipush (v := 1000) C dX4_faultFor_17 (by decide) ?_
      refine b_icmp_gt C 60 dX4_faultFor_20 (by decide) (fun h23363 => ?_) (fun h23363 => ?_)
      · have h23363 : 1000 < v16_2.toInt := h23363
        refine g_iconst (v := 0) C dX4_faultFor_60 (by decide) ?_
        exact ret _ _ _ _ _ _ dX4_faultFor_61 rfl (by decide) (by decide) ⟨I16, X16, (by decide)⟩
      · have h23363 : v16_2.toInt ≤ 1000 := h23363
        refine g_aload_n C dX4_faultFor_23 rfl 0 rfl ?_
        obtain ⟨b23364, e23365, h23366⟩ := I16.fld (h23362) 0 9 0 rfl
        refine g_getR C fi_X4_12 rfl e23365 (h23362).1 (h23362).2 dX4_faultFor_24 ?_
        refine g_callVV (rest := []) C mv_X4_31 [] (s_X9_next I16 h23366.at) (h23366.at).1 (h23366.at).2 rfl rfl (by decide) (Nat.le_of_ble_eq_true rfl) (by decide) dX4_faultFor_27 (fun Y23368 h23369 => ?_)
        obtain ⟨Iy23370, Xy23371⟩ := h23369
        have Xz23372 : EK [3, 9, 13] P Y23368 := X16.tr (Xy23371.mono (by decide))
        have h23373 := Xy23371.at h23362
        refine g_aload_n C dX4_faultFor_30 rfl 0 rfl ?_
        obtain ⟨b23374, e23375, h23376⟩ := Iy23370.fld (h23373) 0 9 0 rfl
        refine g_getR C fi_X4_12 rfl e23375 (h23373).1 (h23373).2 dX4_faultFor_31 ?_
        refine g_getI C fi_X4_34 (by decide) (h23376.at).1 (h23376.at).2 dX4_faultFor_34 ?_
        have u23378 := ti_rng (pI Y23368 b23374 2)
        refine b_if_ne C 42 dX4_faultFor_37 (by decide) (fun h23377 => ?_) (fun h23377 => ?_)
        · have h23377 : (pI Y23368 b23374 2).toInt ≠ 0 := ti_ne h23377
          refine g_aload_n C dX4_faultFor_42 rfl 0 rfl ?_
          refine g_iload_n C dX4_faultFor_43 rfl 1 rfl ?_
          refine g_callVI (rest := []) C mv_X4_38 [.int a1] (s_X4_statementFault Iy23370 h23373) (h23373).1 (h23373).2 rfl rfl (by decide) (Nat.le_of_ble_eq_true rfl) (by decide) dX4_faultFor_44 (fun r23379 Y23380 h23381 => ?_)
          obtain ⟨Iy23382, Xy23383, h23381⟩ := h23381
          have Xz23384 : EK [3, 9, 13] P Y23380 := Xz23372.tr (Xy23383.mono (by decide))
          have h23385 := Xy23383.at h23373
          have h23381 : 0 ≤ r23379.toInt ∧ r23379.toInt ≤ 16005 := h23381
          refine g_istore_n (lv' := [(3, .int r23379), (0, .ref a0), (1, .int a1), (2, .int v16_2)]) C dX4_faultFor_47 rfl (by decide) rfl ?_
          refine g_iload_n C dX4_faultFor_48 rfl 0 rfl ?_
          refine b_if_eq C 54 dX4_faultFor_49 (by decide) (fun h23386 => ?_) (fun h23386 => ?_)
          · have h23386 : r23379.toInt = 0 := congrArg Int32.toInt h23386
            refine s_iinc (lv0 := [(3, .int r23379), (0, .ref a0), (1, .int a1)]) (m := 1) C dX4_faultFor_54 3 rfl (by decide) rfl (by decide) (by omega) (fun z23387 h23388 => ?_)
            have h23388 : z23387.toInt = v16_2.toInt + 1 := h23388
            refine g_goto C 16 dX4_faultFor_57 (by decide) ?_
            refine g_lv (lv' := [(0, .ref a0), (1, .int a1), (2, .int z23387)]) [2, 3, 0] rfl ?_
            exact ih16 Y23380 z23387 (by omega) Iy23382 Xz23384 (by omega)
          · have h23386 : r23379.toInt ≠ 0 := ti_ne h23386
            refine g_iload_n C dX4_faultFor_52 rfl 0 rfl ?_
            exact ret _ _ _ _ _ _ dX4_faultFor_53 rfl (by decide) (by decide) ⟨Iy23382, Xz23384, (by omega)⟩
        · have h23377 : (pI Y23368 b23374 2).toInt = 0 := congrArg Int32.toInt h23377
          refine g_iconst (v := 0) C dX4_faultFor_40 (by decide) ?_
          exact ret _ _ _ _ _ _ dX4_faultFor_41 rfl (by decide) (by decide) ⟨Iy23370, Xz23372, (by decide)⟩
  refine g_aload_n C dX4_faultFor_0 rfl 0 rfl ?_
  obtain ⟨b23389, e23390, h23391⟩ := I.fld (ha0) 1 3 0 rfl
  refine g_getR C fi_X4_21 rfl e23390 (ha0).1 (ha0).2 dX4_faultFor_1 ?_
  refine g_callVV (rest := []) C mv_X4_25 [] (s_X3_clear I h23391.at) (h23391.at).1 (h23391.at).2 rfl rfl (by decide) (Nat.le_of_ble_eq_true rfl) (by decide) dX4_faultFor_4 (fun Y23393 h23394 => ?_)
  obtain ⟨Iy23395, Xy23396⟩ := h23394
  have Xz23397 : EK [3, 9, 13] P Y23393 := Xy23396.mono (by decide)
  have h23398 := Xy23396.at ha0
  refine g_aload_n C dX4_faultFor_7 rfl 0 rfl ?_
  obtain ⟨b23399, e23400, h23401⟩ := Iy23395.fld (h23398) 0 9 0 rfl
  refine g_getR C fi_X4_12 rfl e23400 (h23398).1 (h23398).2 dX4_faultFor_8 ?_
  refine g_callVV (rest := []) C mv_X4_28 [] (s_X9_rewind Iy23395 h23401.at) (h23401.at).1 (h23401.at).2 rfl rfl (by decide) (Nat.le_of_ble_eq_true rfl) (by decide) dX4_faultFor_11 (fun Y23403 h23404 => ?_)
  obtain ⟨Iy23405, Xy23406⟩ := h23404
  have Xz23407 : EK [3, 9, 13] P Y23403 := Xz23397.tr (Xy23406.mono (by decide))
  have h23408 := Xy23406.at h23398
  refine g_iconst (v := 0) C dX4_faultFor_14 (by decide) ?_
  refine g_istore_n (lv' := [(2, .int 0), (0, .ref a0), (1, .int a1)]) C dX4_faultFor_15 rfl (by decide) rfl ?_
  refine g_lv (lv' := [(0, .ref a0), (1, .int a1), (2, .int 0)]) [1, 2, 0] rfl ?_
  exact J16 _ Y23403 0 (Nat.lt_succ_self _) Iy23405 Xz23407 (by decide)
theorem dX11_draw_34 : decode cX11_draw 34 = .ok (.istore_n 2, 1) := by decide +kernel
theorem dX11_draw_35 : decode cX11_draw 35 = .ok (.iload_n 2, 1) := by decide +kernel
theorem dX11_draw_36 : decode cX11_draw 36 = .ok (.ifCond .ne 23, 3) := by decide +kernel
theorem dX11_draw_39 : decode cX11_draw 39 = .ok (.aload_n 0, 1) := by decide +kernel
theorem dX11_draw_40 : decode cX11_draw 40 = .ok (.getfield 11, 3) := by decide +kernel
theorem dX11_draw_43 : decode cX11_draw 43 = .ok (.iload_n 1, 1) := by decide +kernel
theorem dX11_draw_44 : decode cX11_draw 44 = .ok (.aaload, 1) := by decide +kernel
theorem dX11_draw_45 : decode cX11_draw 45 = .ok (.aload_n 0, 1) := by decide +kernel
theorem dX11_draw_46 : decode cX11_draw 46 = .ok (.getfield 41, 3) := by decide +kernel
theorem dX11_draw_49 : decode cX11_draw 49 = .ok (.getfield 128, 3) := by decide +kernel
theorem dX11_draw_52 : decode cX11_draw 52 = .ok (.invokevirtual 132, 3) := by decide +kernel
theorem dX1_changeDraw_0 : decode cX1_changeDraw 0 = .ok (.aload_n 0, 1) := by decide +kernel
theorem dX1_changeDraw_1 : decode cX1_changeDraw 1 = .ok (.getfield 18, 3) := by decide +kernel
theorem dX1_changeDraw_4 : decode cX1_changeDraw 4 = .ok (.aload_n 1, 1) := by decide +kernel
theorem dX1_changeDraw_5 : decode cX1_changeDraw 5 = .ok (.invokevirtual 42, 3) := by decide +kernel
theorem dX3_copy_0 : decode cX3_copy 0 = .ok (.aload_n 1, 1) := by decide +kernel
theorem dX3_copy_1 : decode cX3_copy 1 = .ok (.getfield 9, 3) := by decide +kernel
theorem dX3_copy_4 : decode cX3_copy 4 = .ok (.iconst 0, 1) := by decide +kernel
theorem dX3_copy_5 : decode cX3_copy 5 = .ok (.aload_n 0, 1) := by decide +kernel
theorem dX3_copy_6 : decode cX3_copy 6 = .ok (.getfield 9, 3) := by decide +kernel
theorem dX3_copy_9 : decode cX3_copy 9 = .ok (.iconst 0, 1) := by decide +kernel
theorem dX3_copy_10 : decode cX3_copy 10 = .ok (.bipush 21, 2) := by decide +kernel
theorem dX3_copy_12 : decode cX3_copy 12 = .ok (.invokestatic 34, 3) := by decide +kernel
theorem dX3_copy_15 : decode cX3_copy 15 = .ok (.aload_n 1, 1) := by decide +kernel
theorem dX3_copy_16 : decode cX3_copy 16 = .ok (.getfield 15, 3) := by decide +kernel
theorem dX3_copy_19 : decode cX3_copy 19 = .ok (.iconst 0, 1) := by decide +kernel
theorem dX3_copy_20 : decode cX3_copy 20 = .ok (.aload_n 0, 1) := by decide +kernel
theorem dX3_copy_21 : decode cX3_copy 21 = .ok (.getfield 15, 3) := by decide +kernel
theorem dX3_copy_24 : decode cX3_copy 24 = .ok (.iconst 0, 1) := by decide +kernel
theorem dX3_copy_25 : decode cX3_copy 25 = .ok (.iconst 4, 1) := by decide +kernel
theorem dX3_copy_26 : decode cX3_copy 26 = .ok (.invokestatic 34, 3) := by decide +kernel
theorem dX3_copy_29 : decode cX3_copy 29 = .ok (.aload_n 0, 1) := by decide +kernel
theorem dX3_copy_30 : decode cX3_copy 30 = .ok (.aload_n 1, 1) := by decide +kernel
theorem dX3_copy_31 : decode cX3_copy 31 = .ok (.getfield 21, 3) := by decide +kernel
theorem dX3_copy_34 : decode cX3_copy 34 = .ok (.putfield 21, 3) := by decide +kernel
theorem dX3_copy_37 : decode cX3_copy 37 = .ok (.aload_n 0, 1) := by decide +kernel
theorem dX3_copy_38 : decode cX3_copy 38 = .ok (.aload_n 1, 1) := by decide +kernel
theorem dX3_copy_39 : decode cX3_copy 39 = .ok (.getfield 25, 3) := by decide +kernel
theorem dX3_copy_42 : decode cX3_copy 42 = .ok (.putfield 25, 3) := by decide +kernel
theorem dX3_copy_45 : decode cX3_copy 45 = .ok (.aload_n 0, 1) := by decide +kernel
theorem dX3_copy_46 : decode cX3_copy 46 = .ok (.aload_n 1, 1) := by decide +kernel
theorem dX3_copy_47 : decode cX3_copy 47 = .ok (.getfield 28, 3) := by decide +kernel
theorem dX3_copy_50 : decode cX3_copy 50 = .ok (.putfield 28, 3) := by decide +kernel
theorem dX3_copy_53 : decode cX3_copy 53 = .ok (.aload_n 0, 1) := by decide +kernel
theorem dX3_copy_54 : decode cX3_copy 54 = .ok (.aload_n 1, 1) := by decide +kernel
theorem dX3_copy_55 : decode cX3_copy 55 = .ok (.getfield 31, 3) := by decide +kernel
theorem dX3_copy_58 : decode cX3_copy 58 = .ok (.putfield 31, 3) := by decide +kernel
theorem dX3_copy_61 : decode cX3_copy 61 = .ok (.return_, 1) := by decide +kernel
set_option maxHeartbeats 4000000 in
set_option maxRecDepth 100000 in
theorem s_X3_copy {P : PP} {a0 : Nat} {a1 : Nat} (I : IV P) (ha0 : At P a0 3) (ha1 : At P a1 3) : CtrV yX3_copy cX3_copy 2 none ({ frames := 2, cells := 0, slots := 0, locals := 128 } : Room) 0 0 P [.ref a0, .ref a1] (fun P2 => IV P2 ∧ EK [3, 13] P P2) := by
  refine enV (lv := [(0, .ref a0), (1, .ref a1)]) (by decide) (Nat.le_of_ble_eq_true rfl) rfl (fun E D cy C Ci0 ret => ?_)
  refine g_aload_n C dX3_copy_0 rfl 1 rfl ?_
  obtain ⟨b23515, e23516, h23517⟩ := I.fld (ha1) 0 13 21 rfl
  refine g_getR C fi_X3_9 rfl e23516 (ha1).1 (ha1).2 dX3_copy_1 ?_
  refine g_iconst (v := 0) C dX3_copy_4 (by decide) ?_
  refine g_aload_n C dX3_copy_5 rfl 0 rfl ?_
  obtain ⟨b23518, e23519, h23520⟩ := I.fld (ha0) 0 13 21 rfl
  refine g_getR C fi_X3_9 rfl e23519 (ha0).1 (ha0).2 dX3_copy_6 ?_
  refine g_iconst (v := 0) C dX3_copy_9 (by decide) ?_
  refine g_bipush (v := 21) C dX3_copy_10 (by decide) ?_
  refine g_copyi C cp_X3_34 h23517.1 h23517.2.1 h23520.1 h23520.2.1 (by decide) (by rw [h23517.2.2]; decide) (by rw [h23520.2.2]; decide) (by decide) (by decide) dX3_copy_12 ?_
  refine gp (ks := [13]) (I.setW h23520) (EK.setW h23520) (fun Y23521 Iy23522 Xy23523 => ?_)
  have Xz23524 : EK [3, 13] P Y23521 := Xy23523.mono (by decide)
  have h23525 := Xy23523.at ha0
  have h23526 := Xy23523.at ha1
  refine g_aload_n C dX3_copy_15 rfl 1 rfl ?_
  obtain ⟨b23527, e23528, h23529⟩ := Iy23522.fld (h23526) 1 13 4 rfl
  refine g_getR C fi_X3_15 rfl e23528 (h23526).1 (h23526).2 dX3_copy_16 ?_
  refine g_iconst (v := 0) C dX3_copy_19 (by decide) ?_
  refine g_aload_n C dX3_copy_20 rfl 0 rfl ?_
  obtain ⟨b23530, e23531, h23532⟩ := Iy23522.fld (h23525) 1 13 4 rfl
  refine g_getR C fi_X3_15 rfl e23531 (h23525).1 (h23525).2 dX3_copy_21 ?_
  refine g_iconst (v := 0) C dX3_copy_24 (by decide) ?_
  refine g_iconst (v := 4) C dX3_copy_25 (by decide) ?_
  refine g_copyi C cp_X3_34 h23529.1 h23529.2.1 h23532.1 h23532.2.1 (by decide) (by rw [h23529.2.2]; decide) (by rw [h23532.2.2]; decide) (by decide) (by decide) dX3_copy_26 ?_
  refine gp (ks := [13]) (Iy23522.setW h23532) (EK.setW h23532) (fun Y23533 Iy23534 Xy23535 => ?_)
  have Xz23536 : EK [3, 13] P Y23533 := Xz23524.tr (Xy23535.mono (by decide))
  have h23537 := Xy23535.at h23525
  have h23538 := Xy23535.at h23526
  refine g_aload_n C dX3_copy_29 rfl 0 rfl ?_
  refine g_aload_n C dX3_copy_30 rfl 1 rfl ?_
  refine g_getI C fi_X3_21 (by decide) (h23538).1 (h23538).2 dX3_copy_31 ?_
  have h23539 := Iy23534.rg (h23538) 2 rfl
  refine g_putI C fi_X3_21 rfl (h23537).1 (h23537).2 dX3_copy_34 ?_
  refine gpW (ks := [3]) (Iy23534.setI (h23537) (rgOk.of rfl (by omega))) (EK.setI (h23537).2 (by decide)) (fun Y23540 Iy23541 Xy23542 w23543 w23544 => ?_)
  have Xz23545 : EK [3, 13] P Y23540 := Xz23536.tr (Xy23542.mono (by decide))
  have h23546 := Xy23542.at h23537
  have h23547 := Xy23542.at h23538
  refine g_aload_n C dX3_copy_37 rfl 0 rfl ?_
  refine g_aload_n C dX3_copy_38 rfl 1 rfl ?_
  refine g_getI C fi_X3_25 (by decide) (h23547).1 (h23547).2 dX3_copy_39 ?_
  refine g_putI C fi_X3_25 rfl (h23546).1 (h23546).2 dX3_copy_42 ?_
  refine gpW (ks := [3]) (Iy23541.setI (h23546) (rgOk.none rfl)) (EK.setI (h23546).2 (by decide)) (fun Y23548 Iy23549 Xy23550 w23551 w23552 => ?_)
  have q23553 := w23551 2 (by decide)
  have Xz23554 : EK [3, 13] P Y23548 := Xz23545.tr (Xy23550.mono (by decide))
  have h23555 := Xy23550.at h23546
  have h23556 := Xy23550.at h23547
  refine g_aload_n C dX3_copy_45 rfl 0 rfl ?_
  refine g_aload_n C dX3_copy_46 rfl 1 rfl ?_
  refine g_getI C fi_X3_28 (by decide) (h23556).1 (h23556).2 dX3_copy_47 ?_
  refine g_putI C fi_X3_28 rfl (h23555).1 (h23555).2 dX3_copy_50 ?_
  refine gpW (ks := [3]) (Iy23549.setI (h23555) (rgOk.none rfl)) (EK.setI (h23555).2 (by decide)) (fun Y23557 Iy23558 Xy23559 w23560 w23561 => ?_)
  have q23562 := w23560 2 (by decide)
  have q23563 := w23560 3 (by decide)
  have Xz23564 : EK [3, 13] P Y23557 := Xz23554.tr (Xy23559.mono (by decide))
  have h23565 := Xy23559.at h23555
  have h23566 := Xy23559.at h23556
  refine g_aload_n C dX3_copy_53 rfl 0 rfl ?_
  refine g_aload_n C dX3_copy_54 rfl 1 rfl ?_
  refine g_getI C fi_X3_31 (by decide) (h23566).1 (h23566).2 dX3_copy_55 ?_
  refine g_putI C fi_X3_31 rfl (h23565).1 (h23565).2 dX3_copy_58 ?_
  refine gpW (ks := [3]) (Iy23558.setI (h23565) (rgOk.none rfl)) (EK.setI (h23565).2 (by decide)) (fun Y23567 Iy23568 Xy23569 w23570 w23571 => ?_)
  have q23572 := w23570 2 (by decide)
  have q23573 := w23570 3 (by decide)
  have q23574 := w23570 4 (by decide)
  have Xz23575 : EK [3, 13] P Y23567 := Xz23564.tr (Xy23569.mono (by decide))
  have h23576 := Xy23569.at h23565
  have h23577 := Xy23569.at h23566
  exact ret _ _ _ _ _ dX3_copy_61 (by decide) (by decide) ⟨Iy23568, Xz23575⟩
theorem dX1_changeDraw_8 : decode cX1_changeDraw 8 = .ok (.aload_n 0, 1) := by decide +kernel
theorem dX1_changeDraw_9 : decode cX1_changeDraw 9 = .ok (.invokevirtual 39, 3) := by decide +kernel
theorem dX1_changeDraw_12 : decode cX1_changeDraw 12 = .ok (.return_, 1) := by decide +kernel
set_option maxHeartbeats 4000000 in
set_option maxRecDepth 100000 in
theorem s_X1_changeDraw {P : PP} {a0 : Nat} {a1 : Nat} (I : IV P) (ha0 : At P a0 1) (ha1 : At P a1 3) : CtrV yX1_changeDraw cX1_changeDraw 2 none ({ frames := 3, cells := 0, slots := 0, locals := 192 } : Room) 0 0 P [.ref a0, .ref a1] (fun P2 => IV P2 ∧ EK [3, 13] P P2) := by
  refine enV (lv := [(0, .ref a0), (1, .ref a1)]) (by decide) (Nat.le_of_ble_eq_true rfl) rfl (fun E D cy C Ci0 ret => ?_)
  refine g_aload_n C dX1_changeDraw_0 rfl 0 rfl ?_
  obtain ⟨b23597, e23598, h23599⟩ := I.fld (ha0) 2 3 0 rfl
  refine g_getR C fi_X1_18 rfl e23598 (ha0).1 (ha0).2 dX1_changeDraw_1 ?_
  refine g_aload_n C dX1_changeDraw_4 rfl 1 rfl ?_
  refine g_callVV (rest := []) C mv_X1_42 [.ref a1] (s_X3_copy I h23599.at ha1) (h23599.at).1 (h23599.at).2 rfl rfl (by decide) (Nat.le_of_ble_eq_true rfl) (by decide) dX1_changeDraw_5 (fun Y23601 h23602 => ?_)
  obtain ⟨Iy23603, Xy23604⟩ := h23602
  have Xz23605 : EK [3, 13] P Y23601 := Xy23604.mono (by decide)
  have h23606 := Xy23604.at ha0
  have h23607 := Xy23604.at ha1
  refine g_aload_n C dX1_changeDraw_8 rfl 0 rfl ?_
  refine g_callVV (rest := []) C mv_X1_39 [] (s_X1_forgetDrawn Iy23603 h23606) (h23606).1 (h23606).2 rfl rfl (by decide) (Nat.le_of_ble_eq_true rfl) (by decide) dX1_changeDraw_9 (fun Y23609 h23610 => ?_)
  obtain ⟨Iy23611, Xy23612⟩ := h23610
  have Xz23613 : EK [3, 13] P Y23609 := Xz23605.tr (Xy23612.mono (by decide))
  have h23614 := Xy23612.at h23606
  have h23615 := Xy23612.at h23607
  exact ret _ _ _ _ _ dX1_changeDraw_12 (by decide) (by decide) ⟨Iy23611, Xz23613⟩
theorem dX11_draw_55 : decode cX11_draw 55 = .ok (.aload_n 0, 1) := by decide +kernel
theorem dX11_draw_56 : decode cX11_draw 56 = .ok (.invokevirtual 94, 3) := by decide +kernel
theorem dX11_draw_59 : decode cX11_draw 59 = .ok (.aload_n 0, 1) := by decide +kernel
theorem dX11_draw_60 : decode cX11_draw 60 = .ok (.getfield 41, 3) := by decide +kernel
theorem dX11_draw_63 : decode cX11_draw 63 = .ok (.getfield 111, 3) := by decide +kernel
theorem dX11_draw_66 : decode cX11_draw 66 = .ok (.iconst 0, 1) := by decide +kernel
theorem dX11_draw_67 : decode cX11_draw 67 = .ok (.putfield 121, 3) := by decide +kernel
theorem dX11_draw_70 : decode cX11_draw 70 = .ok (.iload_n 2, 1) := by decide +kernel
theorem dX11_draw_71 : decode cX11_draw 71 = .ok (.ireturn, 1) := by decide +kernel
set_option maxHeartbeats 4000000 in
set_option maxRecDepth 100000 in
theorem s_X11_draw {P : PP} {a0 : Nat} {a1 : Int32} (I : IV P) (ha0 : At P a0 11) : CtrI yX11_draw cX11_draw 3 (some Jvm.ClassFile.FieldType.int) ({ frames := 8, cells := 0, slots := 0, locals := 512 } : Room) 0 0 P [.ref a0, .int a1] (fun r P2 => IV P2 ∧ EK [3, 9, 13, 15] P P2 ∧ (-1 ≤ r.toInt ∧ r.toInt ≤ 16005)) := by
  refine enI (lv := [(0, .ref a0), (1, .int a1)]) (by decide) (Nat.le_of_ble_eq_true rfl) rfl (fun E D cy C Ci0 ret => ?_)
  have J59 : ∀ (P59 : PP) (v59_2 : Int32), (IV P59) → (EK [3, 9, 13, 15] P P59) → (-1 ≤ v59_2.toInt ∧ v59_2.toInt ≤ 16005) → G E ({ frames := 8, cells := 0, slots := 0, locals := 512 } : Room) D cy 3 P59 0 0 59 [(0, .ref a0), (2, .int v59_2)] [] := by
    intro P59 v59_2 I59 X59 hv59_2
    have h23684 := X59.at ha0
    refine g_aload_n C dX11_draw_59 rfl 0 rfl ?_
    obtain ⟨b23685, e23686, h23687⟩ := I59.fld (h23684) 7 4 0 rfl
    refine g_getR C fi_X11_41 rfl e23686 (h23684).1 (h23684).2 dX11_draw_60 ?_
    obtain ⟨b23688, e23689, h23690⟩ := I59.fld (h23687.at) 0 9 0 rfl
    refine g_getR C fi_X11_111 rfl e23689 (h23687.at).1 (h23687.at).2 dX11_draw_63 ?_
    refine g_iconst (v := 0) C dX11_draw_66 (by decide) ?_
    refine g_putI C fi_X11_121 rfl (h23690.at).1 (h23690.at).2 dX11_draw_67 ?_
    refine gpW (ks := [9]) (I59.setI (h23690.at) (rgOk.of rfl (by decide))) (EK.setI (h23690.at).2 (by decide)) (fun Y23691 Iy23692 Xy23693 w23694 w23695 => ?_)
    have w23695 : (pI Y23691 b23688 1).toInt = 0 := w23695
    have Xz23696 : EK [3, 9, 13, 15] P Y23691 := X59.tr (Xy23693.mono (by decide))
    have h23697 := Xy23693.at h23684
    refine g_iload_n C dX11_draw_70 rfl 1 rfl ?_
    exact ret _ _ _ _ _ _ dX11_draw_71 rfl (by decide) (by decide) ⟨Iy23692, Xz23696, (by omega)⟩
  refine g_iconst (v := (-1)) C dX11_draw_0 (by decide) ?_
  refine g_istore_n (lv' := [(2, .int (-1)), (0, .ref a0), (1, .int a1)]) C dX11_draw_1 rfl (by decide) rfl ?_
  refine g_aload_n C dX11_draw_2 rfl 1 rfl ?_
  refine g_iload_n C dX11_draw_3 rfl 2 rfl ?_
  refine g_callVI (rest := []) C mv_X11_97 [.int a1] (s_X11_isTold I ha0) (ha0).1 (ha0).2 rfl rfl (by decide) (Nat.le_of_ble_eq_true rfl) (by decide) dX11_draw_4 (fun r23698 Y23699 h23700 => ?_)
  obtain ⟨rfl, h23700⟩ := h23700
  obtain ⟨h23700, hi23701⟩ := h23700
  have hi23701 : r23698.toInt = 0 ∨ (((0 : Int) ≤ a1.toInt ∧ a1.toInt ≤ (1 : Int))) := hi23701
  have h23700 : 0 ≤ r23698.toInt ∧ r23698.toInt ≤ 1 := h23700
  refine b_if_eq C 59 dX11_draw_7 (by decide) (fun h23702 => ?_) (fun h23702 => ?_)
  · have h23702 : r23698.toInt = 0 := congrArg Int32.toInt h23702
    clear hi23701
    refine g_lv (lv' := [(0, .ref a0), (2, .int (-1))]) [1, 0] rfl ?_
    exact J59 P (-1) I EK.rf (by decide)
  · have h23702 : r23698.toInt ≠ 0 := ti_ne h23702
    replace hi23701 := hi23701.resolve_left (by omega)
    refine g_aload_n C dX11_draw_10 rfl 1 rfl ?_
    refine g_iload_n C dX11_draw_11 rfl 2 rfl ?_
    refine g_callVI (rest := []) C mv_X11_105 [.int a1] (s_X11_isTouched I ha0) (ha0).1 (ha0).2 rfl rfl (by decide) (Nat.le_of_ble_eq_true rfl) (by decide) dX11_draw_12 (fun r23703 Y23704 h23705 => ?_)
    obtain ⟨rfl, h23705⟩ := h23705
    have h23705 : 0 ≤ r23703.toInt ∧ r23703.toInt ≤ 1 := h23705
    refine b_if_ne C 59 dX11_draw_15 (by decide) (fun h23706 => ?_) (fun h23706 => ?_)
    · have h23706 : r23703.toInt ≠ 0 := ti_ne h23706
      refine g_lv (lv' := [(0, .ref a0), (2, .int (-1))]) [1, 0] rfl ?_
      exact J59 P (-1) I EK.rf (by decide)
    · have h23706 : r23703.toInt = 0 := congrArg Int32.toInt h23706
      refine g_aload_n C dX11_draw_18 rfl 1 rfl ?_
      obtain ⟨b23707, e23708, h23709⟩ := I.fld (ha0) 7 4 0 rfl
      refine g_getR C fi_X11_41 rfl e23708 (ha0).1 (ha0).2 dX11_draw_19 ?_
      refine g_aload_n C dX11_draw_22 rfl 1 rfl ?_
      obtain ⟨b23710, e23711, h23712⟩ := I.fld (ha0) 0 17 2 rfl
      refine g_getR C fi_X11_11 rfl e23711 (ha0).1 (ha0).2 dX11_draw_23 ?_
      refine g_iload_n C dX11_draw_26 rfl 2 rfl ?_
      obtain ⟨b23713, e23714, h23715⟩ := I.elm h23712 (by decide) (a1.toInt.toNat) (by omega)
      refine g_aldR C h23712.1 h23712.2.1 (by decide) (ix_in h23712.2.2 (by omega)) e23714 dX11_draw_27 ?_
      refine g_getI C fi_X11_100 (by decide) (h23715).1 (h23715).2 dX11_draw_28 ?_
      have h23716 := I.rg (h23715) 5 rfl
      refine g_callVI (rest := []) C mv_X11_124 [.int (pI P b23713 5)] (s_X4_faultFor I h23709.at) (h23709.at).1 (h23709.at).2 rfl rfl (by decide) (Nat.le_of_ble_eq_true rfl) (by decide) dX11_draw_31 (fun r23717 Y23718 h23719 => ?_)
      obtain ⟨Iy23720, Xy23721, h23719⟩ := h23719
      have q23722 := Xy23721.keep h23715 (by decide) 5
      have Xz23723 : EK [3, 9, 13, 15] P Y23718 := Xy23721.mono (by decide)
      have h23724 := Xy23721.at ha0
      have h23719 : 0 ≤ r23717.toInt ∧ r23717.toInt ≤ 16005 := h23719
      refine g_istore_n (lv' := [(2, .int r23717), (0, .ref a0), (1, .int a1)]) C dX11_draw_34 rfl (by decide) rfl ?_
      refine g_iload_n C dX11_draw_35 rfl 0 rfl ?_
      refine b_if_ne C 59 dX11_draw_36 (by decide) (fun h23725 => ?_) (fun h23725 => ?_)
      · have h23725 : r23717.toInt ≠ 0 := ti_ne h23725
        refine g_lv (lv' := [(0, .ref a0), (2, .int r23717)]) [1, 0] rfl ?_
        exact J59 Y23718 r23717 Iy23720 Xz23723 (by omega)
      · have h23725 : r23717.toInt = 0 := congrArg Int32.toInt h23725
        refine g_aload_n C dX11_draw_39 rfl 1 rfl ?_
        obtain ⟨b23726, e23727, h23728⟩ := Iy23720.fld (h23724) 0 17 2 rfl
        refine g_getR C fi_X11_11 rfl e23727 (h23724).1 (h23724).2 dX11_draw_40 ?_
        refine g_iload_n C dX11_draw_43 rfl 2 rfl ?_
        obtain ⟨b23729, e23730, h23731⟩ := Iy23720.elm h23728 (by decide) (a1.toInt.toNat) (by omega)
        refine g_aldR C h23728.1 h23728.2.1 (by decide) (ix_in h23728.2.2 (by omega)) e23730 dX11_draw_44 ?_
        refine g_aload_n C dX11_draw_45 rfl 1 rfl ?_
        obtain ⟨b23732, e23733, h23734⟩ := Iy23720.fld (h23724) 7 4 0 rfl
        refine g_getR C fi_X11_41 rfl e23733 (h23724).1 (h23724).2 dX11_draw_46 ?_
        obtain ⟨b23735, e23736, h23737⟩ := Iy23720.fld (h23734.at) 1 3 0 rfl
        refine g_getR C fi_X11_128 rfl e23736 (h23734.at).1 (h23734.at).2 dX11_draw_49 ?_
        refine g_callVV (rest := []) C mv_X11_132 [.ref b23735] (s_X1_changeDraw Iy23720 h23731 h23737.at) (h23731).1 (h23731).2 rfl rfl (by decide) (Nat.le_of_ble_eq_true rfl) (by decide) dX11_draw_52 (fun Y23739 h23740 => ?_)
        obtain ⟨Iy23741, Xy23742⟩ := h23740
        have Xz23743 : EK [3, 9, 13, 15] P Y23739 := Xz23723.tr (Xy23742.mono (by decide))
        have h23744 := Xy23742.at h23724
        refine g_aload_n C dX11_draw_55 rfl 1 rfl ?_
        refine g_callVV (rest := []) C mv_X11_94 [] (s_X11_forgetMarks Iy23741 h23744) (h23744).1 (h23744).2 rfl rfl (by decide) (Nat.le_of_ble_eq_true rfl) (by decide) dX11_draw_56 (fun Y23746 h23747 => ?_)
        obtain ⟨Iy23748, Xy23749⟩ := h23747
        have Xz23750 : EK [3, 9, 13, 15] P Y23746 := Xz23743.tr (Xy23749.mono (by decide))
        have h23751 := Xy23749.at h23744
        refine g_lv (lv' := [(0, .ref a0), (2, .int r23717)]) [1, 0] rfl ?_
        exact J59 Y23746 r23717 Iy23748 Xz23750 (by omega)
theorem dX11_enough_0 : decode cX11_enough 0 = .ok (.aload_n 0, 1) := by decide +kernel
theorem dX11_enough_1 : decode cX11_enough 1 = .ok (.iload_n 1, 1) := by decide +kernel
theorem dX11_enough_2 : decode cX11_enough 2 = .ok (.invokevirtual 97, 3) := by decide +kernel
theorem dX11_enough_5 : decode cX11_enough 5 = .ok (.ifCond .eq 18, 3) := by decide +kernel
theorem dX11_enough_8 : decode cX11_enough 8 = .ok (.iload_n 2, 1) := by decide +kernel
theorem dX11_enough_9 : decode cX11_enough 9 = .ok (.iconst 0, 1) := by decide +kernel
theorem dX11_enough_10 : decode cX11_enough 10 = .ok (.invokestatic 289, 3) := by decide +kernel
theorem dX11_enough_13 : decode cX11_enough 13 = .ok (.ifCond .eq 10, 3) := by decide +kernel
theorem dX11_enough_16 : decode cX11_enough 16 = .ok (.iload_n 3, 1) := by decide +kernel
theorem dX11_enough_17 : decode cX11_enough 17 = .ok (.invokestatic 249, 3) := by decide +kernel
theorem dX11_enough_20 : decode cX11_enough 20 = .ok (.ifCond .ne 5, 3) := by decide +kernel
theorem dX11_enough_23 : decode cX11_enough 23 = .ok (.iconst (-1), 1) := by decide +kernel
theorem dX11_enough_24 : decode cX11_enough 24 = .ok (.ireturn, 1) := by decide +kernel
theorem dX11_enough_25 : decode cX11_enough 25 = .ok (.aload_n 0, 1) := by decide +kernel
theorem dX11_enough_26 : decode cX11_enough 26 = .ok (.getfield 60, 3) := by decide +kernel
theorem dX11_enough_29 : decode cX11_enough 29 = .ok (.aload_n 0, 1) := by decide +kernel
theorem dX11_enough_30 : decode cX11_enough 30 = .ok (.getfield 11, 3) := by decide +kernel
theorem dX11_enough_33 : decode cX11_enough 33 = .ok (.iload_n 1, 1) := by decide +kernel
theorem dX11_enough_34 : decode cX11_enough 34 = .ok (.aaload, 1) := by decide +kernel
theorem dX11_enough_35 : decode cX11_enough 35 = .ok (.iload_n 2, 1) := by decide +kernel
theorem dX11_enough_36 : decode cX11_enough 36 = .ok (.iload_n 3, 1) := by decide +kernel
theorem dX11_enough_37 : decode cX11_enough 37 = .ok (.iconst 0, 1) := by decide +kernel
theorem dX11_enough_38 : decode cX11_enough 38 = .ok (.invokevirtual 292, 3) := by decide +kernel
theorem dX11_enough_41 : decode cX11_enough 41 = .ok (.iconst 0, 1) := by decide +kernel
theorem dX11_enough_42 : decode cX11_enough 42 = .ok (.istore 5, 2) := by decide +kernel
theorem dX11_enough_44 : decode cX11_enough 44 = .ok (.iload 5, 2) := by decide +kernel
theorem dX11_enough_46 : decode cX11_enough 46 = .ok (.iload_n 2, 1) := by decide +kernel
theorem dX11_enough_47 : decode cX11_enough 47 = .ok (.if_icmp .gt 56, 3) := by decide +kernel
theorem dX11_enough_50 : decode cX11_enough 50 = .ok (.iload_n 2, 1) := by decide +kernel
theorem dX11_enough_51 : decode cX11_enough 51 = .ok (.iload 5, 2) := by decide +kernel
theorem dX11_enough_53 : decode cX11_enough 53 = .ok (.invokestatic 299, 3) := by decide +kernel
theorem dX11_enough_56 : decode cX11_enough 56 = .ok (.istore 6, 2) := by decide +kernel
theorem dX11_enough_58 : decode cX11_enough 58 = .ok (.aload_n 0, 1) := by decide +kernel
theorem dX11_enough_59 : decode cX11_enough 59 = .ok (.getfield 60, 3) := by decide +kernel
theorem dX11_enough_62 : decode cX11_enough 62 = .ok (.getfield 296, 3) := by decide +kernel
theorem dX11_enough_65 : decode cX11_enough 65 = .ok (.iload 5, 2) := by decide +kernel
theorem dX11_enough_67 : decode cX11_enough 67 = .ok (.iaload, 1) := by decide +kernel
theorem dX11_enough_68 : decode cX11_enough 68 = .ok (.istore 7, 2) := by decide +kernel
theorem dX11_enough_70 : decode cX11_enough 70 = .ok (.iload 4, 2) := by decide +kernel
theorem dX11_enough_72 : decode cX11_enough 72 = .ok (.ifCond .eq 15, 3) := by decide +kernel
theorem dX11_enough_75 : decode cX11_enough 75 = .ok (.iconst 2, 1) := by decide +kernel
theorem dX11_enough_76 : decode cX11_enough 76 = .ok (.iload 7, 2) := by decide +kernel
theorem dX11_enough_78 : decode cX11_enough 78 = .ok (.imul, 1) := by decide +kernel
theorem dX11_enough_79 : decode cX11_enough 79 = .ok (.iload 6, 2) := by decide +kernel
theorem dX11_enough_81 : decode cX11_enough 81 = .ok (.if_icmp .lt 16, 3) := by decide +kernel
theorem dX11_enough_84 : decode cX11_enough 84 = .ok (.goto 10, 3) := by decide +kernel
theorem dX11_enough_87 : decode cX11_enough 87 = .ok (.iload 7, 2) := by decide +kernel
theorem dX11_enough_89 : decode cX11_enough 89 = .ok (.iload 6, 2) := by decide +kernel
theorem dX11_enough_91 : decode cX11_enough 91 = .ok (.if_icmp .lt 6, 3) := by decide +kernel
theorem dX11_enough_94 : decode cX11_enough 94 = .ok (.iload 5, 2) := by decide +kernel
theorem dX11_enough_96 : decode cX11_enough 96 = .ok (.ireturn, 1) := by decide +kernel
theorem dX11_enough_97 : decode cX11_enough 97 = .ok (.iinc 5 1, 3) := by decide +kernel
theorem dX11_enough_100 : decode cX11_enough 100 = .ok (.goto (-56), 3) := by decide +kernel
theorem dX11_enough_103 : decode cX11_enough 103 = .ok (.iconst (-1), 1) := by decide +kernel
theorem dX11_enough_104 : decode cX11_enough 104 = .ok (.ireturn, 1) := by decide +kernel
set_option maxHeartbeats 4000000 in
set_option maxRecDepth 100000 in
theorem s_X11_enough {P : PP} {a0 : Nat} {a1 : Int32} {a2 : Int32} {a3 : Int32} {a4 : Int32} (I : IV P) (ha0 : At P a0 11) (ha4 : 0 ≤ a4.toInt ∧ a4.toInt ≤ 1) : CtrI yX11_enough cX11_enough 8 (some Jvm.ClassFile.FieldType.int) ({ frames := 16, cells := 0, slots := 0, locals := 1024 } : Room) 0 0 P [.ref a0, .int a1, .int a2, .int a3, .int a4] (fun r P2 => IV P2 ∧ EK [0, 1, 5, 8, 13] P P2 ∧ (-1 ≤ r.toInt ∧ r.toInt ≤ 11)) := by
  refine enI (lv := [(0, .ref a0), (1, .int a1), (2, .int a2), (3, .int a3), (4, .int a4)]) (by decide) (Nat.le_of_ble_eq_true rfl) rfl (fun E D cy C Ci0 ret => ?_)
  have J94 : ∀ (P94 : PP) (v94_5 : Int32), (IV P94) → (EK [0, 1, 5, 8, 13] P P94) → (0 ≤ v94_5.toInt ∧ v94_5.toInt ≤ 11) → G E ({ frames := 16, cells := 0, slots := 0, locals := 1024 } : Room) D cy 8 P94 0 0 94 [(5, .int v94_5)] [] := by
    intro P94 v94_5 I94 X94 hv94_5
    have h24028 := X94.at ha0
    refine g_iload C dX11_enough_94 0 rfl ?_
    exact ret _ _ _ _ _ _ dX11_enough_96 rfl (by decide) (by decide) ⟨I94, X94, (by omega)⟩
  have J44 : ∀ (n44 : Nat) (P44 : PP) (v44_5 : Int32), (12 - v44_5.toInt).toNat < n44 → (IV P44) → (EK [0, 1, 5, 8, 13] P P44) → (1 ≤ a2.toInt ∧ a2.toInt ≤ 11) → (0 ≤ v44_5.toInt ∧ v44_5.toInt ≤ 12) → G E ({ frames := 16, cells := 0, slots := 0, locals := 1024 } : Room) D cy 8 P44 0 0 44 [(0, .ref a0), (2, .int a2), (4, .int a4), (5, .int v44_5)] [] := by
    intro n44
    induction n44 with
    | zero => intro P44 v44_5 hm44 I44 X44 hv44_2 hv44_5; omega
    | succ n44 ih44 =>
      intro P44 v44_5 hm44 I44 X44 hv44_2 hv44_5
      have h24029 := X44.at ha0
      have J97 : (1 ≤ a2.toInt ∧ a2.toInt ≤ 11) → (0 ≤ v44_5.toInt ∧ v44_5.toInt ≤ 11) → G E ({ frames := 16, cells := 0, slots := 0, locals := 1024 } : Room) D cy 8 P44 0 0 97 [(0, .ref a0), (2, .int a2), (4, .int a4), (5, .int v44_5)] [] := by
        intro hv97_2 hv97_5
        have h24030 := X44.at ha0
        refine s_iinc (lv0 := [(0, .ref a0), (2, .int a2), (4, .int a4)]) (m := 1) C dX11_enough_97 3 rfl (by decide) rfl (by decide) (by omega) (fun z24031 h24032 => ?_)
        have h24032 : z24031.toInt = v44_5.toInt + 1 := h24032
        refine g_goto C 44 dX11_enough_100 (by decide) ?_
        refine g_lv (lv' := [(0, .ref a0), (2, .int a2), (4, .int a4), (5, .int z24031)]) [1, 2, 3, 0] rfl ?_
        exact ih44 P44 z24031 (by omega) I44 X44 (by omega) (by omega)
      refine g_iload C dX11_enough_44 3 rfl ?_
      refine g_iload_n C dX11_enough_46 rfl 1 rfl ?_
      refine b_icmp_gt C 103 dX11_enough_47 (by decide) (fun h24033 => ?_) (fun h24033 => ?_)
      · have h24033 : a2.toInt < v44_5.toInt := h24033
        refine g_iconst (v := (-1)) C dX11_enough_103 (by decide) ?_
        exact ret _ _ _ _ _ _ dX11_enough_104 rfl (by decide) (by decide) ⟨I44, X44, (by decide)⟩
      · have h24033 : v44_5.toInt ≤ a2.toInt := h24033
        refine g_iload_n C dX11_enough_50 rfl 1 rfl ?_
        refine g_iload C dX11_enough_51 3 rfl ?_
        refine g_callSI (b := 0) (ci := 0) (rest := []) C ms_X11_299 [.int a2, .int v44_5] (s_X11_choose I44 (by omega) (by omega)) rfl rfl (by decide) (Nat.le_of_ble_eq_true rfl) (by decide) dX11_enough_53 (fun r24034 Y24035 h24036 => ?_)
        obtain ⟨rfl, h24036⟩ := h24036
        have h24036 : True := h24036
        refine g_istore (lv' := [(6, .int r24034), (0, .ref a0), (2, .int a2), (4, .int a4), (5, .int v44_5)]) C dX11_enough_56 (by decide) rfl ?_
        refine g_aload_n C dX11_enough_58 rfl 1 rfl ?_
        obtain ⟨b24037, e24038, h24039⟩ := I44.fld (h24029) 10 8 0 rfl
        refine g_getR C fi_X11_60 rfl e24038 (h24029).1 (h24029).2 dX11_enough_59 ?_
        obtain ⟨b24040, e24041, h24042⟩ := I44.fld (h24039.at) 0 13 12 rfl
        refine g_getR C fi_X11_296 rfl e24041 (h24039.at).1 (h24039.at).2 dX11_enough_62 ?_
        refine g_iload C dX11_enough_65 4 rfl ?_
        refine g_iald (j := (v44_5.toInt.toNat)) C h24042.1 h24042.2.1 (ix_in h24042.2.2 (by omega)) dX11_enough_67 ?_
        refine g_topi (fun z24043 _ => ?_)
        refine g_istore (lv' := [(7, .int z24043), (6, .int r24034), (0, .ref a0), (2, .int a2), (4, .int a4), (5, .int v44_5)]) C dX11_enough_68 (by decide) rfl ?_
        refine g_iload C dX11_enough_70 4 rfl ?_
        refine b_if_eq C 87 dX11_enough_72 (by decide) (fun h24044 => ?_) (fun h24044 => ?_)
        · have h24044 : a4.toInt = 0 := congrArg Int32.toInt h24044
          refine g_iload C dX11_enough_87 0 rfl ?_
          refine g_iload C dX11_enough_89 1 rfl ?_
          have u24046 := ti_rng z24043
          have u24047 := ti_rng r24034
          refine b_icmp_lt C 97 dX11_enough_91 (by decide) (fun h24045 => ?_) (fun h24045 => ?_)
          · have h24045 : z24043.toInt < r24034.toInt := h24045
            refine g_lv (lv' := [(0, .ref a0), (2, .int a2), (4, .int a4), (5, .int v44_5)]) [2, 3, 4, 5] rfl ?_
            exact J97 (by omega) (by omega)
          · have h24045 : r24034.toInt ≤ z24043.toInt := h24045
            refine g_lv (lv' := [(5, .int v44_5)]) [5] rfl ?_
            exact J94 P44 v44_5 I44 X44 (by omega)
        · have h24044 : a4.toInt ≠ 0 := ti_ne h24044
          refine g_iconst (v := 2) C dX11_enough_75 (by decide) ?_
          refine g_iload C dX11_enough_76 0 rfl ?_
          refine a_imul C dX11_enough_78 (fun z24048 => ?_)
          refine g_iload C dX11_enough_79 1 rfl ?_
          have u24051 := ti_rng z24048
          have u24052 := ti_rng r24034
          refine b_icmp_lt C 97 dX11_enough_81 (by decide) (fun h24050 => ?_) (fun h24050 => ?_)
          · have h24050 : z24048.toInt < r24034.toInt := h24050
            refine g_lv (lv' := [(0, .ref a0), (2, .int a2), (4, .int a4), (5, .int v44_5)]) [2, 3, 4, 5] rfl ?_
            exact J97 (by omega) (by omega)
          · have h24050 : r24034.toInt ≤ z24048.toInt := h24050
            refine g_goto C 94 dX11_enough_84 (by decide) ?_
            refine g_lv (lv' := [(5, .int v44_5)]) [5] rfl ?_
            exact J94 P44 v44_5 I44 X44 (by omega)
  have J23 : G E ({ frames := 16, cells := 0, slots := 0, locals := 1024 } : Room) D cy 8 P 0 0 23 [] [] := by
    refine g_iconst (v := (-1)) C dX11_enough_23 (by decide) ?_
    exact ret _ _ _ _ _ _ dX11_enough_24 rfl (by decide) (by decide) ⟨I, EK.rf, (by decide)⟩
  refine g_aload_n C dX11_enough_0 rfl 0 rfl ?_
  refine g_iload_n C dX11_enough_1 rfl 1 rfl ?_
  refine g_callVI (rest := []) C mv_X11_97 [.int a1] (s_X11_isTold I ha0) (ha0).1 (ha0).2 rfl rfl (by decide) (Nat.le_of_ble_eq_true rfl) (by decide) dX11_enough_2 (fun r24053 Y24054 h24055 => ?_)
  obtain ⟨rfl, h24055⟩ := h24055
  obtain ⟨h24055, hi24056⟩ := h24055
  have hi24056 : r24053.toInt = 0 ∨ (((0 : Int) ≤ a1.toInt ∧ a1.toInt ≤ (1 : Int))) := hi24056
  have h24055 : 0 ≤ r24053.toInt ∧ r24053.toInt ≤ 1 := h24055
  refine b_if_eq C 23 dX11_enough_5 (by decide) (fun h24057 => ?_) (fun h24057 => ?_)
  · have h24057 : r24053.toInt = 0 := congrArg Int32.toInt h24057
    clear hi24056
    refine g_lv (lv' := []) [] rfl ?_
    exact J23 
  · have h24057 : r24053.toInt ≠ 0 := ti_ne h24057
    replace hi24056 := hi24056.resolve_left (by omega)
    refine g_iload_n C dX11_enough_8 rfl 2 rfl ?_
    refine g_iconst (v := 0) C dX11_enough_9 (by decide) ?_
    refine g_callSI (b := 0) (ci := 0) (rest := []) C ms_X11_289 [.int a2, .int 0] (s_X11_isSetSize I) rfl rfl (by decide) (Nat.le_of_ble_eq_true rfl) (by decide) dX11_enough_10 (fun r24058 Y24059 h24060 => ?_)
    obtain ⟨rfl, h24060⟩ := h24060
    obtain ⟨h24060, hi24061⟩ := h24060
    have hi24061 : r24058.toInt = 0 ∨ (((1 : Int) ≤ a2.toInt ∧ a2.toInt ≤ (11 : Int)) ∧ ((0 : Int) ≤ 0 ∧ 0 ≤ (11 : Int))) := hi24061
    have h24060 : 0 ≤ r24058.toInt ∧ r24058.toInt ≤ 1 := h24060
    refine b_if_eq C 23 dX11_enough_13 (by decide) (fun h24062 => ?_) (fun h24062 => ?_)
    · have h24062 : r24058.toInt = 0 := congrArg Int32.toInt h24062
      clear hi24061
      refine g_lv (lv' := []) [] rfl ?_
      exact J23 
    · have h24062 : r24058.toInt ≠ 0 := ti_ne h24062
      replace hi24061 := hi24061.resolve_left (by omega)
      refine g_iload_n C dX11_enough_16 rfl 3 rfl ?_
      refine g_callSI (b := 0) (ci := 0) (rest := []) C ms_X11_249 [.int a3] (s_X11_isHow I) rfl rfl (by decide) (Nat.le_of_ble_eq_true rfl) (by decide) dX11_enough_17 (fun r24063 Y24064 h24065 => ?_)
      obtain ⟨rfl, h24065⟩ := h24065
      have h24065 : 0 ≤ r24063.toInt ∧ r24063.toInt ≤ 1 := h24065
      refine b_if_ne C 25 dX11_enough_20 (by decide) (fun h24066 => ?_) (fun h24066 => ?_)
      · have h24066 : r24063.toInt ≠ 0 := ti_ne h24066
        refine g_aload_n C dX11_enough_25 rfl 0 rfl ?_
        obtain ⟨b24067, e24068, h24069⟩ := I.fld (ha0) 10 8 0 rfl
        refine g_getR C fi_X11_60 rfl e24068 (ha0).1 (ha0).2 dX11_enough_26 ?_
        refine g_aload_n C dX11_enough_29 rfl 0 rfl ?_
        obtain ⟨b24070, e24071, h24072⟩ := I.fld (ha0) 0 17 2 rfl
        refine g_getR C fi_X11_11 rfl e24071 (ha0).1 (ha0).2 dX11_enough_30 ?_
        refine g_iload_n C dX11_enough_33 rfl 1 rfl ?_
        obtain ⟨b24073, e24074, h24075⟩ := I.elm h24072 (by decide) (a1.toInt.toNat) (by omega)
        refine g_aldR C h24072.1 h24072.2.1 (by decide) (ix_in h24072.2.2 (by omega)) e24074 dX11_enough_34 ?_
        refine g_iload_n C dX11_enough_35 rfl 2 rfl ?_
        refine g_iload_n C dX11_enough_36 rfl 3 rfl ?_
        refine g_iconst (v := 0) C dX11_enough_37 (by decide) ?_
        refine g_callVV (rest := []) C mv_X11_292 [.ref b24073, .int a2, .int a3, .int 0] (s_X8_tally I h24069.at h24075 (by omega) (by decide)) (h24069.at).1 (h24069.at).2 rfl rfl (by decide) (Nat.le_of_ble_eq_true rfl) (by decide) dX11_enough_38 (fun Y24077 h24078 => ?_)
        obtain ⟨Iy24079, Xy24080⟩ := h24078
        have Xz24081 : EK [0, 1, 5, 8, 13] P Y24077 := Xy24080.mono (by decide)
        have h24082 := Xy24080.at ha0
        refine g_iconst (v := 0) C dX11_enough_41 (by decide) ?_
        refine g_istore (lv' := [(5, .int 0), (0, .ref a0), (1, .int a1), (2, .int a2), (3, .int a3), (4, .int a4)]) C dX11_enough_42 (by decide) rfl ?_
        refine g_lv (lv' := [(0, .ref a0), (2, .int a2), (4, .int a4), (5, .int 0)]) [1, 3, 5, 0] rfl ?_
        exact J44 _ Y24077 0 (Nat.lt_succ_self _) Iy24079 Xz24081 (by omega) (by decide)
      · have h24066 : r24063.toInt = 0 := congrArg Int32.toInt h24066
        refine g_lv (lv' := []) [] rfl ?_
        exact J23 
