theorem dX12_solves_0 : decode cX12_solves 0 = .ok (.aload_n 0, 1) := by decide +kernel
theorem dX12_solves_1 : decode cX12_solves 1 = .ok (.iconst 0, 1) := by decide +kernel
theorem dX12_solves_2 : decode cX12_solves 2 = .ok (.putfield 1, 3) := by decide +kernel
theorem dX12_solves_5 : decode cX12_solves 5 = .ok (.aload_n 0, 1) := by decide +kernel
theorem dX12_solves_6 : decode cX12_solves 6 = .ok (.iload_n 1, 1) := by decide +kernel
theorem dX12_solves_7 : decode cX12_solves 7 = .ok (.iload_n 2, 1) := by decide +kernel
theorem dX12_solves_8 : decode cX12_solves 8 = .ok (.iload_n 3, 1) := by decide +kernel
theorem dX12_solves_9 : decode cX12_solves 9 = .ok (.invokevirtual 333, 3) := by decide +kernel
theorem dX12_solves_12 : decode cX12_solves 12 = .ok (.ifCond .eq 13, 3) := by decide +kernel
theorem dX12_solves_15 : decode cX12_solves 15 = .ok (.iload 4, 2) := by decide +kernel
theorem dX12_solves_17 : decode cX12_solves 17 = .ok (.iconst 0, 1) := by decide +kernel
theorem dX12_solves_18 : decode cX12_solves 18 = .ok (.iconst 3, 1) := by decide +kernel
theorem dX12_solves_19 : decode cX12_solves 19 = .ok (.invokestatic 178, 3) := by decide +kernel
theorem dX12_solves_22 : decode cX12_solves 22 = .ok (.ifCond .ne 5, 3) := by decide +kernel
theorem dX12_solves_25 : decode cX12_solves 25 = .ok (.iconst (-1), 1) := by decide +kernel
theorem dX12_solves_26 : decode cX12_solves 26 = .ok (.ireturn, 1) := by decide +kernel
theorem dX12_solves_27 : decode cX12_solves 27 = .ok (.aload_n 0, 1) := by decide +kernel
theorem dX12_solves_28 : decode cX12_solves 28 = .ok (.invokevirtual 336, 3) := by decide +kernel
theorem dX12_solves_31 : decode cX12_solves 31 = .ok (.aload_n 0, 1) := by decide +kernel
theorem dX12_solves_32 : decode cX12_solves 32 = .ok (.iload_n 1, 1) := by decide +kernel
theorem dX12_solves_33 : decode cX12_solves 33 = .ok (.iload_n 2, 1) := by decide +kernel
theorem dX12_solves_34 : decode cX12_solves 34 = .ok (.iload_n 3, 1) := by decide +kernel
theorem dX12_solves_35 : decode cX12_solves 35 = .ok (.aload_n 0, 1) := by decide +kernel
theorem dX12_solves_36 : decode cX12_solves 36 = .ok (.getfield 69, 3) := by decide +kernel
theorem dX12_solves_39 : decode cX12_solves 39 = .ok (.iload_n 1, 1) := by decide +kernel
theorem dX12_solves_40 : decode cX12_solves 40 = .ok (.iaload, 1) := by decide +kernel
theorem dX12_solves_41 : decode cX12_solves 41 = .ok (.invokevirtual 339, 3) := by decide +kernel
theorem dX12_solves_44 : decode cX12_solves 44 = .ok (.aload_n 0, 1) := by decide +kernel
theorem dX12_solves_45 : decode cX12_solves 45 = .ok (.invokevirtual 346, 3) := by decide +kernel
theorem dX12_solves_48 : decode cX12_solves 48 = .ok (.iload 4, 2) := by decide +kernel
theorem dX12_solves_50 : decode cX12_solves 50 = .ok (.ifCond .ne 10, 3) := by decide +kernel
theorem dX12_solves_53 : decode cX12_solves 53 = .ok (.aload_n 0, 1) := by decide +kernel
theorem dX12_solves_54 : decode cX12_solves 54 = .ok (.invokevirtual 349, 3) := by decide +kernel
theorem dX12_solves_57 : decode cX12_solves 57 = .ok (.goto 47, 3) := by decide +kernel
theorem dX12_solves_60 : decode cX12_solves 60 = .ok (.iload 4, 2) := by decide +kernel
theorem dX12_solves_62 : decode cX12_solves 62 = .ok (.iconst 1, 1) := by decide +kernel
theorem dX12_solves_63 : decode cX12_solves 63 = .ok (.if_icmp .ne 18, 3) := by decide +kernel
theorem dX12_solves_66 : decode cX12_solves 66 = .ok (.aload_n 0, 1) := by decide +kernel
theorem dX12_solves_67 : decode cX12_solves 67 = .ok (.getfield 326, 3) := by decide +kernel
theorem dX12_solves_70 : decode cX12_solves 70 = .ok (.ifCond .eq 7, 3) := by decide +kernel
theorem dX12_solves_73 : decode cX12_solves 73 = .ok (.iconst 1, 1) := by decide +kernel
theorem dX12_solves_74 : decode cX12_solves 74 = .ok (.goto 30, 3) := by decide +kernel
theorem dX12_solves_77 : decode cX12_solves 77 = .ok (.iconst 0, 1) := by decide +kernel
theorem dX12_solves_78 : decode cX12_solves 78 = .ok (.goto 26, 3) := by decide +kernel
theorem dX12_solves_81 : decode cX12_solves 81 = .ok (.iload 4, 2) := by decide +kernel
theorem dX12_solves_83 : decode cX12_solves 83 = .ok (.iconst 2, 1) := by decide +kernel
theorem dX12_solves_84 : decode cX12_solves 84 = .ok (.if_icmp .ne 10, 3) := by decide +kernel
theorem dX12_solves_87 : decode cX12_solves 87 = .ok (.aload_n 0, 1) := by decide +kernel
theorem dX12_solves_88 : decode cX12_solves 88 = .ok (.getfield 324, 3) := by decide +kernel
theorem dX12_solves_91 : decode cX12_solves 91 = .ok (.goto 13, 3) := by decide +kernel
theorem dX12_solves_94 : decode cX12_solves 94 = .ok (.aload_n 0, 1) := by decide +kernel
theorem dX12_solves_95 : decode cX12_solves 95 = .ok (.iload_n 2, 1) := by decide +kernel
theorem dX12_solves_96 : decode cX12_solves 96 = .ok (.invokevirtual 238, 3) := by decide +kernel
theorem dX12_solves_99 : decode cX12_solves 99 = .ok (.aload_n 0, 1) := by decide +kernel
theorem dX12_solves_100 : decode cX12_solves 100 = .ok (.getfield 324, 3) := by decide +kernel
theorem dX12_solves_103 : decode cX12_solves 103 = .ok (.isub, 1) := by decide +kernel
theorem dX12_solves_104 : decode cX12_solves 104 = .ok (.ireturn, 1) := by decide +kernel
set_option maxHeartbeats 4000000 in
set_option maxRecDepth 100000 in
theorem s_X12_solves {P : PP} {a0 : Nat} {a1 : Int32} {a2 : Int32} {a3 : Int32} {a4 : Int32} (I : IM P a0) (hW : MW P a0) : CtrI yX12_solves cX12_solves 5 (some Jvm.ClassFile.FieldType.int) ({ frames := 5, cells := 0, slots := 0, locals := 320 } : Room) 0 0 P [.ref a0, .int a1, .int a2, .int a3, .int a4] (fun r P2 => IM P2 a0 ∧ EM [0, 28, 29, 30, 31, 32, 35, 36, 37, 38] a0 P P2 ∧ MW P2 a0 ∧ (True)) := by
  refine enI (lv := [(0, .ref a0), (1, .int a1), (2, .int a2), (3, .int a3), (4, .int a4)]) (by decide) (Nat.le_of_ble_eq_true rfl) rfl (fun E D cy C Ci0 ret => ?_)
  have ha0 := I.2.1
  have J25 : ∀ (P25 : PP), (IM P25 a0) → (EM [0, 28, 29, 30, 31, 32, 35, 36, 37, 38] a0 P P25) → (MW P25 a0) → (0 ≤ (pI P25 a0 0).toInt ∧ (pI P25 a0 0).toInt ≤ 0) → G E ({ frames := 5, cells := 0, slots := 0, locals := 320 } : Room) D cy 5 P25 0 0 25 [] [] := by
    intro P25 I25 X25 W25 hq25_0
    have h80367 := X25.at ha0
    refine g_iconst (v := (-1)) C dX12_solves_25 (by decide) ?_
    exact ret _ _ _ _ _ _ dX12_solves_26 rfl (by decide) (by decide) ⟨I25, X25, W25, trivial⟩
  refine g_aload_n C dX12_solves_0 rfl 0 rfl ?_
  refine g_iconst (v := 0) C dX12_solves_1 (by decide) ?_
  refine g_putI C fi_X12_1 rfl (ha0).1 (ha0).2 dX12_solves_2 ?_
  refine gqW (ks := [0]) (I.setI (rgOk.of rfl (by decide))) (EM.setI I (by decide)) (fun Y80368 Iy80369 Xy80370 w80371 => ?_)
  have w80371 : (pI Y80368 a0 0).toInt = 0 := w80371
  have W80372 := hW.keep I Xy80370 (by decide) (by decide) (by decide)
  have Xz80373 : EM [0, 28, 29, 30, 31, 32, 35, 36, 37, 38] a0 P Y80368 := Xy80370.mono (by decide)
  have h80374 := Xy80370.at ha0
  refine g_aload_n C dX12_solves_5 rfl 0 rfl ?_
  refine g_iload_n C dX12_solves_6 rfl 1 rfl ?_
  refine g_iload_n C dX12_solves_7 rfl 2 rfl ?_
  refine g_iload_n C dX12_solves_8 rfl 3 rfl ?_
  refine g_callVI (rest := []) C mv_X12_333 [.int a1, .int a2, .int a3] (s_X12_isAsked Iy80369 W80372) (h80374).1 (h80374).2 rfl rfl (by decide) (Nat.le_of_ble_eq_true rfl) (by decide) dX12_solves_9 (fun r80375 Y80376 h80377 => ?_)
  obtain ⟨rfl, h80377⟩ := h80377
  obtain ⟨h80377, hi80378, hi80379⟩ := h80377
  have hi80378 : r80375.toInt = 0 ∨ (((0 : Int) ≤ a1.toInt ∧ a1.toInt ≤ (3 : Int)) ∧ ((0 : Int) ≤ a2.toInt ∧ a2.toInt ≤ (1 : Int)) ∧ ((0 : Int) ≤ a3.toInt ∧ a3.toInt ≤ (1 : Int))) := hi80378
  have h80377 : 0 ≤ r80375.toInt ∧ r80375.toInt ≤ 1 := h80377
  refine b_if_eq C 25 dX12_solves_12 (by decide) (fun h80380 => ?_) (fun h80380 => ?_)
  · have h80380 : r80375.toInt = 0 := congrArg Int32.toInt h80380
    clear hi80378
    refine g_lv (lv' := []) [] rfl ?_
    exact J25 Y80368 Iy80369 Xz80373 W80372 (by omega)
  · have h80380 : r80375.toInt ≠ 0 := ti_ne h80380
    replace hi80378 := hi80378.resolve_left (by omega)
    obtain ⟨b80381, e80382, h80383⟩ := Iy80369.fld (h80374) 10 13 2 rfl
    have hi80379 := (hi80379.resolve_left (by omega)) b80381 e80382
    have hi80379 : 0 < (pI Y80368 b80381 (a2.toInt.toNat)).toInt := hi80379
    have h80384 := Iy80369.arr e80382 rfl (a2.toInt.toNat)
    refine g_iload C dX12_solves_15 4 rfl ?_
    refine g_iconst (v := 0) C dX12_solves_17 (by decide) ?_
    refine g_iconst (v := 3) C dX12_solves_18 (by decide) ?_
    refine g_callSI (b := 0) (ci := 0) (rest := []) C ms_X12_178 [.int a4, .int 0, .int 3] (s_X12_within Iy80369.1) rfl rfl (by decide) (Nat.le_of_ble_eq_true rfl) (by decide) dX12_solves_19 (fun r80385 Y80386 h80387 => ?_)
    obtain ⟨rfl, h80387⟩ := h80387
    obtain ⟨h80387, hi80388⟩ := h80387
    have hi80388 : r80385.toInt = 0 ∨ (0 ≤ a4.toInt ∧ a4.toInt ≤ 3) := hi80388
    have h80387 : 0 ≤ r80385.toInt ∧ r80385.toInt ≤ 1 := h80387
    refine b_if_ne C 27 dX12_solves_22 (by decide) (fun h80389 => ?_) (fun h80389 => ?_)
    · have h80389 : r80385.toInt ≠ 0 := ti_ne h80389
      replace hi80388 := hi80388.resolve_left (by omega)
      refine g_aload_n C dX12_solves_27 rfl 0 rfl ?_
      refine g_callVV (rest := []) C mv_X12_336 [] (s_X12_leavesNone Iy80369 W80372) (h80374).1 (h80374).2 rfl rfl (by decide) (Nat.le_of_ble_eq_true rfl) (by decide) dX12_solves_28 (fun Y80391 h80392 => ?_)
      obtain ⟨Iy80393, Xy80394, W80395⟩ := h80392
      have q80396 := Xy80394.keepF 0 (by decide)
      have q80397 := Xy80394.keepA e80382 (by decide) rfl (a2.toInt.toNat)
      have Xz80398 : EM [0, 28, 29, 30, 31, 32, 35, 36, 37, 38] a0 P Y80391 := EM.tr ha0 Xz80373 (Xy80394.mono (by decide))
      have e80399 := Xy80394.ref h80374 (by decide) e80382
      have h80400 := Xy80394.at h80374
      have h80401 := Xy80394.ar h80383
      refine g_aload_n C dX12_solves_31 rfl 0 rfl ?_
      refine g_iload_n C dX12_solves_32 rfl 1 rfl ?_
      refine g_iload_n C dX12_solves_33 rfl 2 rfl ?_
      refine g_iload_n C dX12_solves_34 rfl 3 rfl ?_
      refine g_aload_n C dX12_solves_35 rfl 0 rfl ?_
      obtain ⟨b80402, e80403, h80404⟩ := Iy80393.fld (h80400) 20 13 20 rfl
      refine g_getR C fi_X12_69 rfl e80403 (h80400).1 (h80400).2 dX12_solves_36 ?_
      refine g_iload_n C dX12_solves_39 rfl 1 rfl ?_
      refine g_iald (j := (a1.toInt.toNat)) C h80404.1 h80404.2.1 (ix_in h80404.2.2 (by omega)) dX12_solves_40 ?_
      have h80405 := Iy80393.arr e80403 rfl (a1.toInt.toNat)
      refine g_callVV (rest := []) C mv_X12_339 [.int a1, .int a2, .int a3, .int (pI Y80391 b80402 (a1.toInt.toNat))] (s_X12_gathers Iy80393 (by omega) (by omega) (by omega) (fun b9 e9 => by rw [e80399] at e9; cases e9; show 1 ≤ (pI Y80391 b80381 (a2.toInt.toNat)).toInt ∧ (pI Y80391 b80381 (a2.toInt.toNat)).toInt ≤ 16; omega) W80395) (h80400).1 (h80400).2 rfl rfl (by decide) (Nat.le_of_ble_eq_true rfl) (by decide) dX12_solves_41 (fun Y80407 h80408 => ?_)
      obtain ⟨Iy80409, Xy80410, W80411, p80412⟩ := h80408
      have p80412 : (pI Y80407 a0 28).toInt ≤ 4 + (pI Y80391 b80402 (a1.toInt.toNat)).toInt := p80412
      have q80413 := Xy80410.keepF 0 (by decide)
      have q80414 := Xy80410.keepA e80399 (by decide) rfl (a2.toInt.toNat)
      have q80415 := Xy80410.keepA e80403 (by decide) rfl (a1.toInt.toNat)
      have Xz80416 : EM [0, 28, 29, 30, 31, 32, 35, 36, 37, 38] a0 P Y80407 := EM.tr ha0 Xz80398 (Xy80410.mono (by decide))
      have e80417 := Xy80410.ref h80400 (by decide) e80399
      have e80418 := Xy80410.ref h80400 (by decide) e80403
      have h80419 := Xy80410.at h80400
      have h80420 := Xy80410.ar h80401
      have h80421 := Xy80410.ar h80404
      have h80422 := Iy80409.rg h80419 28 rfl
      refine g_aload_n C dX12_solves_44 rfl 0 rfl ?_
      refine g_callVV (rest := []) C mv_X12_346 [] (s_X12_findSolved Iy80409 W80411) (h80419).1 (h80419).2 rfl rfl (by decide) (Nat.le_of_ble_eq_true rfl) (by decide) dX12_solves_45 (fun Y80424 h80425 => ?_)
      obtain ⟨Iy80426, Xy80427, W80428⟩ := h80425
      have q80429 := Xy80427.keepF 0 (by decide)
      have q80430 := Xy80427.keepA e80417 (by decide) rfl (a2.toInt.toNat)
      have q80431 := Xy80427.keepA e80418 (by decide) rfl (a1.toInt.toNat)
      have q80432 := Xy80427.keepF 28 (by decide)
      have Xz80433 : EM [0, 28, 29, 30, 31, 32, 35, 36, 37, 38] a0 P Y80424 := EM.tr ha0 Xz80416 (Xy80427.mono (by decide))
      have e80434 := Xy80427.ref h80419 (by decide) e80417
      have e80435 := Xy80427.ref h80419 (by decide) e80418
      have h80436 := Xy80427.at h80419
      have h80437 := Xy80427.ar h80420
      have h80438 := Xy80427.ar h80421
      refine g_iload C dX12_solves_48 4 rfl ?_
      refine b_if_ne C 60 dX12_solves_50 (by decide) (fun h80439 => ?_) (fun h80439 => ?_)
      · have h80439 : a4.toInt ≠ 0 := ti_ne h80439
        refine g_iload C dX12_solves_60 4 rfl ?_
        refine g_iconst (v := 1) C dX12_solves_62 (by decide) ?_
        refine b_icmp_ne C 81 dX12_solves_63 (by decide) (fun h80440 => ?_) (fun h80440 => ?_)
        · have h80440 : a4.toInt ≠ 1 := ti_ne h80440
          refine g_iload C dX12_solves_81 4 rfl ?_
          refine g_iconst (v := 2) C dX12_solves_83 (by decide) ?_
          refine b_icmp_ne C 94 dX12_solves_84 (by decide) (fun h80441 => ?_) (fun h80441 => ?_)
          · have h80441 : a4.toInt ≠ 2 := ti_ne h80441
            refine g_aload_n C dX12_solves_94 rfl 0 rfl ?_
            refine g_iload_n C dX12_solves_95 rfl 2 rfl ?_
            refine g_callVI (rest := []) C mv_X12_238 [.int a2] (s_X12_allOf Iy80426 (by omega) W80428) (h80436).1 (h80436).2 rfl rfl (by decide) (Nat.le_of_ble_eq_true rfl) (by decide) dX12_solves_96 (fun r80442 Y80443 h80444 => ?_)
            obtain ⟨rfl, h80444⟩ := h80444
            obtain ⟨h80444, hi80445⟩ := h80444
            obtain ⟨b80446, e80447, h80448⟩ := Iy80426.fld (h80436) 15 13 3 rfl
            have hi80445 : (r80442.toInt = 0 ∧ (pI Y80424 b80381 (a2.toInt.toNat)).toInt = 0) ∨ r80442.toInt = (pI Y80424 b80381 (a2.toInt.toNat)).toInt + (pI Y80424 b80446 (a2.toInt.toNat)).toInt := hi80445 b80381 b80446 e80434 e80447
            have h80449 := Iy80426.arr e80447 rfl (a2.toInt.toNat)
            have h80444 : 0 ≤ r80442.toInt ∧ r80442.toInt ≤ 20 := h80444
            refine g_aload_n C dX12_solves_99 rfl 0 rfl ?_
            refine g_getI C fi_X12_324 (by decide) (h80436).1 (h80436).2 dX12_solves_100 ?_
            refine a_isub C dX12_solves_103 (fun z80450 => ?_)
            exact ret _ _ _ _ _ _ dX12_solves_104 rfl (by decide) (by decide) ⟨Iy80426, Xz80433, W80428, trivial⟩
          · have h80441 : a4.toInt = 2 := congrArg Int32.toInt h80441
            refine g_aload_n C dX12_solves_87 rfl 0 rfl ?_
            refine g_getI C fi_X12_324 (by decide) (h80436).1 (h80436).2 dX12_solves_88 ?_
            refine g_goto C 104 dX12_solves_91 (by decide) ?_
            exact ret _ _ _ _ _ _ dX12_solves_104 rfl (by decide) (by decide) ⟨Iy80426, Xz80433, W80428, trivial⟩
        · have h80440 : a4.toInt = 1 := congrArg Int32.toInt h80440
          refine g_aload_n C dX12_solves_66 rfl 0 rfl ?_
          refine g_getI C fi_X12_326 (by decide) (h80436).1 (h80436).2 dX12_solves_67 ?_
          have h80452 := Iy80426.rg (h80436) 36 rfl
          refine b_if_eq C 77 dX12_solves_70 (by decide) (fun h80453 => ?_) (fun h80453 => ?_)
          · have h80453 : (pI Y80424 a0 36).toInt = 0 := congrArg Int32.toInt h80453
            refine g_iconst (v := 0) C dX12_solves_77 (by decide) ?_
            refine g_goto C 104 dX12_solves_78 (by decide) ?_
            exact ret _ _ _ _ _ _ dX12_solves_104 rfl (by decide) (by decide) ⟨Iy80426, Xz80433, W80428, trivial⟩
          · have h80453 : (pI Y80424 a0 36).toInt ≠ 0 := ti_ne h80453
            refine g_iconst (v := 1) C dX12_solves_73 (by decide) ?_
            refine g_goto C 104 dX12_solves_74 (by decide) ?_
            exact ret _ _ _ _ _ _ dX12_solves_104 rfl (by decide) (by decide) ⟨Iy80426, Xz80433, W80428, trivial⟩
      · have h80439 : a4.toInt = 0 := congrArg Int32.toInt h80439
        refine g_aload_n C dX12_solves_53 rfl 0 rfl ?_
        refine g_callVI (rest := []) C mv_X12_349 [] (s_X12_fixedSet Iy80426 W80428) (h80436).1 (h80436).2 rfl rfl (by decide) (Nat.le_of_ble_eq_true rfl) (by decide) dX12_solves_54 (fun r80454 Y80455 h80456 => ?_)
        obtain ⟨rfl, h80456⟩ := h80456
        have h80456 : True := h80456
        refine g_goto C 104 dX12_solves_57 (by decide) ?_
        exact ret _ _ _ _ _ _ dX12_solves_104 rfl (by decide) (by decide) ⟨Iy80426, Xz80433, W80428, trivial⟩
    · have h80389 : r80385.toInt = 0 := congrArg Int32.toInt h80389
      clear hi80388
      refine g_lv (lv' := []) [] rfl ?_
      exact J25 Y80368 Iy80369 Xz80373 W80372 (by omega)
theorem dX12_soon_0 : decode cX12_soon 0 = .ok (.aload_n 0, 1) := by decide +kernel
theorem dX12_soon_1 : decode cX12_soon 1 = .ok (.iconst 0, 1) := by decide +kernel
theorem dX12_soon_2 : decode cX12_soon 2 = .ok (.putfield 1, 3) := by decide +kernel
theorem dX12_soon_5 : decode cX12_soon 5 = .ok (.iload_n 1, 1) := by decide +kernel
theorem dX12_soon_6 : decode cX12_soon 6 = .ok (.invokestatic 278, 3) := by decide +kernel
theorem dX12_soon_9 : decode cX12_soon 9 = .ok (.ifCond .eq 30, 3) := by decide +kernel
theorem dX12_soon_12 : decode cX12_soon 12 = .ok (.aload_n 0, 1) := by decide +kernel
theorem dX12_soon_13 : decode cX12_soon 13 = .ok (.iload_n 2, 1) := by decide +kernel
theorem dX12_soon_14 : decode cX12_soon 14 = .ok (.invokevirtual 192, 3) := by decide +kernel
theorem dX12_soon_17 : decode cX12_soon 17 = .ok (.ifCond .eq 22, 3) := by decide +kernel
theorem dX12_soon_20 : decode cX12_soon 20 = .ok (.aload_n 0, 1) := by decide +kernel
theorem dX12_soon_21 : decode cX12_soon 21 = .ok (.iload_n 2, 1) := by decide +kernel
theorem dX12_soon_22 : decode cX12_soon 22 = .ok (.iload_n 3, 1) := by decide +kernel
theorem dX12_soon_23 : decode cX12_soon 23 = .ok (.invokevirtual 352, 3) := by decide +kernel
theorem dX12_soon_26 : decode cX12_soon 26 = .ok (.ifCond .eq 13, 3) := by decide +kernel
theorem dX12_soon_29 : decode cX12_soon 29 = .ok (.iload 4, 2) := by decide +kernel
theorem dX12_soon_31 : decode cX12_soon 31 = .ok (.iconst 0, 1) := by decide +kernel
theorem dX12_soon_32 : decode cX12_soon 32 = .ok (.iconst 1, 1) := by decide +kernel
theorem dX12_soon_33 : decode cX12_soon 33 = .ok (.invokestatic 178, 3) := by decide +kernel
theorem dX12_soon_36 : decode cX12_soon 36 = .ok (.ifCond .ne 5, 3) := by decide +kernel
theorem dX12_soon_39 : decode cX12_soon 39 = .ok (.iconst (-1), 1) := by decide +kernel
theorem dX12_soon_40 : decode cX12_soon 40 = .ok (.ireturn, 1) := by decide +kernel
theorem dX12_soon_41 : decode cX12_soon 41 = .ok (.aload_n 0, 1) := by decide +kernel
theorem dX12_soon_42 : decode cX12_soon 42 = .ok (.invokevirtual 336, 3) := by decide +kernel
theorem dX12_soon_45 : decode cX12_soon 45 = .ok (.iconst 0, 1) := by decide +kernel
theorem dX12_soon_46 : decode cX12_soon 46 = .ok (.istore 5, 2) := by decide +kernel
theorem dX12_soon_48 : decode cX12_soon 48 = .ok (.iload 5, 2) := by decide +kernel
theorem dX12_soon_50 : decode cX12_soon 50 = .ok (.aload_n 0, 1) := by decide +kernel
theorem dX12_soon_51 : decode cX12_soon 51 = .ok (.getfield 69, 3) := by decide +kernel
theorem dX12_soon_54 : decode cX12_soon 54 = .ok (.iload_n 1, 1) := by decide +kernel
theorem dX12_soon_55 : decode cX12_soon 55 = .ok (.iaload, 1) := by decide +kernel
theorem dX12_soon_56 : decode cX12_soon 56 = .ok (.if_icmp .gt 26, 3) := by decide +kernel
theorem dX12_soon_59 : decode cX12_soon 59 = .ok (.aload_n 0, 1) := by decide +kernel
theorem dX12_soon_60 : decode cX12_soon 60 = .ok (.iload_n 1, 1) := by decide +kernel
theorem dX12_soon_61 : decode cX12_soon 61 = .ok (.iload_n 2, 1) := by decide +kernel
theorem dX12_soon_62 : decode cX12_soon 62 = .ok (.iload_n 3, 1) := by decide +kernel
theorem dX12_soon_63 : decode cX12_soon 63 = .ok (.iload 4, 2) := by decide +kernel
theorem dX12_soon_65 : decode cX12_soon 65 = .ok (.iload 5, 2) := by decide +kernel
theorem dX12_soon_67 : decode cX12_soon 67 = .ok (.invokevirtual 355, 3) := by decide +kernel
theorem dX12_soon_70 : decode cX12_soon 70 = .ok (.ifCond .lt 6, 3) := by decide +kernel
theorem dX12_soon_73 : decode cX12_soon 73 = .ok (.iload 5, 2) := by decide +kernel
theorem dX12_soon_75 : decode cX12_soon 75 = .ok (.ireturn, 1) := by decide +kernel
theorem dX12_soon_76 : decode cX12_soon 76 = .ok (.iinc 5 1, 3) := by decide +kernel
theorem dX12_soon_79 : decode cX12_soon 79 = .ok (.goto (-31), 3) := by decide +kernel
theorem dX12_soon_82 : decode cX12_soon 82 = .ok (.iconst (-1), 1) := by decide +kernel
theorem dX12_soon_83 : decode cX12_soon 83 = .ok (.ireturn, 1) := by decide +kernel
set_option maxHeartbeats 4000000 in
set_option maxRecDepth 100000 in
theorem s_X12_soon {P : PP} {a0 : Nat} {a1 : Int32} {a2 : Int32} {a3 : Int32} {a4 : Int32} (I : IM P a0) (hW : MW P a0) : CtrI yX12_soon cX12_soon 6 (some Jvm.ClassFile.FieldType.int) ({ frames := 6, cells := 0, slots := 0, locals := 384 } : Room) 0 0 P [.ref a0, .int a1, .int a2, .int a3, .int a4] (fun r P2 => IM P2 a0 ∧ EM [0, 28, 29, 30, 31, 32, 33, 34, 35, 36, 37, 38] a0 P P2 ∧ MW P2 a0 ∧ (-1 ≤ r.toInt ∧ r.toInt ≤ 40)) := by
  refine enI (lv := [(0, .ref a0), (1, .int a1), (2, .int a2), (3, .int a3), (4, .int a4)]) (by decide) (Nat.le_of_ble_eq_true rfl) rfl (fun E D cy C Ci0 ret => ?_)
  have ha0 := I.2.1
  have J48 : ∀ (n48 : Nat) (P48 : PP) (v48_5 : Int32), (41 - v48_5.toInt).toNat < n48 → (IM P48 a0) → (EM [0, 28, 29, 30, 31, 32, 33, 34, 35, 36, 37, 38] a0 P P48) → (MW P48 a0) → (0 ≤ a1.toInt ∧ a1.toInt ≤ 3) → (0 ≤ a2.toInt ∧ a2.toInt ≤ 1) → (0 ≤ a3.toInt ∧ a3.toInt ≤ 19) → (0 ≤ a4.toInt ∧ a4.toInt ≤ 1) → (0 ≤ v48_5.toInt ∧ v48_5.toInt ≤ 41) → (0 ≤ (pI P48 a0 0).toInt ∧ (pI P48 a0 0).toInt ≤ 0) → (∀ b, pR P48 a0 10 = some b → 1 ≤ (pI P48 b (a2.toInt.toNat)).toInt ∧ (pI P48 b (a2.toInt.toNat)).toInt ≤ 16) → G E ({ frames := 6, cells := 0, slots := 0, locals := 384 } : Room) D cy 6 P48 0 0 48 [(0, .ref a0), (1, .int a1), (2, .int a2), (3, .int a3), (4, .int a4), (5, .int v48_5)] [] := by
    intro n48
    induction n48 with
    | zero => intro P48 v48_5 hm48 I48 X48 W48 hv48_1 hv48_2 hv48_3 hv48_4 hv48_5 hq48_0 hq48_1; omega
    | succ n48 ih48 =>
      intro P48 v48_5 hm48 I48 X48 W48 hv48_1 hv48_2 hv48_3 hv48_4 hv48_5 hq48_0 hq48_1
      have h80950 := X48.at ha0
      obtain ⟨b80951, e80952, h80953⟩ := I48.fld (h80950) 10 13 2 rfl
      have hq48_1 := hq48_1 b80951 e80952
      refine g_iload C dX12_soon_48 5 rfl ?_
      refine g_aload_n C dX12_soon_50 rfl 0 rfl ?_
      obtain ⟨b80954, e80955, h80956⟩ := I48.fld (h80950) 20 13 20 rfl
      refine g_getR C fi_X12_69 rfl e80955 (h80950).1 (h80950).2 dX12_soon_51 ?_
      refine g_iload_n C dX12_soon_54 rfl 1 rfl ?_
      refine g_iald (j := (a1.toInt.toNat)) C h80956.1 h80956.2.1 (ix_in h80956.2.2 (by omega)) dX12_soon_55 ?_
      have h80957 := I48.arr e80955 rfl (a1.toInt.toNat)
      refine b_icmp_gt C 82 dX12_soon_56 (by decide) (fun h80958 => ?_) (fun h80958 => ?_)
      · have h80958 : (pI P48 b80954 (a1.toInt.toNat)).toInt < v48_5.toInt := h80958
        refine g_iconst (v := (-1)) C dX12_soon_82 (by decide) ?_
        exact ret _ _ _ _ _ _ dX12_soon_83 rfl (by decide) (by decide) ⟨I48, X48, W48, (by decide)⟩
      · have h80958 : v48_5.toInt ≤ (pI P48 b80954 (a1.toInt.toNat)).toInt := h80958
        refine g_aload_n C dX12_soon_59 rfl 0 rfl ?_
        refine g_iload_n C dX12_soon_60 rfl 1 rfl ?_
        refine g_iload_n C dX12_soon_61 rfl 2 rfl ?_
        refine g_iload_n C dX12_soon_62 rfl 3 rfl ?_
        refine g_iload C dX12_soon_63 4 rfl ?_
        refine g_iload C dX12_soon_65 5 rfl ?_
        refine g_callVI (rest := []) C mv_X12_355 [.int a1, .int a2, .int a3, .int a4, .int v48_5] (s_X12_readBy I48 (by omega) (by omega) (by omega) (by omega) (fun b9 e9 => by rw [e80952] at e9; cases e9; show 1 ≤ (pI P48 b80951 (a2.toInt.toNat)).toInt ∧ (pI P48 b80951 (a2.toInt.toNat)).toInt ≤ 16; omega) W48) (h80950).1 (h80950).2 rfl rfl (by decide) (Nat.le_of_ble_eq_true rfl) (by decide) dX12_soon_67 (fun r80959 Y80960 h80961 => ?_)
        obtain ⟨Iy80962, Xy80963, W80964, h80961⟩ := h80961
        have q80965 := Xy80963.keepF 0 (by decide)
        have q80966 := Xy80963.keepA e80952 (by decide) rfl (a2.toInt.toNat)
        have q80967 := Xy80963.keepA e80955 (by decide) rfl (a1.toInt.toNat)
        have Xz80968 : EM [0, 28, 29, 30, 31, 32, 33, 34, 35, 36, 37, 38] a0 P Y80960 := EM.tr ha0 X48 (Xy80963.mono (by decide))
        have e80969 := Xy80963.ref h80950 (by decide) e80952
        have e80970 := Xy80963.ref h80950 (by decide) e80955
        have h80971 := Xy80963.at h80950
        have h80972 := Xy80963.ar h80953
        have h80973 := Xy80963.ar h80956
        have h80961 : True := h80961
        have u80975 := ti_rng r80959
        refine b_if_lt C 76 dX12_soon_70 (by decide) (fun h80974 => ?_) (fun h80974 => ?_)
        · have h80974 : r80959.toInt < 0 := h80974
          refine s_iinc (lv0 := [(0, .ref a0), (1, .int a1), (2, .int a2), (3, .int a3), (4, .int a4)]) (m := 1) C dX12_soon_76 5 rfl (by decide) rfl (by decide) (by omega) (fun z80976 h80977 => ?_)
          have h80977 : z80976.toInt = v48_5.toInt + 1 := h80977
          refine g_goto C 48 dX12_soon_79 (by decide) ?_
          refine g_lv (lv' := [(0, .ref a0), (1, .int a1), (2, .int a2), (3, .int a3), (4, .int a4), (5, .int z80976)]) [1, 2, 3, 4, 5, 0] rfl ?_
          exact ih48 Y80960 z80976 (by omega) Iy80962 Xz80968 W80964 (by omega) (by omega) (by omega) (by omega) (by omega) (by omega) (fun b9 e9 => by rw [e80969] at e9; cases e9; omega)
        · have h80974 : 0 ≤ r80959.toInt := h80974
          refine g_iload C dX12_soon_73 5 rfl ?_
          exact ret _ _ _ _ _ _ dX12_soon_75 rfl (by decide) (by decide) ⟨Iy80962, Xz80968, W80964, (by omega)⟩
  have J39 : ∀ (P39 : PP), (IM P39 a0) → (EM [0, 28, 29, 30, 31, 32, 33, 34, 35, 36, 37, 38] a0 P P39) → (MW P39 a0) → (0 ≤ (pI P39 a0 0).toInt ∧ (pI P39 a0 0).toInt ≤ 0) → G E ({ frames := 6, cells := 0, slots := 0, locals := 384 } : Room) D cy 6 P39 0 0 39 [] [] := by
    intro P39 I39 X39 W39 hq39_0
    have h80978 := X39.at ha0
    refine g_iconst (v := (-1)) C dX12_soon_39 (by decide) ?_
    exact ret _ _ _ _ _ _ dX12_soon_40 rfl (by decide) (by decide) ⟨I39, X39, W39, (by decide)⟩
  refine g_aload_n C dX12_soon_0 rfl 0 rfl ?_
  refine g_iconst (v := 0) C dX12_soon_1 (by decide) ?_
  refine g_putI C fi_X12_1 rfl (ha0).1 (ha0).2 dX12_soon_2 ?_
  refine gqW (ks := [0]) (I.setI (rgOk.of rfl (by decide))) (EM.setI I (by decide)) (fun Y80979 Iy80980 Xy80981 w80982 => ?_)
  have w80982 : (pI Y80979 a0 0).toInt = 0 := w80982
  have W80983 := hW.keep I Xy80981 (by decide) (by decide) (by decide)
  have Xz80984 : EM [0, 28, 29, 30, 31, 32, 33, 34, 35, 36, 37, 38] a0 P Y80979 := Xy80981.mono (by decide)
  have h80985 := Xy80981.at ha0
  refine g_iload_n C dX12_soon_5 rfl 1 rfl ?_
  refine g_callSI (b := 0) (ci := 0) (rest := []) C ms_X12_278 [.int a1] (s_X12_isQuarter Iy80980.1) rfl rfl (by decide) (Nat.le_of_ble_eq_true rfl) (by decide) dX12_soon_6 (fun r80986 Y80987 h80988 => ?_)
  obtain ⟨rfl, h80988⟩ := h80988
  obtain ⟨h80988, hi80989⟩ := h80988
  have hi80989 : r80986.toInt = 0 ∨ (((0 : Int) ≤ a1.toInt ∧ a1.toInt ≤ (3 : Int))) := hi80989
  have h80988 : 0 ≤ r80986.toInt ∧ r80986.toInt ≤ 1 := h80988
  refine b_if_eq C 39 dX12_soon_9 (by decide) (fun h80990 => ?_) (fun h80990 => ?_)
  · have h80990 : r80986.toInt = 0 := congrArg Int32.toInt h80990
    clear hi80989
    refine g_lv (lv' := []) [] rfl ?_
    exact J39 Y80979 Iy80980 Xz80984 W80983 (by omega)
  · have h80990 : r80986.toInt ≠ 0 := ti_ne h80990
    replace hi80989 := hi80989.resolve_left (by omega)
    refine g_aload_n C dX12_soon_12 rfl 0 rfl ?_
    refine g_iload_n C dX12_soon_13 rfl 2 rfl ?_
    refine g_callVI (rest := []) C mv_X12_192 [.int a2] (s_X12_isBook Iy80980 W80983) (h80985).1 (h80985).2 rfl rfl (by decide) (Nat.le_of_ble_eq_true rfl) (by decide) dX12_soon_14 (fun r80991 Y80992 h80993 => ?_)
    obtain ⟨rfl, h80993⟩ := h80993
    obtain ⟨h80993, hi80994, hi80995⟩ := h80993
    have hi80994 : r80991.toInt = 0 ∨ (((0 : Int) ≤ a2.toInt ∧ a2.toInt ≤ (1 : Int))) := hi80994
    have h80993 : 0 ≤ r80991.toInt ∧ r80991.toInt ≤ 1 := h80993
    refine b_if_eq C 39 dX12_soon_17 (by decide) (fun h80996 => ?_) (fun h80996 => ?_)
    · have h80996 : r80991.toInt = 0 := congrArg Int32.toInt h80996
      clear hi80994
      refine g_lv (lv' := []) [] rfl ?_
      exact J39 Y80979 Iy80980 Xz80984 W80983 (by omega)
    · have h80996 : r80991.toInt ≠ 0 := ti_ne h80996
      replace hi80994 := hi80994.resolve_left (by omega)
      obtain ⟨b80997, e80998, h80999⟩ := Iy80980.fld (h80985) 10 13 2 rfl
      have hi80995 := (hi80995.resolve_left (by omega)) b80997 e80998
      have hi80995 : 0 < (pI Y80979 b80997 (a2.toInt.toNat)).toInt := hi80995
      have h81000 := Iy80980.arr e80998 rfl (a2.toInt.toNat)
      refine g_aload_n C dX12_soon_20 rfl 0 rfl ?_
      refine g_iload_n C dX12_soon_21 rfl 2 rfl ?_
      refine g_iload_n C dX12_soon_22 rfl 3 rfl ?_
      refine g_callVI (rest := []) C mv_X12_352 [.int a2, .int a3] (s_X12_isPage Iy80980 (by omega) W80983) (h80985).1 (h80985).2 rfl rfl (by decide) (Nat.le_of_ble_eq_true rfl) (by decide) dX12_soon_23 (fun r81001 Y81002 h81003 => ?_)
      obtain ⟨rfl, h81003⟩ := h81003
      obtain ⟨h81003, hi81004⟩ := h81003
      have hi81004 : r81001.toInt = 0 ∨ (((0 : Int) ≤ a3.toInt ∧ a3.toInt ≤ (19 : Int))) := hi81004
      have h81003 : 0 ≤ r81001.toInt ∧ r81001.toInt ≤ 1 := h81003
      refine b_if_eq C 39 dX12_soon_26 (by decide) (fun h81005 => ?_) (fun h81005 => ?_)
      · have h81005 : r81001.toInt = 0 := congrArg Int32.toInt h81005
        clear hi81004
        refine g_lv (lv' := []) [] rfl ?_
        exact J39 Y80979 Iy80980 Xz80984 W80983 (by omega)
      · have h81005 : r81001.toInt ≠ 0 := ti_ne h81005
        replace hi81004 := hi81004.resolve_left (by omega)
        refine g_iload C dX12_soon_29 4 rfl ?_
        refine g_iconst (v := 0) C dX12_soon_31 (by decide) ?_
        refine g_iconst (v := 1) C dX12_soon_32 (by decide) ?_
        refine g_callSI (b := 0) (ci := 0) (rest := []) C ms_X12_178 [.int a4, .int 0, .int 1] (s_X12_within Iy80980.1) rfl rfl (by decide) (Nat.le_of_ble_eq_true rfl) (by decide) dX12_soon_33 (fun r81006 Y81007 h81008 => ?_)
        obtain ⟨rfl, h81008⟩ := h81008
        obtain ⟨h81008, hi81009⟩ := h81008
        have hi81009 : r81006.toInt = 0 ∨ (0 ≤ a4.toInt ∧ a4.toInt ≤ 1) := hi81009
        have h81008 : 0 ≤ r81006.toInt ∧ r81006.toInt ≤ 1 := h81008
        refine b_if_ne C 41 dX12_soon_36 (by decide) (fun h81010 => ?_) (fun h81010 => ?_)
        · have h81010 : r81006.toInt ≠ 0 := ti_ne h81010
          replace hi81009 := hi81009.resolve_left (by omega)
          refine g_aload_n C dX12_soon_41 rfl 0 rfl ?_
          refine g_callVV (rest := []) C mv_X12_336 [] (s_X12_leavesNone Iy80980 W80983) (h80985).1 (h80985).2 rfl rfl (by decide) (Nat.le_of_ble_eq_true rfl) (by decide) dX12_soon_42 (fun Y81012 h81013 => ?_)
          obtain ⟨Iy81014, Xy81015, W81016⟩ := h81013
          have q81017 := Xy81015.keepF 0 (by decide)
          have q81018 := Xy81015.keepA e80998 (by decide) rfl (a2.toInt.toNat)
          have Xz81019 : EM [0, 28, 29, 30, 31, 32, 33, 34, 35, 36, 37, 38] a0 P Y81012 := EM.tr ha0 Xz80984 (Xy81015.mono (by decide))
          have e81020 := Xy81015.ref h80985 (by decide) e80998
          have h81021 := Xy81015.at h80985
          have h81022 := Xy81015.ar h80999
          refine g_iconst (v := 0) C dX12_soon_45 (by decide) ?_
          refine g_istore (lv' := [(5, .int 0), (0, .ref a0), (1, .int a1), (2, .int a2), (3, .int a3), (4, .int a4)]) C dX12_soon_46 (by decide) rfl ?_
          refine g_lv (lv' := [(0, .ref a0), (1, .int a1), (2, .int a2), (3, .int a3), (4, .int a4), (5, .int 0)]) [1, 2, 3, 4, 5, 0] rfl ?_
          exact J48 _ Y81012 0 (Nat.lt_succ_self _) Iy81014 Xz81019 W81016 (by omega) (by omega) (by omega) (by omega) (by decide) (by omega) (fun b9 e9 => by rw [e81020] at e9; cases e9; omega)
        · have h81010 : r81006.toInt = 0 := congrArg Int32.toInt h81010
          clear hi81009
          refine g_lv (lv' := []) [] rfl ?_
          exact J39 Y80979 Iy80980 Xz80984 W80983 (by omega)
theorem dX12_swap_0 : decode cX12_swap 0 = .ok (.aload_n 0, 1) := by decide +kernel
theorem dX12_swap_1 : decode cX12_swap 1 = .ok (.iconst 0, 1) := by decide +kernel
theorem dX12_swap_2 : decode cX12_swap 2 = .ok (.putfield 1, 3) := by decide +kernel
theorem dX12_swap_5 : decode cX12_swap 5 = .ok (.iload_n 1, 1) := by decide +kernel
theorem dX12_swap_6 : decode cX12_swap 6 = .ok (.invokestatic 278, 3) := by decide +kernel
theorem dX12_swap_9 : decode cX12_swap 9 = .ok (.ifCond .eq 25, 3) := by decide +kernel
theorem dX12_swap_12 : decode cX12_swap 12 = .ok (.iload_n 2, 1) := by decide +kernel
theorem dX12_swap_13 : decode cX12_swap 13 = .ok (.invokestatic 278, 3) := by decide +kernel
theorem dX12_swap_16 : decode cX12_swap 16 = .ok (.ifCond .eq 18, 3) := by decide +kernel
theorem dX12_swap_19 : decode cX12_swap 19 = .ok (.iload_n 1, 1) := by decide +kernel
theorem dX12_swap_20 : decode cX12_swap 20 = .ok (.iload_n 2, 1) := by decide +kernel
theorem dX12_swap_21 : decode cX12_swap 21 = .ok (.if_icmp .eq 13, 3) := by decide +kernel
theorem dX12_swap_24 : decode cX12_swap 24 = .ok (.iload_n 3, 1) := by decide +kernel
theorem dX12_swap_25 : decode cX12_swap 25 = .ok (.iconst 0, 1) := by decide +kernel
theorem dX12_swap_26 : decode cX12_swap 26 = .ok (.bipush 40, 2) := by decide +kernel
theorem dX12_swap_28 : decode cX12_swap 28 = .ok (.invokestatic 178, 3) := by decide +kernel
theorem dX12_swap_31 : decode cX12_swap 31 = .ok (.ifCond .ne 5, 3) := by decide +kernel
theorem dX12_swap_34 : decode cX12_swap 34 = .ok (.iconst (-1), 1) := by decide +kernel
theorem dX12_swap_35 : decode cX12_swap 35 = .ok (.ireturn, 1) := by decide +kernel
theorem dX12_swap_36 : decode cX12_swap 36 = .ok (.iconst 0, 1) := by decide +kernel
theorem dX12_swap_37 : decode cX12_swap 37 = .ok (.istore 4, 2) := by decide +kernel
theorem dX12_swap_39 : decode cX12_swap 39 = .ok (.iconst 0, 1) := by decide +kernel
theorem dX12_swap_40 : decode cX12_swap 40 = .ok (.istore 5, 2) := by decide +kernel
theorem dX12_swap_42 : decode cX12_swap 42 = .ok (.iload 5, 2) := by decide +kernel
theorem dX12_swap_44 : decode cX12_swap 44 = .ok (.aload_n 0, 1) := by decide +kernel
theorem dX12_swap_45 : decode cX12_swap 45 = .ok (.getfield 69, 3) := by decide +kernel
theorem dX12_swap_48 : decode cX12_swap 48 = .ok (.iload_n 1, 1) := by decide +kernel
theorem dX12_swap_49 : decode cX12_swap 49 = .ok (.iaload, 1) := by decide +kernel
theorem dX12_swap_50 : decode cX12_swap 50 = .ok (.if_icmp .ge 107, 3) := by decide +kernel
theorem dX12_swap_53 : decode cX12_swap 53 = .ok (.iload 4, 2) := by decide +kernel
theorem dX12_swap_55 : decode cX12_swap 55 = .ok (.iload_n 3, 1) := by decide +kernel
theorem dX12_swap_56 : decode cX12_swap 56 = .ok (.if_icmp .ge 101, 3) := by decide +kernel
theorem dX12_swap_59 : decode cX12_swap 59 = .ok (.bipush 40, 2) := by decide +kernel
theorem dX12_swap_61 : decode cX12_swap 61 = .ok (.iload_n 1, 1) := by decide +kernel
theorem dX12_swap_62 : decode cX12_swap 62 = .ok (.imul, 1) := by decide +kernel
theorem dX12_swap_63 : decode cX12_swap 63 = .ok (.iload 5, 2) := by decide +kernel
theorem dX12_swap_65 : decode cX12_swap 65 = .ok (.iadd, 1) := by decide +kernel
theorem dX12_swap_66 : decode cX12_swap 66 = .ok (.istore 6, 2) := by decide +kernel
theorem dX12_swap_68 : decode cX12_swap 68 = .ok (.aload_n 0, 1) := by decide +kernel
theorem dX12_swap_69 : decode cX12_swap 69 = .ok (.getfield 69, 3) := by decide +kernel
theorem dX12_swap_72 : decode cX12_swap 72 = .ok (.iload_n 2, 1) := by decide +kernel
theorem dX12_swap_73 : decode cX12_swap 73 = .ok (.iaload, 1) := by decide +kernel
theorem dX12_swap_74 : decode cX12_swap 74 = .ok (.bipush 40, 2) := by decide +kernel
theorem dX12_swap_76 : decode cX12_swap 76 = .ok (.if_icmp .ge 27, 3) := by decide +kernel
theorem dX12_swap_79 : decode cX12_swap 79 = .ok (.aload_n 0, 1) := by decide +kernel
theorem dX12_swap_80 : decode cX12_swap 80 = .ok (.getfield 75, 3) := by decide +kernel
theorem dX12_swap_83 : decode cX12_swap 83 = .ok (.iload 6, 2) := by decide +kernel
theorem dX12_swap_85 : decode cX12_swap 85 = .ok (.iaload, 1) := by decide +kernel
theorem dX12_swap_86 : decode cX12_swap 86 = .ok (.ifCond .ge 13, 3) := by decide +kernel
theorem dX12_swap_89 : decode cX12_swap 89 = .ok (.aload_n 0, 1) := by decide +kernel
theorem dX12_swap_90 : decode cX12_swap 90 = .ok (.iload_n 2, 1) := by decide +kernel
theorem dX12_swap_91 : decode cX12_swap 91 = .ok (.invokevirtual 295, 3) := by decide +kernel
theorem dX12_swap_94 : decode cX12_swap 94 = .ok (.bipush 6, 2) := by decide +kernel
theorem dX12_swap_96 : decode cX12_swap 96 = .ok (.if_icmp .ge 7, 3) := by decide +kernel
theorem dX12_swap_99 : decode cX12_swap 99 = .ok (.iconst 1, 1) := by decide +kernel
theorem dX12_swap_100 : decode cX12_swap 100 = .ok (.goto 4, 3) := by decide +kernel
theorem dX12_swap_103 : decode cX12_swap 103 = .ok (.iconst 0, 1) := by decide +kernel
theorem dX12_swap_104 : decode cX12_swap 104 = .ok (.istore 7, 2) := by decide +kernel
theorem dX12_swap_106 : decode cX12_swap 106 = .ok (.iload 7, 2) := by decide +kernel
theorem dX12_swap_108 : decode cX12_swap 108 = .ok (.ifCond .eq 43, 3) := by decide +kernel
theorem dX12_swap_111 : decode cX12_swap 111 = .ok (.aload_n 0, 1) := by decide +kernel
theorem dX12_swap_112 : decode cX12_swap 112 = .ok (.iload_n 2, 1) := by decide +kernel
theorem dX12_swap_113 : decode cX12_swap 113 = .ok (.iload 6, 2) := by decide +kernel
theorem dX12_swap_115 : decode cX12_swap 115 = .ok (.invokevirtual 405, 3) := by decide +kernel
theorem dX12_swap_118 : decode cX12_swap 118 = .ok (.ifCond .ne 33, 3) := by decide +kernel
theorem dX12_swap_121 : decode cX12_swap 121 = .ok (.aload_n 0, 1) := by decide +kernel
theorem dX12_swap_122 : decode cX12_swap 122 = .ok (.iload 6, 2) := by decide +kernel
theorem dX12_swap_124 : decode cX12_swap 124 = .ok (.bipush 40, 2) := by decide +kernel
theorem dX12_swap_126 : decode cX12_swap 126 = .ok (.iload_n 2, 1) := by decide +kernel
theorem dX12_swap_127 : decode cX12_swap 127 = .ok (.imul, 1) := by decide +kernel
theorem dX12_swap_128 : decode cX12_swap 128 = .ok (.aload_n 0, 1) := by decide +kernel
theorem dX12_swap_129 : decode cX12_swap 129 = .ok (.getfield 69, 3) := by decide +kernel
theorem dX12_swap_132 : decode cX12_swap 132 = .ok (.iload_n 2, 1) := by decide +kernel
theorem dX12_swap_133 : decode cX12_swap 133 = .ok (.iaload, 1) := by decide +kernel
theorem dX12_swap_134 : decode cX12_swap 134 = .ok (.iadd, 1) := by decide +kernel
theorem dX12_swap_135 : decode cX12_swap 135 = .ok (.invokevirtual 274, 3) := by decide +kernel
theorem dX12_swap_138 : decode cX12_swap 138 = .ok (.aload_n 0, 1) := by decide +kernel
theorem dX12_swap_139 : decode cX12_swap 139 = .ok (.getfield 69, 3) := by decide +kernel
theorem dX12_swap_142 : decode cX12_swap 142 = .ok (.iload_n 2, 1) := by decide +kernel
theorem dX12_swap_143 : decode cX12_swap 143 = .ok (.dup2, 1) := by decide +kernel
theorem dX12_swap_144 : decode cX12_swap 144 = .ok (.iaload, 1) := by decide +kernel
theorem dX12_swap_145 : decode cX12_swap 145 = .ok (.iconst 1, 1) := by decide +kernel
theorem dX12_swap_146 : decode cX12_swap 146 = .ok (.iadd, 1) := by decide +kernel
theorem dX12_swap_147 : decode cX12_swap 147 = .ok (.iastore, 1) := by decide +kernel
theorem dX12_swap_148 : decode cX12_swap 148 = .ok (.iinc 4 1, 3) := by decide +kernel
theorem dX12_swap_151 : decode cX12_swap 151 = .ok (.iinc 5 1, 3) := by decide +kernel
theorem dX12_swap_154 : decode cX12_swap 154 = .ok (.goto (-112), 3) := by decide +kernel
theorem dX12_swap_157 : decode cX12_swap 157 = .ok (.iload 4, 2) := by decide +kernel
theorem dX12_swap_159 : decode cX12_swap 159 = .ok (.ireturn, 1) := by decide +kernel
set_option maxHeartbeats 4000000 in
set_option maxRecDepth 100000 in
theorem s_X12_swap {P : PP} {a0 : Nat} {a1 : Int32} {a2 : Int32} {a3 : Int32} (I : IM P a0) (hW : MW P a0) : CtrI yX12_swap cX12_swap 8 (some Jvm.ClassFile.FieldType.int) ({ frames := 3, cells := 0, slots := 0, locals := 192 } : Room) 0 0 P [.ref a0, .int a1, .int a2, .int a3] (fun r P2 => IM P2 a0 ∧ EM [0, 20, 21, 22, 23, 24, 25] a0 P P2 ∧ MW P2 a0 ∧ (-1 ≤ r.toInt ∧ r.toInt ≤ 40)) := by
  refine enI (lv := [(0, .ref a0), (1, .int a1), (2, .int a2), (3, .int a3)]) (by decide) (Nat.le_of_ble_eq_true rfl) rfl (fun E D cy C Ci0 ret => ?_)
  have ha0 := I.2.1
  have J157 : ∀ (P157 : PP) (v157_4 : Int32), (IM P157 a0) → (EM [0, 20, 21, 22, 23, 24, 25] a0 P P157) → (MW P157 a0) → (0 ≤ v157_4.toInt ∧ v157_4.toInt ≤ 40) → (0 ≤ (pI P157 a0 0).toInt ∧ (pI P157 a0 0).toInt ≤ 0) → G E ({ frames := 3, cells := 0, slots := 0, locals := 192 } : Room) D cy 8 P157 0 0 157 [(4, .int v157_4)] [] := by
    intro P157 v157_4 I157 X157 W157 hv157_4 hq157_0
    have h82229 := X157.at ha0
    refine g_iload C dX12_swap_157 0 rfl ?_
    exact ret _ _ _ _ _ _ dX12_swap_159 rfl (by decide) (by decide) ⟨I157, X157, W157, (by omega)⟩
  have J42 : ∀ (n42 : Nat) (P42 : PP) (v42_4 : Int32) (v42_5 : Int32), (40 - v42_5.toInt).toNat < n42 → (IM P42 a0) → (EM [0, 20, 21, 22, 23, 24, 25] a0 P P42) → (MW P42 a0) → (0 ≤ a1.toInt ∧ a1.toInt ≤ 3) → (0 ≤ a2.toInt ∧ a2.toInt ≤ 3) → (0 ≤ a3.toInt ∧ a3.toInt ≤ 40) → (0 ≤ v42_4.toInt ∧ v42_4.toInt ≤ 40) → (0 ≤ v42_5.toInt ∧ v42_5.toInt ≤ 40) → (0 ≤ (pI P42 a0 0).toInt ∧ (pI P42 a0 0).toInt ≤ 0) → G E ({ frames := 3, cells := 0, slots := 0, locals := 192 } : Room) D cy 8 P42 0 0 42 [(0, .ref a0), (1, .int a1), (2, .int a2), (3, .int a3), (4, .int v42_4), (5, .int v42_5)] [] := by
    intro n42
    induction n42 with
    | zero => intro P42 v42_4 v42_5 hm42 I42 X42 W42 hv42_1 hv42_2 hv42_3 hv42_4 hv42_5 hq42_0; omega
    | succ n42 ih42 =>
      intro P42 v42_4 v42_5 hm42 I42 X42 W42 hv42_1 hv42_2 hv42_3 hv42_4 hv42_5 hq42_0
      have h82230 := X42.at ha0
      have J151 : ∀ (P151 : PP) (v151_4 : Int32), (IM P151 a0) → (EM [0, 20, 21, 22, 23, 24, 25] a0 P P151) → (MW P151 a0) → (0 ≤ a1.toInt ∧ a1.toInt ≤ 3) → (0 ≤ a2.toInt ∧ a2.toInt ≤ 3) → (1 ≤ a3.toInt ∧ a3.toInt ≤ 40) → (0 ≤ v151_4.toInt ∧ v151_4.toInt ≤ 40) → (0 ≤ v42_5.toInt ∧ v42_5.toInt ≤ 39) → (0 ≤ (pI P151 a0 0).toInt ∧ (pI P151 a0 0).toInt ≤ 0) → G E ({ frames := 3, cells := 0, slots := 0, locals := 192 } : Room) D cy 8 P151 0 0 151 [(0, .ref a0), (1, .int a1), (2, .int a2), (3, .int a3), (4, .int v151_4), (5, .int v42_5)] [] := by
        intro P151 v151_4 I151 X151 W151 hv151_1 hv151_2 hv151_3 hv151_4 hv151_5 hq151_0
        have h82231 := X151.at ha0
        refine s_iinc (lv0 := [(0, .ref a0), (1, .int a1), (2, .int a2), (3, .int a3), (4, .int v151_4)]) (m := 1) C dX12_swap_151 5 rfl (by decide) rfl (by decide) (by omega) (fun z82232 h82233 => ?_)
        have h82233 : z82232.toInt = v42_5.toInt + 1 := h82233
        refine g_goto C 42 dX12_swap_154 (by decide) ?_
        refine g_lv (lv' := [(0, .ref a0), (1, .int a1), (2, .int a2), (3, .int a3), (4, .int v151_4), (5, .int z82232)]) [1, 2, 3, 4, 5, 0] rfl ?_
        exact ih42 P151 v151_4 z82232 (by omega) I151 X151 W151 (by omega) (by omega) (by omega) (by omega) (by omega) (by omega)
      have J104 : ∀ (v104_6 : Int32) (v104_s0 : Int32), (0 ≤ a1.toInt ∧ a1.toInt ≤ 3) → (0 ≤ a2.toInt ∧ a2.toInt ≤ 3) → (1 ≤ a3.toInt ∧ a3.toInt ≤ 40) → (0 ≤ v42_4.toInt ∧ v42_4.toInt ≤ 39) → (0 ≤ v42_5.toInt ∧ v42_5.toInt ≤ 39) → (0 ≤ v104_6.toInt ∧ v104_6.toInt ≤ 159) → (0 ≤ v104_s0.toInt ∧ v104_s0.toInt ≤ 1) → (0 ≤ (pI P42 a0 0).toInt ∧ (pI P42 a0 0).toInt ≤ 0) → (∀ b, pR P42 a0 20 = some b → 1 ≤ (pI P42 b (a1.toInt.toNat)).toInt ∧ (pI P42 b (a1.toInt.toNat)).toInt ≤ 40) → (∀ b920, pR P42 a0 20 = some b920 → v104_s0.toInt = 0 ∨ (pI P42 b920 (a2.toInt.toNat)).toInt ≤ 39) → G E ({ frames := 3, cells := 0, slots := 0, locals := 192 } : Room) D cy 8 P42 0 0 104 [(0, .ref a0), (1, .int a1), (2, .int a2), (3, .int a3), (4, .int v42_4), (5, .int v42_5), (6, .int v104_6)] [.int v104_s0] := by
        intro v104_6 v104_s0 hv104_1 hv104_2 hv104_3 hv104_4 hv104_5 hv104_6 hv104_s0 hq104_0 hq104_1 rel104_0
        have h82234 := X42.at ha0
        obtain ⟨b82235, e82236, h82237⟩ := I42.fld (h82234) 20 13 20 rfl
        have hq104_1 := hq104_1 b82235 e82236
        have rel104_0 := rel104_0 b82235 e82236
        have h82238 := I42.arr e82236 rfl (a2.toInt.toNat)
        refine g_istore (lv' := [(7, .int v104_s0), (0, .ref a0), (1, .int a1), (2, .int a2), (3, .int a3), (4, .int v42_4), (5, .int v42_5), (6, .int v104_6)]) C dX12_swap_104 (by decide) rfl ?_
        refine g_iload C dX12_swap_106 0 rfl ?_
        refine b_if_eq C 151 dX12_swap_108 (by decide) (fun h82239 => ?_) (fun h82239 => ?_)
        · have h82239 : v104_s0.toInt = 0 := congrArg Int32.toInt h82239
          refine g_lv (lv' := [(0, .ref a0), (1, .int a1), (2, .int a2), (3, .int a3), (4, .int v42_4), (5, .int v42_5)]) [1, 2, 3, 4, 5, 6] rfl ?_
          exact J151 P42 v42_4 I42 X42 W42 (by omega) (by omega) (by omega) (by omega) (by omega) (by omega)
        · have h82239 : v104_s0.toInt ≠ 0 := ti_ne h82239
          refine g_aload_n C dX12_swap_111 rfl 1 rfl ?_
          refine g_iload_n C dX12_swap_112 rfl 3 rfl ?_
          refine g_iload C dX12_swap_113 7 rfl ?_
          refine g_callVI (rest := []) C mv_X12_405 [.int a2, .int v104_6] (s_X12_hasAlike I42 (by omega) (by omega) W42) (h82234).1 (h82234).2 rfl rfl (by decide) (Nat.le_of_ble_eq_true rfl) (by decide) dX12_swap_115 (fun r82240 Y82241 h82242 => ?_)
          obtain ⟨rfl, h82242⟩ := h82242
          have h82242 : 0 ≤ r82240.toInt ∧ r82240.toInt ≤ 1 := h82242
          refine b_if_ne C 151 dX12_swap_118 (by decide) (fun h82243 => ?_) (fun h82243 => ?_)
          · have h82243 : r82240.toInt ≠ 0 := ti_ne h82243
            refine g_lv (lv' := [(0, .ref a0), (1, .int a1), (2, .int a2), (3, .int a3), (4, .int v42_4), (5, .int v42_5)]) [1, 2, 3, 4, 5, 6] rfl ?_
            exact J151 P42 v42_4 I42 X42 W42 (by omega) (by omega) (by omega) (by omega) (by omega) (by omega)
          · have h82243 : r82240.toInt = 0 := congrArg Int32.toInt h82243
            refine g_aload_n C dX12_swap_121 rfl 1 rfl ?_
            refine g_iload C dX12_swap_122 7 rfl ?_
            refine g_bipush (v := 40) C dX12_swap_124 (by decide) ?_
            refine g_iload_n C dX12_swap_126 rfl 3 rfl ?_
            refine s_imul C dX12_swap_127 (by show -2147483648 ≤ 40 * a2.toInt ∧ 40 * a2.toInt ≤ 2147483647; omega) (fun z82244 h82245 => ?_)
            have h82245 : z82244.toInt = 40 * a2.toInt := h82245
            refine g_aload_n C dX12_swap_128 rfl 1 rfl ?_
            refine g_getR C fi_X12_69 rfl e82236 (h82234).1 (h82234).2 dX12_swap_129 ?_
            refine g_iload_n C dX12_swap_132 rfl 3 rfl ?_
            refine g_iald (j := (a2.toInt.toNat)) C h82237.1 h82237.2.1 (ix_in h82237.2.2 (by omega)) dX12_swap_133 ?_
            refine s_iadd C dX12_swap_134 (by show -2147483648 ≤ z82244.toInt + (pI P42 b82235 (a2.toInt.toNat)).toInt ∧ z82244.toInt + (pI P42 b82235 (a2.toInt.toNat)).toInt ≤ 2147483647; omega) (fun z82246 h82247 => ?_)
            have h82247 : z82246.toInt = z82244.toInt + (pI P42 b82235 (a2.toInt.toNat)).toInt := h82247
            refine g_callVV (rest := []) C mv_X12_274 [.int v104_6, .int z82246] (s_X12_moves I42 (by omega) (by omega) W42) (h82234).1 (h82234).2 rfl rfl (by decide) (Nat.le_of_ble_eq_true rfl) (by decide) dX12_swap_135 (fun Y82249 h82250 => ?_)
            obtain ⟨Iy82251, Xy82252, W82253⟩ := h82250
            have q82254 := Xy82252.keepF 0 (by decide)
            have q82255 := Xy82252.keepA e82236 (by decide) rfl (a1.toInt.toNat)
            have q82256 := Xy82252.keepA e82236 (by decide) rfl (a2.toInt.toNat)
            have Xz82257 : EM [0, 20, 21, 22, 23, 24, 25] a0 P Y82249 := EM.tr ha0 X42 (Xy82252.mono (by decide))
            have e82258 := Xy82252.ref h82234 (by decide) e82236
            have h82259 := Xy82252.at h82234
            have h82260 := Xy82252.ar h82237
            refine g_aload_n C dX12_swap_138 rfl 1 rfl ?_
            refine g_getR C fi_X12_69 rfl e82258 (h82259).1 (h82259).2 dX12_swap_139 ?_
            refine g_iload_n C dX12_swap_142 rfl 3 rfl ?_
            refine g_dup2_11 C dX12_swap_143 rfl rfl ?_
            refine g_iald (j := (a2.toInt.toNat)) C h82260.1 h82260.2.1 (ix_in h82260.2.2 (by omega)) dX12_swap_144 ?_
            refine g_iconst (v := 1) C dX12_swap_145 (by decide) ?_
            refine s_iadd C dX12_swap_146 (by show -2147483648 ≤ (pI Y82249 b82235 (a2.toInt.toNat)).toInt + 1 ∧ (pI Y82249 b82235 (a2.toInt.toNat)).toInt + 1 ≤ 2147483647; omega) (fun z82261 h82262 => ?_)
            have h82262 : z82261.toInt = (pI Y82249 b82235 (a2.toInt.toNat)).toInt + 1 := h82262
            refine g_iast (j := (a2.toInt.toNat)) C h82260.1 h82260.2.1 (ix_in h82260.2.2 (by omega)) dX12_swap_147 ?_
            refine gqW (ks := [20]) (Iy82251.setA e82258 h82260 (by decide) (arOk.of rfl (by omega))) (EM.setA Iy82251 e82258 rfl (by decide)) (fun Y82263 Iy82264 Xy82265 w82266 => ?_)
            have w82266 : (pI Y82263 b82235 (a2.toInt.toNat)).toInt = z82261.toInt := w82266
            have q82267 := Xy82265.keepF 0 (by decide)
            have W82268 := W82253.keep Iy82251 Xy82265 (by decide) (by decide) (by decide)
            have Xz82269 : EM [0, 20, 21, 22, 23, 24, 25] a0 P Y82263 := EM.tr ha0 Xz82257 (Xy82265.mono (by decide))
            have e82270 := Xy82265.ref h82259 (by decide) e82258
            have h82271 := Xy82265.at h82259
            have h82272 := Xy82265.ar h82260
            refine s_iinc (lv0 := [(7, .int v104_s0), (0, .ref a0), (1, .int a1), (2, .int a2), (3, .int a3), (5, .int v42_5), (6, .int v104_6)]) (m := 1) C dX12_swap_148 5 rfl (by decide) rfl (by decide) (by omega) (fun z82273 h82274 => ?_)
            have h82274 : z82273.toInt = v42_4.toInt + 1 := h82274
            refine g_lv (lv' := [(0, .ref a0), (1, .int a1), (2, .int a2), (3, .int a3), (4, .int z82273), (5, .int v42_5)]) [2, 3, 4, 5, 0, 6] rfl ?_
            exact J151 Y82263 z82273 Iy82264 Xz82269 W82268 (by omega) (by omega) (by omega) (by omega) (by omega) (by omega)
      have J103 : ∀ (v103_6 : Int32), (0 ≤ a1.toInt ∧ a1.toInt ≤ 3) → (0 ≤ a2.toInt ∧ a2.toInt ≤ 3) → (1 ≤ a3.toInt ∧ a3.toInt ≤ 40) → (0 ≤ v42_4.toInt ∧ v42_4.toInt ≤ 39) → (0 ≤ v42_5.toInt ∧ v42_5.toInt ≤ 39) → (0 ≤ v103_6.toInt ∧ v103_6.toInt ≤ 159) → (0 ≤ (pI P42 a0 0).toInt ∧ (pI P42 a0 0).toInt ≤ 0) → (∀ b, pR P42 a0 20 = some b → 1 ≤ (pI P42 b (a1.toInt.toNat)).toInt ∧ (pI P42 b (a1.toInt.toNat)).toInt ≤ 40) → (∀ b, pR P42 a0 20 = some b → 0 ≤ (pI P42 b (a2.toInt.toNat)).toInt ∧ (pI P42 b (a2.toInt.toNat)).toInt ≤ 40) → G E ({ frames := 3, cells := 0, slots := 0, locals := 192 } : Room) D cy 8 P42 0 0 103 [(0, .ref a0), (1, .int a1), (2, .int a2), (3, .int a3), (4, .int v42_4), (5, .int v42_5), (6, .int v103_6)] [] := by
        intro v103_6 hv103_1 hv103_2 hv103_3 hv103_4 hv103_5 hv103_6 hq103_0 hq103_1 hq103_2
        have h82275 := X42.at ha0
        obtain ⟨b82276, e82277, h82278⟩ := I42.fld (h82275) 20 13 20 rfl
        have hq103_1 := hq103_1 b82276 e82277
        have hq103_2 := hq103_2 b82276 e82277
        refine g_iconst (v := 0) C dX12_swap_103 (by decide) ?_
        exact J104 v103_6 0 (by omega) (by omega) (by omega) (by omega) (by omega) (by omega) (by decide) (by omega) (fun b9 e9 => by rw [e82277] at e9; cases e9; omega) (by intro b920 e920; rw [e82277] at e920; cases e920; show 0 = 0 ∨ (pI P42 b82276 (a2.toInt.toNat)).toInt ≤ 39; omega)
      have J99 : ∀ (v99_6 : Int32), (0 ≤ a1.toInt ∧ a1.toInt ≤ 3) → (0 ≤ a2.toInt ∧ a2.toInt ≤ 3) → (1 ≤ a3.toInt ∧ a3.toInt ≤ 40) → (0 ≤ v42_4.toInt ∧ v42_4.toInt ≤ 39) → (0 ≤ v42_5.toInt ∧ v42_5.toInt ≤ 39) → (0 ≤ v99_6.toInt ∧ v99_6.toInt ≤ 159) → (0 ≤ (pI P42 a0 0).toInt ∧ (pI P42 a0 0).toInt ≤ 0) → (∀ b, pR P42 a0 20 = some b → 1 ≤ (pI P42 b (a1.toInt.toNat)).toInt ∧ (pI P42 b (a1.toInt.toNat)).toInt ≤ 40) → (∀ b, pR P42 a0 20 = some b → 0 ≤ (pI P42 b (a2.toInt.toNat)).toInt ∧ (pI P42 b (a2.toInt.toNat)).toInt ≤ 39) → G E ({ frames := 3, cells := 0, slots := 0, locals := 192 } : Room) D cy 8 P42 0 0 99 [(0, .ref a0), (1, .int a1), (2, .int a2), (3, .int a3), (4, .int v42_4), (5, .int v42_5), (6, .int v99_6)] [] := by
        intro v99_6 hv99_1 hv99_2 hv99_3 hv99_4 hv99_5 hv99_6 hq99_0 hq99_1 hq99_2
        have h82279 := X42.at ha0
        obtain ⟨b82280, e82281, h82282⟩ := I42.fld (h82279) 20 13 20 rfl
        have hq99_1 := hq99_1 b82280 e82281
        have hq99_2 := hq99_2 b82280 e82281
        refine g_iconst (v := 1) C dX12_swap_99 (by decide) ?_
        refine g_goto C 104 dX12_swap_100 (by decide) ?_
        exact J104 v99_6 1 (by omega) (by omega) (by omega) (by omega) (by omega) (by omega) (by decide) (by omega) (fun b9 e9 => by rw [e82281] at e9; cases e9; omega) (by intro b920 e920; rw [e82281] at e920; cases e920; show 1 = 0 ∨ (pI P42 b82280 (a2.toInt.toNat)).toInt ≤ 39; omega)
      refine g_iload C dX12_swap_42 5 rfl ?_
      refine g_aload_n C dX12_swap_44 rfl 0 rfl ?_
      obtain ⟨b82283, e82284, h82285⟩ := I42.fld (h82230) 20 13 20 rfl
      refine g_getR C fi_X12_69 rfl e82284 (h82230).1 (h82230).2 dX12_swap_45 ?_
      refine g_iload_n C dX12_swap_48 rfl 1 rfl ?_
      refine g_iald (j := (a1.toInt.toNat)) C h82285.1 h82285.2.1 (ix_in h82285.2.2 (by omega)) dX12_swap_49 ?_
      have h82286 := I42.arr e82284 rfl (a1.toInt.toNat)
      refine b_icmp_ge C 157 dX12_swap_50 (by decide) (fun h82287 => ?_) (fun h82287 => ?_)
      · have h82287 : (pI P42 b82283 (a1.toInt.toNat)).toInt ≤ v42_5.toInt := h82287
        refine g_lv (lv' := [(4, .int v42_4)]) [4] rfl ?_
        exact J157 P42 v42_4 I42 X42 W42 (by omega) (by omega)
      · have h82287 : v42_5.toInt < (pI P42 b82283 (a1.toInt.toNat)).toInt := h82287
        refine g_iload C dX12_swap_53 4 rfl ?_
        refine g_iload_n C dX12_swap_55 rfl 3 rfl ?_
        refine b_icmp_ge C 157 dX12_swap_56 (by decide) (fun h82288 => ?_) (fun h82288 => ?_)
        · have h82288 : a3.toInt ≤ v42_4.toInt := h82288
          refine g_lv (lv' := [(4, .int v42_4)]) [4] rfl ?_
          exact J157 P42 v42_4 I42 X42 W42 (by omega) (by omega)
        · have h82288 : v42_4.toInt < a3.toInt := h82288
          refine g_bipush (v := 40) C dX12_swap_59 (by decide) ?_
          refine g_iload_n C dX12_swap_61 rfl 1 rfl ?_
          refine s_imul C dX12_swap_62 (by show -2147483648 ≤ 40 * a1.toInt ∧ 40 * a1.toInt ≤ 2147483647; omega) (fun z82289 h82290 => ?_)
          have h82290 : z82289.toInt = 40 * a1.toInt := h82290
          refine g_iload C dX12_swap_63 5 rfl ?_
          refine s_iadd C dX12_swap_65 (by show -2147483648 ≤ z82289.toInt + v42_5.toInt ∧ z82289.toInt + v42_5.toInt ≤ 2147483647; omega) (fun z82291 h82292 => ?_)
          have h82292 : z82291.toInt = z82289.toInt + v42_5.toInt := h82292
          refine g_istore (lv' := [(6, .int z82291), (0, .ref a0), (1, .int a1), (2, .int a2), (3, .int a3), (4, .int v42_4), (5, .int v42_5)]) C dX12_swap_66 (by decide) rfl ?_
          refine g_aload_n C dX12_swap_68 rfl 1 rfl ?_
          refine g_getR C fi_X12_69 rfl e82284 (h82230).1 (h82230).2 dX12_swap_69 ?_
          refine g_iload_n C dX12_swap_72 rfl 3 rfl ?_
          refine g_iald (j := (a2.toInt.toNat)) C h82285.1 h82285.2.1 (ix_in h82285.2.2 (by omega)) dX12_swap_73 ?_
          have h82293 := I42.arr e82284 rfl (a2.toInt.toNat)
          refine g_bipush (v := 40) C dX12_swap_74 (by decide) ?_
          refine b_icmp_ge C 103 dX12_swap_76 (by decide) (fun h82294 => ?_) (fun h82294 => ?_)
          · have h82294 : 40 ≤ (pI P42 b82283 (a2.toInt.toNat)).toInt := h82294
            refine g_lv (lv' := [(0, .ref a0), (1, .int a1), (2, .int a2), (3, .int a3), (4, .int v42_4), (5, .int v42_5), (6, .int z82291)]) [1, 2, 3, 4, 5, 6, 0] rfl ?_
            exact J103 z82291 (by omega) (by omega) (by omega) (by omega) (by omega) (by omega) (by omega) (fun b9 e9 => by rw [e82284] at e9; cases e9; omega) (fun b9 e9 => by rw [e82284] at e9; cases e9; omega)
          · have h82294 : (pI P42 b82283 (a2.toInt.toNat)).toInt < 40 := h82294
            refine g_aload_n C dX12_swap_79 rfl 1 rfl ?_
            obtain ⟨b82295, e82296, h82297⟩ := I42.fld (h82230) 22 13 800 rfl
            refine g_getR C fi_X12_75 rfl e82296 (h82230).1 (h82230).2 dX12_swap_80 ?_
            refine g_iload C dX12_swap_83 0 rfl ?_
            refine g_iald (j := (z82291.toInt.toNat)) C h82297.1 h82297.2.1 (ix_in h82297.2.2 (by omega)) dX12_swap_85 ?_
            have h82298 := I42.arr e82296 rfl (z82291.toInt.toNat)
            refine b_if_ge C 99 dX12_swap_86 (by decide) (fun h82299 => ?_) (fun h82299 => ?_)
            · have h82299 : 0 ≤ (pI P42 b82295 (z82291.toInt.toNat)).toInt := h82299
              refine g_lv (lv' := [(0, .ref a0), (1, .int a1), (2, .int a2), (3, .int a3), (4, .int v42_4), (5, .int v42_5), (6, .int z82291)]) [1, 2, 3, 4, 5, 6, 0] rfl ?_
              exact J99 z82291 (by omega) (by omega) (by omega) (by omega) (by omega) (by omega) (by omega) (fun b9 e9 => by rw [e82284] at e9; cases e9; omega) (fun b9 e9 => by rw [e82284] at e9; cases e9; omega)
            · have h82299 : (pI P42 b82295 (z82291.toInt.toNat)).toInt < 0 := h82299
              refine g_aload_n C dX12_swap_89 rfl 1 rfl ?_
              refine g_iload_n C dX12_swap_90 rfl 3 rfl ?_
              refine g_callVI (rest := []) C mv_X12_295 [.int a2] (s_X12_namelessIn I42 (by omega) W42) (h82230).1 (h82230).2 rfl rfl (by decide) (Nat.le_of_ble_eq_true rfl) (by decide) dX12_swap_91 (fun r82300 Y82301 h82302 => ?_)
              obtain ⟨rfl, h82302⟩ := h82302
              have h82302 : True := h82302
              refine g_bipush (v := 6) C dX12_swap_94 (by decide) ?_
              have u82304 := ti_rng r82300
              refine b_icmp_ge C 103 dX12_swap_96 (by decide) (fun h82303 => ?_) (fun h82303 => ?_)
              · have h82303 : 6 ≤ r82300.toInt := h82303
                refine g_lv (lv' := [(0, .ref a0), (1, .int a1), (2, .int a2), (3, .int a3), (4, .int v42_4), (5, .int v42_5), (6, .int z82291)]) [1, 2, 3, 4, 5, 6, 0] rfl ?_
                exact J103 z82291 (by omega) (by omega) (by omega) (by omega) (by omega) (by omega) (by omega) (fun b9 e9 => by rw [e82284] at e9; cases e9; omega) (fun b9 e9 => by rw [e82284] at e9; cases e9; omega)
              · have h82303 : r82300.toInt < 6 := h82303
                refine g_lv (lv' := [(0, .ref a0), (1, .int a1), (2, .int a2), (3, .int a3), (4, .int v42_4), (5, .int v42_5), (6, .int z82291)]) [1, 2, 3, 4, 5, 6, 0] rfl ?_
                exact J99 z82291 (by omega) (by omega) (by omega) (by omega) (by omega) (by omega) (by omega) (fun b9 e9 => by rw [e82284] at e9; cases e9; omega) (fun b9 e9 => by rw [e82284] at e9; cases e9; omega)
  have J34 : ∀ (P34 : PP), (IM P34 a0) → (EM [0, 20, 21, 22, 23, 24, 25] a0 P P34) → (MW P34 a0) → (0 ≤ (pI P34 a0 0).toInt ∧ (pI P34 a0 0).toInt ≤ 0) → G E ({ frames := 3, cells := 0, slots := 0, locals := 192 } : Room) D cy 8 P34 0 0 34 [] [] := by
    intro P34 I34 X34 W34 hq34_0
    have h82305 := X34.at ha0
    refine g_iconst (v := (-1)) C dX12_swap_34 (by decide) ?_
    exact ret _ _ _ _ _ _ dX12_swap_35 rfl (by decide) (by decide) ⟨I34, X34, W34, (by decide)⟩
  refine g_aload_n C dX12_swap_0 rfl 0 rfl ?_
  refine g_iconst (v := 0) C dX12_swap_1 (by decide) ?_
  refine g_putI C fi_X12_1 rfl (ha0).1 (ha0).2 dX12_swap_2 ?_
  refine gqW (ks := [0]) (I.setI (rgOk.of rfl (by decide))) (EM.setI I (by decide)) (fun Y82306 Iy82307 Xy82308 w82309 => ?_)
  have w82309 : (pI Y82306 a0 0).toInt = 0 := w82309
  have W82310 := hW.keep I Xy82308 (by decide) (by decide) (by decide)
  have Xz82311 : EM [0, 20, 21, 22, 23, 24, 25] a0 P Y82306 := Xy82308.mono (by decide)
  have h82312 := Xy82308.at ha0
  refine g_iload_n C dX12_swap_5 rfl 1 rfl ?_
  refine g_callSI (b := 0) (ci := 0) (rest := []) C ms_X12_278 [.int a1] (s_X12_isQuarter Iy82307.1) rfl rfl (by decide) (Nat.le_of_ble_eq_true rfl) (by decide) dX12_swap_6 (fun r82313 Y82314 h82315 => ?_)
  obtain ⟨rfl, h82315⟩ := h82315
  obtain ⟨h82315, hi82316⟩ := h82315
  have hi82316 : r82313.toInt = 0 ∨ (((0 : Int) ≤ a1.toInt ∧ a1.toInt ≤ (3 : Int))) := hi82316
  have h82315 : 0 ≤ r82313.toInt ∧ r82313.toInt ≤ 1 := h82315
  refine b_if_eq C 34 dX12_swap_9 (by decide) (fun h82317 => ?_) (fun h82317 => ?_)
  · have h82317 : r82313.toInt = 0 := congrArg Int32.toInt h82317
    clear hi82316
    refine g_lv (lv' := []) [] rfl ?_
    exact J34 Y82306 Iy82307 Xz82311 W82310 (by omega)
  · have h82317 : r82313.toInt ≠ 0 := ti_ne h82317
    replace hi82316 := hi82316.resolve_left (by omega)
    refine g_iload_n C dX12_swap_12 rfl 2 rfl ?_
    refine g_callSI (b := 0) (ci := 0) (rest := []) C ms_X12_278 [.int a2] (s_X12_isQuarter Iy82307.1) rfl rfl (by decide) (Nat.le_of_ble_eq_true rfl) (by decide) dX12_swap_13 (fun r82318 Y82319 h82320 => ?_)
    obtain ⟨rfl, h82320⟩ := h82320
    obtain ⟨h82320, hi82321⟩ := h82320
    have hi82321 : r82318.toInt = 0 ∨ (((0 : Int) ≤ a2.toInt ∧ a2.toInt ≤ (3 : Int))) := hi82321
    have h82320 : 0 ≤ r82318.toInt ∧ r82318.toInt ≤ 1 := h82320
    refine b_if_eq C 34 dX12_swap_16 (by decide) (fun h82322 => ?_) (fun h82322 => ?_)
    · have h82322 : r82318.toInt = 0 := congrArg Int32.toInt h82322
      clear hi82321
      refine g_lv (lv' := []) [] rfl ?_
      exact J34 Y82306 Iy82307 Xz82311 W82310 (by omega)
    · have h82322 : r82318.toInt ≠ 0 := ti_ne h82322
      replace hi82321 := hi82321.resolve_left (by omega)
      refine g_iload_n C dX12_swap_19 rfl 1 rfl ?_
      refine g_iload_n C dX12_swap_20 rfl 2 rfl ?_
      refine b_icmp_eq C 34 dX12_swap_21 (by decide) (fun h82323 => ?_) (fun h82323 => ?_)
      · have h82323 : a1.toInt = a2.toInt := congrArg Int32.toInt h82323
        refine g_lv (lv' := []) [] rfl ?_
        exact J34 Y82306 Iy82307 Xz82311 W82310 (by omega)
      · have h82323 : a1.toInt ≠ a2.toInt := ti_ne h82323
        refine g_iload_n C dX12_swap_24 rfl 3 rfl ?_
        refine g_iconst (v := 0) C dX12_swap_25 (by decide) ?_
        refine g_bipush (v := 40) C dX12_swap_26 (by decide) ?_
        refine g_callSI (b := 0) (ci := 0) (rest := []) C ms_X12_178 [.int a3, .int 0, .int 40] (s_X12_within Iy82307.1) rfl rfl (by decide) (Nat.le_of_ble_eq_true rfl) (by decide) dX12_swap_28 (fun r82324 Y82325 h82326 => ?_)
        obtain ⟨rfl, h82326⟩ := h82326
        obtain ⟨h82326, hi82327⟩ := h82326
        have hi82327 : r82324.toInt = 0 ∨ (0 ≤ a3.toInt ∧ a3.toInt ≤ 40) := hi82327
        have h82326 : 0 ≤ r82324.toInt ∧ r82324.toInt ≤ 1 := h82326
        refine b_if_ne C 36 dX12_swap_31 (by decide) (fun h82328 => ?_) (fun h82328 => ?_)
        · have h82328 : r82324.toInt ≠ 0 := ti_ne h82328
          replace hi82327 := hi82327.resolve_left (by omega)
          refine g_iconst (v := 0) C dX12_swap_36 (by decide) ?_
          refine g_istore (lv' := [(4, .int 0), (0, .ref a0), (1, .int a1), (2, .int a2), (3, .int a3)]) C dX12_swap_37 (by decide) rfl ?_
          refine g_iconst (v := 0) C dX12_swap_39 (by decide) ?_
          refine g_istore (lv' := [(5, .int 0), (4, .int 0), (0, .ref a0), (1, .int a1), (2, .int a2), (3, .int a3)]) C dX12_swap_40 (by decide) rfl ?_
          refine g_lv (lv' := [(0, .ref a0), (1, .int a1), (2, .int a2), (3, .int a3), (4, .int 0), (5, .int 0)]) [2, 3, 4, 5, 1, 0] rfl ?_
          exact J42 _ Y82306 0 0 (Nat.lt_succ_self _) Iy82307 Xz82311 W82310 (by omega) (by omega) (by omega) (by decide) (by decide) (by omega)
        · have h82328 : r82324.toInt = 0 := congrArg Int32.toInt h82328
          clear hi82327
          refine g_lv (lv' := []) [] rfl ?_
          exact J34 Y82306 Iy82307 Xz82311 W82310 (by omega)
theorem dX12_takeNumber_0 : decode cX12_takeNumber 0 = .ok (.aload_n 0, 1) := by decide +kernel
theorem dX12_takeNumber_1 : decode cX12_takeNumber 1 = .ok (.getfield 162, 3) := by decide +kernel
theorem dX12_takeNumber_4 : decode cX12_takeNumber 4 = .ok (.ifCond .ne 24, 3) := by decide +kernel
theorem dX12_takeNumber_7 : decode cX12_takeNumber 7 = .ok (.aload_n 0, 1) := by decide +kernel
theorem dX12_takeNumber_8 : decode cX12_takeNumber 8 = .ok (.getfield 24, 3) := by decide +kernel
theorem dX12_takeNumber_11 : decode cX12_takeNumber 11 = .ok (.aload_n 0, 1) := by decide +kernel
theorem dX12_takeNumber_12 : decode cX12_takeNumber 12 = .ok (.getfield 159, 3) := by decide +kernel
theorem dX12_takeNumber_15 : decode cX12_takeNumber 15 = .ok (.iaload, 1) := by decide +kernel
theorem dX12_takeNumber_16 : decode cX12_takeNumber 16 = .ok (.iconst 2, 1) := by decide +kernel
theorem dX12_takeNumber_17 : decode cX12_takeNumber 17 = .ok (.if_icmp .eq 11, 3) := by decide +kernel
theorem dX12_takeNumber_20 : decode cX12_takeNumber 20 = .ok (.aload_n 0, 1) := by decide +kernel
theorem dX12_takeNumber_21 : decode cX12_takeNumber 21 = .ok (.iconst 1, 1) := by decide +kernel
theorem dX12_takeNumber_22 : decode cX12_takeNumber 22 = .ok (.invokevirtual 168, 3) := by decide +kernel
theorem dX12_takeNumber_25 : decode cX12_takeNumber 25 = .ok (.goto 45, 3) := by decide +kernel
theorem dX12_takeNumber_28 : decode cX12_takeNumber 28 = .ok (.aload_n 0, 1) := by decide +kernel
theorem dX12_takeNumber_29 : decode cX12_takeNumber 29 = .ok (.getfield 162, 3) := by decide +kernel
theorem dX12_takeNumber_32 : decode cX12_takeNumber 32 = .ok (.ifCond .ne 38, 3) := by decide +kernel
theorem dX12_takeNumber_35 : decode cX12_takeNumber 35 = .ok (.aload_n 0, 1) := by decide +kernel
theorem dX12_takeNumber_36 : decode cX12_takeNumber 36 = .ok (.getfield 30, 3) := by decide +kernel
theorem dX12_takeNumber_39 : decode cX12_takeNumber 39 = .ok (.aload_n 0, 1) := by decide +kernel
theorem dX12_takeNumber_40 : decode cX12_takeNumber 40 = .ok (.getfield 159, 3) := by decide +kernel
theorem dX12_takeNumber_43 : decode cX12_takeNumber 43 = .ok (.laload, 1) := by decide +kernel
theorem dX12_takeNumber_44 : decode cX12_takeNumber 44 = .ok (.iload_n 1, 1) := by decide +kernel
theorem dX12_takeNumber_45 : decode cX12_takeNumber 45 = .ok (.i2l, 1) := by decide +kernel
theorem dX12_takeNumber_46 : decode cX12_takeNumber 46 = .ok (.lcmp, 1) := by decide +kernel
theorem dX12_takeNumber_47 : decode cX12_takeNumber 47 = .ok (.ifCond .lt 18, 3) := by decide +kernel
theorem dX12_takeNumber_50 : decode cX12_takeNumber 50 = .ok (.aload_n 0, 1) := by decide +kernel
theorem dX12_takeNumber_51 : decode cX12_takeNumber 51 = .ok (.getfield 30, 3) := by decide +kernel
theorem dX12_takeNumber_54 : decode cX12_takeNumber 54 = .ok (.aload_n 0, 1) := by decide +kernel
theorem dX12_takeNumber_55 : decode cX12_takeNumber 55 = .ok (.getfield 159, 3) := by decide +kernel
theorem dX12_takeNumber_58 : decode cX12_takeNumber 58 = .ok (.laload, 1) := by decide +kernel
theorem dX12_takeNumber_59 : decode cX12_takeNumber 59 = .ok (.iload_n 2, 1) := by decide +kernel
theorem dX12_takeNumber_60 : decode cX12_takeNumber 60 = .ok (.i2l, 1) := by decide +kernel
theorem dX12_takeNumber_61 : decode cX12_takeNumber 61 = .ok (.lcmp, 1) := by decide +kernel
theorem dX12_takeNumber_62 : decode cX12_takeNumber 62 = .ok (.ifCond .le 8, 3) := by decide +kernel
theorem dX12_takeNumber_70 : decode cX12_takeNumber 70 = .ok (.aload_n 0, 1) := by decide +kernel
theorem dX12_takeNumber_71 : decode cX12_takeNumber 71 = .ok (.getfield 162, 3) := by decide +kernel
theorem dX12_takeNumber_74 : decode cX12_takeNumber 74 = .ok (.ifCond .le 5, 3) := by decide +kernel
theorem dX12_takeNumber_79 : decode cX12_takeNumber 79 = .ok (.aload_n 0, 1) := by decide +kernel
theorem dX12_takeNumber_80 : decode cX12_takeNumber 80 = .ok (.dup, 1) := by decide +kernel
theorem dX12_takeNumber_81 : decode cX12_takeNumber 81 = .ok (.getfield 159, 3) := by decide +kernel
theorem dX12_takeNumber_84 : decode cX12_takeNumber 84 = .ok (.iconst 1, 1) := by decide +kernel
theorem dX12_takeNumber_85 : decode cX12_takeNumber 85 = .ok (.iadd, 1) := by decide +kernel
theorem dX12_takeNumber_86 : decode cX12_takeNumber 86 = .ok (.putfield 159, 3) := by decide +kernel
theorem dX12_takeSign_0 : decode cX12_takeSign 0 = .ok (.aload_n 0, 1) := by decide +kernel
theorem dX12_takeSign_1 : decode cX12_takeSign 1 = .ok (.iload_n 1, 1) := by decide +kernel
theorem dX12_takeSign_2 : decode cX12_takeSign 2 = .ok (.invokevirtual 165, 3) := by decide +kernel
theorem dX12_takeSign_5 : decode cX12_takeSign 5 = .ok (.ifCond .eq 16, 3) := by decide +kernel
theorem dX12_takeSign_8 : decode cX12_takeSign 8 = .ok (.aload_n 0, 1) := by decide +kernel
theorem dX12_takeSign_9 : decode cX12_takeSign 9 = .ok (.dup, 1) := by decide +kernel
theorem dX12_takeSign_10 : decode cX12_takeSign 10 = .ok (.getfield 159, 3) := by decide +kernel
theorem dX12_takeSign_13 : decode cX12_takeSign 13 = .ok (.iconst 1, 1) := by decide +kernel
theorem dX12_takeSign_14 : decode cX12_takeSign 14 = .ok (.iadd, 1) := by decide +kernel
theorem dX12_takeSign_15 : decode cX12_takeSign 15 = .ok (.putfield 159, 3) := by decide +kernel
theorem dX12_takeSign_21 : decode cX12_takeSign 21 = .ok (.aload_n 0, 1) := by decide +kernel
theorem dX12_takeSign_22 : decode cX12_takeSign 22 = .ok (.iconst 1, 1) := by decide +kernel
theorem dX12_takeSign_23 : decode cX12_takeSign 23 = .ok (.invokevirtual 168, 3) := by decide +kernel
theorem dX12_takeSign_26 : decode cX12_takeSign 26 = .ok (.return_, 1) := by decide +kernel
theorem dX12_tocome_0 : decode cX12_tocome 0 = .ok (.aload_n 0, 1) := by decide +kernel
theorem dX12_tocome_1 : decode cX12_tocome 1 = .ok (.iconst 0, 1) := by decide +kernel
theorem dX12_tocome_2 : decode cX12_tocome 2 = .ok (.putfield 1, 3) := by decide +kernel
theorem dX12_tocome_5 : decode cX12_tocome 5 = .ok (.iload_n 1, 1) := by decide +kernel
theorem dX12_tocome_6 : decode cX12_tocome 6 = .ok (.invokestatic 278, 3) := by decide +kernel
theorem dX12_tocome_9 : decode cX12_tocome 9 = .ok (.ifCond .eq 20, 3) := by decide +kernel
theorem dX12_tocome_12 : decode cX12_tocome 12 = .ok (.aload_n 0, 1) := by decide +kernel
theorem dX12_tocome_13 : decode cX12_tocome 13 = .ok (.iload_n 2, 1) := by decide +kernel
theorem dX12_tocome_14 : decode cX12_tocome 14 = .ok (.invokevirtual 192, 3) := by decide +kernel
theorem dX12_tocome_17 : decode cX12_tocome 17 = .ok (.ifCond .eq 12, 3) := by decide +kernel
theorem dX12_tocome_20 : decode cX12_tocome 20 = .ok (.iload_n 3, 1) := by decide +kernel
theorem dX12_tocome_21 : decode cX12_tocome 21 = .ok (.iconst 0, 1) := by decide +kernel
theorem dX12_tocome_22 : decode cX12_tocome 22 = .ok (.iconst 1, 1) := by decide +kernel
theorem dX12_tocome_23 : decode cX12_tocome 23 = .ok (.invokestatic 178, 3) := by decide +kernel
theorem dX12_tocome_26 : decode cX12_tocome 26 = .ok (.ifCond .ne 5, 3) := by decide +kernel
theorem dX12_tocome_29 : decode cX12_tocome 29 = .ok (.iconst (-1), 1) := by decide +kernel
theorem dX12_tocome_30 : decode cX12_tocome 30 = .ok (.ireturn, 1) := by decide +kernel
theorem dX12_tocome_31 : decode cX12_tocome 31 = .ok (.aload_n 0, 1) := by decide +kernel
theorem dX12_tocome_32 : decode cX12_tocome 32 = .ok (.invokevirtual 336, 3) := by decide +kernel
theorem dX12_tocome_35 : decode cX12_tocome 35 = .ok (.iconst (-1), 1) := by decide +kernel
theorem dX12_tocome_36 : decode cX12_tocome 36 = .ok (.istore 4, 2) := by decide +kernel
theorem dX12_tocome_38 : decode cX12_tocome 38 = .ok (.iconst 0, 1) := by decide +kernel
theorem dX12_tocome_39 : decode cX12_tocome 39 = .ok (.istore 5, 2) := by decide +kernel
theorem dX12_tocome_41 : decode cX12_tocome 41 = .ok (.iload 5, 2) := by decide +kernel
theorem dX12_tocome_43 : decode cX12_tocome 43 = .ok (.sipush 2048, 3) := by decide +kernel
theorem dX12_tocome_46 : decode cX12_tocome 46 = .ok (.if_icmp .ge 47, 3) := by decide +kernel
theorem dX12_tocome_49 : decode cX12_tocome 49 = .ok (.iload 4, 2) := by decide +kernel
theorem dX12_tocome_51 : decode cX12_tocome 51 = .ok (.ifCond .lt 16, 3) := by decide +kernel
theorem dX12_tocome_54 : decode cX12_tocome 54 = .ok (.iload 5, 2) := by decide +kernel
theorem dX12_tocome_56 : decode cX12_tocome 56 = .ok (.invokestatic 264, 3) := by decide +kernel
theorem dX12_tocome_59 : decode cX12_tocome 59 = .ok (.iload 4, 2) := by decide +kernel
theorem dX12_tocome_61 : decode cX12_tocome 61 = .ok (.invokestatic 264, 3) := by decide +kernel
theorem dX12_tocome_64 : decode cX12_tocome 64 = .ok (.if_icmp .ge 23, 3) := by decide +kernel
theorem dX12_tocome_67 : decode cX12_tocome 67 = .ok (.aload_n 0, 1) := by decide +kernel
theorem dX12_tocome_68 : decode cX12_tocome 68 = .ok (.iload_n 1, 1) := by decide +kernel
theorem dX12_tocome_69 : decode cX12_tocome 69 = .ok (.iload_n 2, 1) := by decide +kernel
theorem dX12_tocome_70 : decode cX12_tocome 70 = .ok (.iload 5, 2) := by decide +kernel
theorem dX12_tocome_72 : decode cX12_tocome 72 = .ok (.invokevirtual 374, 3) := by decide +kernel
theorem dX12_tocome_75 : decode cX12_tocome 75 = .ok (.ifCond .eq 8, 3) := by decide +kernel
theorem dX12_tocome_78 : decode cX12_tocome 78 = .ok (.iload 5, 2) := by decide +kernel
theorem dX12_tocome_80 : decode cX12_tocome 80 = .ok (.goto 5, 3) := by decide +kernel
theorem dX12_tocome_83 : decode cX12_tocome 83 = .ok (.iload 4, 2) := by decide +kernel
theorem dX12_tocome_85 : decode cX12_tocome 85 = .ok (.istore 4, 2) := by decide +kernel
theorem dX12_tocome_87 : decode cX12_tocome 87 = .ok (.iinc 5 1, 3) := by decide +kernel
theorem dX12_tocome_90 : decode cX12_tocome 90 = .ok (.goto (-49), 3) := by decide +kernel
theorem dX12_tocome_93 : decode cX12_tocome 93 = .ok (.iload 4, 2) := by decide +kernel
theorem dX12_tocome_95 : decode cX12_tocome 95 = .ok (.ifCond .ge 7, 3) := by decide +kernel
theorem dX12_tocome_98 : decode cX12_tocome 98 = .ok (.iconst (-1), 1) := by decide +kernel
theorem dX12_tocome_99 : decode cX12_tocome 99 = .ok (.goto 17, 3) := by decide +kernel
theorem dX12_tocome_102 : decode cX12_tocome 102 = .ok (.iload_n 3, 1) := by decide +kernel
theorem dX12_tocome_103 : decode cX12_tocome 103 = .ok (.ifCond .ne 11, 3) := by decide +kernel
theorem dX12_tocome_106 : decode cX12_tocome 106 = .ok (.iload 4, 2) := by decide +kernel
theorem dX12_tocome_108 : decode cX12_tocome 108 = .ok (.invokestatic 264, 3) := by decide +kernel
theorem dX12_tocome_111 : decode cX12_tocome 111 = .ok (.goto 5, 3) := by decide +kernel
theorem dX12_tocome_114 : decode cX12_tocome 114 = .ok (.iload 4, 2) := by decide +kernel
theorem dX12_tocome_116 : decode cX12_tocome 116 = .ok (.ireturn, 1) := by decide +kernel
set_option maxHeartbeats 4000000 in
set_option maxRecDepth 100000 in
theorem s_X12_tocome {P : PP} {a0 : Nat} {a1 : Int32} {a2 : Int32} {a3 : Int32} (I : IM P a0) (hW : MW P a0) : CtrI yX12_tocome cX12_tocome 6 (some Jvm.ClassFile.FieldType.int) ({ frames := 6, cells := 0, slots := 0, locals := 384 } : Room) 0 0 P [.ref a0, .int a1, .int a2, .int a3] (fun r P2 => IM P2 a0 ∧ EM [0, 28, 29, 30, 31, 32, 35, 36, 37, 38] a0 P P2 ∧ MW P2 a0 ∧ (-1 ≤ r.toInt ∧ r.toInt ≤ 9999)) := by
  refine enI (lv := [(0, .ref a0), (1, .int a1), (2, .int a2), (3, .int a3)]) (by decide) (Nat.le_of_ble_eq_true rfl) rfl (fun E D cy C Ci0 ret => ?_)
  have ha0 := I.2.1
  have J41 : ∀ (n41 : Nat) (P41 : PP) (v41_4 : Int32) (v41_5 : Int32), (9999 - v41_5.toInt).toNat < n41 → (IM P41 a0) → (EM [0, 28, 29, 30, 31, 32, 35, 36, 37, 38] a0 P P41) → (MW P41 a0) → (0 ≤ a1.toInt ∧ a1.toInt ≤ 3) → (0 ≤ a2.toInt ∧ a2.toInt ≤ 1) → (0 ≤ a3.toInt ∧ a3.toInt ≤ 1) → (-1 ≤ v41_4.toInt ∧ v41_4.toInt ≤ 9999) → (0 ≤ v41_5.toInt ∧ v41_5.toInt ≤ 9999) → (0 ≤ (pI P41 a0 0).toInt ∧ (pI P41 a0 0).toInt ≤ 0) → (∀ b, pR P41 a0 10 = some b → 1 ≤ (pI P41 b (a2.toInt.toNat)).toInt ∧ (pI P41 b (a2.toInt.toNat)).toInt ≤ 16) → G E ({ frames := 6, cells := 0, slots := 0, locals := 384 } : Room) D cy 6 P41 0 0 41 [(0, .ref a0), (1, .int a1), (2, .int a2), (3, .int a3), (4, .int v41_4), (5, .int v41_5)] [] := by
    intro n41
    induction n41 with
    | zero => intro P41 v41_4 v41_5 hm41 I41 X41 W41 hv41_1 hv41_2 hv41_3 hv41_4 hv41_5 hq41_0 hq41_1; omega
    | succ n41 ih41 =>
      intro P41 v41_4 v41_5 hm41 I41 X41 W41 hv41_1 hv41_2 hv41_3 hv41_4 hv41_5 hq41_0 hq41_1
      have h83729 := X41.at ha0
      obtain ⟨b83730, e83731, h83732⟩ := I41.fld (h83729) 10 13 2 rfl
      have hq41_1 := hq41_1 b83730 e83731
      have J87 : ∀ (P87 : PP) (v87_4 : Int32), (IM P87 a0) → (EM [0, 28, 29, 30, 31, 32, 35, 36, 37, 38] a0 P P87) → (MW P87 a0) → (0 ≤ a1.toInt ∧ a1.toInt ≤ 3) → (0 ≤ a2.toInt ∧ a2.toInt ≤ 1) → (0 ≤ a3.toInt ∧ a3.toInt ≤ 1) → (-1 ≤ v87_4.toInt ∧ v87_4.toInt ≤ 9999) → (0 ≤ v41_5.toInt ∧ v41_5.toInt ≤ 2047) → (0 ≤ (pI P87 a0 0).toInt ∧ (pI P87 a0 0).toInt ≤ 0) → (∀ b, pR P87 a0 10 = some b → 1 ≤ (pI P87 b (a2.toInt.toNat)).toInt ∧ (pI P87 b (a2.toInt.toNat)).toInt ≤ 16) → G E ({ frames := 6, cells := 0, slots := 0, locals := 384 } : Room) D cy 6 P87 0 0 87 [(0, .ref a0), (1, .int a1), (2, .int a2), (3, .int a3), (4, .int v87_4), (5, .int v41_5)] [] := by
        intro P87 v87_4 I87 X87 W87 hv87_1 hv87_2 hv87_3 hv87_4 hv87_5 hq87_0 hq87_1
        have h83733 := X87.at ha0
        obtain ⟨b83734, e83735, h83736⟩ := I87.fld (h83733) 10 13 2 rfl
        have hq87_1 := hq87_1 b83734 e83735
        refine s_iinc (lv0 := [(0, .ref a0), (1, .int a1), (2, .int a2), (3, .int a3), (4, .int v87_4)]) (m := 1) C dX12_tocome_87 5 rfl (by decide) rfl (by decide) (by omega) (fun z83737 h83738 => ?_)
        have h83738 : z83737.toInt = v41_5.toInt + 1 := h83738
        refine g_goto C 41 dX12_tocome_90 (by decide) ?_
        refine g_lv (lv' := [(0, .ref a0), (1, .int a1), (2, .int a2), (3, .int a3), (4, .int v87_4), (5, .int z83737)]) [1, 2, 3, 4, 5, 0] rfl ?_
        exact ih41 P87 v87_4 z83737 (by omega) I87 X87 W87 (by omega) (by omega) (by omega) (by omega) (by omega) (by omega) (fun b9 e9 => by rw [e83735] at e9; cases e9; omega)
      have J85 : ∀ (P85 : PP) (v85_s0 : Int32), (IM P85 a0) → (EM [0, 28, 29, 30, 31, 32, 35, 36, 37, 38] a0 P P85) → (MW P85 a0) → (0 ≤ a1.toInt ∧ a1.toInt ≤ 3) → (0 ≤ a2.toInt ∧ a2.toInt ≤ 1) → (0 ≤ a3.toInt ∧ a3.toInt ≤ 1) → (0 ≤ v41_5.toInt ∧ v41_5.toInt ≤ 2047) → (-1 ≤ v85_s0.toInt ∧ v85_s0.toInt ≤ 9999) → (0 ≤ (pI P85 a0 0).toInt ∧ (pI P85 a0 0).toInt ≤ 0) → (∀ b, pR P85 a0 10 = some b → 1 ≤ (pI P85 b (a2.toInt.toNat)).toInt ∧ (pI P85 b (a2.toInt.toNat)).toInt ≤ 16) → G E ({ frames := 6, cells := 0, slots := 0, locals := 384 } : Room) D cy 6 P85 0 0 85 [(0, .ref a0), (1, .int a1), (2, .int a2), (3, .int a3), (5, .int v41_5)] [.int v85_s0] := by
        intro P85 v85_s0 I85 X85 W85 hv85_1 hv85_2 hv85_3 hv85_5 hv85_s0 hq85_0 hq85_1
        have h83739 := X85.at ha0
        obtain ⟨b83740, e83741, h83742⟩ := I85.fld (h83739) 10 13 2 rfl
        have hq85_1 := hq85_1 b83740 e83741
        refine g_istore (lv' := [(4, .int v85_s0), (0, .ref a0), (1, .int a1), (2, .int a2), (3, .int a3), (5, .int v41_5)]) C dX12_tocome_85 (by decide) rfl ?_
        refine g_lv (lv' := [(0, .ref a0), (1, .int a1), (2, .int a2), (3, .int a3), (4, .int v85_s0), (5, .int v41_5)]) [1, 2, 3, 4, 0, 5] rfl ?_
        exact J87 P85 v85_s0 I85 X85 W85 (by omega) (by omega) (by omega) (by omega) (by omega) (by omega) (fun b9 e9 => by rw [e83741] at e9; cases e9; omega)
      have J67 : (0 ≤ a1.toInt ∧ a1.toInt ≤ 3) → (0 ≤ a2.toInt ∧ a2.toInt ≤ 1) → (0 ≤ a3.toInt ∧ a3.toInt ≤ 1) → (0 ≤ v41_5.toInt ∧ v41_5.toInt ≤ 2047) → (0 ≤ (pI P41 a0 0).toInt ∧ (pI P41 a0 0).toInt ≤ 0) → (∀ b, pR P41 a0 10 = some b → 1 ≤ (pI P41 b (a2.toInt.toNat)).toInt ∧ (pI P41 b (a2.toInt.toNat)).toInt ≤ 16) → G E ({ frames := 6, cells := 0, slots := 0, locals := 384 } : Room) D cy 6 P41 0 0 67 [(0, .ref a0), (1, .int a1), (2, .int a2), (3, .int a3), (4, .int v41_4), (5, .int v41_5)] [] := by
        intro hv67_1 hv67_2 hv67_3 hv67_5 hq67_0 hq67_1
        have h83743 := X41.at ha0
        obtain ⟨b83744, e83745, h83746⟩ := I41.fld (h83743) 10 13 2 rfl
        have hq67_1 := hq67_1 b83744 e83745
        refine g_aload_n C dX12_tocome_67 rfl 0 rfl ?_
        refine g_iload_n C dX12_tocome_68 rfl 1 rfl ?_
        refine g_iload_n C dX12_tocome_69 rfl 2 rfl ?_
        refine g_iload C dX12_tocome_70 5 rfl ?_
        refine g_callVI (rest := []) C mv_X12_374 [.int a1, .int a2, .int v41_5] (s_X12_isAllWith I41 (by omega) (by omega) (fun b9 e9 => by rw [e83745] at e9; cases e9; show 1 ≤ (pI P41 b83744 (a2.toInt.toNat)).toInt ∧ (pI P41 b83744 (a2.toInt.toNat)).toInt ≤ 16; omega) W41) (h83743).1 (h83743).2 rfl rfl (by decide) (Nat.le_of_ble_eq_true rfl) (by decide) dX12_tocome_72 (fun r83747 Y83748 h83749 => ?_)
        obtain ⟨Iy83750, Xy83751, W83752, h83749⟩ := h83749
        have q83753 := Xy83751.keepF 0 (by decide)
        have q83754 := Xy83751.keepA e83745 (by decide) rfl (a2.toInt.toNat)
        have Xz83755 : EM [0, 28, 29, 30, 31, 32, 35, 36, 37, 38] a0 P Y83748 := EM.tr ha0 X41 (Xy83751.mono (by decide))
        have e83756 := Xy83751.ref h83743 (by decide) e83745
        have h83757 := Xy83751.at h83743
        have h83758 := Xy83751.ar h83746
        have h83749 : 0 ≤ r83747.toInt ∧ r83747.toInt ≤ 1 := h83749
        refine b_if_eq C 83 dX12_tocome_75 (by decide) (fun h83759 => ?_) (fun h83759 => ?_)
        · have h83759 : r83747.toInt = 0 := congrArg Int32.toInt h83759
          refine g_iload C dX12_tocome_83 4 rfl ?_
          refine g_lv (lv' := [(0, .ref a0), (1, .int a1), (2, .int a2), (3, .int a3), (5, .int v41_5)]) [0, 1, 2, 3, 5] rfl ?_
          exact J85 Y83748 v41_4 Iy83750 Xz83755 W83752 (by omega) (by omega) (by omega) (by omega) (by omega) (by omega) (fun b9 e9 => by rw [e83756] at e9; cases e9; omega)
        · have h83759 : r83747.toInt ≠ 0 := ti_ne h83759
          refine g_iload C dX12_tocome_78 5 rfl ?_
          refine g_goto C 85 dX12_tocome_80 (by decide) ?_
          refine g_lv (lv' := [(0, .ref a0), (1, .int a1), (2, .int a2), (3, .int a3), (5, .int v41_5)]) [0, 1, 2, 3, 5] rfl ?_
          exact J85 Y83748 v41_5 Iy83750 Xz83755 W83752 (by omega) (by omega) (by omega) (by omega) (by omega) (by omega) (fun b9 e9 => by rw [e83756] at e9; cases e9; omega)
      refine g_iload C dX12_tocome_41 5 rfl ?_
      refine g_sipush (v := 2048) C dX12_tocome_43 (by decide) ?_
      refine b_icmp_ge C 93 dX12_tocome_46 (by decide) (fun h83760 => ?_) (fun h83760 => ?_)
      · have h83760 : 2048 ≤ v41_5.toInt := h83760
        refine g_iload C dX12_tocome_93 4 rfl ?_
        refine b_if_ge C 102 dX12_tocome_95 (by decide) (fun h83761 => ?_) (fun h83761 => ?_)
        · have h83761 : 0 ≤ v41_4.toInt := h83761
          refine g_iload_n C dX12_tocome_102 rfl 3 rfl ?_
          refine b_if_ne C 114 dX12_tocome_103 (by decide) (fun h83762 => ?_) (fun h83762 => ?_)
          · have h83762 : a3.toInt ≠ 0 := ti_ne h83762
            refine g_iload C dX12_tocome_114 4 rfl ?_
            exact ret _ _ _ _ _ _ dX12_tocome_116 rfl (by decide) (by decide) ⟨I41, X41, W41, (by omega)⟩
          · have h83762 : a3.toInt = 0 := congrArg Int32.toInt h83762
            refine g_iload C dX12_tocome_106 4 rfl ?_
            refine g_callSI (b := 0) (ci := 0) (rest := []) C ms_X12_264 [.int v41_4] (s_X12_bits I41.1) rfl rfl (by decide) (Nat.le_of_ble_eq_true rfl) (by decide) dX12_tocome_108 (fun r83763 Y83764 h83765 => ?_)
            obtain ⟨rfl, h83765⟩ := h83765
            obtain ⟨h83765, hi83766⟩ := h83765
            have hi83766 : r83763.toInt = 0 ∨ v41_4.toInt ≠ 0 := hi83766
            have h83765 : 0 ≤ r83763.toInt ∧ r83763.toInt ≤ 20 := h83765
            refine g_goto C 116 dX12_tocome_111 (by decide) ?_
            exact ret _ _ _ _ _ _ dX12_tocome_116 rfl (by decide) (by decide) ⟨I41, X41, W41, (by omega)⟩
        · have h83761 : v41_4.toInt < 0 := h83761
          refine g_iconst (v := (-1)) C dX12_tocome_98 (by decide) ?_
          refine g_goto C 116 dX12_tocome_99 (by decide) ?_
          exact ret _ _ _ _ _ _ dX12_tocome_116 rfl (by decide) (by decide) ⟨I41, X41, W41, (by decide)⟩
      · have h83760 : v41_5.toInt < 2048 := h83760
        refine g_iload C dX12_tocome_49 4 rfl ?_
        refine b_if_lt C 67 dX12_tocome_51 (by decide) (fun h83767 => ?_) (fun h83767 => ?_)
        · have h83767 : v41_4.toInt < 0 := h83767
          exact J67 (by omega) (by omega) (by omega) (by omega) (by omega) (fun b9 e9 => by rw [e83731] at e9; cases e9; omega)
        · have h83767 : 0 ≤ v41_4.toInt := h83767
          refine g_iload C dX12_tocome_54 5 rfl ?_
          refine g_callSI (b := 0) (ci := 0) (rest := []) C ms_X12_264 [.int v41_5] (s_X12_bits I41.1) rfl rfl (by decide) (Nat.le_of_ble_eq_true rfl) (by decide) dX12_tocome_56 (fun r83768 Y83769 h83770 => ?_)
          obtain ⟨rfl, h83770⟩ := h83770
          obtain ⟨h83770, hi83771⟩ := h83770
          have hi83771 : r83768.toInt = 0 ∨ v41_5.toInt ≠ 0 := hi83771
          have h83770 : 0 ≤ r83768.toInt ∧ r83768.toInt ≤ 20 := h83770
          refine g_iload C dX12_tocome_59 4 rfl ?_
          refine g_callSI (b := 0) (ci := 0) (rest := [.int r83768]) C ms_X12_264 [.int v41_4] (s_X12_bits I41.1) rfl rfl (by decide) (Nat.le_of_ble_eq_true rfl) (by decide) dX12_tocome_61 (fun r83772 Y83773 h83774 => ?_)
          obtain ⟨rfl, h83774⟩ := h83774
          obtain ⟨h83774, hi83775⟩ := h83774
          have hi83775 : r83772.toInt = 0 ∨ v41_4.toInt ≠ 0 := hi83775
          have h83774 : 0 ≤ r83772.toInt ∧ r83772.toInt ≤ 20 := h83774
          refine b_icmp_ge C 87 dX12_tocome_64 (by decide) (fun h83776 => ?_) (fun h83776 => ?_)
          · have h83776 : r83772.toInt ≤ r83768.toInt := h83776
            exact J87 P41 v41_4 I41 X41 W41 (by omega) (by omega) (by omega) (by omega) (by omega) (by omega) (fun b9 e9 => by rw [e83731] at e9; cases e9; omega)
          · have h83776 : r83768.toInt < r83772.toInt := h83776
            exact J67 (by omega) (by omega) (by omega) (by omega) (by omega) (fun b9 e9 => by rw [e83731] at e9; cases e9; omega)
  have J29 : ∀ (P29 : PP), (IM P29 a0) → (EM [0, 28, 29, 30, 31, 32, 35, 36, 37, 38] a0 P P29) → (MW P29 a0) → (0 ≤ (pI P29 a0 0).toInt ∧ (pI P29 a0 0).toInt ≤ 0) → G E ({ frames := 6, cells := 0, slots := 0, locals := 384 } : Room) D cy 6 P29 0 0 29 [] [] := by
    intro P29 I29 X29 W29 hq29_0
    have h83777 := X29.at ha0
    refine g_iconst (v := (-1)) C dX12_tocome_29 (by decide) ?_
    exact ret _ _ _ _ _ _ dX12_tocome_30 rfl (by decide) (by decide) ⟨I29, X29, W29, (by decide)⟩
  refine g_aload_n C dX12_tocome_0 rfl 0 rfl ?_
  refine g_iconst (v := 0) C dX12_tocome_1 (by decide) ?_
  refine g_putI C fi_X12_1 rfl (ha0).1 (ha0).2 dX12_tocome_2 ?_
  refine gqW (ks := [0]) (I.setI (rgOk.of rfl (by decide))) (EM.setI I (by decide)) (fun Y83778 Iy83779 Xy83780 w83781 => ?_)
  have w83781 : (pI Y83778 a0 0).toInt = 0 := w83781
  have W83782 := hW.keep I Xy83780 (by decide) (by decide) (by decide)
  have Xz83783 : EM [0, 28, 29, 30, 31, 32, 35, 36, 37, 38] a0 P Y83778 := Xy83780.mono (by decide)
  have h83784 := Xy83780.at ha0
  refine g_iload_n C dX12_tocome_5 rfl 1 rfl ?_
  refine g_callSI (b := 0) (ci := 0) (rest := []) C ms_X12_278 [.int a1] (s_X12_isQuarter Iy83779.1) rfl rfl (by decide) (Nat.le_of_ble_eq_true rfl) (by decide) dX12_tocome_6 (fun r83785 Y83786 h83787 => ?_)
  obtain ⟨rfl, h83787⟩ := h83787
  obtain ⟨h83787, hi83788⟩ := h83787
  have hi83788 : r83785.toInt = 0 ∨ (((0 : Int) ≤ a1.toInt ∧ a1.toInt ≤ (3 : Int))) := hi83788
  have h83787 : 0 ≤ r83785.toInt ∧ r83785.toInt ≤ 1 := h83787
  refine b_if_eq C 29 dX12_tocome_9 (by decide) (fun h83789 => ?_) (fun h83789 => ?_)
  · have h83789 : r83785.toInt = 0 := congrArg Int32.toInt h83789
    clear hi83788
    refine g_lv (lv' := []) [] rfl ?_
    exact J29 Y83778 Iy83779 Xz83783 W83782 (by omega)
  · have h83789 : r83785.toInt ≠ 0 := ti_ne h83789
    replace hi83788 := hi83788.resolve_left (by omega)
    refine g_aload_n C dX12_tocome_12 rfl 0 rfl ?_
    refine g_iload_n C dX12_tocome_13 rfl 2 rfl ?_
    refine g_callVI (rest := []) C mv_X12_192 [.int a2] (s_X12_isBook Iy83779 W83782) (h83784).1 (h83784).2 rfl rfl (by decide) (Nat.le_of_ble_eq_true rfl) (by decide) dX12_tocome_14 (fun r83790 Y83791 h83792 => ?_)
    obtain ⟨rfl, h83792⟩ := h83792
    obtain ⟨h83792, hi83793, hi83794⟩ := h83792
    have hi83793 : r83790.toInt = 0 ∨ (((0 : Int) ≤ a2.toInt ∧ a2.toInt ≤ (1 : Int))) := hi83793
    have h83792 : 0 ≤ r83790.toInt ∧ r83790.toInt ≤ 1 := h83792
    refine b_if_eq C 29 dX12_tocome_17 (by decide) (fun h83795 => ?_) (fun h83795 => ?_)
    · have h83795 : r83790.toInt = 0 := congrArg Int32.toInt h83795
      clear hi83793
      refine g_lv (lv' := []) [] rfl ?_
      exact J29 Y83778 Iy83779 Xz83783 W83782 (by omega)
    · have h83795 : r83790.toInt ≠ 0 := ti_ne h83795
      replace hi83793 := hi83793.resolve_left (by omega)
      obtain ⟨b83796, e83797, h83798⟩ := Iy83779.fld (h83784) 10 13 2 rfl
      have hi83794 := (hi83794.resolve_left (by omega)) b83796 e83797
      have hi83794 : 0 < (pI Y83778 b83796 (a2.toInt.toNat)).toInt := hi83794
      have h83799 := Iy83779.arr e83797 rfl (a2.toInt.toNat)
      refine g_iload_n C dX12_tocome_20 rfl 3 rfl ?_
      refine g_iconst (v := 0) C dX12_tocome_21 (by decide) ?_
      refine g_iconst (v := 1) C dX12_tocome_22 (by decide) ?_
      refine g_callSI (b := 0) (ci := 0) (rest := []) C ms_X12_178 [.int a3, .int 0, .int 1] (s_X12_within Iy83779.1) rfl rfl (by decide) (Nat.le_of_ble_eq_true rfl) (by decide) dX12_tocome_23 (fun r83800 Y83801 h83802 => ?_)
      obtain ⟨rfl, h83802⟩ := h83802
      obtain ⟨h83802, hi83803⟩ := h83802
      have hi83803 : r83800.toInt = 0 ∨ (0 ≤ a3.toInt ∧ a3.toInt ≤ 1) := hi83803
      have h83802 : 0 ≤ r83800.toInt ∧ r83800.toInt ≤ 1 := h83802
      refine b_if_ne C 31 dX12_tocome_26 (by decide) (fun h83804 => ?_) (fun h83804 => ?_)
      · have h83804 : r83800.toInt ≠ 0 := ti_ne h83804
        replace hi83803 := hi83803.resolve_left (by omega)
        refine g_aload_n C dX12_tocome_31 rfl 0 rfl ?_
        refine g_callVV (rest := []) C mv_X12_336 [] (s_X12_leavesNone Iy83779 W83782) (h83784).1 (h83784).2 rfl rfl (by decide) (Nat.le_of_ble_eq_true rfl) (by decide) dX12_tocome_32 (fun Y83806 h83807 => ?_)
        obtain ⟨Iy83808, Xy83809, W83810⟩ := h83807
        have q83811 := Xy83809.keepF 0 (by decide)
        have q83812 := Xy83809.keepA e83797 (by decide) rfl (a2.toInt.toNat)
        have Xz83813 : EM [0, 28, 29, 30, 31, 32, 35, 36, 37, 38] a0 P Y83806 := EM.tr ha0 Xz83783 (Xy83809.mono (by decide))
        have e83814 := Xy83809.ref h83784 (by decide) e83797
        have h83815 := Xy83809.at h83784
        have h83816 := Xy83809.ar h83798
        refine g_iconst (v := (-1)) C dX12_tocome_35 (by decide) ?_
        refine g_istore (lv' := [(4, .int (-1)), (0, .ref a0), (1, .int a1), (2, .int a2), (3, .int a3)]) C dX12_tocome_36 (by decide) rfl ?_
        refine g_iconst (v := 0) C dX12_tocome_38 (by decide) ?_
        refine g_istore (lv' := [(5, .int 0), (4, .int (-1)), (0, .ref a0), (1, .int a1), (2, .int a2), (3, .int a3)]) C dX12_tocome_39 (by decide) rfl ?_
        refine g_lv (lv' := [(0, .ref a0), (1, .int a1), (2, .int a2), (3, .int a3), (4, .int (-1)), (5, .int 0)]) [2, 3, 4, 5, 1, 0] rfl ?_
        exact J41 _ Y83806 (-1) 0 (Nat.lt_succ_self _) Iy83808 Xz83813 W83810 (by omega) (by omega) (by omega) (by decide) (by decide) (by omega) (fun b9 e9 => by rw [e83814] at e9; cases e9; omega)
      · have h83804 : r83800.toInt = 0 := congrArg Int32.toInt h83804
        clear hi83803
        refine g_lv (lv' := []) [] rfl ?_
        exact J29 Y83778 Iy83779 Xz83783 W83782 (by omega)
theorem dX12_told_0 : decode cX12_told 0 = .ok (.aload_n 0, 1) := by decide +kernel
theorem dX12_told_1 : decode cX12_told 1 = .ok (.iconst 0, 1) := by decide +kernel
theorem dX12_told_2 : decode cX12_told 2 = .ok (.putfield 1, 3) := by decide +kernel
theorem dX12_told_5 : decode cX12_told 5 = .ok (.aload_n 0, 1) := by decide +kernel
theorem dX12_told_6 : decode cX12_told 6 = .ok (.iload_n 1, 1) := by decide +kernel
theorem dX12_told_7 : decode cX12_told 7 = .ok (.invokevirtual 192, 3) := by decide +kernel
theorem dX12_told_10 : decode cX12_told 10 = .ok (.ifCond .eq 27, 3) := by decide +kernel
theorem dX12_told_13 : decode cX12_told 13 = .ok (.iload_n 2, 1) := by decide +kernel
theorem dX12_told_14 : decode cX12_told 14 = .ok (.iconst 0, 1) := by decide +kernel
theorem dX12_told_15 : decode cX12_told 15 = .ok (.aload_n 0, 1) := by decide +kernel
theorem dX12_told_16 : decode cX12_told 16 = .ok (.iload_n 1, 1) := by decide +kernel
theorem dX12_told_17 : decode cX12_told 17 = .ok (.invokevirtual 238, 3) := by decide +kernel
theorem dX12_told_20 : decode cX12_told 20 = .ok (.iconst 1, 1) := by decide +kernel
theorem dX12_told_21 : decode cX12_told 21 = .ok (.isub, 1) := by decide +kernel
theorem dX12_told_22 : decode cX12_told 22 = .ok (.invokestatic 178, 3) := by decide +kernel
theorem dX12_told_25 : decode cX12_told 25 = .ok (.ifCond .eq 12, 3) := by decide +kernel
theorem dX12_told_28 : decode cX12_told 28 = .ok (.aload_n 0, 1) := by decide +kernel
theorem dX12_told_29 : decode cX12_told 29 = .ok (.iload_n 1, 1) := by decide +kernel
theorem dX12_told_30 : decode cX12_told 30 = .ok (.iload_n 2, 1) := by decide +kernel
theorem dX12_told_31 : decode cX12_told 31 = .ok (.invokevirtual 271, 3) := by decide +kernel
theorem dX12_valueOf_0 : decode cX12_valueOf 0 = .ok (.iload_n 2, 1) := by decide +kernel
theorem dX12_valueOf_1 : decode cX12_valueOf 1 = .ok (.aload_n 0, 1) := by decide +kernel
theorem dX12_valueOf_2 : decode cX12_valueOf 2 = .ok (.getfield 45, 3) := by decide +kernel
theorem dX12_valueOf_5 : decode cX12_valueOf 5 = .ok (.iload_n 1, 1) := by decide +kernel
theorem dX12_valueOf_6 : decode cX12_valueOf 6 = .ok (.iaload, 1) := by decide +kernel
theorem dX12_valueOf_7 : decode cX12_valueOf 7 = .ok (.if_icmp .ge 15, 3) := by decide +kernel
theorem dX12_valueOf_10 : decode cX12_valueOf 10 = .ok (.aload_n 0, 1) := by decide +kernel
theorem dX12_valueOf_11 : decode cX12_valueOf 11 = .ok (.getfield 48, 3) := by decide +kernel
theorem dX12_valueOf_14 : decode cX12_valueOf 14 = .ok (.bipush 16, 2) := by decide +kernel
theorem dX12_valueOf_16 : decode cX12_valueOf 16 = .ok (.iload_n 1, 1) := by decide +kernel
theorem dX12_valueOf_17 : decode cX12_valueOf 17 = .ok (.imul, 1) := by decide +kernel
theorem dX12_valueOf_18 : decode cX12_valueOf 18 = .ok (.iload_n 2, 1) := by decide +kernel
theorem dX12_valueOf_19 : decode cX12_valueOf 19 = .ok (.iadd, 1) := by decide +kernel
theorem dX12_valueOf_20 : decode cX12_valueOf 20 = .ok (.iaload, 1) := by decide +kernel
theorem dX12_valueOf_21 : decode cX12_valueOf 21 = .ok (.ireturn, 1) := by decide +kernel
theorem dX12_valueOf_22 : decode cX12_valueOf 22 = .ok (.aload_n 0, 1) := by decide +kernel
theorem dX12_valueOf_23 : decode cX12_valueOf 23 = .ok (.iload_n 1, 1) := by decide +kernel
theorem dX12_valueOf_24 : decode cX12_valueOf 24 = .ok (.aload_n 0, 1) := by decide +kernel
theorem dX12_valueOf_25 : decode cX12_valueOf 25 = .ok (.getfield 63, 3) := by decide +kernel
theorem dX12_valueOf_28 : decode cX12_valueOf 28 = .ok (.iconst 4, 1) := by decide +kernel
theorem dX12_valueOf_29 : decode cX12_valueOf 29 = .ok (.iload_n 1, 1) := by decide +kernel
theorem dX12_valueOf_30 : decode cX12_valueOf 30 = .ok (.imul, 1) := by decide +kernel
theorem dX12_valueOf_31 : decode cX12_valueOf 31 = .ok (.iload_n 2, 1) := by decide +kernel
theorem dX12_valueOf_32 : decode cX12_valueOf 32 = .ok (.iadd, 1) := by decide +kernel
theorem dX12_valueOf_33 : decode cX12_valueOf 33 = .ok (.aload_n 0, 1) := by decide +kernel
theorem dX12_valueOf_34 : decode cX12_valueOf 34 = .ok (.getfield 45, 3) := by decide +kernel
theorem dX12_valueOf_37 : decode cX12_valueOf 37 = .ok (.iload_n 1, 1) := by decide +kernel
theorem dX12_valueOf_38 : decode cX12_valueOf 38 = .ok (.iaload, 1) := by decide +kernel
theorem dX12_valueOf_39 : decode cX12_valueOf 39 = .ok (.isub, 1) := by decide +kernel
theorem dX12_valueOf_40 : decode cX12_valueOf 40 = .ok (.iaload, 1) := by decide +kernel
theorem dX12_valueOf_41 : decode cX12_valueOf 41 = .ok (.invokevirtual 223, 3) := by decide +kernel
theorem dX12_valueOf_44 : decode cX12_valueOf 44 = .ok (.ireturn, 1) := by decide +kernel
set_option maxHeartbeats 4000000 in
set_option maxRecDepth 100000 in
theorem s_X12_valueOf {P : PP} {a0 : Nat} {a1 : Int32} {a2 : Int32} (I : IM P a0) (ha1 : 0 ≤ a1.toInt ∧ a1.toInt ≤ 1) (ha2 : 0 ≤ a2.toInt ∧ a2.toInt ≤ 19) (hW : MW P a0) (hv : ∀ b c, pR P a0 10 = some b → pR P a0 15 = some c → a2.toInt < (pI P b (a1.toInt.toNat)).toInt + (pI P c (a1.toInt.toNat)).toInt) : CtrI yX12_valueOf cX12_valueOf 3 (some Jvm.ClassFile.FieldType.int) ({ frames := 2, cells := 0, slots := 0, locals := 128 } : Room) 0 0 P [.ref a0, .int a1, .int a2] (fun r P2 => P = P2 ∧ (True)) := by
  refine enI (lv := [(0, .ref a0), (1, .int a1), (2, .int a2)]) (by decide) (Nat.le_of_ble_eq_true rfl) rfl (fun E D cy C Ci0 ret => ?_)
  have ha0 := I.2.1
  refine g_iload_n C dX12_valueOf_0 rfl 2 rfl ?_
  refine g_aload_n C dX12_valueOf_1 rfl 0 rfl ?_
  obtain ⟨b83877, e83878, h83879⟩ := I.fld (ha0) 10 13 2 rfl
  refine g_getR C fi_X12_45 rfl e83878 (ha0).1 (ha0).2 dX12_valueOf_2 ?_
  refine g_iload_n C dX12_valueOf_5 rfl 1 rfl ?_
  refine g_iald (j := (a1.toInt.toNat)) C h83879.1 h83879.2.1 (ix_in h83879.2.2 (by omega)) dX12_valueOf_6 ?_
  have h83880 := I.arr e83878 rfl (a1.toInt.toNat)
  refine b_icmp_ge C 22 dX12_valueOf_7 (by decide) (fun h83881 => ?_) (fun h83881 => ?_)
  · have h83881 : (pI P b83877 (a1.toInt.toNat)).toInt ≤ a2.toInt := h83881
    obtain ⟨b83882, e83883, h83884⟩ := I.fld (ha0) 15 13 3 rfl
    have hv := hv b83877 b83882 e83878 e83883
    have h83885 := I.arr e83883 rfl (a1.toInt.toNat)
    refine g_aload_n C dX12_valueOf_22 rfl 0 rfl ?_
    refine g_iload_n C dX12_valueOf_23 rfl 1 rfl ?_
    refine g_aload_n C dX12_valueOf_24 rfl 0 rfl ?_
    obtain ⟨b83886, e83887, h83888⟩ := I.fld (ha0) 16 13 12 rfl
    refine g_getR C fi_X12_63 rfl e83887 (ha0).1 (ha0).2 dX12_valueOf_25 ?_
    refine g_iconst (v := 4) C dX12_valueOf_28 (by decide) ?_
    refine g_iload_n C dX12_valueOf_29 rfl 1 rfl ?_
    refine s_imul C dX12_valueOf_30 (by show -2147483648 ≤ 4 * a1.toInt ∧ 4 * a1.toInt ≤ 2147483647; omega) (fun z83889 h83890 => ?_)
    have h83890 : z83889.toInt = 4 * a1.toInt := h83890
    refine g_iload_n C dX12_valueOf_31 rfl 2 rfl ?_
    refine s_iadd C dX12_valueOf_32 (by show -2147483648 ≤ z83889.toInt + a2.toInt ∧ z83889.toInt + a2.toInt ≤ 2147483647; omega) (fun z83891 h83892 => ?_)
    have h83892 : z83891.toInt = z83889.toInt + a2.toInt := h83892
    refine g_aload_n C dX12_valueOf_33 rfl 0 rfl ?_
    refine g_getR C fi_X12_45 rfl e83878 (ha0).1 (ha0).2 dX12_valueOf_34 ?_
    refine g_iload_n C dX12_valueOf_37 rfl 1 rfl ?_
    refine g_iald (j := (a1.toInt.toNat)) C h83879.1 h83879.2.1 (ix_in h83879.2.2 (by omega)) dX12_valueOf_38 ?_
    refine s_isub C dX12_valueOf_39 (by show -2147483648 ≤ z83891.toInt - (pI P b83877 (a1.toInt.toNat)).toInt ∧ z83891.toInt - (pI P b83877 (a1.toInt.toNat)).toInt ≤ 2147483647; omega) (fun z83893 h83894 => ?_)
    have h83894 : z83893.toInt = z83891.toInt - (pI P b83877 (a1.toInt.toNat)).toInt := h83894
    refine g_iald (j := (z83893.toInt.toNat)) C h83888.1 h83888.2.1 (ix_in h83888.2.2 (by omega)) dX12_valueOf_40 ?_
    refine g_callVI (rest := []) C mv_X12_223 [.int a1, .int (pI P b83886 (z83893.toInt.toNat))] (s_X12_sumOf I (by omega) hW) (ha0).1 (ha0).2 rfl rfl (by decide) (Nat.le_of_ble_eq_true rfl) (by decide) dX12_valueOf_41 (fun r83895 Y83896 h83897 => ?_)
    obtain ⟨rfl, h83897⟩ := h83897
    have h83897 : True := h83897
    exact ret _ _ _ _ _ _ dX12_valueOf_44 rfl (by decide) (by decide) ⟨rfl, trivial⟩
  · have h83881 : a2.toInt < (pI P b83877 (a1.toInt.toNat)).toInt := h83881
    refine g_aload_n C dX12_valueOf_10 rfl 0 rfl ?_
    obtain ⟨b83898, e83899, h83900⟩ := I.fld (ha0) 11 13 32 rfl
    refine g_getR C fi_X12_48 rfl e83899 (ha0).1 (ha0).2 dX12_valueOf_11 ?_
    refine g_bipush (v := 16) C dX12_valueOf_14 (by decide) ?_
    refine g_iload_n C dX12_valueOf_16 rfl 1 rfl ?_
    refine s_imul C dX12_valueOf_17 (by show -2147483648 ≤ 16 * a1.toInt ∧ 16 * a1.toInt ≤ 2147483647; omega) (fun z83901 h83902 => ?_)
    have h83902 : z83901.toInt = 16 * a1.toInt := h83902
    refine g_iload_n C dX12_valueOf_18 rfl 2 rfl ?_
    refine s_iadd C dX12_valueOf_19 (by show -2147483648 ≤ z83901.toInt + a2.toInt ∧ z83901.toInt + a2.toInt ≤ 2147483647; omega) (fun z83903 h83904 => ?_)
    have h83904 : z83903.toInt = z83901.toInt + a2.toInt := h83904
    refine g_iald (j := (z83903.toInt.toNat)) C h83900.1 h83900.2.1 (ix_in h83900.2.2 (by omega)) dX12_valueOf_20 ?_
    exact ret _ _ _ _ _ _ dX12_valueOf_21 rfl (by decide) (by decide) ⟨rfl, trivial⟩
theorem dX12_told_34 : decode cX12_told 34 = .ok (.goto 4, 3) := by decide +kernel
theorem dX12_told_37 : decode cX12_told 37 = .ok (.iconst (-1), 1) := by decide +kernel
theorem dX12_told_38 : decode cX12_told 38 = .ok (.ireturn, 1) := by decide +kernel
set_option maxHeartbeats 4000000 in
set_option maxRecDepth 100000 in
theorem s_X12_told {P : PP} {a0 : Nat} {a1 : Int32} {a2 : Int32} (I : IM P a0) (hW : MW P a0) : CtrI yX12_told cX12_told 3 (some Jvm.ClassFile.FieldType.int) ({ frames := 3, cells := 0, slots := 0, locals := 192 } : Room) 0 0 P [.ref a0, .int a1, .int a2] (fun r P2 => IM P2 a0 ∧ EM [0] a0 P P2 ∧ MW P2 a0 ∧ (True)) := by
  refine enI (lv := [(0, .ref a0), (1, .int a1), (2, .int a2)]) (by decide) (Nat.le_of_ble_eq_true rfl) rfl (fun E D cy C Ci0 ret => ?_)
  have ha0 := I.2.1
  have J37 : ∀ (P37 : PP), (IM P37 a0) → (EM [0] a0 P P37) → (MW P37 a0) → (0 ≤ (pI P37 a0 0).toInt ∧ (pI P37 a0 0).toInt ≤ 0) → G E ({ frames := 3, cells := 0, slots := 0, locals := 192 } : Room) D cy 3 P37 0 0 37 [] [] := by
    intro P37 I37 X37 W37 hq37_0
    have h83941 := X37.at ha0
    refine g_iconst (v := (-1)) C dX12_told_37 (by decide) ?_
    exact ret _ _ _ _ _ _ dX12_told_38 rfl (by decide) (by decide) ⟨I37, X37, W37, trivial⟩
  refine g_aload_n C dX12_told_0 rfl 0 rfl ?_
  refine g_iconst (v := 0) C dX12_told_1 (by decide) ?_
  refine g_putI C fi_X12_1 rfl (ha0).1 (ha0).2 dX12_told_2 ?_
  refine gqW (ks := [0]) (I.setI (rgOk.of rfl (by decide))) (EM.setI I (by decide)) (fun Y83942 Iy83943 Xy83944 w83945 => ?_)
  have w83945 : (pI Y83942 a0 0).toInt = 0 := w83945
  have W83946 := hW.keep I Xy83944 (by decide) (by decide) (by decide)
  have Xz83947 : EM [0] a0 P Y83942 := Xy83944.mono (by decide)
  have h83948 := Xy83944.at ha0
  refine g_aload_n C dX12_told_5 rfl 0 rfl ?_
  refine g_iload_n C dX12_told_6 rfl 1 rfl ?_
  refine g_callVI (rest := []) C mv_X12_192 [.int a1] (s_X12_isBook Iy83943 W83946) (h83948).1 (h83948).2 rfl rfl (by decide) (Nat.le_of_ble_eq_true rfl) (by decide) dX12_told_7 (fun r83949 Y83950 h83951 => ?_)
  obtain ⟨rfl, h83951⟩ := h83951
  obtain ⟨h83951, hi83952, hi83953⟩ := h83951
  have hi83952 : r83949.toInt = 0 ∨ (((0 : Int) ≤ a1.toInt ∧ a1.toInt ≤ (1 : Int))) := hi83952
  have h83951 : 0 ≤ r83949.toInt ∧ r83949.toInt ≤ 1 := h83951
  refine b_if_eq C 37 dX12_told_10 (by decide) (fun h83954 => ?_) (fun h83954 => ?_)
  · have h83954 : r83949.toInt = 0 := congrArg Int32.toInt h83954
    clear hi83952
    refine g_lv (lv' := []) [] rfl ?_
    exact J37 Y83942 Iy83943 Xz83947 W83946 (by omega)
  · have h83954 : r83949.toInt ≠ 0 := ti_ne h83954
    replace hi83952 := hi83952.resolve_left (by omega)
    obtain ⟨b83955, e83956, h83957⟩ := Iy83943.fld (h83948) 10 13 2 rfl
    have hi83953 := (hi83953.resolve_left (by omega)) b83955 e83956
    have hi83953 : 0 < (pI Y83942 b83955 (a1.toInt.toNat)).toInt := hi83953
    have h83958 := Iy83943.arr e83956 rfl (a1.toInt.toNat)
    refine g_iload_n C dX12_told_13 rfl 2 rfl ?_
    refine g_iconst (v := 0) C dX12_told_14 (by decide) ?_
    refine g_aload_n C dX12_told_15 rfl 0 rfl ?_
    refine g_iload_n C dX12_told_16 rfl 1 rfl ?_
    refine g_callVI (rest := [.int 0, .int a2]) C mv_X12_238 [.int a1] (s_X12_allOf Iy83943 (by omega) W83946) (h83948).1 (h83948).2 rfl rfl (by decide) (Nat.le_of_ble_eq_true rfl) (by decide) dX12_told_17 (fun r83959 Y83960 h83961 => ?_)
    obtain ⟨rfl, h83961⟩ := h83961
    obtain ⟨h83961, hi83962⟩ := h83961
    obtain ⟨b83963, e83964, h83965⟩ := Iy83943.fld (h83948) 15 13 3 rfl
    have hi83962 : (r83959.toInt = 0 ∧ (pI Y83942 b83955 (a1.toInt.toNat)).toInt = 0) ∨ r83959.toInt = (pI Y83942 b83955 (a1.toInt.toNat)).toInt + (pI Y83942 b83963 (a1.toInt.toNat)).toInt := hi83962 b83955 b83963 e83956 e83964
    have h83966 := Iy83943.arr e83964 rfl (a1.toInt.toNat)
    have h83961 : 0 ≤ r83959.toInt ∧ r83959.toInt ≤ 20 := h83961
    refine g_iconst (v := 1) C dX12_told_20 (by decide) ?_
    refine s_isub C dX12_told_21 (by show -2147483648 ≤ r83959.toInt - 1 ∧ r83959.toInt - 1 ≤ 2147483647; omega) (fun z83967 h83968 => ?_)
    have h83968 : z83967.toInt = r83959.toInt - 1 := h83968
    refine g_callSI (b := 0) (ci := 0) (rest := []) C ms_X12_178 [.int a2, .int 0, .int z83967] (s_X12_within Iy83943.1) rfl rfl (by decide) (Nat.le_of_ble_eq_true rfl) (by decide) dX12_told_22 (fun r83969 Y83970 h83971 => ?_)
    obtain ⟨rfl, h83971⟩ := h83971
    obtain ⟨h83971, hi83972⟩ := h83971
    have hi83972 : r83969.toInt = 0 ∨ (0 ≤ a2.toInt ∧ a2.toInt ≤ z83967.toInt) := hi83972
    have h83971 : 0 ≤ r83969.toInt ∧ r83969.toInt ≤ 1 := h83971
    refine b_if_eq C 37 dX12_told_25 (by decide) (fun h83973 => ?_) (fun h83973 => ?_)
    · have h83973 : r83969.toInt = 0 := congrArg Int32.toInt h83973
      clear hi83972
      refine g_lv (lv' := []) [] rfl ?_
      exact J37 Y83942 Iy83943 Xz83947 W83946 (by omega)
    · have h83973 : r83969.toInt ≠ 0 := ti_ne h83973
      replace hi83972 := hi83972.resolve_left (by omega)
      refine g_aload_n C dX12_told_28 rfl 0 rfl ?_
      refine g_iload_n C dX12_told_29 rfl 1 rfl ?_
      refine g_iload_n C dX12_told_30 rfl 2 rfl ?_
      refine g_callVI (rest := []) C mv_X12_271 [.int a1, .int a2] (s_X12_valueOf Iy83943 (by omega) (by omega) W83946 (fun b9 c9 e9 f9 => by rw [e83956] at e9; cases e9; rw [e83964] at f9; cases f9; show a2.toInt < (pI Y83942 b83955 (a1.toInt.toNat)).toInt + (pI Y83942 b83963 (a1.toInt.toNat)).toInt; omega)) (h83948).1 (h83948).2 rfl rfl (by decide) (Nat.le_of_ble_eq_true rfl) (by decide) dX12_told_31 (fun r83974 Y83975 h83976 => ?_)
      obtain ⟨rfl, h83976⟩ := h83976
      have h83976 : True := h83976
      refine g_goto C 38 dX12_told_34 (by decide) ?_
      exact ret _ _ _ _ _ _ dX12_told_38 rfl (by decide) (by decide) ⟨Iy83943, Xz83947, W83946, trivial⟩
theorem dX12_town_0 : decode cX12_town 0 = .ok (.aload_n 0, 1) := by decide +kernel
theorem dX12_town_1 : decode cX12_town 1 = .ok (.iconst 0, 1) := by decide +kernel
theorem dX12_town_2 : decode cX12_town 2 = .ok (.putfield 1, 3) := by decide +kernel
theorem dX12_town_5 : decode cX12_town 5 = .ok (.aload_n 0, 1) := by decide +kernel
theorem dX12_town_6 : decode cX12_town 6 = .ok (.iload_n 1, 1) := by decide +kernel
theorem dX12_town_7 : decode cX12_town 7 = .ok (.invokevirtual 192, 3) := by decide +kernel
theorem dX12_town_10 : decode cX12_town 10 = .ok (.ifCond .eq 13, 3) := by decide +kernel
theorem dX12_town_13 : decode cX12_town 13 = .ok (.iload_n 2, 1) := by decide +kernel
theorem dX12_town_14 : decode cX12_town 14 = .ok (.iconst 0, 1) := by decide +kernel
theorem dX12_town_15 : decode cX12_town 15 = .ok (.bipush 100, 2) := by decide +kernel
theorem dX12_town_17 : decode cX12_town 17 = .ok (.invokestatic 178, 3) := by decide +kernel
theorem dX12_town_20 : decode cX12_town 20 = .ok (.ifCond .ne 5, 3) := by decide +kernel
theorem dX12_town_23 : decode cX12_town 23 = .ok (.iconst (-1), 1) := by decide +kernel
theorem dX12_town_24 : decode cX12_town 24 = .ok (.ireturn, 1) := by decide +kernel
theorem dX12_town_25 : decode cX12_town 25 = .ok (.iconst 0, 1) := by decide +kernel
theorem dX12_town_26 : decode cX12_town 26 = .ok (.istore_n 3, 1) := by decide +kernel
theorem dX12_town_27 : decode cX12_town 27 = .ok (.iload_n 3, 1) := by decide +kernel
theorem dX12_town_28 : decode cX12_town 28 = .ok (.iconst 4, 1) := by decide +kernel
theorem dX12_town_29 : decode cX12_town 29 = .ok (.if_icmp .ge 21, 3) := by decide +kernel
theorem dX12_town_32 : decode cX12_town 32 = .ok (.aload_n 0, 1) := by decide +kernel
theorem dX12_town_33 : decode cX12_town 33 = .ok (.getfield 133, 3) := by decide +kernel
theorem dX12_town_36 : decode cX12_town 36 = .ok (.iload_n 3, 1) := by decide +kernel
theorem dX12_town_37 : decode cX12_town 37 = .ok (.aload_n 0, 1) := by decide +kernel
theorem dX12_town_38 : decode cX12_town 38 = .ok (.iload_n 3, 1) := by decide +kernel
theorem dX12_town_39 : decode cX12_town 39 = .ok (.iload_n 1, 1) := by decide +kernel
theorem dX12_town_40 : decode cX12_town 40 = .ok (.invokevirtual 408, 3) := by decide +kernel
theorem dX12_town_43 : decode cX12_town 43 = .ok (.iastore, 1) := by decide +kernel
theorem dX12_town_44 : decode cX12_town 44 = .ok (.iinc 3 1, 3) := by decide +kernel
theorem dX12_town_47 : decode cX12_town 47 = .ok (.goto (-20), 3) := by decide +kernel
theorem dX12_town_50 : decode cX12_town 50 = .ok (.iconst 0, 1) := by decide +kernel
theorem dX12_town_51 : decode cX12_town 51 = .ok (.istore_n 3, 1) := by decide +kernel
theorem dX12_town_52 : decode cX12_town 52 = .ok (.iload_n 3, 1) := by decide +kernel
theorem dX12_town_53 : decode cX12_town 53 = .ok (.bipush 60, 2) := by decide +kernel
theorem dX12_town_55 : decode cX12_town 55 = .ok (.if_icmp .gt 70, 3) := by decide +kernel
theorem dX12_town_58 : decode cX12_town 58 = .ok (.iconst 0, 1) := by decide +kernel
theorem dX12_town_59 : decode cX12_town 59 = .ok (.istore 4, 2) := by decide +kernel
theorem dX12_town_61 : decode cX12_town 61 = .ok (.iconst 0, 1) := by decide +kernel
theorem dX12_town_62 : decode cX12_town 62 = .ok (.istore 5, 2) := by decide +kernel
theorem dX12_town_64 : decode cX12_town 64 = .ok (.iload 5, 2) := by decide +kernel
theorem dX12_town_66 : decode cX12_town 66 = .ok (.iconst 4, 1) := by decide +kernel
theorem dX12_town_67 : decode cX12_town 67 = .ok (.if_icmp .ge 36, 3) := by decide +kernel
theorem dX12_town_70 : decode cX12_town 70 = .ok (.iload 4, 2) := by decide +kernel
theorem dX12_town_72 : decode cX12_town 72 = .ok (.aload_n 0, 1) := by decide +kernel
theorem dX12_town_73 : decode cX12_town 73 = .ok (.getfield 133, 3) := by decide +kernel
theorem dX12_town_76 : decode cX12_town 76 = .ok (.iload 5, 2) := by decide +kernel
theorem dX12_town_78 : decode cX12_town 78 = .ok (.iaload, 1) := by decide +kernel
theorem dX12_town_79 : decode cX12_town 79 = .ok (.iload_n 3, 1) := by decide +kernel
theorem dX12_town_80 : decode cX12_town 80 = .ok (.if_icmp .gt 13, 3) := by decide +kernel
theorem dX12_town_83 : decode cX12_town 83 = .ok (.aload_n 0, 1) := by decide +kernel
theorem dX12_town_84 : decode cX12_town 84 = .ok (.getfield 130, 3) := by decide +kernel
theorem dX12_town_87 : decode cX12_town 87 = .ok (.iload 5, 2) := by decide +kernel
theorem dX12_town_89 : decode cX12_town 89 = .ok (.iaload, 1) := by decide +kernel
theorem dX12_town_90 : decode cX12_town 90 = .ok (.goto 4, 3) := by decide +kernel
theorem dX12_town_93 : decode cX12_town 93 = .ok (.iconst 0, 1) := by decide +kernel
theorem dX12_town_94 : decode cX12_town 94 = .ok (.iadd, 1) := by decide +kernel
theorem dX12_town_95 : decode cX12_town 95 = .ok (.istore 4, 2) := by decide +kernel
theorem dX12_town_97 : decode cX12_town 97 = .ok (.iinc 5 1, 3) := by decide +kernel
theorem dX12_town_100 : decode cX12_town 100 = .ok (.goto (-36), 3) := by decide +kernel
theorem dX12_town_103 : decode cX12_town 103 = .ok (.bipush 100, 2) := by decide +kernel
theorem dX12_town_105 : decode cX12_town 105 = .ok (.iload 4, 2) := by decide +kernel
theorem dX12_town_107 : decode cX12_town 107 = .ok (.imul, 1) := by decide +kernel
theorem dX12_town_108 : decode cX12_town 108 = .ok (.iload_n 2, 1) := by decide +kernel
theorem dX12_town_109 : decode cX12_town 109 = .ok (.aload_n 0, 1) := by decide +kernel
theorem dX12_town_110 : decode cX12_town 110 = .ok (.invokevirtual 411, 3) := by decide +kernel
theorem dX12_town_113 : decode cX12_town 113 = .ok (.imul, 1) := by decide +kernel
theorem dX12_town_114 : decode cX12_town 114 = .ok (.if_icmp .lt 5, 3) := by decide +kernel
theorem dX12_town_117 : decode cX12_town 117 = .ok (.iload_n 3, 1) := by decide +kernel
theorem dX12_town_118 : decode cX12_town 118 = .ok (.ireturn, 1) := by decide +kernel
theorem dX12_town_119 : decode cX12_town 119 = .ok (.iinc 3 1, 3) := by decide +kernel
theorem dX12_town_122 : decode cX12_town 122 = .ok (.goto (-70), 3) := by decide +kernel
theorem dX12_town_125 : decode cX12_town 125 = .ok (.iconst (-1), 1) := by decide +kernel
theorem dX12_town_126 : decode cX12_town 126 = .ok (.ireturn, 1) := by decide +kernel
set_option maxHeartbeats 4000000 in
set_option maxRecDepth 100000 in
theorem s_X12_town {P : PP} {a0 : Nat} {a1 : Int32} {a2 : Int32} (I : IM P a0) (hW : MW P a0) : CtrI yX12_town cX12_town 6 (some Jvm.ClassFile.FieldType.int) ({ frames := 5, cells := 0, slots := 0, locals := 320 } : Room) 0 0 P [.ref a0, .int a1, .int a2] (fun r P2 => IM P2 a0 ∧ EM [0, 28, 29, 30, 31, 35, 36, 37, 38, 47] a0 P P2 ∧ MW P2 a0 ∧ (-1 ≤ r.toInt ∧ r.toInt ≤ 60)) := by
  refine enI (lv := [(0, .ref a0), (1, .int a1), (2, .int a2)]) (by decide) (Nat.le_of_ble_eq_true rfl) rfl (fun E D cy C Ci0 ret => ?_)
  have ha0 := I.2.1
  have J52 : ∀ (n52 : Nat) (P52 : PP) (v52_3 : Int32), (61 - v52_3.toInt).toNat < n52 → (IM P52 a0) → (EM [0, 28, 29, 30, 31, 35, 36, 37, 38, 47] a0 P P52) → (MW P52 a0) → (0 ≤ a2.toInt ∧ a2.toInt ≤ 100) → (0 ≤ v52_3.toInt ∧ v52_3.toInt ≤ 61) → (0 ≤ (pI P52 a0 0).toInt ∧ (pI P52 a0 0).toInt ≤ 0) → (∀ b, pR P52 a0 10 = some b → 1 ≤ (pI P52 b (a1.toInt.toNat)).toInt ∧ (pI P52 b (a1.toInt.toNat)).toInt ≤ 16) → G E ({ frames := 5, cells := 0, slots := 0, locals := 320 } : Room) D cy 6 P52 0 0 52 [(0, .ref a0), (2, .int a2), (3, .int v52_3)] [] := by
    intro n52
    induction n52 with
    | zero => intro P52 v52_3 hm52 I52 X52 W52 hv52_2 hv52_3 hq52_0 hq52_1; omega
    | succ n52 ih52 =>
      intro P52 v52_3 hm52 I52 X52 W52 hv52_2 hv52_3 hq52_0 hq52_1
      have h85095 := X52.at ha0
      obtain ⟨b85096, e85097, h85098⟩ := I52.fld (h85095) 10 13 2 rfl
      have hq52_1 := hq52_1 b85096 e85097
      have J64 : ∀ (n64 : Nat) (v64_4 : Int32) (v64_5 : Int32), (4 - v64_5.toInt).toNat < n64 → (0 ≤ a2.toInt ∧ a2.toInt ≤ 100) → (0 ≤ v52_3.toInt ∧ v52_3.toInt ≤ 60) → (0 ≤ v64_5.toInt ∧ v64_5.toInt ≤ 4) → (0 ≤ (pI P52 a0 0).toInt ∧ (pI P52 a0 0).toInt ≤ 0) → (∀ b, pR P52 a0 10 = some b → 1 ≤ (pI P52 b (a1.toInt.toNat)).toInt ∧ (pI P52 b (a1.toInt.toNat)).toInt ≤ 16) → G E ({ frames := 5, cells := 0, slots := 0, locals := 320 } : Room) D cy 6 P52 0 0 64 [(0, .ref a0), (2, .int a2), (3, .int v52_3), (4, .int v64_4), (5, .int v64_5)] [] := by
        intro n64
        induction n64 with
        | zero => intro v64_4 v64_5 hm64 hv64_2 hv64_3 hv64_5 hq64_0 hq64_1; omega
        | succ n64 ih64 =>
          intro v64_4 v64_5 hm64 hv64_2 hv64_3 hv64_5 hq64_0 hq64_1
          have h85099 := X52.at ha0
          obtain ⟨b85100, e85101, h85102⟩ := I52.fld (h85099) 10 13 2 rfl
          have hq64_1 := hq64_1 b85100 e85101
          have J94 : ∀ (v94_s0 : Int32), (0 ≤ a2.toInt ∧ a2.toInt ≤ 100) → (0 ≤ v52_3.toInt ∧ v52_3.toInt ≤ 60) → (0 ≤ v64_5.toInt ∧ v64_5.toInt ≤ 3) → (0 ≤ (pI P52 a0 0).toInt ∧ (pI P52 a0 0).toInt ≤ 0) → (∀ b, pR P52 a0 10 = some b → 1 ≤ (pI P52 b (a1.toInt.toNat)).toInt ∧ (pI P52 b (a1.toInt.toNat)).toInt ≤ 16) → (∀ b, pR P52 a0 47 = some b → (pI P52 b (v64_5.toInt.toNat)).toInt ≤ 2147483647) → G E ({ frames := 5, cells := 0, slots := 0, locals := 320 } : Room) D cy 6 P52 0 0 94 [(0, .ref a0), (2, .int a2), (3, .int v52_3), (5, .int v64_5)] [.int v94_s0, .int v64_4] := by
            intro v94_s0 hv94_2 hv94_3 hv94_5 hq94_0 hq94_1 hq94_2
            have h85103 := X52.at ha0
            obtain ⟨b85104, e85105, h85106⟩ := I52.fld (h85103) 10 13 2 rfl
            have hq94_1 := hq94_1 b85104 e85105
            obtain ⟨b85107, e85108, h85109⟩ := I52.fld (h85103) 47 13 4 rfl
            have hq94_2 := hq94_2 b85107 e85108
            refine a_iadd C dX12_town_94 (fun z85110 => ?_)
            refine g_istore (lv' := [(4, .int z85110), (0, .ref a0), (2, .int a2), (3, .int v52_3), (5, .int v64_5)]) C dX12_town_95 (by decide) rfl ?_
            refine s_iinc (lv0 := [(4, .int z85110), (0, .ref a0), (2, .int a2), (3, .int v52_3)]) (m := 1) C dX12_town_97 4 rfl (by decide) rfl (by decide) (by omega) (fun z85112 h85113 => ?_)
            have h85113 : z85112.toInt = v64_5.toInt + 1 := h85113
            refine g_goto C 64 dX12_town_100 (by decide) ?_
            refine g_lv (lv' := [(0, .ref a0), (2, .int a2), (3, .int v52_3), (4, .int z85110), (5, .int z85112)]) [2, 3, 4, 1, 0] rfl ?_
            exact ih64 z85110 z85112 (by omega) (by omega) (by omega) (by omega) (by omega) (fun b9 e9 => by rw [e85105] at e9; cases e9; omega)
          refine g_iload C dX12_town_64 4 rfl ?_
          refine g_iconst (v := 4) C dX12_town_66 (by decide) ?_
          refine b_icmp_ge C 103 dX12_town_67 (by decide) (fun h85114 => ?_) (fun h85114 => ?_)
          · have h85114 : 4 ≤ v64_5.toInt := h85114
            refine g_bipush (v := 100) C dX12_town_103 (by decide) ?_
            refine g_iload C dX12_town_105 3 rfl ?_
            refine a_imul C dX12_town_107 (fun z85115 => ?_)
            refine g_iload_n C dX12_town_108 rfl 1 rfl ?_
            refine g_aload_n C dX12_town_109 rfl 0 rfl ?_
            refine g_callVI (rest := [.int a2, .int z85115]) C mv_X12_411 [] (s_X12_allHouses I52 W52) (h85099).1 (h85099).2 rfl rfl (by decide) (Nat.le_of_ble_eq_true rfl) (by decide) dX12_town_110 (fun r85117 Y85118 h85119 => ?_)
            obtain ⟨rfl, h85119⟩ := h85119
            have h85119 : True := h85119
            refine a_imul C dX12_town_113 (fun z85120 => ?_)
            have u85123 := ti_rng z85115
            have u85124 := ti_rng z85120
            refine b_icmp_lt C 119 dX12_town_114 (by decide) (fun h85122 => ?_) (fun h85122 => ?_)
            · have h85122 : z85115.toInt < z85120.toInt := h85122
              refine s_iinc (lv0 := [(0, .ref a0), (2, .int a2), (4, .int v64_4), (5, .int v64_5)]) (m := 1) C dX12_town_119 2 rfl (by decide) rfl (by decide) (by omega) (fun z85125 h85126 => ?_)
              have h85126 : z85125.toInt = v52_3.toInt + 1 := h85126
              refine g_goto C 52 dX12_town_122 (by decide) ?_
              refine g_lv (lv' := [(0, .ref a0), (2, .int a2), (3, .int z85125)]) [1, 2, 0] rfl ?_
              exact ih52 P52 z85125 (by omega) I52 X52 W52 (by omega) (by omega) (by omega) (fun b9 e9 => by rw [e85101] at e9; cases e9; omega)
            · have h85122 : z85120.toInt ≤ z85115.toInt := h85122
              refine g_iload_n C dX12_town_117 rfl 2 rfl ?_
              exact ret _ _ _ _ _ _ dX12_town_118 rfl (by decide) (by decide) ⟨I52, X52, W52, (by omega)⟩
          · have h85114 : v64_5.toInt < 4 := h85114
            refine g_iload C dX12_town_70 3 rfl ?_
            refine g_aload_n C dX12_town_72 rfl 0 rfl ?_
            obtain ⟨b85127, e85128, h85129⟩ := I52.fld (h85099) 47 13 4 rfl
            refine g_getR C fi_X12_133 rfl e85128 (h85099).1 (h85099).2 dX12_town_73 ?_
            refine g_iload C dX12_town_76 4 rfl ?_
            refine g_iald (j := (v64_5.toInt.toNat)) C h85129.1 h85129.2.1 (ix_in h85129.2.2 (by omega)) dX12_town_78 ?_
            refine g_iload_n C dX12_town_79 rfl 2 rfl ?_
            have u85131 := ti_rng (pI P52 b85127 (v64_5.toInt.toNat))
            refine b_icmp_gt C 93 dX12_town_80 (by decide) (fun h85130 => ?_) (fun h85130 => ?_)
            · have h85130 : v52_3.toInt < (pI P52 b85127 (v64_5.toInt.toNat)).toInt := h85130
              refine g_iconst (v := 0) C dX12_town_93 (by decide) ?_
              refine g_lv (lv' := [(0, .ref a0), (2, .int a2), (3, .int v52_3), (5, .int v64_5)]) [0, 1, 2, 4] rfl ?_
              exact J94 0 (by omega) (by omega) (by omega) (by omega) (fun b9 e9 => by rw [e85101] at e9; cases e9; omega) (fun b9 e9 => by rw [e85128] at e9; cases e9; omega)
            · have h85130 : (pI P52 b85127 (v64_5.toInt.toNat)).toInt ≤ v52_3.toInt := h85130
              refine g_aload_n C dX12_town_83 rfl 0 rfl ?_
              obtain ⟨b85132, e85133, h85134⟩ := I52.fld (h85099) 46 13 4 rfl
              refine g_getR C fi_X12_130 rfl e85133 (h85099).1 (h85099).2 dX12_town_84 ?_
              refine g_iload C dX12_town_87 4 rfl ?_
              refine g_iald (j := (v64_5.toInt.toNat)) C h85134.1 h85134.2.1 (ix_in h85134.2.2 (by omega)) dX12_town_89 ?_
              refine g_goto C 94 dX12_town_90 (by decide) ?_
              refine g_lv (lv' := [(0, .ref a0), (2, .int a2), (3, .int v52_3), (5, .int v64_5)]) [0, 1, 2, 4] rfl ?_
              exact J94 (pI P52 b85132 (v64_5.toInt.toNat)) (by omega) (by omega) (by omega) (by omega) (fun b9 e9 => by rw [e85101] at e9; cases e9; omega) (fun b9 e9 => by rw [e85128] at e9; cases e9; omega)
      refine g_iload_n C dX12_town_52 rfl 2 rfl ?_
      refine g_bipush (v := 60) C dX12_town_53 (by decide) ?_
      refine b_icmp_gt C 125 dX12_town_55 (by decide) (fun h85135 => ?_) (fun h85135 => ?_)
      · have h85135 : 60 < v52_3.toInt := h85135
        refine g_iconst (v := (-1)) C dX12_town_125 (by decide) ?_
        exact ret _ _ _ _ _ _ dX12_town_126 rfl (by decide) (by decide) ⟨I52, X52, W52, (by decide)⟩
      · have h85135 : v52_3.toInt ≤ 60 := h85135
        refine g_iconst (v := 0) C dX12_town_58 (by decide) ?_
        refine g_istore (lv' := [(4, .int 0), (0, .ref a0), (2, .int a2), (3, .int v52_3)]) C dX12_town_59 (by decide) rfl ?_
        refine g_iconst (v := 0) C dX12_town_61 (by decide) ?_
        refine g_istore (lv' := [(5, .int 0), (4, .int 0), (0, .ref a0), (2, .int a2), (3, .int v52_3)]) C dX12_town_62 (by decide) rfl ?_
        refine g_lv (lv' := [(0, .ref a0), (2, .int a2), (3, .int v52_3), (4, .int 0), (5, .int 0)]) [2, 3, 4, 1, 0] rfl ?_
        exact J64 _ 0 0 (Nat.lt_succ_self _) (by omega) (by omega) (by decide) (by omega) (fun b9 e9 => by rw [e85097] at e9; cases e9; omega)
  have J27 : ∀ (n27 : Nat) (P27 : PP) (v27_3 : Int32), (4 - v27_3.toInt).toNat < n27 → (IM P27 a0) → (EM [0, 28, 29, 30, 31, 35, 36, 37, 38, 47] a0 P P27) → (MW P27 a0) → (0 ≤ a1.toInt ∧ a1.toInt ≤ 1) → (0 ≤ a2.toInt ∧ a2.toInt ≤ 100) → (0 ≤ v27_3.toInt ∧ v27_3.toInt ≤ 4) → (0 ≤ (pI P27 a0 0).toInt ∧ (pI P27 a0 0).toInt ≤ 0) → (∀ b, pR P27 a0 10 = some b → 1 ≤ (pI P27 b (a1.toInt.toNat)).toInt ∧ (pI P27 b (a1.toInt.toNat)).toInt ≤ 16) → G E ({ frames := 5, cells := 0, slots := 0, locals := 320 } : Room) D cy 6 P27 0 0 27 [(0, .ref a0), (1, .int a1), (2, .int a2), (3, .int v27_3)] [] := by
    intro n27
    induction n27 with
    | zero => intro P27 v27_3 hm27 I27 X27 W27 hv27_1 hv27_2 hv27_3 hq27_0 hq27_1; omega
    | succ n27 ih27 =>
      intro P27 v27_3 hm27 I27 X27 W27 hv27_1 hv27_2 hv27_3 hq27_0 hq27_1
      have h85136 := X27.at ha0
      obtain ⟨b85137, e85138, h85139⟩ := I27.fld (h85136) 10 13 2 rfl
      have hq27_1 := hq27_1 b85137 e85138
      refine g_iload_n C dX12_town_27 rfl 3 rfl ?_
      refine g_iconst (v := 4) C dX12_town_28 (by decide) ?_
      refine b_icmp_ge C 50 dX12_town_29 (by decide) (fun h85140 => ?_) (fun h85140 => ?_)
      · have h85140 : 4 ≤ v27_3.toInt := h85140
        refine g_iconst (v := 0) C dX12_town_50 (by decide) ?_
        refine g_istore_n (lv' := [(3, .int 0), (0, .ref a0), (1, .int a1), (2, .int a2)]) C dX12_town_51 rfl (by decide) rfl ?_
        refine g_lv (lv' := [(0, .ref a0), (2, .int a2), (3, .int 0)]) [1, 3, 0] rfl ?_
        exact J52 _ P27 0 (Nat.lt_succ_self _) I27 X27 W27 (by omega) (by decide) (by omega) (fun b9 e9 => by rw [e85138] at e9; cases e9; omega)
      · have h85140 : v27_3.toInt < 4 := h85140
        refine g_aload_n C dX12_town_32 rfl 0 rfl ?_
        obtain ⟨b85141, e85142, h85143⟩ := I27.fld (h85136) 47 13 4 rfl
        refine g_getR C fi_X12_133 rfl e85142 (h85136).1 (h85136).2 dX12_town_33 ?_
        refine g_iload_n C dX12_town_36 rfl 3 rfl ?_
        refine g_aload_n C dX12_town_37 rfl 0 rfl ?_
        refine g_iload_n C dX12_town_38 rfl 3 rfl ?_
        refine g_iload_n C dX12_town_39 rfl 1 rfl ?_
        refine g_callVI (rest := [.int v27_3, .ref b85141]) C mv_X12_408 [.int v27_3, .int a1] (s_X12_needsOf I27 (by omega) (by omega) (fun b9 e9 => by rw [e85138] at e9; cases e9; show 1 ≤ (pI P27 b85137 (a1.toInt.toNat)).toInt ∧ (pI P27 b85137 (a1.toInt.toNat)).toInt ≤ 16; omega) W27) (h85136).1 (h85136).2 rfl rfl (by decide) (Nat.le_of_ble_eq_true rfl) (by decide) dX12_town_40 (fun r85144 Y85145 h85146 => ?_)
        obtain ⟨Iy85147, Xy85148, W85149, h85146⟩ := h85146
        have q85150 := Xy85148.keepF 0 (by decide)
        have q85151 := Xy85148.keepA e85138 (by decide) rfl (a1.toInt.toNat)
        have Xz85152 : EM [0, 28, 29, 30, 31, 35, 36, 37, 38, 47] a0 P Y85145 := EM.tr ha0 X27 (Xy85148.mono (by decide))
        have e85153 := Xy85148.ref h85136 (by decide) e85138
        have e85154 := Xy85148.ref h85136 (by decide) e85142
        have h85155 := Xy85148.at h85136
        have h85156 := Xy85148.ar h85139
        have h85157 := Xy85148.ar h85143
        have h85146 : 0 ≤ r85144.toInt ∧ r85144.toInt ≤ 61 := h85146
        refine g_iast (j := (v27_3.toInt.toNat)) C h85157.1 h85157.2.1 (ix_in h85157.2.2 (by omega)) dX12_town_43 ?_
        refine gqW (ks := [47]) (Iy85147.setA e85154 h85157 (by decide) (arOk.none rfl)) (EM.setA Iy85147 e85154 rfl (by decide)) (fun Y85158 Iy85159 Xy85160 w85161 => ?_)
        have w85161 : (pI Y85158 b85141 (v27_3.toInt.toNat)).toInt = r85144.toInt := w85161
        have q85162 := Xy85160.keepF 0 (by decide)
        have q85163 := Xy85160.keepA e85153 (by decide) rfl (a1.toInt.toNat)
        have W85164 := W85149.keep Iy85147 Xy85160 (by decide) (by decide) (by decide)
        have Xz85165 : EM [0, 28, 29, 30, 31, 35, 36, 37, 38, 47] a0 P Y85158 := EM.tr ha0 Xz85152 (Xy85160.mono (by decide))
        have e85166 := Xy85160.ref h85155 (by decide) e85153
        have e85167 := Xy85160.ref h85155 (by decide) e85154
        have h85168 := Xy85160.at h85155
        have h85169 := Xy85160.ar h85156
        have h85170 := Xy85160.ar h85157
        refine s_iinc (lv0 := [(0, .ref a0), (1, .int a1), (2, .int a2)]) (m := 1) C dX12_town_44 3 rfl (by decide) rfl (by decide) (by omega) (fun z85171 h85172 => ?_)
        have h85172 : z85171.toInt = v27_3.toInt + 1 := h85172
        refine g_goto C 27 dX12_town_47 (by decide) ?_
        refine g_lv (lv' := [(0, .ref a0), (1, .int a1), (2, .int a2), (3, .int z85171)]) [1, 2, 3, 0] rfl ?_
        exact ih27 Y85158 z85171 (by omega) Iy85159 Xz85165 W85164 (by omega) (by omega) (by omega) (by omega) (fun b9 e9 => by rw [e85166] at e9; cases e9; omega)
  have J23 : ∀ (P23 : PP), (IM P23 a0) → (EM [0, 28, 29, 30, 31, 35, 36, 37, 38, 47] a0 P P23) → (MW P23 a0) → (0 ≤ (pI P23 a0 0).toInt ∧ (pI P23 a0 0).toInt ≤ 0) → G E ({ frames := 5, cells := 0, slots := 0, locals := 320 } : Room) D cy 6 P23 0 0 23 [] [] := by
    intro P23 I23 X23 W23 hq23_0
    have h85173 := X23.at ha0
    refine g_iconst (v := (-1)) C dX12_town_23 (by decide) ?_
    exact ret _ _ _ _ _ _ dX12_town_24 rfl (by decide) (by decide) ⟨I23, X23, W23, (by decide)⟩
  refine g_aload_n C dX12_town_0 rfl 0 rfl ?_
  refine g_iconst (v := 0) C dX12_town_1 (by decide) ?_
  refine g_putI C fi_X12_1 rfl (ha0).1 (ha0).2 dX12_town_2 ?_
  refine gqW (ks := [0]) (I.setI (rgOk.of rfl (by decide))) (EM.setI I (by decide)) (fun Y85174 Iy85175 Xy85176 w85177 => ?_)
  have w85177 : (pI Y85174 a0 0).toInt = 0 := w85177
  have W85178 := hW.keep I Xy85176 (by decide) (by decide) (by decide)
  have Xz85179 : EM [0, 28, 29, 30, 31, 35, 36, 37, 38, 47] a0 P Y85174 := Xy85176.mono (by decide)
  have h85180 := Xy85176.at ha0
  refine g_aload_n C dX12_town_5 rfl 0 rfl ?_
  refine g_iload_n C dX12_town_6 rfl 1 rfl ?_
  refine g_callVI (rest := []) C mv_X12_192 [.int a1] (s_X12_isBook Iy85175 W85178) (h85180).1 (h85180).2 rfl rfl (by decide) (Nat.le_of_ble_eq_true rfl) (by decide) dX12_town_7 (fun r85181 Y85182 h85183 => ?_)
  obtain ⟨rfl, h85183⟩ := h85183
  obtain ⟨h85183, hi85184, hi85185⟩ := h85183
  have hi85184 : r85181.toInt = 0 ∨ (((0 : Int) ≤ a1.toInt ∧ a1.toInt ≤ (1 : Int))) := hi85184
  have h85183 : 0 ≤ r85181.toInt ∧ r85181.toInt ≤ 1 := h85183
  refine b_if_eq C 23 dX12_town_10 (by decide) (fun h85186 => ?_) (fun h85186 => ?_)
  · have h85186 : r85181.toInt = 0 := congrArg Int32.toInt h85186
    clear hi85184
    refine g_lv (lv' := []) [] rfl ?_
    exact J23 Y85174 Iy85175 Xz85179 W85178 (by omega)
  · have h85186 : r85181.toInt ≠ 0 := ti_ne h85186
    replace hi85184 := hi85184.resolve_left (by omega)
    obtain ⟨b85187, e85188, h85189⟩ := Iy85175.fld (h85180) 10 13 2 rfl
    have hi85185 := (hi85185.resolve_left (by omega)) b85187 e85188
    have hi85185 : 0 < (pI Y85174 b85187 (a1.toInt.toNat)).toInt := hi85185
    have h85190 := Iy85175.arr e85188 rfl (a1.toInt.toNat)
    refine g_iload_n C dX12_town_13 rfl 2 rfl ?_
    refine g_iconst (v := 0) C dX12_town_14 (by decide) ?_
    refine g_bipush (v := 100) C dX12_town_15 (by decide) ?_
    refine g_callSI (b := 0) (ci := 0) (rest := []) C ms_X12_178 [.int a2, .int 0, .int 100] (s_X12_within Iy85175.1) rfl rfl (by decide) (Nat.le_of_ble_eq_true rfl) (by decide) dX12_town_17 (fun r85191 Y85192 h85193 => ?_)
    obtain ⟨rfl, h85193⟩ := h85193
    obtain ⟨h85193, hi85194⟩ := h85193
    have hi85194 : r85191.toInt = 0 ∨ (0 ≤ a2.toInt ∧ a2.toInt ≤ 100) := hi85194
    have h85193 : 0 ≤ r85191.toInt ∧ r85191.toInt ≤ 1 := h85193
    refine b_if_ne C 25 dX12_town_20 (by decide) (fun h85195 => ?_) (fun h85195 => ?_)
    · have h85195 : r85191.toInt ≠ 0 := ti_ne h85195
      replace hi85194 := hi85194.resolve_left (by omega)
      refine g_iconst (v := 0) C dX12_town_25 (by decide) ?_
      refine g_istore_n (lv' := [(3, .int 0), (0, .ref a0), (1, .int a1), (2, .int a2)]) C dX12_town_26 rfl (by decide) rfl ?_
      refine g_lv (lv' := [(0, .ref a0), (1, .int a1), (2, .int a2), (3, .int 0)]) [1, 2, 3, 0] rfl ?_
      exact J27 _ Y85174 0 (Nat.lt_succ_self _) Iy85175 Xz85179 W85178 (by omega) (by omega) (by decide) (by omega) (fun b9 e9 => by rw [e85188] at e9; cases e9; omega)
    · have h85195 : r85191.toInt = 0 := congrArg Int32.toInt h85195
      clear hi85194
      refine g_lv (lv' := []) [] rfl ?_
      exact J23 Y85174 Iy85175 Xz85179 W85178 (by omega)
