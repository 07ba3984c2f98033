theorem dX0_add_0 : decode cX0_add 0 = .ok (.aload_n 0, 1) := by decide +kernel
theorem dX0_add_1 : decode cX0_add 1 = .ok (.iload_n 1, 1) := by decide +kernel
theorem dX0_add_2 : decode cX0_add 2 = .ok (.invokevirtual 36, 3) := by decide +kernel
theorem dX0_reduce_0 : decode cX0_reduce 0 = .ok (.iload_n 1, 1) := by decide +kernel
theorem dX0_reduce_1 : decode cX0_reduce 1 = .ok (.istore_n 2, 1) := by decide +kernel
theorem dX0_reduce_2 : decode cX0_reduce 2 = .ok (.iconst 0, 1) := by decide +kernel
theorem dX0_reduce_3 : decode cX0_reduce 3 = .ok (.istore_n 3, 1) := by decide +kernel
theorem dX0_reduce_4 : decode cX0_reduce 4 = .ok (.iload_n 3, 1) := by decide +kernel
theorem dX0_reduce_5 : decode cX0_reduce 5 = .ok (.aload_n 0, 1) := by decide +kernel
theorem dX0_reduce_6 : decode cX0_reduce 6 = .ok (.getfield 18, 3) := by decide +kernel
theorem dX0_reduce_9 : decode cX0_reduce 9 = .ok (.if_icmp .ge 29, 3) := by decide +kernel
theorem dX0_reduce_12 : decode cX0_reduce 12 = .ok (.iload_n 2, 1) := by decide +kernel
theorem dX0_reduce_13 : decode cX0_reduce 13 = .ok (.aload_n 0, 1) := by decide +kernel
theorem dX0_reduce_14 : decode cX0_reduce 14 = .ok (.getfield 15, 3) := by decide +kernel
theorem dX0_reduce_17 : decode cX0_reduce 17 = .ok (.iload_n 3, 1) := by decide +kernel
theorem dX0_reduce_18 : decode cX0_reduce 18 = .ok (.iaload, 1) := by decide +kernel
theorem dX0_reduce_19 : decode cX0_reduce 19 = .ok (.iand, 1) := by decide +kernel
theorem dX0_reduce_20 : decode cX0_reduce 20 = .ok (.ifCond .eq 12, 3) := by decide +kernel
theorem dX0_reduce_23 : decode cX0_reduce 23 = .ok (.iload_n 2, 1) := by decide +kernel
theorem dX0_reduce_24 : decode cX0_reduce 24 = .ok (.aload_n 0, 1) := by decide +kernel
theorem dX0_reduce_25 : decode cX0_reduce 25 = .ok (.getfield 9, 3) := by decide +kernel
theorem dX0_reduce_28 : decode cX0_reduce 28 = .ok (.iload_n 3, 1) := by decide +kernel
theorem dX0_reduce_29 : decode cX0_reduce 29 = .ok (.iaload, 1) := by decide +kernel
theorem dX0_reduce_30 : decode cX0_reduce 30 = .ok (.ixor, 1) := by decide +kernel
theorem dX0_reduce_31 : decode cX0_reduce 31 = .ok (.istore_n 2, 1) := by decide +kernel
theorem dX0_reduce_32 : decode cX0_reduce 32 = .ok (.iinc 3 1, 3) := by decide +kernel
theorem dX0_reduce_35 : decode cX0_reduce 35 = .ok (.goto (-31), 3) := by decide +kernel
theorem dX0_reduce_38 : decode cX0_reduce 38 = .ok (.iload_n 2, 1) := by decide +kernel
theorem dX0_reduce_39 : decode cX0_reduce 39 = .ok (.ireturn, 1) := by decide +kernel
set_option maxHeartbeats 4000000 in
set_option maxRecDepth 100000 in
theorem s_X0_reduce {P : PP} {a0 : Nat} {a1 : Int32} (I : IV P) (ha0 : At P a0 0) : CtrI yX0_reduce cX0_reduce 4 (some Jvm.ClassFile.FieldType.int) ({ frames := 1, cells := 0, slots := 0, locals := 64 } : Room) 0 0 P [.ref a0, .int a1] (fun r P2 => P = P2 ∧ (True)) := by
  refine enI (lv := [(0, .ref a0), (1, .int a1)]) (by decide) (Nat.le_of_ble_eq_true rfl) rfl (fun E D cy C Ci0 ret => ?_)
  have J4 : ∀ (n4 : Nat) (v4_2 : Int32) (v4_3 : Int32), (20 - v4_3.toInt).toNat < n4 → (0 ≤ v4_3.toInt ∧ v4_3.toInt ≤ 20) → G E ({ frames := 1, cells := 0, slots := 0, locals := 64 } : Room) D cy 4 P 0 0 4 [(0, .ref a0), (2, .int v4_2), (3, .int v4_3)] [] := by
    intro n4
    induction n4 with
    | zero => intro v4_2 v4_3 hm4 hv4_3; omega
    | succ n4 ih4 =>
      intro v4_2 v4_3 hm4 hv4_3
      have J32 : ∀ (v32_2 : Int32), (0 ≤ v4_3.toInt ∧ v4_3.toInt ≤ 19) → (1 ≤ (pI P a0 2).toInt ∧ (pI P a0 2).toInt ≤ 20) → G E ({ frames := 1, cells := 0, slots := 0, locals := 64 } : Room) D cy 4 P 0 0 32 [(0, .ref a0), (2, .int v32_2), (3, .int v4_3)] [] := by
        intro v32_2 hv32_3 hq32_0
        refine s_iinc (lv0 := [(0, .ref a0), (2, .int v32_2)]) (m := 1) C dX0_reduce_32 2 rfl (by decide) rfl (by decide) (by omega) (fun z235 h236 => ?_)
        have h236 : z235.toInt = v4_3.toInt + 1 := h236
        refine g_goto C 4 dX0_reduce_35 (by decide) ?_
        refine g_lv (lv' := [(0, .ref a0), (2, .int v32_2), (3, .int z235)]) [1, 2, 0] rfl ?_
        exact ih4 v32_2 z235 (by omega) (by omega)
      refine g_iload_n C dX0_reduce_4 rfl 2 rfl ?_
      refine g_aload_n C dX0_reduce_5 rfl 0 rfl ?_
      refine g_getI C fi_X0_18 (by decide) (ha0).1 (ha0).2 dX0_reduce_6 ?_
      have h237 := I.rg (ha0) 2 rfl
      refine b_icmp_ge C 38 dX0_reduce_9 (by decide) (fun h238 => ?_) (fun h238 => ?_)
      · have h238 : (pI P a0 2).toInt ≤ v4_3.toInt := h238
        refine g_iload_n C dX0_reduce_38 rfl 1 rfl ?_
        exact ret _ _ _ _ _ _ dX0_reduce_39 rfl (by decide) (by decide) ⟨rfl, trivial⟩
      · have h238 : v4_3.toInt < (pI P a0 2).toInt := h238
        refine g_iload_n C dX0_reduce_12 rfl 1 rfl ?_
        refine g_aload_n C dX0_reduce_13 rfl 0 rfl ?_
        obtain ⟨b239, e240, h241⟩ := I.fld (ha0) 1 13 20 rfl
        refine g_getR C fi_X0_15 rfl e240 (ha0).1 (ha0).2 dX0_reduce_14 ?_
        refine g_iload_n C dX0_reduce_17 rfl 2 rfl ?_
        refine g_iald (j := (v4_3.toInt.toNat)) C h241.1 h241.2.1 (ix_in h241.2.2 (by omega)) dX0_reduce_18 ?_
        refine g_topi (fun z242 _ => ?_)
        refine a_iand C dX0_reduce_19 (fun z243 => ?_)
        have u246 := ti_rng z243
        refine b_if_eq C 32 dX0_reduce_20 (by decide) (fun h245 => ?_) (fun h245 => ?_)
        · have h245 : z243.toInt = 0 := congrArg Int32.toInt h245
          exact J32 v4_2 (by omega) (by omega)
        · have h245 : z243.toInt ≠ 0 := ti_ne h245
          refine g_iload_n C dX0_reduce_23 rfl 1 rfl ?_
          refine g_aload_n C dX0_reduce_24 rfl 0 rfl ?_
          obtain ⟨b247, e248, h249⟩ := I.fld (ha0) 0 13 20 rfl
          refine g_getR C fi_X0_9 rfl e248 (ha0).1 (ha0).2 dX0_reduce_25 ?_
          refine g_iload_n C dX0_reduce_28 rfl 2 rfl ?_
          refine g_iald (j := (v4_3.toInt.toNat)) C h249.1 h249.2.1 (ix_in h249.2.2 (by omega)) dX0_reduce_29 ?_
          refine g_topi (fun z250 _ => ?_)
          refine a_ixor C dX0_reduce_30 (fun z251 => ?_)
          refine g_istore_n (lv' := [(2, .int z251), (0, .ref a0), (3, .int v4_3)]) C dX0_reduce_31 rfl (by decide) rfl ?_
          refine g_lv (lv' := [(0, .ref a0), (2, .int z251), (3, .int v4_3)]) [1, 0, 2] rfl ?_
          exact J32 z251 (by omega) (by omega)
  refine g_iload_n C dX0_reduce_0 rfl 1 rfl ?_
  refine g_istore_n (lv' := [(2, .int a1), (0, .ref a0), (1, .int a1)]) C dX0_reduce_1 rfl (by decide) rfl ?_
  refine g_iconst (v := 0) C dX0_reduce_2 (by decide) ?_
  refine g_istore_n (lv' := [(3, .int 0), (2, .int a1), (0, .ref a0), (1, .int a1)]) C dX0_reduce_3 rfl (by decide) rfl ?_
  refine g_lv (lv' := [(0, .ref a0), (2, .int a1), (3, .int 0)]) [2, 1, 0] rfl ?_
  exact J4 _ a1 0 (Nat.lt_succ_self _) (by decide)
theorem dX0_add_5 : decode cX0_add 5 = .ok (.istore_n 2, 1) := by decide +kernel
theorem dX0_add_6 : decode cX0_add 6 = .ok (.iload_n 2, 1) := by decide +kernel
theorem dX0_add_7 : decode cX0_add 7 = .ok (.ldc 40, 2) := by decide +kernel
theorem dX0_add_9 : decode cX0_add 9 = .ok (.iand, 1) := by decide +kernel
theorem dX0_add_10 : decode cX0_add 10 = .ok (.istore_n 3, 1) := by decide +kernel
theorem dX0_add_11 : decode cX0_add 11 = .ok (.iload_n 3, 1) := by decide +kernel
theorem dX0_add_12 : decode cX0_add 12 = .ok (.ifCond .ne 26, 3) := by decide +kernel
theorem dX0_add_15 : decode cX0_add 15 = .ok (.aload_n 0, 1) := by decide +kernel
theorem dX0_add_16 : decode cX0_add 16 = .ok (.aload_n 0, 1) := by decide +kernel
theorem dX0_add_17 : decode cX0_add 17 = .ok (.getfield 22, 3) := by decide +kernel
theorem dX0_add_20 : decode cX0_add 20 = .ok (.ifCond .eq 11, 3) := by decide +kernel
theorem dX0_add_23 : decode cX0_add 23 = .ok (.iload_n 2, 1) := by decide +kernel
theorem dX0_add_24 : decode cX0_add 24 = .ok (.ifCond .ne 7, 3) := by decide +kernel
theorem dX0_add_27 : decode cX0_add 27 = .ok (.iconst 1, 1) := by decide +kernel
theorem dX0_add_28 : decode cX0_add 28 = .ok (.goto 4, 3) := by decide +kernel
theorem dX0_add_31 : decode cX0_add 31 = .ok (.iconst 0, 1) := by decide +kernel
theorem dX0_add_32 : decode cX0_add 32 = .ok (.putfield 22, 3) := by decide +kernel
theorem dX0_add_35 : decode cX0_add 35 = .ok (.goto 45, 3) := by decide +kernel
theorem dX0_add_38 : decode cX0_add 38 = .ok (.aload_n 0, 1) := by decide +kernel
theorem dX0_add_39 : decode cX0_add 39 = .ok (.getfield 18, 3) := by decide +kernel
theorem dX0_add_42 : decode cX0_add 42 = .ok (.bipush 20, 2) := by decide +kernel
theorem dX0_add_44 : decode cX0_add 44 = .ok (.if_icmp .ge 36, 3) := by decide +kernel
theorem dX0_add_47 : decode cX0_add 47 = .ok (.aload_n 0, 1) := by decide +kernel
theorem dX0_add_48 : decode cX0_add 48 = .ok (.getfield 9, 3) := by decide +kernel
theorem dX0_add_51 : decode cX0_add 51 = .ok (.aload_n 0, 1) := by decide +kernel
theorem dX0_add_52 : decode cX0_add 52 = .ok (.getfield 18, 3) := by decide +kernel
theorem dX0_add_55 : decode cX0_add 55 = .ok (.iload_n 2, 1) := by decide +kernel
theorem dX0_add_56 : decode cX0_add 56 = .ok (.iastore, 1) := by decide +kernel
theorem dX0_add_57 : decode cX0_add 57 = .ok (.aload_n 0, 1) := by decide +kernel
theorem dX0_add_58 : decode cX0_add 58 = .ok (.getfield 15, 3) := by decide +kernel
theorem dX0_add_61 : decode cX0_add 61 = .ok (.aload_n 0, 1) := by decide +kernel
theorem dX0_add_62 : decode cX0_add 62 = .ok (.getfield 18, 3) := by decide +kernel
theorem dX0_add_65 : decode cX0_add 65 = .ok (.iload_n 3, 1) := by decide +kernel
theorem dX0_add_66 : decode cX0_add 66 = .ok (.iload_n 3, 1) := by decide +kernel
theorem dX0_add_67 : decode cX0_add 67 = .ok (.ineg, 1) := by decide +kernel
theorem dX0_add_68 : decode cX0_add 68 = .ok (.iand, 1) := by decide +kernel
theorem dX0_add_69 : decode cX0_add 69 = .ok (.iastore, 1) := by decide +kernel
theorem dX0_add_70 : decode cX0_add 70 = .ok (.aload_n 0, 1) := by decide +kernel
theorem dX0_add_71 : decode cX0_add 71 = .ok (.dup, 1) := by decide +kernel
theorem dX0_add_72 : decode cX0_add 72 = .ok (.getfield 18, 3) := by decide +kernel
theorem dX0_add_75 : decode cX0_add 75 = .ok (.iconst 1, 1) := by decide +kernel
theorem dX0_add_76 : decode cX0_add 76 = .ok (.iadd, 1) := by decide +kernel
theorem dX0_add_77 : decode cX0_add 77 = .ok (.putfield 18, 3) := by decide +kernel
theorem dX0_add_80 : decode cX0_add 80 = .ok (.return_, 1) := by decide +kernel
set_option maxHeartbeats 4000000 in
set_option maxRecDepth 100000 in
theorem s_X0_add {P : PP} {a0 : Nat} {a1 : Int32} (I : IV P) (ha0 : At P a0 0) : CtrV yX0_add cX0_add 4 none ({ frames := 2, cells := 0, slots := 0, locals := 128 } : Room) 0 0 P [.ref a0, .int a1] (fun P2 => IV P2 ∧ EK [0, 13] P P2) := by
  refine enV (lv := [(0, .ref a0), (1, .int a1)]) (by decide) (Nat.le_of_ble_eq_true rfl) rfl (fun E D cy C Ci0 ret => ?_)
  have J32 : ∀ (v32_s0 : Int32), (0 ≤ v32_s0.toInt ∧ v32_s0.toInt ≤ 1) → G E ({ frames := 2, cells := 0, slots := 0, locals := 128 } : Room) D cy 4 P 0 0 32 [] [.int v32_s0, .ref a0] := by
    intro v32_s0 hv32_s0
    refine g_putZ C fi_X0_22 rfl (b01 (by omega)) (ha0).1 (ha0).2 dX0_add_32 ?_
    refine gpW (ks := [0]) (I.setI (ha0) (rgOk.of rfl (by omega))) (EK.setI (ha0).2 (by decide)) (fun Y302 Iy303 Xy304 w305 w306 => ?_)
    have Xz307 : EK [0, 13] P Y302 := Xy304.mono (by decide)
    have h308 := Xy304.at ha0
    refine g_goto C 80 dX0_add_35 (by decide) ?_
    exact ret _ _ _ _ _ dX0_add_80 (by decide) (by decide) ⟨Iy303, Xz307⟩
  have J31 : (0 ≤ (pI P a0 3).toInt ∧ (pI P a0 3).toInt ≤ 1) → G E ({ frames := 2, cells := 0, slots := 0, locals := 128 } : Room) D cy 4 P 0 0 31 [] [.ref a0] := by
    intro hq31_0
    refine g_iconst (v := 0) C dX0_add_31 (by decide) ?_
    exact J32 0 (by decide)
  refine g_aload_n C dX0_add_0 rfl 0 rfl ?_
  refine g_iload_n C dX0_add_1 rfl 1 rfl ?_
  refine g_callVI (rest := []) C mv_X0_36 [.int a1] (s_X0_reduce I ha0) (ha0).1 (ha0).2 rfl rfl (by decide) (Nat.le_of_ble_eq_true rfl) (by decide) dX0_add_2 (fun r309 Y310 h311 => ?_)
  obtain ⟨rfl, h311⟩ := h311
  have h311 : True := h311
  refine g_istore_n (lv' := [(2, .int r309), (0, .ref a0), (1, .int a1)]) C dX0_add_5 rfl (by decide) rfl ?_
  refine g_iload_n C dX0_add_6 rfl 0 rfl ?_
  refine g_ldc (v := 1048575) C kc_X0_40 dX0_add_7 ?_
  refine s_iand C dX0_add_9 (by show 0 ≤ 1048575; omega) (fun z312 h313 => ?_)
  have h313 : 0 ≤ z312.toInt ∧ z312.toInt ≤ 1048575 := h313
  refine g_istore_n (lv' := [(3, .int z312), (2, .int r309), (0, .ref a0), (1, .int a1)]) C dX0_add_10 rfl (by decide) rfl ?_
  refine g_iload_n C dX0_add_11 rfl 0 rfl ?_
  refine b_if_ne C 38 dX0_add_12 (by decide) (fun h314 => ?_) (fun h314 => ?_)
  · have h314 : z312.toInt ≠ 0 := ti_ne h314
    refine g_aload_n C dX0_add_38 rfl 2 rfl ?_
    refine g_getI C fi_X0_18 (by decide) (ha0).1 (ha0).2 dX0_add_39 ?_
    have h315 := I.rg (ha0) 2 rfl
    refine g_bipush (v := 20) C dX0_add_42 (by decide) ?_
    refine b_icmp_ge C 80 dX0_add_44 (by decide) (fun h316 => ?_) (fun h316 => ?_)
    · have h316 : 20 ≤ (pI P a0 2).toInt := h316
      exact ret _ _ _ _ _ dX0_add_80 (by decide) (by decide) ⟨I, EK.rf⟩
    · have h316 : (pI P a0 2).toInt < 20 := h316
      refine g_aload_n C dX0_add_47 rfl 2 rfl ?_
      obtain ⟨b317, e318, h319⟩ := I.fld (ha0) 0 13 20 rfl
      refine g_getR C fi_X0_9 rfl e318 (ha0).1 (ha0).2 dX0_add_48 ?_
      refine g_aload_n C dX0_add_51 rfl 2 rfl ?_
      refine g_getI C fi_X0_18 (by decide) (ha0).1 (ha0).2 dX0_add_52 ?_
      refine g_iload_n C dX0_add_55 rfl 1 rfl ?_
      refine g_iast (j := ((pI P a0 2).toInt.toNat)) C h319.1 h319.2.1 (ix_in h319.2.2 (by omega)) dX0_add_56 ?_
      refine gp (ks := [13]) (I.setA h319 (by decide)) (EK.setI h319.2.1 (by decide)) (fun Y320 Iy321 Xy322 => ?_)
      have q323 := Xy322.keep ha0 (by decide) 2
      have Xz324 : EK [0, 13] P Y320 := Xy322.mono (by decide)
      have h325 := Xy322.at ha0
      refine g_aload_n C dX0_add_57 rfl 2 rfl ?_
      obtain ⟨b326, e327, h328⟩ := Iy321.fld (h325) 1 13 20 rfl
      refine g_getR C fi_X0_15 rfl e327 (h325).1 (h325).2 dX0_add_58 ?_
      refine g_aload_n C dX0_add_61 rfl 2 rfl ?_
      refine g_getI C fi_X0_18 (by decide) (h325).1 (h325).2 dX0_add_62 ?_
      refine g_iload_n C dX0_add_65 rfl 0 rfl ?_
      refine g_iload_n C dX0_add_66 rfl 0 rfl ?_
      refine a_ineg C dX0_add_67 (fun z329 => ?_)
      refine a_iand C dX0_add_68 (fun z330 => ?_)
      refine g_iast (j := ((pI Y320 a0 2).toInt.toNat)) C h328.1 h328.2.1 (ix_in h328.2.2 (by omega)) dX0_add_69 ?_
      refine gp (ks := [13]) (Iy321.setA h328 (by decide)) (EK.setI h328.2.1 (by decide)) (fun Y332 Iy333 Xy334 => ?_)
      have q335 := Xy334.keep h325 (by decide) 2
      have Xz336 : EK [0, 13] P Y332 := Xz324.tr (Xy334.mono (by decide))
      have h337 := Xy334.at h325
      refine g_aload_n C dX0_add_70 rfl 2 rfl ?_
      refine g_dup C dX0_add_71 rfl ?_
      refine g_getI C fi_X0_18 (by decide) (h337).1 (h337).2 dX0_add_72 ?_
      refine g_iconst (v := 1) C dX0_add_75 (by decide) ?_
      refine s_iadd C dX0_add_76 (by show -2147483648 ≤ (pI Y332 a0 2).toInt + 1 ∧ (pI Y332 a0 2).toInt + 1 ≤ 2147483647; omega) (fun z338 h339 => ?_)
      have h339 : z338.toInt = (pI Y332 a0 2).toInt + 1 := h339
      refine g_putI C fi_X0_18 rfl (h337).1 (h337).2 dX0_add_77 ?_
      refine gpW (ks := [0]) (Iy333.setI (h337) (rgOk.of rfl (by omega))) (EK.setI (h337).2 (by decide)) (fun Y340 Iy341 Xy342 w343 w344 => ?_)
      have Xz345 : EK [0, 13] P Y340 := Xz336.tr (Xy342.mono (by decide))
      have h346 := Xy342.at h337
      exact ret _ _ _ _ _ dX0_add_80 (by decide) (by decide) ⟨Iy341, Xz345⟩
  · have h314 : z312.toInt = 0 := congrArg Int32.toInt h314
    refine g_aload_n C dX0_add_15 rfl 2 rfl ?_
    refine g_aload_n C dX0_add_16 rfl 2 rfl ?_
    refine g_getI C fi_X0_22 (by decide) (ha0).1 (ha0).2 dX0_add_17 ?_
    have h347 := I.rg (ha0) 3 rfl
    refine b_if_eq C 31 dX0_add_20 (by decide) (fun h348 => ?_) (fun h348 => ?_)
    · have h348 : (pI P a0 3).toInt = 0 := congrArg Int32.toInt h348
      refine g_lv (lv' := []) [] rfl ?_
      exact J31 (by omega)
    · have h348 : (pI P a0 3).toInt ≠ 0 := ti_ne h348
      refine g_iload_n C dX0_add_23 rfl 1 rfl ?_
      have u350 := ti_rng r309
      refine b_if_ne C 31 dX0_add_24 (by decide) (fun h349 => ?_) (fun h349 => ?_)
      · have h349 : r309.toInt ≠ 0 := ti_ne h349
        refine g_lv (lv' := []) [] rfl ?_
        exact J31 (by omega)
      · have h349 : r309.toInt = 0 := congrArg Int32.toInt h349
        refine g_iconst (v := 1) C dX0_add_27 (by decide) ?_
        refine g_goto C 32 dX0_add_28 (by decide) ?_
        refine g_lv (lv' := []) [] rfl ?_
        exact J32 1 (by decide)
theorem dX0_cut_0 : decode cX0_cut 0 = .ok (.aload_n 0, 1) := by decide +kernel
theorem dX0_cut_1 : decode cX0_cut 1 = .ok (.iload_n 1, 1) := by decide +kernel
theorem dX0_cut_2 : decode cX0_cut 2 = .ok (.ifCond .lt 15, 3) := by decide +kernel
theorem dX0_cut_5 : decode cX0_cut 5 = .ok (.iload_n 1, 1) := by decide +kernel
theorem dX0_cut_6 : decode cX0_cut 6 = .ok (.aload_n 0, 1) := by decide +kernel
theorem dX0_cut_7 : decode cX0_cut 7 = .ok (.getfield 18, 3) := by decide +kernel
theorem dX0_cut_10 : decode cX0_cut 10 = .ok (.if_icmp .ge 7, 3) := by decide +kernel
theorem dX0_cut_13 : decode cX0_cut 13 = .ok (.iload_n 1, 1) := by decide +kernel
theorem dX0_cut_14 : decode cX0_cut 14 = .ok (.goto 7, 3) := by decide +kernel
theorem dX0_cut_17 : decode cX0_cut 17 = .ok (.aload_n 0, 1) := by decide +kernel
theorem dX0_cut_18 : decode cX0_cut 18 = .ok (.getfield 18, 3) := by decide +kernel
theorem dX0_cut_21 : decode cX0_cut 21 = .ok (.putfield 18, 3) := by decide +kernel
theorem dX0_cut_24 : decode cX0_cut 24 = .ok (.aload_n 0, 1) := by decide +kernel
theorem dX0_cut_25 : decode cX0_cut 25 = .ok (.iconst 1, 1) := by decide +kernel
theorem dX0_cut_26 : decode cX0_cut 26 = .ok (.putfield 22, 3) := by decide +kernel
theorem dX0_cut_29 : decode cX0_cut 29 = .ok (.return_, 1) := by decide +kernel
set_option maxHeartbeats 4000000 in
set_option maxRecDepth 100000 in
theorem s_X0_cut {P : PP} {a0 : Nat} {a1 : Int32} (I : IV P) (ha0 : At P a0 0) : CtrV yX0_cut cX0_cut 2 none ({ frames := 1, cells := 0, slots := 0, locals := 64 } : Room) 0 0 P [.ref a0, .int a1] (fun P2 => IV P2 ∧ EK [0] P P2) := by
  refine enV (lv := [(0, .ref a0), (1, .int a1)]) (by decide) (Nat.le_of_ble_eq_true rfl) rfl (fun E D cy C Ci0 ret => ?_)
  have J21 : ∀ (v21_s0 : Int32), (0 ≤ v21_s0.toInt ∧ v21_s0.toInt ≤ 20) → G E ({ frames := 1, cells := 0, slots := 0, locals := 64 } : Room) D cy 2 P 0 0 21 [(0, .ref a0)] [.int v21_s0, .ref a0] := by
    intro v21_s0 hv21_s0
    refine g_putI C fi_X0_18 rfl (ha0).1 (ha0).2 dX0_cut_21 ?_
    refine gpW (ks := [0]) (I.setI (ha0) (rgOk.of rfl (by omega))) (EK.setI (ha0).2 (by decide)) (fun Y372 Iy373 Xy374 w375 w376 => ?_)
    have Xz377 : EK [0] P Y372 := Xy374.mono (by decide)
    have h378 := Xy374.at ha0
    refine g_aload_n C dX0_cut_24 rfl 0 rfl ?_
    refine g_iconst (v := 1) C dX0_cut_25 (by decide) ?_
    refine g_putZ C fi_X0_22 rfl (Or.inr rfl) (h378).1 (h378).2 dX0_cut_26 ?_
    refine gpW (ks := [0]) (Iy373.setI (h378) (rgOk.of rfl (by decide))) (EK.setI (h378).2 (by decide)) (fun Y379 Iy380 Xy381 w382 w383 => ?_)
    have w383 : (pI Y379 a0 3).toInt = 1 := w383
    have q384 := w382 2 (by decide)
    have Xz385 : EK [0] P Y379 := Xz377.tr (Xy381.mono (by decide))
    have h386 := Xy381.at h378
    exact ret _ _ _ _ _ dX0_cut_29 (by decide) (by decide) ⟨Iy380, Xz385⟩
  have J17 : G E ({ frames := 1, cells := 0, slots := 0, locals := 64 } : Room) D cy 2 P 0 0 17 [(0, .ref a0)] [.ref a0] := by
    refine g_aload_n C dX0_cut_17 rfl 0 rfl ?_
    refine g_getI C fi_X0_18 (by decide) (ha0).1 (ha0).2 dX0_cut_18 ?_
    have h387 := I.rg (ha0) 2 rfl
    exact J21 (pI P a0 2) (by omega)
  refine g_aload_n C dX0_cut_0 rfl 0 rfl ?_
  refine g_iload_n C dX0_cut_1 rfl 1 rfl ?_
  have u389 := ti_rng a1
  refine b_if_lt C 17 dX0_cut_2 (by decide) (fun h388 => ?_) (fun h388 => ?_)
  · have h388 : a1.toInt < 0 := h388
    refine g_lv (lv' := [(0, .ref a0)]) [0] rfl ?_
    exact J17 
  · have h388 : 0 ≤ a1.toInt := h388
    refine g_iload_n C dX0_cut_5 rfl 1 rfl ?_
    refine g_aload_n C dX0_cut_6 rfl 0 rfl ?_
    refine g_getI C fi_X0_18 (by decide) (ha0).1 (ha0).2 dX0_cut_7 ?_
    have h390 := I.rg (ha0) 2 rfl
    have u392 := ti_rng a1
    refine b_icmp_ge C 17 dX0_cut_10 (by decide) (fun h391 => ?_) (fun h391 => ?_)
    · have h391 : (pI P a0 2).toInt ≤ a1.toInt := h391
      refine g_lv (lv' := [(0, .ref a0)]) [0] rfl ?_
      exact J17 
    · have h391 : a1.toInt < (pI P a0 2).toInt := h391
      refine g_iload_n C dX0_cut_13 rfl 1 rfl ?_
      refine g_goto C 21 dX0_cut_14 (by decide) ?_
      refine g_lv (lv' := [(0, .ref a0)]) [0] rfl ?_
      exact J21 a1 (by omega)
theorem dX0_fixedPages_0 : decode cX0_fixedPages 0 = .ok (.iconst 0, 1) := by decide +kernel
theorem dX0_fixedPages_1 : decode cX0_fixedPages 1 = .ok (.istore_n 2, 1) := by decide +kernel
theorem dX0_fixedPages_2 : decode cX0_fixedPages 2 = .ok (.iconst 0, 1) := by decide +kernel
theorem dX0_fixedPages_3 : decode cX0_fixedPages 3 = .ok (.istore_n 3, 1) := by decide +kernel
theorem dX0_fixedPages_4 : decode cX0_fixedPages 4 = .ok (.iload_n 3, 1) := by decide +kernel
theorem dX0_fixedPages_5 : decode cX0_fixedPages 5 = .ok (.iload_n 1, 1) := by decide +kernel
theorem dX0_fixedPages_6 : decode cX0_fixedPages 6 = .ok (.if_icmp .ge 24, 3) := by decide +kernel
theorem dX0_fixedPages_9 : decode cX0_fixedPages 9 = .ok (.aload_n 0, 1) := by decide +kernel
theorem dX0_fixedPages_10 : decode cX0_fixedPages 10 = .ok (.iload_n 3, 1) := by decide +kernel
theorem dX0_fixedPages_11 : decode cX0_fixedPages 11 = .ok (.invokevirtual 41, 3) := by decide +kernel
theorem dX0_fixedPages_30 : decode cX0_fixedPages 30 = .ok (.iload_n 2, 1) := by decide +kernel
theorem dX0_fixedPages_31 : decode cX0_fixedPages 31 = .ok (.ireturn, 1) := by decide +kernel
theorem dX0_octetOf_0 : decode cX0_octetOf 0 = .ok (.aload_n 0, 1) := by decide +kernel
theorem dX0_octetOf_1 : decode cX0_octetOf 1 = .ok (.iconst 1, 1) := by decide +kernel
theorem dX0_octetOf_2 : decode cX0_octetOf 2 = .ok (.iload_n 1, 1) := by decide +kernel
theorem dX0_octetOf_3 : decode cX0_octetOf 3 = .ok (.ishl, 1) := by decide +kernel
theorem dX0_octetOf_4 : decode cX0_octetOf 4 = .ok (.invokevirtual 36, 3) := by decide +kernel
theorem dX0_octetOf_7 : decode cX0_octetOf 7 = .ok (.istore_n 2, 1) := by decide +kernel
theorem dX0_octetOf_8 : decode cX0_octetOf 8 = .ok (.aload_n 0, 1) := by decide +kernel
theorem dX0_octetOf_9 : decode cX0_octetOf 9 = .ok (.getfield 22, 3) := by decide +kernel
theorem dX0_octetOf_12 : decode cX0_octetOf 12 = .ok (.ifCond .eq 17, 3) := by decide +kernel
theorem dX0_octetOf_15 : decode cX0_octetOf 15 = .ok (.iload_n 2, 1) := by decide +kernel
theorem dX0_octetOf_16 : decode cX0_octetOf 16 = .ok (.ldc 40, 2) := by decide +kernel
theorem dX0_octetOf_18 : decode cX0_octetOf 18 = .ok (.iand, 1) := by decide +kernel
theorem dX0_octetOf_19 : decode cX0_octetOf 19 = .ok (.ifCond .ne 10, 3) := by decide +kernel
theorem dX0_octetOf_22 : decode cX0_octetOf 22 = .ok (.iload_n 2, 1) := by decide +kernel
theorem dX0_octetOf_23 : decode cX0_octetOf 23 = .ok (.bipush 20, 2) := by decide +kernel
theorem dX0_octetOf_25 : decode cX0_octetOf 25 = .ok (.iushr, 1) := by decide +kernel
theorem dX0_octetOf_26 : decode cX0_octetOf 26 = .ok (.goto 4, 3) := by decide +kernel
theorem dX0_octetOf_29 : decode cX0_octetOf 29 = .ok (.iconst (-1), 1) := by decide +kernel
theorem dX0_octetOf_30 : decode cX0_octetOf 30 = .ok (.ireturn, 1) := by decide +kernel
set_option maxHeartbeats 4000000 in
set_option maxRecDepth 100000 in
theorem s_X0_octetOf {P : PP} {a0 : Nat} {a1 : Int32} (I : IV P) (ha0 : At P a0 0) : CtrI yX0_octetOf cX0_octetOf 3 (some Jvm.ClassFile.FieldType.int) ({ frames := 2, cells := 0, slots := 0, locals := 128 } : Room) 0 0 P [.ref a0, .int a1] (fun r P2 => P = P2 ∧ (True)) := by
  refine enI (lv := [(0, .ref a0), (1, .int a1)]) (by decide) (Nat.le_of_ble_eq_true rfl) rfl (fun E D cy C Ci0 ret => ?_)
  have J29 : (0 ≤ (pI P a0 3).toInt ∧ (pI P a0 3).toInt ≤ 1) → G E ({ frames := 2, cells := 0, slots := 0, locals := 128 } : Room) D cy 3 P 0 0 29 [] [] := by
    intro hq29_0
    refine g_iconst (v := (-1)) C dX0_octetOf_29 (by decide) ?_
    exact ret _ _ _ _ _ _ dX0_octetOf_30 rfl (by decide) (by decide) ⟨rfl, trivial⟩
  refine g_aload_n C dX0_octetOf_0 rfl 0 rfl ?_
  refine g_iconst (v := 1) C dX0_octetOf_1 (by decide) ?_
  refine g_iload_n C dX0_octetOf_2 rfl 1 rfl ?_
  refine a_ishl C dX0_octetOf_3 (fun z407 => ?_)
  refine g_callVI (rest := []) C mv_X0_36 [.int z407] (s_X0_reduce I ha0) (ha0).1 (ha0).2 rfl rfl (by decide) (Nat.le_of_ble_eq_true rfl) (by decide) dX0_octetOf_4 (fun r409 Y410 h411 => ?_)
  obtain ⟨rfl, h411⟩ := h411
  have h411 : True := h411
  refine g_istore_n (lv' := [(2, .int r409), (0, .ref a0), (1, .int a1)]) C dX0_octetOf_7 rfl (by decide) rfl ?_
  refine g_aload_n C dX0_octetOf_8 rfl 1 rfl ?_
  refine g_getI C fi_X0_22 (by decide) (ha0).1 (ha0).2 dX0_octetOf_9 ?_
  have h412 := I.rg (ha0) 3 rfl
  refine b_if_eq C 29 dX0_octetOf_12 (by decide) (fun h413 => ?_) (fun h413 => ?_)
  · have h413 : (pI P a0 3).toInt = 0 := congrArg Int32.toInt h413
    refine g_lv (lv' := []) [] rfl ?_
    exact J29 (by omega)
  · have h413 : (pI P a0 3).toInt ≠ 0 := ti_ne h413
    refine g_iload_n C dX0_octetOf_15 rfl 0 rfl ?_
    refine g_ldc (v := 1048575) C kc_X0_40 dX0_octetOf_16 ?_
    refine s_iand C dX0_octetOf_18 (by show 0 ≤ 1048575; omega) (fun z414 h415 => ?_)
    have h415 : 0 ≤ z414.toInt ∧ z414.toInt ≤ 1048575 := h415
    refine b_if_ne C 29 dX0_octetOf_19 (by decide) (fun h416 => ?_) (fun h416 => ?_)
    · have h416 : z414.toInt ≠ 0 := ti_ne h416
      refine g_lv (lv' := []) [] rfl ?_
      exact J29 (by omega)
    · have h416 : z414.toInt = 0 := congrArg Int32.toInt h416
      refine g_iload_n C dX0_octetOf_22 rfl 0 rfl ?_
      refine g_bipush (v := 20) C dX0_octetOf_23 (by decide) ?_
      refine a_iushr C dX0_octetOf_25 (fun z417 => ?_)
      refine g_goto C 30 dX0_octetOf_26 (by decide) ?_
      exact ret _ _ _ _ _ _ dX0_octetOf_30 rfl (by decide) (by decide) ⟨rfl, trivial⟩
theorem dX0_fixedPages_14 : decode cX0_fixedPages 14 = .ok (.iconst (-1), 1) := by decide +kernel
theorem dX0_fixedPages_15 : decode cX0_fixedPages 15 = .ok (.if_icmp .eq 9, 3) := by decide +kernel
theorem dX0_fixedPages_18 : decode cX0_fixedPages 18 = .ok (.iload_n 2, 1) := by decide +kernel
theorem dX0_fixedPages_19 : decode cX0_fixedPages 19 = .ok (.iconst 1, 1) := by decide +kernel
theorem dX0_fixedPages_20 : decode cX0_fixedPages 20 = .ok (.iload_n 3, 1) := by decide +kernel
theorem dX0_fixedPages_21 : decode cX0_fixedPages 21 = .ok (.ishl, 1) := by decide +kernel
theorem dX0_fixedPages_22 : decode cX0_fixedPages 22 = .ok (.ior, 1) := by decide +kernel
theorem dX0_fixedPages_23 : decode cX0_fixedPages 23 = .ok (.istore_n 2, 1) := by decide +kernel
theorem dX0_fixedPages_24 : decode cX0_fixedPages 24 = .ok (.iinc 3 1, 3) := by decide +kernel
theorem dX0_fixedPages_27 : decode cX0_fixedPages 27 = .ok (.goto (-23), 3) := by decide +kernel
set_option maxHeartbeats 4000000 in
set_option maxRecDepth 100000 in
theorem s_X0_fixedPages {P : PP} {a0 : Nat} {a1 : Int32} (I : IV P) (ha0 : At P a0 0) : CtrI yX0_fixedPages cX0_fixedPages 4 (some Jvm.ClassFile.FieldType.int) ({ frames := 3, cells := 0, slots := 0, locals := 192 } : Room) 0 0 P [.ref a0, .int a1] (fun r P2 => P = P2 ∧ (True)) := by
  refine enI (lv := [(0, .ref a0), (1, .int a1)]) (by decide) (Nat.le_of_ble_eq_true rfl) rfl (fun E D cy C Ci0 ret => ?_)
  have J4 : ∀ (n4 : Nat) (v4_2 : Int32) (v4_3 : Int32), (2147483647 - v4_3.toInt).toNat < n4 → (0 ≤ v4_3.toInt) → G E ({ frames := 3, cells := 0, slots := 0, locals := 192 } : Room) D cy 4 P 0 0 4 [(0, .ref a0), (1, .int a1), (2, .int v4_2), (3, .int v4_3)] [] := by
    intro n4
    induction n4 with
    | zero => intro v4_2 v4_3 hm4 hv4_3; omega
    | succ n4 ih4 =>
      intro v4_2 v4_3 hm4 hv4_3
      have J24 : ∀ (v24_2 : Int32), (1 ≤ a1.toInt) → (0 ≤ v4_3.toInt ∧ v4_3.toInt ≤ 2147483646) → G E ({ frames := 3, cells := 0, slots := 0, locals := 192 } : Room) D cy 4 P 0 0 24 [(0, .ref a0), (1, .int a1), (2, .int v24_2), (3, .int v4_3)] [] := by
        intro v24_2 hv24_1 hv24_3
        refine s_iinc (lv0 := [(0, .ref a0), (1, .int a1), (2, .int v24_2)]) (m := 1) C dX0_fixedPages_24 3 rfl (by decide) rfl (by decide) (by omega) (fun z836 h837 => ?_)
        have h837 : z836.toInt = v4_3.toInt + 1 := h837
        refine g_goto C 4 dX0_fixedPages_27 (by decide) ?_
        refine g_lv (lv' := [(0, .ref a0), (1, .int a1), (2, .int v24_2), (3, .int z836)]) [1, 2, 3, 0] rfl ?_
        exact ih4 v24_2 z836 (by omega) (by omega)
      refine g_iload_n C dX0_fixedPages_4 rfl 3 rfl ?_
      refine g_iload_n C dX0_fixedPages_5 rfl 1 rfl ?_
      have u839 := ti_rng v4_3
      have u840 := ti_rng a1
      refine b_icmp_ge C 30 dX0_fixedPages_6 (by decide) (fun h838 => ?_) (fun h838 => ?_)
      · have h838 : a1.toInt ≤ v4_3.toInt := h838
        refine g_iload_n C dX0_fixedPages_30 rfl 2 rfl ?_
        exact ret _ _ _ _ _ _ dX0_fixedPages_31 rfl (by decide) (by decide) ⟨rfl, trivial⟩
      · have h838 : v4_3.toInt < a1.toInt := h838
        refine g_aload_n C dX0_fixedPages_9 rfl 0 rfl ?_
        refine g_iload_n C dX0_fixedPages_10 rfl 3 rfl ?_
        refine g_callVI (rest := []) C mv_X0_41 [.int v4_3] (s_X0_octetOf I ha0) (ha0).1 (ha0).2 rfl rfl (by decide) (Nat.le_of_ble_eq_true rfl) (by decide) dX0_fixedPages_11 (fun r841 Y842 h843 => ?_)
        obtain ⟨rfl, h843⟩ := h843
        have h843 : True := h843
        refine g_iconst (v := (-1)) C dX0_fixedPages_14 (by decide) ?_
        have u845 := ti_rng r841
        refine b_icmp_eq C 24 dX0_fixedPages_15 (by decide) (fun h844 => ?_) (fun h844 => ?_)
        · have h844 : r841.toInt = (-1) := congrArg Int32.toInt h844
          exact J24 v4_2 (by omega) (by omega)
        · have h844 : r841.toInt ≠ (-1) := ti_ne h844
          refine g_iload_n C dX0_fixedPages_18 rfl 2 rfl ?_
          refine g_iconst (v := 1) C dX0_fixedPages_19 (by decide) ?_
          refine g_iload_n C dX0_fixedPages_20 rfl 3 rfl ?_
          refine a_ishl C dX0_fixedPages_21 (fun z846 => ?_)
          refine a_ior C dX0_fixedPages_22 (fun z848 => ?_)
          refine g_istore_n (lv' := [(2, .int z848), (0, .ref a0), (1, .int a1), (3, .int v4_3)]) C dX0_fixedPages_23 rfl (by decide) rfl ?_
          refine g_lv (lv' := [(0, .ref a0), (1, .int a1), (2, .int z848), (3, .int v4_3)]) [1, 2, 0, 3] rfl ?_
          exact J24 z848 (by omega) (by omega)
  refine g_iconst (v := 0) C dX0_fixedPages_0 (by decide) ?_
  refine g_istore_n (lv' := [(2, .int 0), (0, .ref a0), (1, .int a1)]) C dX0_fixedPages_1 rfl (by decide) rfl ?_
  refine g_iconst (v := 0) C dX0_fixedPages_2 (by decide) ?_
  refine g_istore_n (lv' := [(3, .int 0), (2, .int 0), (0, .ref a0), (1, .int a1)]) C dX0_fixedPages_3 rfl (by decide) rfl ?_
  refine g_lv (lv' := [(0, .ref a0), (1, .int a1), (2, .int 0), (3, .int 0)]) [2, 3, 1, 0] rfl ?_
  exact J4 _ 0 0 (Nat.lt_succ_self _) (by decide)
theorem dX0_init_0 : decode cX0_init 0 = .ok (.aload_n 0, 1) := by decide +kernel
theorem dX0_init_1 : decode cX0_init 1 = .ok (.invokespecial 3, 3) := by decide +kernel
theorem dX0_init_4 : decode cX0_init 4 = .ok (.aload_n 0, 1) := by decide +kernel
theorem dX0_init_5 : decode cX0_init 5 = .ok (.bipush 20, 2) := by decide +kernel
theorem dX0_init_7 : decode cX0_init 7 = .ok (.newarray .int, 2) := by decide +kernel
theorem dX0_take_0 : decode cX0_take 0 = .ok (.aload_n 0, 1) := by decide +kernel
theorem dX0_take_1 : decode cX0_take 1 = .ok (.iconst 0, 1) := by decide +kernel
theorem dX0_take_2 : decode cX0_take 2 = .ok (.putfield 18, 3) := by decide +kernel
theorem dX0_take_5 : decode cX0_take 5 = .ok (.aload_n 0, 1) := by decide +kernel
theorem dX0_take_6 : decode cX0_take 6 = .ok (.iconst 1, 1) := by decide +kernel
theorem dX0_take_7 : decode cX0_take 7 = .ok (.putfield 22, 3) := by decide +kernel
theorem dX0_take_10 : decode cX0_take 10 = .ok (.iconst 0, 1) := by decide +kernel
theorem dX0_take_11 : decode cX0_take 11 = .ok (.istore_n 3, 1) := by decide +kernel
theorem dX0_take_12 : decode cX0_take 12 = .ok (.iload_n 3, 1) := by decide +kernel
theorem dX0_take_13 : decode cX0_take 13 = .ok (.aload_n 1, 1) := by decide +kernel
theorem dX0_take_14 : decode cX0_take 14 = .ok (.getfield 26, 3) := by decide +kernel
theorem dX0_take_17 : decode cX0_take 17 = .ok (.if_icmp .ge 24, 3) := by decide +kernel
theorem dX0_take_20 : decode cX0_take 20 = .ok (.iload_n 3, 1) := by decide +kernel
theorem dX0_take_21 : decode cX0_take 21 = .ok (.iload_n 2, 1) := by decide +kernel
theorem dX0_take_22 : decode cX0_take 22 = .ok (.if_icmp .eq 13, 3) := by decide +kernel
theorem dX0_take_25 : decode cX0_take 25 = .ok (.aload_n 0, 1) := by decide +kernel
theorem dX0_take_26 : decode cX0_take 26 = .ok (.aload_n 1, 1) := by decide +kernel
theorem dX0_take_27 : decode cX0_take 27 = .ok (.getfield 31, 3) := by decide +kernel
theorem dX0_take_30 : decode cX0_take 30 = .ok (.iload_n 3, 1) := by decide +kernel
theorem dX0_take_31 : decode cX0_take 31 = .ok (.iaload, 1) := by decide +kernel
theorem dX0_take_32 : decode cX0_take 32 = .ok (.invokevirtual 32, 3) := by decide +kernel
theorem dX0_take_35 : decode cX0_take 35 = .ok (.iinc 3 1, 3) := by decide +kernel
theorem dX0_take_38 : decode cX0_take 38 = .ok (.goto (-26), 3) := by decide +kernel
theorem dX0_take_41 : decode cX0_take 41 = .ok (.return_, 1) := by decide +kernel
set_option maxHeartbeats 4000000 in
set_option maxRecDepth 100000 in
theorem s_X0_take {P : PP} {a0 : Nat} {a1 : Nat} {a2 : Int32} (I : IV P) (ha0 : At P a0 0) (ha1 : At P a1 5) : CtrV yX0_take cX0_take 4 none ({ frames := 3, cells := 0, slots := 0, locals := 192 } : Room) 0 0 P [.ref a0, .ref a1, .int a2] (fun P2 => IV P2 ∧ EK [0, 13] P P2) := by
  refine enV (lv := [(0, .ref a0), (1, .ref a1), (2, .int a2)]) (by decide) (Nat.le_of_ble_eq_true rfl) rfl (fun E D cy C Ci0 ret => ?_)
  have J12 : ∀ (n12 : Nat) (P12 : PP) (v12_3 : Int32), (44 - v12_3.toInt).toNat < n12 → (IV P12) → (EK [0, 13] P P12) → (0 ≤ v12_3.toInt ∧ v12_3.toInt ≤ 44) → G E ({ frames := 3, cells := 0, slots := 0, locals := 192 } : Room) D cy 4 P12 0 0 12 [(0, .ref a0), (1, .ref a1), (2, .int a2), (3, .int v12_3)] [] := by
    intro n12
    induction n12 with
    | zero => intro P12 v12_3 hm12 I12 X12 hv12_3; omega
    | succ n12 ih12 =>
      intro P12 v12_3 hm12 I12 X12 hv12_3
      have h1258 := X12.at ha0
      have h1259 := X12.at ha1
      have J35 : ∀ (P35 : PP), (IV P35) → (EK [0, 13] P P35) → (0 ≤ v12_3.toInt ∧ v12_3.toInt ≤ 43) → (1 ≤ (pI P35 a1 4).toInt ∧ (pI P35 a1 4).toInt ≤ 44) → G E ({ frames := 3, cells := 0, slots := 0, locals := 192 } : Room) D cy 4 P35 0 0 35 [(0, .ref a0), (1, .ref a1), (2, .int a2), (3, .int v12_3)] [] := by
        intro P35 I35 X35 hv35_3 hq35_0
        have h1260 := X35.at ha0
        have h1261 := X35.at ha1
        refine s_iinc (lv0 := [(0, .ref a0), (1, .ref a1), (2, .int a2)]) (m := 1) C dX0_take_35 3 rfl (by decide) rfl (by decide) (by omega) (fun z1262 h1263 => ?_)
        have h1263 : z1262.toInt = v12_3.toInt + 1 := h1263
        refine g_goto C 12 dX0_take_38 (by decide) ?_
        refine g_lv (lv' := [(0, .ref a0), (1, .ref a1), (2, .int a2), (3, .int z1262)]) [1, 2, 3, 0] rfl ?_
        exact ih12 P35 z1262 (by omega) I35 X35 (by omega)
      refine g_iload_n C dX0_take_12 rfl 3 rfl ?_
      refine g_aload_n C dX0_take_13 rfl 1 rfl ?_
      refine g_getI C fi_X0_26 (by decide) (h1259).1 (h1259).2 dX0_take_14 ?_
      have h1264 := I12.rg (h1259) 4 rfl
      refine b_icmp_ge C 41 dX0_take_17 (by decide) (fun h1265 => ?_) (fun h1265 => ?_)
      · have h1265 : (pI P12 a1 4).toInt ≤ v12_3.toInt := h1265
        exact ret _ _ _ _ _ dX0_take_41 (by decide) (by decide) ⟨I12, X12⟩
      · have h1265 : v12_3.toInt < (pI P12 a1 4).toInt := h1265
        refine g_iload_n C dX0_take_20 rfl 3 rfl ?_
        refine g_iload_n C dX0_take_21 rfl 2 rfl ?_
        have u1267 := ti_rng a2
        refine b_icmp_eq C 35 dX0_take_22 (by decide) (fun h1266 => ?_) (fun h1266 => ?_)
        · have h1266 : v12_3.toInt = a2.toInt := congrArg Int32.toInt h1266
          exact J35 P12 I12 X12 (by omega) (by omega)
        · have h1266 : v12_3.toInt ≠ a2.toInt := ti_ne h1266
          refine g_aload_n C dX0_take_25 rfl 0 rfl ?_
          refine g_aload_n C dX0_take_26 rfl 1 rfl ?_
          obtain ⟨b1268, e1269, h1270⟩ := I12.fld (h1259) 0 13 44 rfl
          refine g_getR C fi_X0_31 rfl e1269 (h1259).1 (h1259).2 dX0_take_27 ?_
          refine g_iload_n C dX0_take_30 rfl 3 rfl ?_
          refine g_iald (j := (v12_3.toInt.toNat)) C h1270.1 h1270.2.1 (ix_in h1270.2.2 (by omega)) dX0_take_31 ?_
          refine g_topi (fun z1271 _ => ?_)
          refine g_callVV (rest := []) C mv_X0_32 [.int z1271] (s_X0_add I12 h1258) (h1258).1 (h1258).2 rfl rfl (by decide) (Nat.le_of_ble_eq_true rfl) (by decide) dX0_take_32 (fun Y1273 h1274 => ?_)
          obtain ⟨Iy1275, Xy1276⟩ := h1274
          have q1277 := Xy1276.keep h1259 (by decide) 4
          have Xz1278 : EK [0, 13] P Y1273 := X12.tr (Xy1276.mono (by decide))
          have h1279 := Xy1276.at h1258
          have h1280 := Xy1276.at h1259
          exact J35 Y1273 Iy1275 Xz1278 (by omega) (by omega)
  refine g_aload_n C dX0_take_0 rfl 0 rfl ?_
  refine g_iconst (v := 0) C dX0_take_1 (by decide) ?_
  refine g_putI C fi_X0_18 rfl (ha0).1 (ha0).2 dX0_take_2 ?_
  refine gpW (ks := [0]) (I.setI (ha0) (rgOk.of rfl (by decide))) (EK.setI (ha0).2 (by decide)) (fun Y1281 Iy1282 Xy1283 w1284 w1285 => ?_)
  have w1285 : (pI Y1281 a0 2).toInt = 0 := w1285
  have Xz1286 : EK [0, 13] P Y1281 := Xy1283.mono (by decide)
  have h1287 := Xy1283.at ha0
  have h1288 := Xy1283.at ha1
  refine g_aload_n C dX0_take_5 rfl 0 rfl ?_
  refine g_iconst (v := 1) C dX0_take_6 (by decide) ?_
  refine g_putZ C fi_X0_22 rfl (Or.inr rfl) (h1287).1 (h1287).2 dX0_take_7 ?_
  refine gpW (ks := [0]) (Iy1282.setI (h1287) (rgOk.of rfl (by decide))) (EK.setI (h1287).2 (by decide)) (fun Y1289 Iy1290 Xy1291 w1292 w1293 => ?_)
  have w1293 : (pI Y1289 a0 3).toInt = 1 := w1293
  have q1294 := w1292 2 (by decide)
  have Xz1295 : EK [0, 13] P Y1289 := Xz1286.tr (Xy1291.mono (by decide))
  have h1296 := Xy1291.at h1287
  have h1297 := Xy1291.at h1288
  refine g_iconst (v := 0) C dX0_take_10 (by decide) ?_
  refine g_istore_n (lv' := [(3, .int 0), (0, .ref a0), (1, .ref a1), (2, .int a2)]) C dX0_take_11 rfl (by decide) rfl ?_
  refine g_lv (lv' := [(0, .ref a0), (1, .ref a1), (2, .int a2), (3, .int 0)]) [1, 2, 3, 0] rfl ?_
  exact J12 _ Y1289 0 (Nat.lt_succ_self _) Iy1290 Xz1295 (by decide)
theorem dX10_allAgree_0 : decode cX10_allAgree 0 = .ok (.iconst 0, 1) := by decide +kernel
theorem dX10_allAgree_1 : decode cX10_allAgree 1 = .ok (.istore_n 1, 1) := by decide +kernel
theorem dX10_allAgree_2 : decode cX10_allAgree 2 = .ok (.iload_n 1, 1) := by decide +kernel
theorem dX10_allAgree_3 : decode cX10_allAgree 3 = .ok (.aload_n 0, 1) := by decide +kernel
theorem dX10_allAgree_4 : decode cX10_allAgree 4 = .ok (.getfield 23, 3) := by decide +kernel
theorem dX10_allAgree_7 : decode cX10_allAgree 7 = .ok (.arraylength, 1) := by decide +kernel
theorem dX10_allAgree_8 : decode cX10_allAgree 8 = .ok (.if_icmp .ge 23, 3) := by decide +kernel
theorem dX10_allAgree_11 : decode cX10_allAgree 11 = .ok (.aload_n 0, 1) := by decide +kernel
theorem dX10_allAgree_12 : decode cX10_allAgree 12 = .ok (.getfield 23, 3) := by decide +kernel
theorem dX10_allAgree_15 : decode cX10_allAgree 15 = .ok (.iload_n 1, 1) := by decide +kernel
theorem dX10_allAgree_16 : decode cX10_allAgree 16 = .ok (.aaload, 1) := by decide +kernel
theorem dX10_allAgree_17 : decode cX10_allAgree 17 = .ok (.getfield 56, 3) := by decide +kernel
theorem dX10_allAgree_20 : decode cX10_allAgree 20 = .ok (.ifCond .ne 5, 3) := by decide +kernel
theorem dX10_allAgree_23 : decode cX10_allAgree 23 = .ok (.iconst 0, 1) := by decide +kernel
theorem dX10_allAgree_24 : decode cX10_allAgree 24 = .ok (.ireturn, 1) := by decide +kernel
theorem dX10_allAgree_25 : decode cX10_allAgree 25 = .ok (.iinc 1 1, 3) := by decide +kernel
theorem dX10_allAgree_28 : decode cX10_allAgree 28 = .ok (.goto (-26), 3) := by decide +kernel
theorem dX10_allAgree_31 : decode cX10_allAgree 31 = .ok (.iconst 1, 1) := by decide +kernel
theorem dX10_allAgree_32 : decode cX10_allAgree 32 = .ok (.ireturn, 1) := by decide +kernel
set_option maxHeartbeats 4000000 in
set_option maxRecDepth 100000 in
theorem s_X10_allAgree {P : PP} {a0 : Nat} (I : IV P) (ha0 : At P a0 10) : CtrI yX10_allAgree cX10_allAgree 2 (some Jvm.ClassFile.FieldType.boolean) ({ frames := 1, cells := 0, slots := 0, locals := 64 } : Room) 0 0 P [.ref a0] (fun r P2 => P = P2 ∧ (0 ≤ r.toInt ∧ r.toInt ≤ 1)) := by
  refine enI (lv := [(0, .ref a0)]) (by decide) (Nat.le_of_ble_eq_true rfl) rfl (fun E D cy C Ci0 ret => ?_)
  have J2 : ∀ (n2 : Nat) (v2_1 : Int32), (4 - v2_1.toInt).toNat < n2 → (0 ≤ v2_1.toInt ∧ v2_1.toInt ≤ 4) → G E ({ frames := 1, cells := 0, slots := 0, locals := 64 } : Room) D cy 2 P 0 0 2 [(0, .ref a0), (1, .int v2_1)] [] := by
    intro n2
    induction n2 with
    | zero => intro v2_1 hm2 hv2_1; omega
    | succ n2 ih2 =>
      intro v2_1 hm2 hv2_1
      refine g_iload_n C dX10_allAgree_2 rfl 1 rfl ?_
      refine g_aload_n C dX10_allAgree_3 rfl 0 rfl ?_
      obtain ⟨b1353, e1354, h1355⟩ := I.fld (ha0) 2 16 4 rfl
      refine g_getR C fi_X10_23 rfl e1354 (ha0).1 (ha0).2 dX10_allAgree_4 ?_
      refine g_alen (v := 4) C h1355.1 h1355.2.1 (by decide) (by rw [h1355.2.2]; rfl) dX10_allAgree_7 ?_
      refine b_icmp_ge C 31 dX10_allAgree_8 (by decide) (fun h1356 => ?_) (fun h1356 => ?_)
      · have h1356 : 4 ≤ v2_1.toInt := h1356
        refine g_iconst (v := 1) C dX10_allAgree_31 (by decide) ?_
        exact ret _ _ _ _ _ _ dX10_allAgree_32 rfl (by decide) (by decide) ⟨rfl, (by decide)⟩
      · have h1356 : v2_1.toInt < 4 := h1356
        refine g_aload_n C dX10_allAgree_11 rfl 0 rfl ?_
        refine g_getR C fi_X10_23 rfl e1354 (ha0).1 (ha0).2 dX10_allAgree_12 ?_
        refine g_iload_n C dX10_allAgree_15 rfl 1 rfl ?_
        obtain ⟨b1357, e1358, h1359⟩ := I.elm h1355 (by decide) (v2_1.toInt.toNat) (by omega)
        refine g_aldR C h1355.1 h1355.2.1 (by decide) (ix_in h1355.2.2 (by omega)) e1358 dX10_allAgree_16 ?_
        refine g_getI C fi_X10_56 (by decide) (h1359).1 (h1359).2 dX10_allAgree_17 ?_
        have h1360 := I.rg (h1359) 3 rfl
        refine b_if_ne C 25 dX10_allAgree_20 (by decide) (fun h1361 => ?_) (fun h1361 => ?_)
        · have h1361 : (pI P b1357 3).toInt ≠ 0 := ti_ne h1361
          refine s_iinc (lv0 := [(0, .ref a0)]) (m := 1) C dX10_allAgree_25 1 rfl (by decide) rfl (by decide) (by omega) (fun z1362 h1363 => ?_)
          have h1363 : z1362.toInt = v2_1.toInt + 1 := h1363
          refine g_goto C 2 dX10_allAgree_28 (by decide) ?_
          refine g_lv (lv' := [(0, .ref a0), (1, .int z1362)]) [1, 0] rfl ?_
          exact ih2 z1362 (by omega) (by omega)
        · have h1361 : (pI P b1357 3).toInt = 0 := congrArg Int32.toInt h1361
          refine g_iconst (v := 0) C dX10_allAgree_23 (by decide) ?_
          exact ret _ _ _ _ _ _ dX10_allAgree_24 rfl (by decide) (by decide) ⟨rfl, (by decide)⟩
  refine g_iconst (v := 0) C dX10_allAgree_0 (by decide) ?_
  refine g_istore_n (lv' := [(1, .int 0), (0, .ref a0)]) C dX10_allAgree_1 rfl (by decide) rfl ?_
  refine g_lv (lv' := [(0, .ref a0), (1, .int 0)]) [1, 0] rfl ?_
  exact J2 _ 0 (Nat.lt_succ_self _) (by decide)
theorem dX10_basisOf_0 : decode cX10_basisOf 0 = .ok (.aload_n 0, 1) := by decide +kernel
theorem dX10_basisOf_1 : decode cX10_basisOf 1 = .ok (.getfield 23, 3) := by decide +kernel
theorem dX10_basisOf_4 : decode cX10_basisOf 4 = .ok (.iload_n 1, 1) := by decide +kernel
theorem dX10_basisOf_5 : decode cX10_basisOf 5 = .ok (.iconst 2, 1) := by decide +kernel
theorem dX10_basisOf_6 : decode cX10_basisOf 6 = .ok (.imul, 1) := by decide +kernel
theorem dX10_basisOf_7 : decode cX10_basisOf 7 = .ok (.iload_n 2, 1) := by decide +kernel
theorem dX10_basisOf_8 : decode cX10_basisOf 8 = .ok (.iadd, 1) := by decide +kernel
theorem dX10_basisOf_9 : decode cX10_basisOf 9 = .ok (.aaload, 1) := by decide +kernel
theorem dX10_basisOf_10 : decode cX10_basisOf 10 = .ok (.areturn, 1) := by decide +kernel
set_option maxHeartbeats 4000000 in
set_option maxRecDepth 100000 in
theorem s_X10_basisOf {P : PP} {a0 : Nat} {a1 : Int32} {a2 : Int32} (I : IV P) (ha0 : At P a0 10) (ha1 : 0 ≤ a1.toInt ∧ a1.toInt ≤ 1) (ha2 : 0 ≤ a2.toInt ∧ a2.toInt ≤ 1) : CtrQ yX10_basisOf cX10_basisOf 3 (some (Jvm.ClassFile.FieldType.object "ThousandLeaflets$Basis")) ({ frames := 1, cells := 0, slots := 0, locals := 64 } : Room) 0 0 P [.ref a0, .int a1, .int a2] (fun r P2 => P = P2 ∧ (∃ b, r = some b ∧ At P2 b 0)) := by
  refine enQ (lv := [(0, .ref a0), (1, .int a1), (2, .int a2)]) (by decide) (by first | exact Or.inl ⟨_, rfl⟩ | exact Or.inr ⟨_, rfl⟩) (Nat.le_of_ble_eq_true rfl) rfl (fun E D cy C Ci0 ret => ?_)
  refine g_aload_n C dX10_basisOf_0 rfl 0 rfl ?_
  obtain ⟨b1374, e1375, h1376⟩ := I.fld (ha0) 2 16 4 rfl
  refine g_getR C fi_X10_23 rfl e1375 (ha0).1 (ha0).2 dX10_basisOf_1 ?_
  refine g_iload_n C dX10_basisOf_4 rfl 1 rfl ?_
  refine g_iconst (v := 2) C dX10_basisOf_5 (by decide) ?_
  refine s_imul C dX10_basisOf_6 (by show -2147483648 ≤ a1.toInt * 2 ∧ a1.toInt * 2 ≤ 2147483647; omega) (fun z1377 h1378 => ?_)
  have h1378 : z1377.toInt = a1.toInt * 2 := h1378
  refine g_iload_n C dX10_basisOf_7 rfl 2 rfl ?_
  refine s_iadd C dX10_basisOf_8 (by show -2147483648 ≤ z1377.toInt + a2.toInt ∧ z1377.toInt + a2.toInt ≤ 2147483647; omega) (fun z1379 h1380 => ?_)
  have h1380 : z1379.toInt = z1377.toInt + a2.toInt := h1380
  obtain ⟨b1381, e1382, h1383⟩ := I.elm h1376 (by decide) (z1379.toInt.toNat) (by omega)
  refine g_aldR C h1376.1 h1376.2.1 (by decide) (ix_in h1376.2.2 (by omega)) e1382 dX10_basisOf_9 ?_
  exact ret _ _ _ _ _ (some b1381) dX10_basisOf_10 (by decide) (by decide) ⟨rfl, ⟨_, rfl, h1383⟩⟩
theorem dX10_bookAt_0 : decode cX10_bookAt 0 = .ok (.iconst 0, 1) := by decide +kernel
theorem dX10_bookAt_1 : decode cX10_bookAt 1 = .ok (.istore_n 2, 1) := by decide +kernel
theorem dX10_bookAt_2 : decode cX10_bookAt 2 = .ok (.iload_n 2, 1) := by decide +kernel
theorem dX10_bookAt_3 : decode cX10_bookAt 3 = .ok (.aload_n 0, 1) := by decide +kernel
theorem dX10_bookAt_4 : decode cX10_bookAt 4 = .ok (.getfield 35, 3) := by decide +kernel
theorem dX10_bookAt_7 : decode cX10_bookAt 7 = .ok (.if_icmp .ge 64, 3) := by decide +kernel
theorem dX10_bookAt_10 : decode cX10_bookAt 10 = .ok (.aload_n 0, 1) := by decide +kernel
theorem dX10_bookAt_11 : decode cX10_bookAt 11 = .ok (.getfield 17, 3) := by decide +kernel
theorem dX10_bookAt_14 : decode cX10_bookAt 14 = .ok (.iload_n 2, 1) := by decide +kernel
theorem dX10_bookAt_15 : decode cX10_bookAt 15 = .ok (.iaload, 1) := by decide +kernel
theorem dX10_bookAt_16 : decode cX10_bookAt 16 = .ok (.iload_n 1, 1) := by decide +kernel
theorem dX10_bookAt_17 : decode cX10_bookAt 17 = .ok (.if_icmp .ne 48, 3) := by decide +kernel
theorem dX10_bookAt_20 : decode cX10_bookAt 20 = .ok (.aload_n 0, 1) := by decide +kernel
theorem dX10_bookAt_21 : decode cX10_bookAt 21 = .ok (.getfield 28, 3) := by decide +kernel
theorem dX10_bookAt_24 : decode cX10_bookAt 24 = .ok (.iload_n 2, 1) := by decide +kernel
theorem dX10_bookAt_25 : decode cX10_bookAt 25 = .ok (.ishr, 1) := by decide +kernel
theorem dX10_bookAt_26 : decode cX10_bookAt 26 = .ok (.iconst 1, 1) := by decide +kernel
theorem dX10_bookAt_27 : decode cX10_bookAt 27 = .ok (.iand, 1) := by decide +kernel
theorem dX10_bookAt_28 : decode cX10_bookAt 28 = .ok (.istore_n 3, 1) := by decide +kernel
theorem dX10_bookAt_29 : decode cX10_bookAt 29 = .ok (.aload_n 0, 1) := by decide +kernel
theorem dX10_bookAt_30 : decode cX10_bookAt 30 = .ok (.getfield 32, 3) := by decide +kernel
theorem dX10_bookAt_33 : decode cX10_bookAt 33 = .ok (.iload_n 2, 1) := by decide +kernel
theorem dX10_bookAt_34 : decode cX10_bookAt 34 = .ok (.ishr, 1) := by decide +kernel
theorem dX10_bookAt_35 : decode cX10_bookAt 35 = .ok (.iconst 1, 1) := by decide +kernel
theorem dX10_bookAt_36 : decode cX10_bookAt 36 = .ok (.iand, 1) := by decide +kernel
theorem dX10_bookAt_37 : decode cX10_bookAt 37 = .ok (.istore 4, 2) := by decide +kernel
theorem dX10_bookAt_39 : decode cX10_bookAt 39 = .ok (.iload_n 3, 1) := by decide +kernel
theorem dX10_bookAt_40 : decode cX10_bookAt 40 = .ok (.iload 4, 2) := by decide +kernel
theorem dX10_bookAt_42 : decode cX10_bookAt 42 = .ok (.iadd, 1) := by decide +kernel
theorem dX10_bookAt_43 : decode cX10_bookAt 43 = .ok (.ifCond .ne 7, 3) := by decide +kernel
theorem dX10_bookAt_46 : decode cX10_bookAt 46 = .ok (.iconst (-1), 1) := by decide +kernel
theorem dX10_bookAt_47 : decode cX10_bookAt 47 = .ok (.goto 17, 3) := by decide +kernel
theorem dX10_bookAt_50 : decode cX10_bookAt 50 = .ok (.iload_n 3, 1) := by decide +kernel
theorem dX10_bookAt_51 : decode cX10_bookAt 51 = .ok (.iload 4, 2) := by decide +kernel
theorem dX10_bookAt_53 : decode cX10_bookAt 53 = .ok (.iadd, 1) := by decide +kernel
theorem dX10_bookAt_54 : decode cX10_bookAt 54 = .ok (.iconst 2, 1) := by decide +kernel
theorem dX10_bookAt_55 : decode cX10_bookAt 55 = .ok (.if_icmp .ne 7, 3) := by decide +kernel
theorem dX10_bookAt_58 : decode cX10_bookAt 58 = .ok (.iconst 2, 1) := by decide +kernel
theorem dX10_bookAt_59 : decode cX10_bookAt 59 = .ok (.goto 5, 3) := by decide +kernel
theorem dX10_bookAt_62 : decode cX10_bookAt 62 = .ok (.iload 4, 2) := by decide +kernel
theorem dX10_bookAt_64 : decode cX10_bookAt 64 = .ok (.ireturn, 1) := by decide +kernel
theorem dX10_bookAt_65 : decode cX10_bookAt 65 = .ok (.iinc 2 1, 3) := by decide +kernel
theorem dX10_bookAt_68 : decode cX10_bookAt 68 = .ok (.goto (-66), 3) := by decide +kernel
theorem dX10_bookAt_71 : decode cX10_bookAt 71 = .ok (.iconst (-1), 1) := by decide +kernel
theorem dX10_bookAt_72 : decode cX10_bookAt 72 = .ok (.ireturn, 1) := by decide +kernel
set_option maxHeartbeats 4000000 in
set_option maxRecDepth 100000 in
theorem s_X10_bookAt {P : PP} {a0 : Nat} {a1 : Int32} (I : IV P) (ha0 : At P a0 10) : CtrI yX10_bookAt cX10_bookAt 5 (some Jvm.ClassFile.FieldType.int) ({ frames := 1, cells := 0, slots := 0, locals := 64 } : Room) 0 0 P [.ref a0, .int a1] (fun r P2 => P = P2 ∧ (-1 ≤ r.toInt ∧ r.toInt ≤ 2)) := by
  refine enI (lv := [(0, .ref a0), (1, .int a1)]) (by decide) (Nat.le_of_ble_eq_true rfl) rfl (fun E D cy C Ci0 ret => ?_)
  have J2 : ∀ (n2 : Nat) (v2_2 : Int32), (6 - v2_2.toInt).toNat < n2 → (0 ≤ v2_2.toInt ∧ v2_2.toInt ≤ 6) → G E ({ frames := 1, cells := 0, slots := 0, locals := 64 } : Room) D cy 5 P 0 0 2 [(0, .ref a0), (1, .int a1), (2, .int v2_2)] [] := by
    intro n2
    induction n2 with
    | zero => intro v2_2 hm2 hv2_2; omega
    | succ n2 ih2 =>
      intro v2_2 hm2 hv2_2
      refine g_iload_n C dX10_bookAt_2 rfl 2 rfl ?_
      refine g_aload_n C dX10_bookAt_3 rfl 0 rfl ?_
      refine g_getI C fi_X10_35 (by decide) (ha0).1 (ha0).2 dX10_bookAt_4 ?_
      have h1559 := I.rg (ha0) 3 rfl
      refine b_icmp_ge C 71 dX10_bookAt_7 (by decide) (fun h1560 => ?_) (fun h1560 => ?_)
      · have h1560 : (pI P a0 3).toInt ≤ v2_2.toInt := h1560
        refine g_iconst (v := (-1)) C dX10_bookAt_71 (by decide) ?_
        exact ret _ _ _ _ _ _ dX10_bookAt_72 rfl (by decide) (by decide) ⟨rfl, (by decide)⟩
      · have h1560 : v2_2.toInt < (pI P a0 3).toInt := h1560
        refine g_aload_n C dX10_bookAt_10 rfl 0 rfl ?_
        obtain ⟨b1561, e1562, h1563⟩ := I.fld (ha0) 1 13 6 rfl
        refine g_getR C fi_X10_17 rfl e1562 (ha0).1 (ha0).2 dX10_bookAt_11 ?_
        refine g_iload_n C dX10_bookAt_14 rfl 2 rfl ?_
        refine g_iald (j := (v2_2.toInt.toNat)) C h1563.1 h1563.2.1 (ix_in h1563.2.2 (by omega)) dX10_bookAt_15 ?_
        refine g_topi (fun z1564 _ => ?_)
        refine g_iload_n C dX10_bookAt_16 rfl 1 rfl ?_
        have u1566 := ti_rng z1564
        have u1567 := ti_rng a1
        refine b_icmp_ne C 65 dX10_bookAt_17 (by decide) (fun h1565 => ?_) (fun h1565 => ?_)
        · have h1565 : z1564.toInt ≠ a1.toInt := ti_ne h1565
          refine s_iinc (lv0 := [(0, .ref a0), (1, .int a1)]) (m := 1) C dX10_bookAt_65 2 rfl (by decide) rfl (by decide) (by omega) (fun z1568 h1569 => ?_)
          have h1569 : z1568.toInt = v2_2.toInt + 1 := h1569
          refine g_goto C 2 dX10_bookAt_68 (by decide) ?_
          refine g_lv (lv' := [(0, .ref a0), (1, .int a1), (2, .int z1568)]) [1, 2, 0] rfl ?_
          exact ih2 z1568 (by omega) (by omega)
        · have h1565 : z1564.toInt = a1.toInt := congrArg Int32.toInt h1565
          refine g_aload_n C dX10_bookAt_20 rfl 0 rfl ?_
          refine g_getI C fi_X10_28 (by decide) (ha0).1 (ha0).2 dX10_bookAt_21 ?_
          refine g_iload_n C dX10_bookAt_24 rfl 2 rfl ?_
          refine a_ishr C dX10_bookAt_25 (fun z1570 => ?_)
          refine g_iconst (v := 1) C dX10_bookAt_26 (by decide) ?_
          refine s_iand C dX10_bookAt_27 (by show 0 ≤ 1; omega) (fun z1572 h1573 => ?_)
          have h1573 : 0 ≤ z1572.toInt ∧ z1572.toInt ≤ 1 := h1573
          refine g_istore_n (lv' := [(3, .int z1572), (0, .ref a0), (1, .int a1), (2, .int v2_2)]) C dX10_bookAt_28 rfl (by decide) rfl ?_
          refine g_aload_n C dX10_bookAt_29 rfl 1 rfl ?_
          refine g_getI C fi_X10_32 (by decide) (ha0).1 (ha0).2 dX10_bookAt_30 ?_
          refine g_iload_n C dX10_bookAt_33 rfl 3 rfl ?_
          refine a_ishr C dX10_bookAt_34 (fun z1574 => ?_)
          refine g_iconst (v := 1) C dX10_bookAt_35 (by decide) ?_
          refine s_iand C dX10_bookAt_36 (by show 0 ≤ 1; omega) (fun z1576 h1577 => ?_)
          have h1577 : 0 ≤ z1576.toInt ∧ z1576.toInt ≤ 1 := h1577
          refine g_istore (lv' := [(4, .int z1576), (3, .int z1572), (0, .ref a0), (1, .int a1), (2, .int v2_2)]) C dX10_bookAt_37 (by decide) rfl ?_
          refine g_iload_n C dX10_bookAt_39 rfl 1 rfl ?_
          refine g_iload C dX10_bookAt_40 0 rfl ?_
          refine s_iadd C dX10_bookAt_42 (by show -2147483648 ≤ z1572.toInt + z1576.toInt ∧ z1572.toInt + z1576.toInt ≤ 2147483647; omega) (fun z1578 h1579 => ?_)
          have h1579 : z1578.toInt = z1572.toInt + z1576.toInt := h1579
          refine b_if_ne C 50 dX10_bookAt_43 (by decide) (fun h1580 => ?_) (fun h1580 => ?_)
          · have h1580 : z1578.toInt ≠ 0 := ti_ne h1580
            refine g_iload_n C dX10_bookAt_50 rfl 1 rfl ?_
            refine g_iload C dX10_bookAt_51 0 rfl ?_
            refine s_iadd C dX10_bookAt_53 (by show -2147483648 ≤ z1572.toInt + z1576.toInt ∧ z1572.toInt + z1576.toInt ≤ 2147483647; omega) (fun z1581 h1582 => ?_)
            have h1582 : z1581.toInt = z1572.toInt + z1576.toInt := h1582
            refine g_iconst (v := 2) C dX10_bookAt_54 (by decide) ?_
            refine b_icmp_ne C 62 dX10_bookAt_55 (by decide) (fun h1583 => ?_) (fun h1583 => ?_)
            · have h1583 : z1581.toInt ≠ 2 := ti_ne h1583
              refine g_iload C dX10_bookAt_62 0 rfl ?_
              exact ret _ _ _ _ _ _ dX10_bookAt_64 rfl (by decide) (by decide) ⟨rfl, (by omega)⟩
            · have h1583 : z1581.toInt = 2 := congrArg Int32.toInt h1583
              refine g_iconst (v := 2) C dX10_bookAt_58 (by decide) ?_
              refine g_goto C 64 dX10_bookAt_59 (by decide) ?_
              exact ret _ _ _ _ _ _ dX10_bookAt_64 rfl (by decide) (by decide) ⟨rfl, (by decide)⟩
          · have h1580 : z1578.toInt = 0 := congrArg Int32.toInt h1580
            refine g_iconst (v := (-1)) C dX10_bookAt_46 (by decide) ?_
            refine g_goto C 64 dX10_bookAt_47 (by decide) ?_
            exact ret _ _ _ _ _ _ dX10_bookAt_64 rfl (by decide) (by decide) ⟨rfl, (by decide)⟩
  refine g_iconst (v := 0) C dX10_bookAt_0 (by decide) ?_
  refine g_istore_n (lv' := [(2, .int 0), (0, .ref a0), (1, .int a1)]) C dX10_bookAt_1 rfl (by decide) rfl ?_
  refine g_lv (lv' := [(0, .ref a0), (1, .int a1), (2, .int 0)]) [1, 2, 0] rfl ?_
  exact J2 _ 0 (Nat.lt_succ_self _) (by decide)
theorem dX10_tryBook_0 : decode cX10_tryBook 0 = .ok (.aload_n 0, 1) := by decide +kernel
theorem dX10_tryBook_1 : decode cX10_tryBook 1 = .ok (.iload 4, 2) := by decide +kernel
theorem dX10_tryBook_3 : decode cX10_tryBook 3 = .ok (.iconst 0, 1) := by decide +kernel
theorem dX10_tryBook_4 : decode cX10_tryBook 4 = .ok (.invokevirtual 64, 3) := by decide +kernel
theorem dX10_tryBook_7 : decode cX10_tryBook 7 = .ok (.astore 5, 2) := by decide +kernel
theorem dX10_tryBook_9 : decode cX10_tryBook 9 = .ok (.aload_n 0, 1) := by decide +kernel
theorem dX10_tryBook_10 : decode cX10_tryBook 10 = .ok (.iload 4, 2) := by decide +kernel
theorem dX10_tryBook_12 : decode cX10_tryBook 12 = .ok (.iconst 1, 1) := by decide +kernel
theorem dX10_tryBook_13 : decode cX10_tryBook 13 = .ok (.invokevirtual 64, 3) := by decide +kernel
theorem dX10_tryBook_16 : decode cX10_tryBook 16 = .ok (.astore 6, 2) := by decide +kernel
theorem dX10_tryBook_18 : decode cX10_tryBook 18 = .ok (.aload 5, 2) := by decide +kernel
theorem dX10_tryBook_20 : decode cX10_tryBook 20 = .ok (.getfield 68, 3) := by decide +kernel
theorem dX10_tryBook_23 : decode cX10_tryBook 23 = .ok (.istore 7, 2) := by decide +kernel
theorem dX10_tryBook_25 : decode cX10_tryBook 25 = .ok (.aload 6, 2) := by decide +kernel
theorem dX10_tryBook_27 : decode cX10_tryBook 27 = .ok (.getfield 68, 3) := by decide +kernel
theorem dX10_tryBook_30 : decode cX10_tryBook 30 = .ok (.istore 8, 2) := by decide +kernel
theorem dX10_tryBook_32 : decode cX10_tryBook 32 = .ok (.aload 5, 2) := by decide +kernel
theorem dX10_tryBook_34 : decode cX10_tryBook 34 = .ok (.aload_n 3, 1) := by decide +kernel
theorem dX10_tryBook_35 : decode cX10_tryBook 35 = .ok (.iload 4, 2) := by decide +kernel
theorem dX10_tryBook_37 : decode cX10_tryBook 37 = .ok (.iconst 0, 1) := by decide +kernel
theorem dX10_tryBook_38 : decode cX10_tryBook 38 = .ok (.invokevirtual 71, 3) := by decide +kernel
theorem dX7_equation_0 : decode cX7_equation 0 = .ok (.aload_n 0, 1) := by decide +kernel
theorem dX7_equation_1 : decode cX7_equation 1 = .ok (.iload_n 1, 1) := by decide +kernel
theorem dX7_equation_2 : decode cX7_equation 2 = .ok (.invokevirtual 33, 3) := by decide +kernel
theorem dX7_pagesBy_0 : decode cX7_pagesBy 0 = .ok (.iload_n 1, 1) := by decide +kernel
theorem dX7_pagesBy_1 : decode cX7_pagesBy 1 = .ok (.ifCond .ne 10, 3) := by decide +kernel
theorem dX7_pagesBy_4 : decode cX7_pagesBy 4 = .ok (.aload_n 0, 1) := by decide +kernel
theorem dX7_pagesBy_5 : decode cX7_pagesBy 5 = .ok (.getfield 27, 3) := by decide +kernel
theorem dX7_pagesBy_8 : decode cX7_pagesBy 8 = .ok (.goto 7, 3) := by decide +kernel
theorem dX7_pagesBy_11 : decode cX7_pagesBy 11 = .ok (.aload_n 0, 1) := by decide +kernel
theorem dX7_pagesBy_12 : decode cX7_pagesBy 12 = .ok (.getfield 30, 3) := by decide +kernel
theorem dX7_pagesBy_15 : decode cX7_pagesBy 15 = .ok (.ireturn, 1) := by decide +kernel
set_option maxHeartbeats 4000000 in
set_option maxRecDepth 100000 in
theorem s_X7_pagesBy {P : PP} {a0 : Nat} {a1 : Int32} (I : IV P) (ha0 : At P a0 7) : CtrI yX7_pagesBy cX7_pagesBy 2 (some Jvm.ClassFile.FieldType.int) ({ frames := 1, cells := 0, slots := 0, locals := 64 } : Room) 0 0 P [.ref a0, .int a1] (fun r P2 => P = P2 ∧ (True)) := by
  refine enI (lv := [(0, .ref a0), (1, .int a1)]) (by decide) (Nat.le_of_ble_eq_true rfl) rfl (fun E D cy C Ci0 ret => ?_)
  refine g_iload_n C dX7_pagesBy_0 rfl 1 rfl ?_
  have u1684 := ti_rng a1
  refine b_if_ne C 11 dX7_pagesBy_1 (by decide) (fun h1683 => ?_) (fun h1683 => ?_)
  · have h1683 : a1.toInt ≠ 0 := ti_ne h1683
    refine g_aload_n C dX7_pagesBy_11 rfl 0 rfl ?_
    refine g_getI C fi_X7_30 (by decide) (ha0).1 (ha0).2 dX7_pagesBy_12 ?_
    exact ret _ _ _ _ _ _ dX7_pagesBy_15 rfl (by decide) (by decide) ⟨rfl, trivial⟩
  · have h1683 : a1.toInt = 0 := congrArg Int32.toInt h1683
    refine g_aload_n C dX7_pagesBy_4 rfl 0 rfl ?_
    refine g_getI C fi_X7_27 (by decide) (ha0).1 (ha0).2 dX7_pagesBy_5 ?_
    refine g_goto C 15 dX7_pagesBy_8 (by decide) ?_
    exact ret _ _ _ _ _ _ dX7_pagesBy_15 rfl (by decide) (by decide) ⟨rfl, trivial⟩
theorem dX7_equation_5 : decode cX7_equation 5 = .ok (.aload_n 0, 1) := by decide +kernel
theorem dX7_equation_6 : decode cX7_equation 6 = .ok (.getfield 18, 3) := by decide +kernel
theorem dX7_equation_9 : decode cX7_equation 9 = .ok (.bipush 8, 2) := by decide +kernel
theorem dX7_equation_11 : decode cX7_equation 11 = .ok (.iload_n 2, 1) := by decide +kernel
theorem dX7_equation_12 : decode cX7_equation 12 = .ok (.imul, 1) := by decide +kernel
theorem dX7_equation_13 : decode cX7_equation 13 = .ok (.ishr, 1) := by decide +kernel
theorem dX7_equation_14 : decode cX7_equation 14 = .ok (.sipush 255, 3) := by decide +kernel
theorem dX7_equation_17 : decode cX7_equation 17 = .ok (.iand, 1) := by decide +kernel
theorem dX7_equation_18 : decode cX7_equation 18 = .ok (.bipush 20, 2) := by decide +kernel
theorem dX7_equation_20 : decode cX7_equation 20 = .ok (.ishl, 1) := by decide +kernel
theorem dX7_equation_21 : decode cX7_equation 21 = .ok (.ior, 1) := by decide +kernel
theorem dX7_equation_22 : decode cX7_equation 22 = .ok (.ireturn, 1) := by decide +kernel
set_option maxHeartbeats 4000000 in
set_option maxRecDepth 100000 in
theorem s_X7_equation {P : PP} {a0 : Nat} {a1 : Int32} {a2 : Int32} (I : IV P) (ha0 : At P a0 7) : CtrI yX7_equation cX7_equation 3 (some Jvm.ClassFile.FieldType.int) ({ frames := 2, cells := 0, slots := 0, locals := 128 } : Room) 0 0 P [.ref a0, .int a1, .int a2] (fun r P2 => P = P2 ∧ (True)) := by
  refine enI (lv := [(0, .ref a0), (1, .int a1), (2, .int a2)]) (by decide) (Nat.le_of_ble_eq_true rfl) rfl (fun E D cy C Ci0 ret => ?_)
  refine g_aload_n C dX7_equation_0 rfl 0 rfl ?_
  refine g_iload_n C dX7_equation_1 rfl 1 rfl ?_
  refine g_callVI (rest := []) C mv_X7_33 [.int a1] (s_X7_pagesBy I ha0) (ha0).1 (ha0).2 rfl rfl (by decide) (Nat.le_of_ble_eq_true rfl) (by decide) dX7_equation_2 (fun r1698 Y1699 h1700 => ?_)
  obtain ⟨rfl, h1700⟩ := h1700
  have h1700 : True := h1700
  refine g_aload_n C dX7_equation_5 rfl 0 rfl ?_
  refine g_getI C fi_X7_18 (by decide) (ha0).1 (ha0).2 dX7_equation_6 ?_
  refine g_bipush (v := 8) C dX7_equation_9 (by decide) ?_
  refine g_iload_n C dX7_equation_11 rfl 2 rfl ?_
  refine a_imul C dX7_equation_12 (fun z1701 => ?_)
  refine a_ishr C dX7_equation_13 (fun z1703 => ?_)
  refine g_sipush (v := 255) C dX7_equation_14 (by decide) ?_
  refine s_iand C dX7_equation_17 (by show 0 ≤ 255; omega) (fun z1705 h1706 => ?_)
  have h1706 : 0 ≤ z1705.toInt ∧ z1705.toInt ≤ 255 := h1706
  refine g_bipush (v := 20) C dX7_equation_18 (by decide) ?_
  refine a_ishl C dX7_equation_20 (fun z1707 => ?_)
  refine a_ior C dX7_equation_21 (fun z1709 => ?_)
  exact ret _ _ _ _ _ _ dX7_equation_22 rfl (by decide) (by decide) ⟨rfl, trivial⟩
theorem dX10_findAll_0 : decode cX10_findAll 0 = .ok (.aload_n 0, 1) := by decide +kernel
theorem dX10_findAll_1 : decode cX10_findAll 1 = .ok (.iconst 0, 1) := by decide +kernel
theorem dX10_findAll_2 : decode cX10_findAll 2 = .ok (.putfield 28, 3) := by decide +kernel
theorem dX10_findAll_5 : decode cX10_findAll 5 = .ok (.aload_n 0, 1) := by decide +kernel
theorem dX10_findAll_6 : decode cX10_findAll 6 = .ok (.iconst 0, 1) := by decide +kernel
theorem dX10_findAll_7 : decode cX10_findAll 7 = .ok (.putfield 32, 3) := by decide +kernel
theorem dX10_findAll_10 : decode cX10_findAll 10 = .ok (.aload_n 0, 1) := by decide +kernel
theorem dX10_findAll_11 : decode cX10_findAll 11 = .ok (.iconst 0, 1) := by decide +kernel
theorem dX10_findAll_12 : decode cX10_findAll 12 = .ok (.putfield 35, 3) := by decide +kernel
theorem dX10_findAll_15 : decode cX10_findAll 15 = .ok (.iconst 0, 1) := by decide +kernel
theorem dX10_findAll_16 : decode cX10_findAll 16 = .ok (.istore_n 2, 1) := by decide +kernel
theorem dX10_findAll_17 : decode cX10_findAll 17 = .ok (.iload_n 2, 1) := by decide +kernel
theorem dX10_findAll_18 : decode cX10_findAll 18 = .ok (.aload_n 1, 1) := by decide +kernel
theorem dX10_findAll_19 : decode cX10_findAll 19 = .ok (.getfield 38, 3) := by decide +kernel
theorem dX10_findAll_22 : decode cX10_findAll 22 = .ok (.if_icmp .ge 66, 3) := by decide +kernel
theorem dX10_findAll_88 : decode cX10_findAll 88 = .ok (.aload_n 0, 1) := by decide +kernel
theorem dX10_findAll_89 : decode cX10_findAll 89 = .ok (.invokevirtual 48, 3) := by decide +kernel
theorem dX10_findAll_92 : decode cX10_findAll 92 = .ok (.ifCond .eq 9, 3) := by decide +kernel
theorem dX10_findAll_95 : decode cX10_findAll 95 = .ok (.aload_n 0, 1) := by decide +kernel
theorem dX10_findAll_96 : decode cX10_findAll 96 = .ok (.iconst 0, 1) := by decide +kernel
theorem dX10_findAll_97 : decode cX10_findAll 97 = .ok (.iconst 0, 1) := by decide +kernel
theorem dX10_findAll_98 : decode cX10_findAll 98 = .ok (.invokevirtual 52, 3) := by decide +kernel
theorem dX10_findAll_101 : decode cX10_findAll 101 = .ok (.return_, 1) := by decide +kernel
theorem dX10_give_0 : decode cX10_give 0 = .ok (.iload_n 1, 1) := by decide +kernel
theorem dX10_give_1 : decode cX10_give 1 = .ok (.aload_n 0, 1) := by decide +kernel
theorem dX10_give_2 : decode cX10_give 2 = .ok (.getfield 35, 3) := by decide +kernel
theorem dX10_give_5 : decode cX10_give 5 = .ok (.if_icmp .ge 9, 3) := by decide +kernel
theorem dX10_give_14 : decode cX10_give 14 = .ok (.aload_n 0, 1) := by decide +kernel
theorem dX10_give_15 : decode cX10_give 15 = .ok (.dup, 1) := by decide +kernel
theorem dX10_give_16 : decode cX10_give 16 = .ok (.getfield 32, 3) := by decide +kernel
theorem dX10_give_19 : decode cX10_give 19 = .ok (.iload_n 2, 1) := by decide +kernel
theorem dX10_give_20 : decode cX10_give 20 = .ok (.ior, 1) := by decide +kernel
theorem dX10_give_21 : decode cX10_give 21 = .ok (.putfield 32, 3) := by decide +kernel
theorem dX10_give_24 : decode cX10_give 24 = .ok (.aload_n 0, 1) := by decide +kernel
theorem dX10_give_25 : decode cX10_give 25 = .ok (.dup, 1) := by decide +kernel
theorem dX10_give_26 : decode cX10_give 26 = .ok (.getfield 28, 3) := by decide +kernel
theorem dX10_give_29 : decode cX10_give 29 = .ok (.iload_n 2, 1) := by decide +kernel
theorem dX10_give_30 : decode cX10_give 30 = .ok (.iconst (-1), 1) := by decide +kernel
theorem dX10_give_31 : decode cX10_give 31 = .ok (.ixor, 1) := by decide +kernel
theorem dX10_give_32 : decode cX10_give 32 = .ok (.ior, 1) := by decide +kernel
theorem dX10_give_33 : decode cX10_give 33 = .ok (.putfield 28, 3) := by decide +kernel
theorem dX10_give_36 : decode cX10_give 36 = .ok (.return_, 1) := by decide +kernel
set_option maxHeartbeats 4000000 in
set_option maxRecDepth 100000 in
theorem s_X10_give_L0 {P : PP} {a0 : Nat} {a1 : Int32} {a2 : Int32} (I : IV P) (ha0 : At P a0 10) (ha1 : 6 ≤ a1.toInt ∧ a1.toInt ≤ 6) : CtrV yX10_give cX10_give 5 none ({ frames := 1, cells := 0, slots := 0, locals := 64 } : Room) 0 0 P [.ref a0, .int a1, .int a2] (fun P2 => IV P2 ∧ EK [10] P P2) := by
  refine enV (lv := [(0, .ref a0), (1, .int a1), (2, .int a2)]) (by decide) (Nat.le_of_ble_eq_true rfl) rfl (fun E D cy C Ci0 ret => ?_)
  have J14 : G E ({ frames := 1, cells := 0, slots := 0, locals := 64 } : Room) D cy 5 P 0 0 14 [(0, .ref a0), (2, .int a2)] [] := by
    refine g_aload_n C dX10_give_14 rfl 0 rfl ?_
    refine g_dup C dX10_give_15 rfl ?_
    refine g_getI C fi_X10_32 (by decide) (ha0).1 (ha0).2 dX10_give_16 ?_
    refine g_iload_n C dX10_give_19 rfl 1 rfl ?_
    refine a_ior C dX10_give_20 (fun z1642 => ?_)
    refine g_putI C fi_X10_32 rfl (ha0).1 (ha0).2 dX10_give_21 ?_
    refine gpW (ks := [10]) (I.setI (ha0) (rgOk.none rfl)) (EK.setI (ha0).2 (by decide)) (fun Y1644 Iy1645 Xy1646 w1647 w1648 => ?_)
    have Xz1649 : EK [10] P Y1644 := Xy1646.mono (by decide)
    have h1650 := Xy1646.at ha0
    refine g_aload_n C dX10_give_24 rfl 0 rfl ?_
    refine g_dup C dX10_give_25 rfl ?_
    refine g_getI C fi_X10_28 (by decide) (h1650).1 (h1650).2 dX10_give_26 ?_
    refine g_iload_n C dX10_give_29 rfl 1 rfl ?_
    refine g_iconst (v := (-1)) C dX10_give_30 (by decide) ?_
    refine a_ixor C dX10_give_31 (fun z1651 => ?_)
    refine a_ior C dX10_give_32 (fun z1653 => ?_)
    refine g_putI C fi_X10_28 rfl (h1650).1 (h1650).2 dX10_give_33 ?_
    refine gpW (ks := [10]) (Iy1645.setI (h1650) (rgOk.none rfl)) (EK.setI (h1650).2 (by decide)) (fun Y1655 Iy1656 Xy1657 w1658 w1659 => ?_)
    have q1660 := w1658 5 (by decide)
    have Xz1661 : EK [10] P Y1655 := Xz1649.tr (Xy1657.mono (by decide))
    have h1662 := Xy1657.at h1650
    exact ret _ _ _ _ _ dX10_give_36 (by decide) (by decide) ⟨Iy1656, Xz1661⟩
  refine g_iload_n C dX10_give_0 rfl 1 rfl ?_
  refine g_aload_n C dX10_give_1 rfl 0 rfl ?_
  refine g_getI C fi_X10_35 (by decide) (ha0).1 (ha0).2 dX10_give_2 ?_
  have h1663 := I.rg (ha0) 3 rfl
  refine b_icmp_ge C 14 dX10_give_5 (by decide) (fun h1664 => ?_) (fun h1664 => ?_)
  · have h1664 : (pI P a0 3).toInt ≤ a1.toInt := h1664
    refine g_lv (lv' := [(0, .ref a0), (2, .int a2)]) [0, 2] rfl ?_
    exact J14 
  · have h1664 : a1.toInt < (pI P a0 3).toInt := h1664
    omega
theorem dX10_tryBook_41 : decode cX10_tryBook 41 = .ok (.invokevirtual 75, 3) := by decide +kernel
theorem dX10_tryBook_44 : decode cX10_tryBook 44 = .ok (.aload 6, 2) := by decide +kernel
theorem dX10_tryBook_46 : decode cX10_tryBook 46 = .ok (.aload_n 3, 1) := by decide +kernel
theorem dX10_tryBook_47 : decode cX10_tryBook 47 = .ok (.iload 4, 2) := by decide +kernel
theorem dX10_tryBook_49 : decode cX10_tryBook 49 = .ok (.iconst 1, 1) := by decide +kernel
theorem dX10_tryBook_50 : decode cX10_tryBook 50 = .ok (.invokevirtual 71, 3) := by decide +kernel
theorem dX10_tryBook_53 : decode cX10_tryBook 53 = .ok (.invokevirtual 75, 3) := by decide +kernel
theorem dX10_tryBook_56 : decode cX10_tryBook 56 = .ok (.aload 5, 2) := by decide +kernel
theorem dX10_tryBook_58 : decode cX10_tryBook 58 = .ok (.getfield 56, 3) := by decide +kernel
theorem dX10_tryBook_61 : decode cX10_tryBook 61 = .ok (.ifCond .eq 24, 3) := by decide +kernel
theorem dX10_tryBook_64 : decode cX10_tryBook 64 = .ok (.aload 6, 2) := by decide +kernel
theorem dX10_tryBook_66 : decode cX10_tryBook 66 = .ok (.getfield 56, 3) := by decide +kernel
theorem dX10_tryBook_69 : decode cX10_tryBook 69 = .ok (.ifCond .eq 16, 3) := by decide +kernel
theorem dX10_tryBook_72 : decode cX10_tryBook 72 = .ok (.aload_n 0, 1) := by decide +kernel
theorem dX10_tryBook_73 : decode cX10_tryBook 73 = .ok (.iload_n 1, 1) := by decide +kernel
theorem dX10_tryBook_74 : decode cX10_tryBook 74 = .ok (.iconst 1, 1) := by decide +kernel
theorem dX10_tryBook_75 : decode cX10_tryBook 75 = .ok (.iadd, 1) := by decide +kernel
theorem dX10_tryBook_76 : decode cX10_tryBook 76 = .ok (.iload_n 2, 1) := by decide +kernel
theorem dX10_tryBook_77 : decode cX10_tryBook 77 = .ok (.iload 4, 2) := by decide +kernel
theorem dX10_tryBook_79 : decode cX10_tryBook 79 = .ok (.iload_n 1, 1) := by decide +kernel
theorem dX10_tryBook_80 : decode cX10_tryBook 80 = .ok (.ishl, 1) := by decide +kernel
theorem dX10_tryBook_81 : decode cX10_tryBook 81 = .ok (.ior, 1) := by decide +kernel
theorem dX10_tryBook_82 : decode cX10_tryBook 82 = .ok (.invokevirtual 52, 3) := by decide +kernel
theorem dX10_tryBook_85 : decode cX10_tryBook 85 = .ok (.aload 5, 2) := by decide +kernel
theorem dX10_tryBook_87 : decode cX10_tryBook 87 = .ok (.iload 7, 2) := by decide +kernel
theorem dX10_tryBook_89 : decode cX10_tryBook 89 = .ok (.invokevirtual 79, 3) := by decide +kernel
theorem dX10_tryBook_92 : decode cX10_tryBook 92 = .ok (.aload 6, 2) := by decide +kernel
theorem dX10_tryBook_94 : decode cX10_tryBook 94 = .ok (.iload 8, 2) := by decide +kernel
theorem dX10_tryBook_96 : decode cX10_tryBook 96 = .ok (.invokevirtual 79, 3) := by decide +kernel
theorem dX10_tryBook_99 : decode cX10_tryBook 99 = .ok (.return_, 1) := by decide +kernel
set_option maxHeartbeats 4000000 in
set_option maxRecDepth 100000 in
theorem s_X10_tryBook_L1 {P : PP} {a0 : Nat} {a1 : Int32} {a2 : Int32} {a3 : Nat} {a4 : Int32} (I : IV P) (ha0 : At P a0 10) (ha1 : 5 ≤ a1.toInt ∧ a1.toInt ≤ 5) (ha3 : At P a3 7) (ha4 : 0 ≤ a4.toInt ∧ a4.toInt ≤ 1) : CtrV yX10_tryBook cX10_tryBook 9 none ({ frames := 3, cells := 0, slots := 0, locals := 192 } : Room) 0 0 P [.ref a0, .int a1, .int a2, .ref a3, .int a4] (fun P2 => IV P2 ∧ EK [0, 10, 13] P P2) := by
  refine enV (lv := [(0, .ref a0), (1, .int a1), (2, .int a2), (3, .ref a3), (4, .int a4)]) (by decide) (Nat.le_of_ble_eq_true rfl) rfl (fun E D cy C Ci0 ret => ?_)
  have J85 : ∀ (P85 : PP) (b85_5 : Nat) (b85_6 : Nat) (v85_7 : Int32) (v85_8 : Int32), (IV P85) → (EK [0, 10, 13] P P85) → (At P85 b85_5 0) → (At P85 b85_6 0) → (0 ≤ v85_7.toInt ∧ v85_7.toInt ≤ 20) → (0 ≤ v85_8.toInt ∧ v85_8.toInt ≤ 20) → (0 ≤ (pI P85 b85_5 3).toInt ∧ (pI P85 b85_5 3).toInt ≤ 1) → G E ({ frames := 3, cells := 0, slots := 0, locals := 192 } : Room) D cy 9 P85 0 0 85 [(5, .ref b85_5), (6, .ref b85_6), (7, .int v85_7), (8, .int v85_8)] [] := by
    intro P85 b85_5 b85_6 v85_7 v85_8 I85 X85 hb85_5 hb85_6 hv85_7 hv85_8 hq85_0
    have h1797 := X85.at ha0
    have h1798 := X85.at ha3
    refine g_aload C dX10_tryBook_85 0 rfl ?_
    refine g_iload C dX10_tryBook_87 2 rfl ?_
    refine g_callVV (rest := []) C mv_X10_79 [.int v85_7] (s_X0_cut I85 hb85_5) (hb85_5).1 (hb85_5).2 rfl rfl (by decide) (Nat.le_of_ble_eq_true rfl) (by decide) dX10_tryBook_89 (fun Y1800 h1801 => ?_)
    obtain ⟨Iy1802, Xy1803⟩ := h1801
    have Xz1804 : EK [0, 10, 13] P Y1800 := X85.tr (Xy1803.mono (by decide))
    have h1805 := Xy1803.at h1797
    have h1806 := Xy1803.at h1798
    have h1807 := Xy1803.at hb85_5
    have h1808 := Xy1803.at hb85_6
    refine g_aload C dX10_tryBook_92 1 rfl ?_
    refine g_iload C dX10_tryBook_94 3 rfl ?_
    refine g_callVV (rest := []) C mv_X10_79 [.int v85_8] (s_X0_cut Iy1802 h1808) (h1808).1 (h1808).2 rfl rfl (by decide) (Nat.le_of_ble_eq_true rfl) (by decide) dX10_tryBook_96 (fun Y1810 h1811 => ?_)
    obtain ⟨Iy1812, Xy1813⟩ := h1811
    have Xz1814 : EK [0, 10, 13] P Y1810 := Xz1804.tr (Xy1813.mono (by decide))
    have h1815 := Xy1813.at h1805
    have h1816 := Xy1813.at h1806
    have h1817 := Xy1813.at h1807
    have h1818 := Xy1813.at h1808
    exact ret _ _ _ _ _ dX10_tryBook_99 (by decide) (by decide) ⟨Iy1812, Xz1814⟩
  refine g_aload_n C dX10_tryBook_0 rfl 0 rfl ?_
  refine g_iload C dX10_tryBook_1 4 rfl ?_
  refine g_iconst (v := 0) C dX10_tryBook_3 (by decide) ?_
  refine g_callVQ (rest := []) C mv_X10_64 [.int a4, .int 0] (s_X10_basisOf I ha0 (by omega) (by decide)) (ha0).1 (ha0).2 rfl rfl (by decide) (Nat.le_of_ble_eq_true rfl) (by decide) dX10_tryBook_4 (fun r1819 Y1820 h1821 => ?_)
  obtain ⟨rfl, h1821⟩ := h1821
  obtain ⟨b1823, rfl, h1821⟩ := h1821
  show G _ _ _ _ _ _ _ _ _ _ (.ref b1823 :: _)
  refine g_astore (lv' := [(5, .ref b1823), (0, .ref a0), (1, .int a1), (2, .int a2), (3, .ref a3), (4, .int a4)]) C dX10_tryBook_7 (by decide) rfl ?_
  refine g_aload_n C dX10_tryBook_9 rfl 1 rfl ?_
  refine g_iload C dX10_tryBook_10 5 rfl ?_
  refine g_iconst (v := 1) C dX10_tryBook_12 (by decide) ?_
  refine g_callVQ (rest := []) C mv_X10_64 [.int a4, .int 1] (s_X10_basisOf I ha0 (by omega) (by decide)) (ha0).1 (ha0).2 rfl rfl (by decide) (Nat.le_of_ble_eq_true rfl) (by decide) dX10_tryBook_13 (fun r1824 Y1825 h1826 => ?_)
  obtain ⟨rfl, h1826⟩ := h1826
  obtain ⟨b1828, rfl, h1826⟩ := h1826
  show G _ _ _ _ _ _ _ _ _ _ (.ref b1828 :: _)
  refine g_astore (lv' := [(6, .ref b1828), (5, .ref b1823), (0, .ref a0), (1, .int a1), (2, .int a2), (3, .ref a3), (4, .int a4)]) C dX10_tryBook_16 (by decide) rfl ?_
  refine g_aload C dX10_tryBook_18 1 rfl ?_
  refine g_getI C fi_X10_68 (by decide) (h1821).1 (h1821).2 dX10_tryBook_20 ?_
  have h1829 := I.rg (h1821) 2 rfl
  refine g_topi (fun z1830 h1831 => ?_)
  have h1831 : z1830.toInt = (pI P b1823 2).toInt := congrArg Int32.toInt h1831
  refine g_istore (lv' := [(7, .int z1830), (6, .ref b1828), (5, .ref b1823), (0, .ref a0), (1, .int a1), (2, .int a2), (3, .ref a3), (4, .int a4)]) C dX10_tryBook_23 (by decide) rfl ?_
  refine g_aload C dX10_tryBook_25 1 rfl ?_
  refine g_getI C fi_X10_68 (by decide) (h1826).1 (h1826).2 dX10_tryBook_27 ?_
  have h1832 := I.rg (h1826) 2 rfl
  refine g_topi (fun z1833 h1834 => ?_)
  have h1834 : z1833.toInt = (pI P b1828 2).toInt := congrArg Int32.toInt h1834
  refine g_istore (lv' := [(8, .int z1833), (7, .int z1830), (6, .ref b1828), (5, .ref b1823), (0, .ref a0), (1, .int a1), (2, .int a2), (3, .ref a3), (4, .int a4)]) C dX10_tryBook_30 (by decide) rfl ?_
  refine g_aload C dX10_tryBook_32 3 rfl ?_
  refine g_aload_n C dX10_tryBook_34 rfl 7 rfl ?_
  refine g_iload C dX10_tryBook_35 8 rfl ?_
  refine g_iconst (v := 0) C dX10_tryBook_37 (by decide) ?_
  refine g_callVI (rest := [.ref b1823]) C mv_X10_71 [.int a4, .int 0] (s_X7_equation I ha3) (ha3).1 (ha3).2 rfl rfl (by decide) (Nat.le_of_ble_eq_true rfl) (by decide) dX10_tryBook_38 (fun r1835 Y1836 h1837 => ?_)
  obtain ⟨rfl, h1837⟩ := h1837
  have h1837 : True := h1837
  refine g_callVV (rest := []) C mv_X10_75 [.int r1835] (s_X0_add I h1821) (h1821).1 (h1821).2 rfl rfl (by decide) (Nat.le_of_ble_eq_true rfl) (by decide) dX10_tryBook_41 (fun Y1839 h1840 => ?_)
  obtain ⟨Iy1841, Xy1842⟩ := h1840
  have Xz1843 : EK [0, 10, 13] P Y1839 := Xy1842.mono (by decide)
  have h1844 := Xy1842.at ha0
  have h1845 := Xy1842.at ha3
  have h1846 := Xy1842.at h1821
  have h1847 := Xy1842.at h1826
  refine g_aload C dX10_tryBook_44 2 rfl ?_
  refine g_aload_n C dX10_tryBook_46 rfl 7 rfl ?_
  refine g_iload C dX10_tryBook_47 8 rfl ?_
  refine g_iconst (v := 1) C dX10_tryBook_49 (by decide) ?_
  refine g_callVI (rest := [.ref b1828]) C mv_X10_71 [.int a4, .int 1] (s_X7_equation Iy1841 h1845) (h1845).1 (h1845).2 rfl rfl (by decide) (Nat.le_of_ble_eq_true rfl) (by decide) dX10_tryBook_50 (fun r1848 Y1849 h1850 => ?_)
  obtain ⟨rfl, h1850⟩ := h1850
  have h1850 : True := h1850
  refine g_callVV (rest := []) C mv_X10_75 [.int r1848] (s_X0_add Iy1841 h1847) (h1847).1 (h1847).2 rfl rfl (by decide) (Nat.le_of_ble_eq_true rfl) (by decide) dX10_tryBook_53 (fun Y1852 h1853 => ?_)
  obtain ⟨Iy1854, Xy1855⟩ := h1853
  have Xz1856 : EK [0, 10, 13] P Y1852 := Xz1843.tr (Xy1855.mono (by decide))
  have h1857 := Xy1855.at h1844
  have h1858 := Xy1855.at h1845
  have h1859 := Xy1855.at h1846
  have h1860 := Xy1855.at h1847
  refine g_aload C dX10_tryBook_56 3 rfl ?_
  refine g_getI C fi_X10_56 (by decide) (h1859).1 (h1859).2 dX10_tryBook_58 ?_
  have h1861 := Iy1854.rg (h1859) 3 rfl
  refine b_if_eq C 85 dX10_tryBook_61 (by decide) (fun h1862 => ?_) (fun h1862 => ?_)
  · have h1862 : (pI Y1852 b1823 3).toInt = 0 := congrArg Int32.toInt h1862
    refine g_lv (lv' := [(5, .ref b1823), (6, .ref b1828), (7, .int z1830), (8, .int z1833)]) [3, 2, 1, 0] rfl ?_
    exact J85 Y1852 b1823 b1828 z1830 z1833 Iy1854 Xz1856 h1859 h1860 (by omega) (by omega) (by omega)
  · have h1862 : (pI Y1852 b1823 3).toInt ≠ 0 := ti_ne h1862
    refine g_aload C dX10_tryBook_64 2 rfl ?_
    refine g_getI C fi_X10_56 (by decide) (h1860).1 (h1860).2 dX10_tryBook_66 ?_
    have h1863 := Iy1854.rg (h1860) 3 rfl
    refine b_if_eq C 85 dX10_tryBook_69 (by decide) (fun h1864 => ?_) (fun h1864 => ?_)
    · have h1864 : (pI Y1852 b1828 3).toInt = 0 := congrArg Int32.toInt h1864
      refine g_lv (lv' := [(5, .ref b1823), (6, .ref b1828), (7, .int z1830), (8, .int z1833)]) [3, 2, 1, 0] rfl ?_
      exact J85 Y1852 b1823 b1828 z1830 z1833 Iy1854 Xz1856 h1859 h1860 (by omega) (by omega) (by omega)
    · have h1864 : (pI Y1852 b1828 3).toInt ≠ 0 := ti_ne h1864
      refine g_aload_n C dX10_tryBook_72 rfl 4 rfl ?_
      refine g_iload_n C dX10_tryBook_73 rfl 5 rfl ?_
      refine g_iconst (v := 1) C dX10_tryBook_74 (by decide) ?_
      refine s_iadd C dX10_tryBook_75 (by show -2147483648 ≤ a1.toInt + 1 ∧ a1.toInt + 1 ≤ 2147483647; omega) (fun z1865 h1866 => ?_)
      have h1866 : z1865.toInt = a1.toInt + 1 := h1866
      refine g_iload_n C dX10_tryBook_76 rfl 6 rfl ?_
      refine g_iload C dX10_tryBook_77 8 rfl ?_
      refine g_iload_n C dX10_tryBook_79 rfl 5 rfl ?_
      refine a_ishl C dX10_tryBook_80 (fun z1867 => ?_)
      refine a_ior C dX10_tryBook_81 (fun z1869 => ?_)
      refine g_callVV (rest := []) C mv_X10_52 [.int z1865, .int z1869] (s_X10_give_L0 Iy1854 h1857 (by omega)) (h1857).1 (h1857).2 rfl rfl (by decide) (Nat.le_of_ble_eq_true rfl) (by decide) dX10_tryBook_82 (fun Y1872 h1873 => ?_)
      obtain ⟨Iy1874, Xy1875⟩ := h1873
      have q1876 := Xy1875.keep h1859 (by decide) 3
      have q1877 := Xy1875.keep h1860 (by decide) 3
      have Xz1878 : EK [0, 10, 13] P Y1872 := Xz1856.tr (Xy1875.mono (by decide))
      have h1879 := Xy1875.at h1857
      have h1880 := Xy1875.at h1858
      have h1881 := Xy1875.at h1859
      have h1882 := Xy1875.at h1860
      refine g_lv (lv' := [(5, .ref b1823), (6, .ref b1828), (7, .int z1830), (8, .int z1833)]) [3, 2, 1, 0] rfl ?_
      exact J85 Y1872 b1823 b1828 z1830 z1833 Iy1874 Xz1878 h1881 h1882 (by omega) (by omega) (by omega)
theorem dX10_give_8 : decode cX10_give 8 = .ok (.iload_n 1, 1) := by decide +kernel
theorem dX10_give_9 : decode cX10_give 9 = .ok (.bipush 6, 2) := by decide +kernel
theorem dX10_give_11 : decode cX10_give 11 = .ok (.if_icmp .lt 26, 3) := by decide +kernel
theorem dX10_give_37 : decode cX10_give 37 = .ok (.aload_n 0, 1) := by decide +kernel
theorem dX10_give_38 : decode cX10_give 38 = .ok (.getfield 11, 3) := by decide +kernel
theorem dX10_give_41 : decode cX10_give 41 = .ok (.iload_n 1, 1) := by decide +kernel
theorem dX10_give_42 : decode cX10_give 42 = .ok (.aaload, 1) := by decide +kernel
theorem dX10_give_43 : decode cX10_give 43 = .ok (.astore_n 3, 1) := by decide +kernel
theorem dX10_give_44 : decode cX10_give 44 = .ok (.aload_n 3, 1) := by decide +kernel
theorem dX10_give_45 : decode cX10_give 45 = .ok (.ifnull 27, 3) := by decide +kernel
theorem dX10_give_48 : decode cX10_give 48 = .ok (.iconst 0, 1) := by decide +kernel
theorem dX10_give_49 : decode cX10_give 49 = .ok (.istore 4, 2) := by decide +kernel
theorem dX10_give_51 : decode cX10_give 51 = .ok (.iload 4, 2) := by decide +kernel
theorem dX10_give_53 : decode cX10_give 53 = .ok (.iconst 2, 1) := by decide +kernel
theorem dX10_give_54 : decode cX10_give 54 = .ok (.if_icmp .ge 18, 3) := by decide +kernel
theorem dX10_give_57 : decode cX10_give 57 = .ok (.aload_n 0, 1) := by decide +kernel
theorem dX10_give_58 : decode cX10_give 58 = .ok (.iload_n 1, 1) := by decide +kernel
theorem dX10_give_59 : decode cX10_give 59 = .ok (.iload_n 2, 1) := by decide +kernel
theorem dX10_give_60 : decode cX10_give 60 = .ok (.aload_n 3, 1) := by decide +kernel
theorem dX10_give_61 : decode cX10_give 61 = .ok (.iload 4, 2) := by decide +kernel
theorem dX10_give_63 : decode cX10_give 63 = .ok (.invokevirtual 60, 3) := by decide +kernel
theorem dX10_give_66 : decode cX10_give 66 = .ok (.iinc 4 1, 3) := by decide +kernel
theorem dX10_give_69 : decode cX10_give 69 = .ok (.goto (-18), 3) := by decide +kernel
theorem dX10_give_72 : decode cX10_give 72 = .ok (.return_, 1) := by decide +kernel
set_option maxHeartbeats 4000000 in
set_option maxRecDepth 100000 in
theorem s_X10_give_L1 {P : PP} {a0 : Nat} {a1 : Int32} {a2 : Int32} (I : IV P) (ha0 : At P a0 10) (ha1 : 5 ≤ a1.toInt ∧ a1.toInt ≤ 5) : CtrV yX10_give cX10_give 5 none ({ frames := 4, cells := 0, slots := 0, locals := 256 } : Room) 0 0 P [.ref a0, .int a1, .int a2] (fun P2 => IV P2 ∧ EK [0, 10, 13] P P2) := by
  refine enV (lv := [(0, .ref a0), (1, .int a1), (2, .int a2)]) (by decide) (Nat.le_of_ble_eq_true rfl) rfl (fun E D cy C Ci0 ret => ?_)
  have J51 : ∀ (n51 : Nat) (P51 : PP) (b51_3 : Nat) (v51_4 : Int32), (2 - v51_4.toInt).toNat < n51 → (IV P51) → (EK [0, 10, 13] P P51) → (At P51 b51_3 7) → (0 ≤ v51_4.toInt ∧ v51_4.toInt ≤ 2) → G E ({ frames := 4, cells := 0, slots := 0, locals := 256 } : Room) D cy 5 P51 0 0 51 [(0, .ref a0), (1, .int a1), (2, .int a2), (3, .ref b51_3), (4, .int v51_4)] [] := by
    intro n51
    induction n51 with
    | zero => intro P51 b51_3 v51_4 hm51 I51 X51 hb51_3 hv51_4; omega
    | succ n51 ih51 =>
      intro P51 b51_3 v51_4 hm51 I51 X51 hb51_3 hv51_4
      have h1950 := X51.at ha0
      refine g_iload C dX10_give_51 4 rfl ?_
      refine g_iconst (v := 2) C dX10_give_53 (by decide) ?_
      refine b_icmp_ge C 72 dX10_give_54 (by decide) (fun h1951 => ?_) (fun h1951 => ?_)
      · have h1951 : 2 ≤ v51_4.toInt := h1951
        exact ret _ _ _ _ _ dX10_give_72 (by decide) (by decide) ⟨I51, X51⟩
      · have h1951 : v51_4.toInt < 2 := h1951
        refine g_aload_n C dX10_give_57 rfl 0 rfl ?_
        refine g_iload_n C dX10_give_58 rfl 1 rfl ?_
        refine g_iload_n C dX10_give_59 rfl 2 rfl ?_
        refine g_aload_n C dX10_give_60 rfl 3 rfl ?_
        refine g_iload C dX10_give_61 4 rfl ?_
        refine g_callVV (rest := []) C mv_X10_60 [.int a1, .int a2, .ref b51_3, .int v51_4] (s_X10_tryBook_L1 I51 h1950 (by omega) hb51_3 (by omega)) (h1950).1 (h1950).2 rfl rfl (by decide) (Nat.le_of_ble_eq_true rfl) (by decide) dX10_give_63 (fun Y1953 h1954 => ?_)
        obtain ⟨Iy1955, Xy1956⟩ := h1954
        have Xz1957 : EK [0, 10, 13] P Y1953 := X51.tr (Xy1956.mono (by decide))
        have h1958 := Xy1956.at h1950
        have h1959 := Xy1956.at hb51_3
        refine s_iinc (lv0 := [(0, .ref a0), (1, .int a1), (2, .int a2), (3, .ref b51_3)]) (m := 1) C dX10_give_66 4 rfl (by decide) rfl (by decide) (by omega) (fun z1960 h1961 => ?_)
        have h1961 : z1960.toInt = v51_4.toInt + 1 := h1961
        refine g_goto C 51 dX10_give_69 (by decide) ?_
        refine g_lv (lv' := [(0, .ref a0), (1, .int a1), (2, .int a2), (3, .ref b51_3), (4, .int z1960)]) [1, 2, 3, 4, 0] rfl ?_
        exact ih51 Y1953 b51_3 z1960 (by omega) Iy1955 Xz1957 h1959 (by omega)
  have J14 : (0 ≤ (pI P a0 3).toInt ∧ (pI P a0 3).toInt ≤ 5) → G E ({ frames := 4, cells := 0, slots := 0, locals := 256 } : Room) D cy 5 P 0 0 14 [(0, .ref a0), (2, .int a2)] [] := by
    intro hq14_0
    refine g_aload_n C dX10_give_14 rfl 0 rfl ?_
    refine g_dup C dX10_give_15 rfl ?_
    refine g_getI C fi_X10_32 (by decide) (ha0).1 (ha0).2 dX10_give_16 ?_
    refine g_iload_n C dX10_give_19 rfl 1 rfl ?_
    refine a_ior C dX10_give_20 (fun z1962 => ?_)
    refine g_putI C fi_X10_32 rfl (ha0).1 (ha0).2 dX10_give_21 ?_
    refine gpW (ks := [10]) (I.setI (ha0) (rgOk.none rfl)) (EK.setI (ha0).2 (by decide)) (fun Y1964 Iy1965 Xy1966 w1967 w1968 => ?_)
    have q1969 := w1967 3 (by decide)
    have Xz1970 : EK [0, 10, 13] P Y1964 := Xy1966.mono (by decide)
    have h1971 := Xy1966.at ha0
    refine g_aload_n C dX10_give_24 rfl 0 rfl ?_
    refine g_dup C dX10_give_25 rfl ?_
    refine g_getI C fi_X10_28 (by decide) (h1971).1 (h1971).2 dX10_give_26 ?_
    refine g_iload_n C dX10_give_29 rfl 1 rfl ?_
    refine g_iconst (v := (-1)) C dX10_give_30 (by decide) ?_
    refine a_ixor C dX10_give_31 (fun z1972 => ?_)
    refine a_ior C dX10_give_32 (fun z1974 => ?_)
    refine g_putI C fi_X10_28 rfl (h1971).1 (h1971).2 dX10_give_33 ?_
    refine gpW (ks := [10]) (Iy1965.setI (h1971) (rgOk.none rfl)) (EK.setI (h1971).2 (by decide)) (fun Y1976 Iy1977 Xy1978 w1979 w1980 => ?_)
    have q1981 := w1979 3 (by decide)
    have q1982 := w1979 5 (by decide)
    have Xz1983 : EK [0, 10, 13] P Y1976 := Xz1970.tr (Xy1978.mono (by decide))
    have h1984 := Xy1978.at h1971
    exact ret _ _ _ _ _ dX10_give_36 (by decide) (by decide) ⟨Iy1977, Xz1983⟩
  refine g_iload_n C dX10_give_0 rfl 1 rfl ?_
  refine g_aload_n C dX10_give_1 rfl 0 rfl ?_
  refine g_getI C fi_X10_35 (by decide) (ha0).1 (ha0).2 dX10_give_2 ?_
  have h1985 := I.rg (ha0) 3 rfl
  refine b_icmp_ge C 14 dX10_give_5 (by decide) (fun h1986 => ?_) (fun h1986 => ?_)
  · have h1986 : (pI P a0 3).toInt ≤ a1.toInt := h1986
    refine g_lv (lv' := [(0, .ref a0), (2, .int a2)]) [0, 2] rfl ?_
    exact J14 (by omega)
  · have h1986 : a1.toInt < (pI P a0 3).toInt := h1986
    refine g_iload_n C dX10_give_8 rfl 1 rfl ?_
    refine g_bipush (v := 6) C dX10_give_9 (by decide) ?_
    refine b_icmp_lt C 37 dX10_give_11 (by decide) (fun h1987 => ?_) (fun h1987 => ?_)
    · have h1987 : a1.toInt < 6 := h1987
      refine g_aload_n C dX10_give_37 rfl 0 rfl ?_
      obtain ⟨b1988, e1989, h1990⟩ := I.fld (ha0) 0 20 6 rfl
      refine g_getR C fi_X10_11 rfl e1989 (ha0).1 (ha0).2 dX10_give_38 ?_
      refine g_iload_n C dX10_give_41 rfl 1 rfl ?_
      refine g_aldQ (j := (a1.toInt.toNat)) C h1990.1 h1990.2.1 (by decide) (ix_in h1990.2.2 (by omega)) dX10_give_42 ?_
      rcases I.pap h1990 (a1.toInt.toNat) with e1992 | ⟨b1991, e1992, h1993⟩
      · rw [e1992]
        show G _ _ _ _ _ _ _ _ _ _ (.null :: _)
        refine g_astore_nN (lv' := [(3, .null), (0, .ref a0), (1, .int a1), (2, .int a2)]) C dX10_give_43 rfl (by decide) rfl ?_
        refine g_aload_nN C dX10_give_44 rfl 0 rfl ?_
        refine g_ifnullN C 72 dX10_give_45 (by decide) ?_
        exact ret _ _ _ _ _ dX10_give_72 (by decide) (by decide) ⟨I, EK.rf⟩
      · rw [e1992]
        show G _ _ _ _ _ _ _ _ _ _ (.ref b1991 :: _)
        refine g_astore_n (lv' := [(3, .ref b1991), (0, .ref a0), (1, .int a1), (2, .int a2)]) C dX10_give_43 rfl (by decide) rfl ?_
        refine g_aload_n C dX10_give_44 rfl 0 rfl ?_
        refine g_ifnull C dX10_give_45 ?_
        refine g_iconst (v := 0) C dX10_give_48 (by decide) ?_
        refine g_istore (lv' := [(4, .int 0), (3, .ref b1991), (0, .ref a0), (1, .int a1), (2, .int a2)]) C dX10_give_49 (by decide) rfl ?_
        refine g_lv (lv' := [(0, .ref a0), (1, .int a1), (2, .int a2), (3, .ref b1991), (4, .int 0)]) [2, 3, 4, 1, 0] rfl ?_
        exact J51 _ P b1991 0 (Nat.lt_succ_self _) I EK.rf h1993 (by decide)
    · have h1987 : 6 ≤ a1.toInt := h1987
      omega
set_option maxHeartbeats 4000000 in
set_option maxRecDepth 100000 in
theorem s_X10_tryBook_L2 {P : PP} {a0 : Nat} {a1 : Int32} {a2 : Int32} {a3 : Nat} {a4 : Int32} (I : IV P) (ha0 : At P a0 10) (ha1 : 4 ≤ a1.toInt ∧ a1.toInt ≤ 4) (ha3 : At P a3 7) (ha4 : 0 ≤ a4.toInt ∧ a4.toInt ≤ 1) : CtrV yX10_tryBook cX10_tryBook 9 none ({ frames := 5, cells := 0, slots := 0, locals := 320 } : Room) 0 0 P [.ref a0, .int a1, .int a2, .ref a3, .int a4] (fun P2 => IV P2 ∧ EK [0, 10, 13] P P2) := by
  refine enV (lv := [(0, .ref a0), (1, .int a1), (2, .int a2), (3, .ref a3), (4, .int a4)]) (by decide) (Nat.le_of_ble_eq_true rfl) rfl (fun E D cy C Ci0 ret => ?_)
  have J85 : ∀ (P85 : PP) (b85_5 : Nat) (b85_6 : Nat) (v85_7 : Int32) (v85_8 : Int32), (IV P85) → (EK [0, 10, 13] P P85) → (At P85 b85_5 0) → (At P85 b85_6 0) → (0 ≤ v85_7.toInt ∧ v85_7.toInt ≤ 20) → (0 ≤ v85_8.toInt ∧ v85_8.toInt ≤ 20) → G E ({ frames := 5, cells := 0, slots := 0, locals := 320 } : Room) D cy 9 P85 0 0 85 [(5, .ref b85_5), (6, .ref b85_6), (7, .int v85_7), (8, .int v85_8)] [] := by
    intro P85 b85_5 b85_6 v85_7 v85_8 I85 X85 hb85_5 hb85_6 hv85_7 hv85_8
    have h2078 := X85.at ha0
    have h2079 := X85.at ha3
    refine g_aload C dX10_tryBook_85 0 rfl ?_
    refine g_iload C dX10_tryBook_87 2 rfl ?_
    refine g_callVV (rest := []) C mv_X10_79 [.int v85_7] (s_X0_cut I85 hb85_5) (hb85_5).1 (hb85_5).2 rfl rfl (by decide) (Nat.le_of_ble_eq_true rfl) (by decide) dX10_tryBook_89 (fun Y2081 h2082 => ?_)
    obtain ⟨Iy2083, Xy2084⟩ := h2082
    have Xz2085 : EK [0, 10, 13] P Y2081 := X85.tr (Xy2084.mono (by decide))
    have h2086 := Xy2084.at h2078
    have h2087 := Xy2084.at h2079
    have h2088 := Xy2084.at hb85_5
    have h2089 := Xy2084.at hb85_6
    refine g_aload C dX10_tryBook_92 1 rfl ?_
    refine g_iload C dX10_tryBook_94 3 rfl ?_
    refine g_callVV (rest := []) C mv_X10_79 [.int v85_8] (s_X0_cut Iy2083 h2089) (h2089).1 (h2089).2 rfl rfl (by decide) (Nat.le_of_ble_eq_true rfl) (by decide) dX10_tryBook_96 (fun Y2091 h2092 => ?_)
    obtain ⟨Iy2093, Xy2094⟩ := h2092
    have Xz2095 : EK [0, 10, 13] P Y2091 := Xz2085.tr (Xy2094.mono (by decide))
    have h2096 := Xy2094.at h2086
    have h2097 := Xy2094.at h2087
    have h2098 := Xy2094.at h2088
    have h2099 := Xy2094.at h2089
    exact ret _ _ _ _ _ dX10_tryBook_99 (by decide) (by decide) ⟨Iy2093, Xz2095⟩
  refine g_aload_n C dX10_tryBook_0 rfl 0 rfl ?_
  refine g_iload C dX10_tryBook_1 4 rfl ?_
  refine g_iconst (v := 0) C dX10_tryBook_3 (by decide) ?_
  refine g_callVQ (rest := []) C mv_X10_64 [.int a4, .int 0] (s_X10_basisOf I ha0 (by omega) (by decide)) (ha0).1 (ha0).2 rfl rfl (by decide) (Nat.le_of_ble_eq_true rfl) (by decide) dX10_tryBook_4 (fun r2100 Y2101 h2102 => ?_)
  obtain ⟨rfl, h2102⟩ := h2102
  obtain ⟨b2104, rfl, h2102⟩ := h2102
  show G _ _ _ _ _ _ _ _ _ _ (.ref b2104 :: _)
  refine g_astore (lv' := [(5, .ref b2104), (0, .ref a0), (1, .int a1), (2, .int a2), (3, .ref a3), (4, .int a4)]) C dX10_tryBook_7 (by decide) rfl ?_
  refine g_aload_n C dX10_tryBook_9 rfl 1 rfl ?_
  refine g_iload C dX10_tryBook_10 5 rfl ?_
  refine g_iconst (v := 1) C dX10_tryBook_12 (by decide) ?_
  refine g_callVQ (rest := []) C mv_X10_64 [.int a4, .int 1] (s_X10_basisOf I ha0 (by omega) (by decide)) (ha0).1 (ha0).2 rfl rfl (by decide) (Nat.le_of_ble_eq_true rfl) (by decide) dX10_tryBook_13 (fun r2105 Y2106 h2107 => ?_)
  obtain ⟨rfl, h2107⟩ := h2107
  obtain ⟨b2109, rfl, h2107⟩ := h2107
  show G _ _ _ _ _ _ _ _ _ _ (.ref b2109 :: _)
  refine g_astore (lv' := [(6, .ref b2109), (5, .ref b2104), (0, .ref a0), (1, .int a1), (2, .int a2), (3, .ref a3), (4, .int a4)]) C dX10_tryBook_16 (by decide) rfl ?_
  refine g_aload C dX10_tryBook_18 1 rfl ?_
  refine g_getI C fi_X10_68 (by decide) (h2102).1 (h2102).2 dX10_tryBook_20 ?_
  have h2110 := I.rg (h2102) 2 rfl
  refine g_topi (fun z2111 h2112 => ?_)
  have h2112 : z2111.toInt = (pI P b2104 2).toInt := congrArg Int32.toInt h2112
  refine g_istore (lv' := [(7, .int z2111), (6, .ref b2109), (5, .ref b2104), (0, .ref a0), (1, .int a1), (2, .int a2), (3, .ref a3), (4, .int a4)]) C dX10_tryBook_23 (by decide) rfl ?_
  refine g_aload C dX10_tryBook_25 1 rfl ?_
  refine g_getI C fi_X10_68 (by decide) (h2107).1 (h2107).2 dX10_tryBook_27 ?_
  have h2113 := I.rg (h2107) 2 rfl
  refine g_topi (fun z2114 h2115 => ?_)
  have h2115 : z2114.toInt = (pI P b2109 2).toInt := congrArg Int32.toInt h2115
  refine g_istore (lv' := [(8, .int z2114), (7, .int z2111), (6, .ref b2109), (5, .ref b2104), (0, .ref a0), (1, .int a1), (2, .int a2), (3, .ref a3), (4, .int a4)]) C dX10_tryBook_30 (by decide) rfl ?_
  refine g_aload C dX10_tryBook_32 3 rfl ?_
  refine g_aload_n C dX10_tryBook_34 rfl 7 rfl ?_
  refine g_iload C dX10_tryBook_35 8 rfl ?_
  refine g_iconst (v := 0) C dX10_tryBook_37 (by decide) ?_
  refine g_callVI (rest := [.ref b2104]) C mv_X10_71 [.int a4, .int 0] (s_X7_equation I ha3) (ha3).1 (ha3).2 rfl rfl (by decide) (Nat.le_of_ble_eq_true rfl) (by decide) dX10_tryBook_38 (fun r2116 Y2117 h2118 => ?_)
  obtain ⟨rfl, h2118⟩ := h2118
  have h2118 : True := h2118
  refine g_callVV (rest := []) C mv_X10_75 [.int r2116] (s_X0_add I h2102) (h2102).1 (h2102).2 rfl rfl (by decide) (Nat.le_of_ble_eq_true rfl) (by decide) dX10_tryBook_41 (fun Y2120 h2121 => ?_)
  obtain ⟨Iy2122, Xy2123⟩ := h2121
  have Xz2124 : EK [0, 10, 13] P Y2120 := Xy2123.mono (by decide)
  have h2125 := Xy2123.at ha0
  have h2126 := Xy2123.at ha3
  have h2127 := Xy2123.at h2102
  have h2128 := Xy2123.at h2107
  refine g_aload C dX10_tryBook_44 2 rfl ?_
  refine g_aload_n C dX10_tryBook_46 rfl 7 rfl ?_
  refine g_iload C dX10_tryBook_47 8 rfl ?_
  refine g_iconst (v := 1) C dX10_tryBook_49 (by decide) ?_
  refine g_callVI (rest := [.ref b2109]) C mv_X10_71 [.int a4, .int 1] (s_X7_equation Iy2122 h2126) (h2126).1 (h2126).2 rfl rfl (by decide) (Nat.le_of_ble_eq_true rfl) (by decide) dX10_tryBook_50 (fun r2129 Y2130 h2131 => ?_)
  obtain ⟨rfl, h2131⟩ := h2131
  have h2131 : True := h2131
  refine g_callVV (rest := []) C mv_X10_75 [.int r2129] (s_X0_add Iy2122 h2128) (h2128).1 (h2128).2 rfl rfl (by decide) (Nat.le_of_ble_eq_true rfl) (by decide) dX10_tryBook_53 (fun Y2133 h2134 => ?_)
  obtain ⟨Iy2135, Xy2136⟩ := h2134
  have Xz2137 : EK [0, 10, 13] P Y2133 := Xz2124.tr (Xy2136.mono (by decide))
  have h2138 := Xy2136.at h2125
  have h2139 := Xy2136.at h2126
  have h2140 := Xy2136.at h2127
  have h2141 := Xy2136.at h2128
  refine g_aload C dX10_tryBook_56 3 rfl ?_
  refine g_getI C fi_X10_56 (by decide) (h2140).1 (h2140).2 dX10_tryBook_58 ?_
  have h2142 := Iy2135.rg (h2140) 3 rfl
  refine b_if_eq C 85 dX10_tryBook_61 (by decide) (fun h2143 => ?_) (fun h2143 => ?_)
  · have h2143 : (pI Y2133 b2104 3).toInt = 0 := congrArg Int32.toInt h2143
    refine g_lv (lv' := [(5, .ref b2104), (6, .ref b2109), (7, .int z2111), (8, .int z2114)]) [3, 2, 1, 0] rfl ?_
    exact J85 Y2133 b2104 b2109 z2111 z2114 Iy2135 Xz2137 h2140 h2141 (by omega) (by omega)
  · have h2143 : (pI Y2133 b2104 3).toInt ≠ 0 := ti_ne h2143
    refine g_aload C dX10_tryBook_64 2 rfl ?_
    refine g_getI C fi_X10_56 (by decide) (h2141).1 (h2141).2 dX10_tryBook_66 ?_
    have h2144 := Iy2135.rg (h2141) 3 rfl
    refine b_if_eq C 85 dX10_tryBook_69 (by decide) (fun h2145 => ?_) (fun h2145 => ?_)
    · have h2145 : (pI Y2133 b2109 3).toInt = 0 := congrArg Int32.toInt h2145
      refine g_lv (lv' := [(5, .ref b2104), (6, .ref b2109), (7, .int z2111), (8, .int z2114)]) [3, 2, 1, 0] rfl ?_
      exact J85 Y2133 b2104 b2109 z2111 z2114 Iy2135 Xz2137 h2140 h2141 (by omega) (by omega)
    · have h2145 : (pI Y2133 b2109 3).toInt ≠ 0 := ti_ne h2145
      refine g_aload_n C dX10_tryBook_72 rfl 4 rfl ?_
      refine g_iload_n C dX10_tryBook_73 rfl 5 rfl ?_
      refine g_iconst (v := 1) C dX10_tryBook_74 (by decide) ?_
      refine s_iadd C dX10_tryBook_75 (by show -2147483648 ≤ a1.toInt + 1 ∧ a1.toInt + 1 ≤ 2147483647; omega) (fun z2146 h2147 => ?_)
      have h2147 : z2146.toInt = a1.toInt + 1 := h2147
      refine g_iload_n C dX10_tryBook_76 rfl 6 rfl ?_
      refine g_iload C dX10_tryBook_77 8 rfl ?_
      refine g_iload_n C dX10_tryBook_79 rfl 5 rfl ?_
      refine a_ishl C dX10_tryBook_80 (fun z2148 => ?_)
      refine a_ior C dX10_tryBook_81 (fun z2150 => ?_)
      refine g_callVV (rest := []) C mv_X10_52 [.int z2146, .int z2150] (s_X10_give_L1 Iy2135 h2138 (by omega)) (h2138).1 (h2138).2 rfl rfl (by decide) (Nat.le_of_ble_eq_true rfl) (by decide) dX10_tryBook_82 (fun Y2153 h2154 => ?_)
      obtain ⟨Iy2155, Xy2156⟩ := h2154
      have Xz2157 : EK [0, 10, 13] P Y2153 := Xz2137.tr (Xy2156.mono (by decide))
      have h2158 := Xy2156.at h2138
      have h2159 := Xy2156.at h2139
      have h2160 := Xy2156.at h2140
      have h2161 := Xy2156.at h2141
      refine g_lv (lv' := [(5, .ref b2104), (6, .ref b2109), (7, .int z2111), (8, .int z2114)]) [3, 2, 1, 0] rfl ?_
      exact J85 Y2153 b2104 b2109 z2111 z2114 Iy2155 Xz2157 h2160 h2161 (by omega) (by omega)
set_option maxHeartbeats 4000000 in
set_option maxRecDepth 100000 in
theorem s_X10_give_L2 {P : PP} {a0 : Nat} {a1 : Int32} {a2 : Int32} (I : IV P) (ha0 : At P a0 10) (ha1 : 4 ≤ a1.toInt ∧ a1.toInt ≤ 4) : CtrV yX10_give cX10_give 5 none ({ frames := 6, cells := 0, slots := 0, locals := 384 } : Room) 0 0 P [.ref a0, .int a1, .int a2] (fun P2 => IV P2 ∧ EK [0, 10, 13] P P2) := by
  refine enV (lv := [(0, .ref a0), (1, .int a1), (2, .int a2)]) (by decide) (Nat.le_of_ble_eq_true rfl) rfl (fun E D cy C Ci0 ret => ?_)
  have J51 : ∀ (n51 : Nat) (P51 : PP) (b51_3 : Nat) (v51_4 : Int32), (2 - v51_4.toInt).toNat < n51 → (IV P51) → (EK [0, 10, 13] P P51) → (At P51 b51_3 7) → (0 ≤ v51_4.toInt ∧ v51_4.toInt ≤ 2) → G E ({ frames := 6, cells := 0, slots := 0, locals := 384 } : Room) D cy 5 P51 0 0 51 [(0, .ref a0), (1, .int a1), (2, .int a2), (3, .ref b51_3), (4, .int v51_4)] [] := by
    intro n51
    induction n51 with
    | zero => intro P51 b51_3 v51_4 hm51 I51 X51 hb51_3 hv51_4; omega
    | succ n51 ih51 =>
      intro P51 b51_3 v51_4 hm51 I51 X51 hb51_3 hv51_4
      have h2229 := X51.at ha0
      refine g_iload C dX10_give_51 4 rfl ?_
      refine g_iconst (v := 2) C dX10_give_53 (by decide) ?_
      refine b_icmp_ge C 72 dX10_give_54 (by decide) (fun h2230 => ?_) (fun h2230 => ?_)
      · have h2230 : 2 ≤ v51_4.toInt := h2230
        exact ret _ _ _ _ _ dX10_give_72 (by decide) (by decide) ⟨I51, X51⟩
      · have h2230 : v51_4.toInt < 2 := h2230
        refine g_aload_n C dX10_give_57 rfl 0 rfl ?_
        refine g_iload_n C dX10_give_58 rfl 1 rfl ?_
        refine g_iload_n C dX10_give_59 rfl 2 rfl ?_
        refine g_aload_n C dX10_give_60 rfl 3 rfl ?_
        refine g_iload C dX10_give_61 4 rfl ?_
        refine g_callVV (rest := []) C mv_X10_60 [.int a1, .int a2, .ref b51_3, .int v51_4] (s_X10_tryBook_L2 I51 h2229 (by omega) hb51_3 (by omega)) (h2229).1 (h2229).2 rfl rfl (by decide) (Nat.le_of_ble_eq_true rfl) (by decide) dX10_give_63 (fun Y2232 h2233 => ?_)
        obtain ⟨Iy2234, Xy2235⟩ := h2233
        have Xz2236 : EK [0, 10, 13] P Y2232 := X51.tr (Xy2235.mono (by decide))
        have h2237 := Xy2235.at h2229
        have h2238 := Xy2235.at hb51_3
        refine s_iinc (lv0 := [(0, .ref a0), (1, .int a1), (2, .int a2), (3, .ref b51_3)]) (m := 1) C dX10_give_66 4 rfl (by decide) rfl (by decide) (by omega) (fun z2239 h2240 => ?_)
        have h2240 : z2239.toInt = v51_4.toInt + 1 := h2240
        refine g_goto C 51 dX10_give_69 (by decide) ?_
        refine g_lv (lv' := [(0, .ref a0), (1, .int a1), (2, .int a2), (3, .ref b51_3), (4, .int z2239)]) [1, 2, 3, 4, 0] rfl ?_
        exact ih51 Y2232 b51_3 z2239 (by omega) Iy2234 Xz2236 h2238 (by omega)
  have J14 : (0 ≤ (pI P a0 3).toInt ∧ (pI P a0 3).toInt ≤ 4) → G E ({ frames := 6, cells := 0, slots := 0, locals := 384 } : Room) D cy 5 P 0 0 14 [(0, .ref a0), (2, .int a2)] [] := by
    intro hq14_0
    refine g_aload_n C dX10_give_14 rfl 0 rfl ?_
    refine g_dup C dX10_give_15 rfl ?_
    refine g_getI C fi_X10_32 (by decide) (ha0).1 (ha0).2 dX10_give_16 ?_
    refine g_iload_n C dX10_give_19 rfl 1 rfl ?_
    refine a_ior C dX10_give_20 (fun z2241 => ?_)
    refine g_putI C fi_X10_32 rfl (ha0).1 (ha0).2 dX10_give_21 ?_
    refine gpW (ks := [10]) (I.setI (ha0) (rgOk.none rfl)) (EK.setI (ha0).2 (by decide)) (fun Y2243 Iy2244 Xy2245 w2246 w2247 => ?_)
    have q2248 := w2246 3 (by decide)
    have Xz2249 : EK [0, 10, 13] P Y2243 := Xy2245.mono (by decide)
    have h2250 := Xy2245.at ha0
    refine g_aload_n C dX10_give_24 rfl 0 rfl ?_
    refine g_dup C dX10_give_25 rfl ?_
    refine g_getI C fi_X10_28 (by decide) (h2250).1 (h2250).2 dX10_give_26 ?_
    refine g_iload_n C dX10_give_29 rfl 1 rfl ?_
    refine g_iconst (v := (-1)) C dX10_give_30 (by decide) ?_
    refine a_ixor C dX10_give_31 (fun z2251 => ?_)
    refine a_ior C dX10_give_32 (fun z2253 => ?_)
    refine g_putI C fi_X10_28 rfl (h2250).1 (h2250).2 dX10_give_33 ?_
    refine gpW (ks := [10]) (Iy2244.setI (h2250) (rgOk.none rfl)) (EK.setI (h2250).2 (by decide)) (fun Y2255 Iy2256 Xy2257 w2258 w2259 => ?_)
    have q2260 := w2258 3 (by decide)
    have q2261 := w2258 5 (by decide)
    have Xz2262 : EK [0, 10, 13] P Y2255 := Xz2249.tr (Xy2257.mono (by decide))
    have h2263 := Xy2257.at h2250
    exact ret _ _ _ _ _ dX10_give_36 (by decide) (by decide) ⟨Iy2256, Xz2262⟩
  refine g_iload_n C dX10_give_0 rfl 1 rfl ?_
  refine g_aload_n C dX10_give_1 rfl 0 rfl ?_
  refine g_getI C fi_X10_35 (by decide) (ha0).1 (ha0).2 dX10_give_2 ?_
  have h2264 := I.rg (ha0) 3 rfl
  refine b_icmp_ge C 14 dX10_give_5 (by decide) (fun h2265 => ?_) (fun h2265 => ?_)
  · have h2265 : (pI P a0 3).toInt ≤ a1.toInt := h2265
    refine g_lv (lv' := [(0, .ref a0), (2, .int a2)]) [0, 2] rfl ?_
    exact J14 (by omega)
  · have h2265 : a1.toInt < (pI P a0 3).toInt := h2265
    refine g_iload_n C dX10_give_8 rfl 1 rfl ?_
    refine g_bipush (v := 6) C dX10_give_9 (by decide) ?_
    refine b_icmp_lt C 37 dX10_give_11 (by decide) (fun h2266 => ?_) (fun h2266 => ?_)
    · have h2266 : a1.toInt < 6 := h2266
      refine g_aload_n C dX10_give_37 rfl 0 rfl ?_
      obtain ⟨b2267, e2268, h2269⟩ := I.fld (ha0) 0 20 6 rfl
      refine g_getR C fi_X10_11 rfl e2268 (ha0).1 (ha0).2 dX10_give_38 ?_
      refine g_iload_n C dX10_give_41 rfl 1 rfl ?_
      refine g_aldQ (j := (a1.toInt.toNat)) C h2269.1 h2269.2.1 (by decide) (ix_in h2269.2.2 (by omega)) dX10_give_42 ?_
      rcases I.pap h2269 (a1.toInt.toNat) with e2271 | ⟨b2270, e2271, h2272⟩
      · rw [e2271]
        show G _ _ _ _ _ _ _ _ _ _ (.null :: _)
        refine g_astore_nN (lv' := [(3, .null), (0, .ref a0), (1, .int a1), (2, .int a2)]) C dX10_give_43 rfl (by decide) rfl ?_
        refine g_aload_nN C dX10_give_44 rfl 0 rfl ?_
        refine g_ifnullN C 72 dX10_give_45 (by decide) ?_
        exact ret _ _ _ _ _ dX10_give_72 (by decide) (by decide) ⟨I, EK.rf⟩
      · rw [e2271]
        show G _ _ _ _ _ _ _ _ _ _ (.ref b2270 :: _)
        refine g_astore_n (lv' := [(3, .ref b2270), (0, .ref a0), (1, .int a1), (2, .int a2)]) C dX10_give_43 rfl (by decide) rfl ?_
        refine g_aload_n C dX10_give_44 rfl 0 rfl ?_
        refine g_ifnull C dX10_give_45 ?_
        refine g_iconst (v := 0) C dX10_give_48 (by decide) ?_
        refine g_istore (lv' := [(4, .int 0), (3, .ref b2270), (0, .ref a0), (1, .int a1), (2, .int a2)]) C dX10_give_49 (by decide) rfl ?_
        refine g_lv (lv' := [(0, .ref a0), (1, .int a1), (2, .int a2), (3, .ref b2270), (4, .int 0)]) [2, 3, 4, 1, 0] rfl ?_
        exact J51 _ P b2270 0 (Nat.lt_succ_self _) I EK.rf h2272 (by decide)
    · have h2266 : 6 ≤ a1.toInt := h2266
      omega
set_option maxHeartbeats 4000000 in
set_option maxRecDepth 100000 in
theorem s_X10_tryBook_L3 {P : PP} {a0 : Nat} {a1 : Int32} {a2 : Int32} {a3 : Nat} {a4 : Int32} (I : IV P) (ha0 : At P a0 10) (ha1 : 3 ≤ a1.toInt ∧ a1.toInt ≤ 3) (ha3 : At P a3 7) (ha4 : 0 ≤ a4.toInt ∧ a4.toInt ≤ 1) : CtrV yX10_tryBook cX10_tryBook 9 none ({ frames := 7, cells := 0, slots := 0, locals := 448 } : Room) 0 0 P [.ref a0, .int a1, .int a2, .ref a3, .int a4] (fun P2 => IV P2 ∧ EK [0, 10, 13] P P2) := by
  refine enV (lv := [(0, .ref a0), (1, .int a1), (2, .int a2), (3, .ref a3), (4, .int a4)]) (by decide) (Nat.le_of_ble_eq_true rfl) rfl (fun E D cy C Ci0 ret => ?_)
  have J85 : ∀ (P85 : PP) (b85_5 : Nat) (b85_6 : Nat) (v85_7 : Int32) (v85_8 : Int32), (IV P85) → (EK [0, 10, 13] P P85) → (At P85 b85_5 0) → (At P85 b85_6 0) → (0 ≤ v85_7.toInt ∧ v85_7.toInt ≤ 20) → (0 ≤ v85_8.toInt ∧ v85_8.toInt ≤ 20) → G E ({ frames := 7, cells := 0, slots := 0, locals := 448 } : Room) D cy 9 P85 0 0 85 [(5, .ref b85_5), (6, .ref b85_6), (7, .int v85_7), (8, .int v85_8)] [] := by
    intro P85 b85_5 b85_6 v85_7 v85_8 I85 X85 hb85_5 hb85_6 hv85_7 hv85_8
    have h2357 := X85.at ha0
    have h2358 := X85.at ha3
    refine g_aload C dX10_tryBook_85 0 rfl ?_
    refine g_iload C dX10_tryBook_87 2 rfl ?_
    refine g_callVV (rest := []) C mv_X10_79 [.int v85_7] (s_X0_cut I85 hb85_5) (hb85_5).1 (hb85_5).2 rfl rfl (by decide) (Nat.le_of_ble_eq_true rfl) (by decide) dX10_tryBook_89 (fun Y2360 h2361 => ?_)
    obtain ⟨Iy2362, Xy2363⟩ := h2361
    have Xz2364 : EK [0, 10, 13] P Y2360 := X85.tr (Xy2363.mono (by decide))
    have h2365 := Xy2363.at h2357
    have h2366 := Xy2363.at h2358
    have h2367 := Xy2363.at hb85_5
    have h2368 := Xy2363.at hb85_6
    refine g_aload C dX10_tryBook_92 1 rfl ?_
    refine g_iload C dX10_tryBook_94 3 rfl ?_
    refine g_callVV (rest := []) C mv_X10_79 [.int v85_8] (s_X0_cut Iy2362 h2368) (h2368).1 (h2368).2 rfl rfl (by decide) (Nat.le_of_ble_eq_true rfl) (by decide) dX10_tryBook_96 (fun Y2370 h2371 => ?_)
    obtain ⟨Iy2372, Xy2373⟩ := h2371
    have Xz2374 : EK [0, 10, 13] P Y2370 := Xz2364.tr (Xy2373.mono (by decide))
    have h2375 := Xy2373.at h2365
    have h2376 := Xy2373.at h2366
    have h2377 := Xy2373.at h2367
    have h2378 := Xy2373.at h2368
    exact ret _ _ _ _ _ dX10_tryBook_99 (by decide) (by decide) ⟨Iy2372, Xz2374⟩
  refine g_aload_n C dX10_tryBook_0 rfl 0 rfl ?_
  refine g_iload C dX10_tryBook_1 4 rfl ?_
  refine g_iconst (v := 0) C dX10_tryBook_3 (by decide) ?_
  refine g_callVQ (rest := []) C mv_X10_64 [.int a4, .int 0] (s_X10_basisOf I ha0 (by omega) (by decide)) (ha0).1 (ha0).2 rfl rfl (by decide) (Nat.le_of_ble_eq_true rfl) (by decide) dX10_tryBook_4 (fun r2379 Y2380 h2381 => ?_)
  obtain ⟨rfl, h2381⟩ := h2381
  obtain ⟨b2383, rfl, h2381⟩ := h2381
  show G _ _ _ _ _ _ _ _ _ _ (.ref b2383 :: _)
  refine g_astore (lv' := [(5, .ref b2383), (0, .ref a0), (1, .int a1), (2, .int a2), (3, .ref a3), (4, .int a4)]) C dX10_tryBook_7 (by decide) rfl ?_
  refine g_aload_n C dX10_tryBook_9 rfl 1 rfl ?_
  refine g_iload C dX10_tryBook_10 5 rfl ?_
  refine g_iconst (v := 1) C dX10_tryBook_12 (by decide) ?_
  refine g_callVQ (rest := []) C mv_X10_64 [.int a4, .int 1] (s_X10_basisOf I ha0 (by omega) (by decide)) (ha0).1 (ha0).2 rfl rfl (by decide) (Nat.le_of_ble_eq_true rfl) (by decide) dX10_tryBook_13 (fun r2384 Y2385 h2386 => ?_)
  obtain ⟨rfl, h2386⟩ := h2386
  obtain ⟨b2388, rfl, h2386⟩ := h2386
  show G _ _ _ _ _ _ _ _ _ _ (.ref b2388 :: _)
  refine g_astore (lv' := [(6, .ref b2388), (5, .ref b2383), (0, .ref a0), (1, .int a1), (2, .int a2), (3, .ref a3), (4, .int a4)]) C dX10_tryBook_16 (by decide) rfl ?_
  refine g_aload C dX10_tryBook_18 1 rfl ?_
  refine g_getI C fi_X10_68 (by decide) (h2381).1 (h2381).2 dX10_tryBook_20 ?_
  have h2389 := I.rg (h2381) 2 rfl
  refine g_topi (fun z2390 h2391 => ?_)
  have h2391 : z2390.toInt = (pI P b2383 2).toInt := congrArg Int32.toInt h2391
  refine g_istore (lv' := [(7, .int z2390), (6, .ref b2388), (5, .ref b2383), (0, .ref a0), (1, .int a1), (2, .int a2), (3, .ref a3), (4, .int a4)]) C dX10_tryBook_23 (by decide) rfl ?_
  refine g_aload C dX10_tryBook_25 1 rfl ?_
  refine g_getI C fi_X10_68 (by decide) (h2386).1 (h2386).2 dX10_tryBook_27 ?_
  have h2392 := I.rg (h2386) 2 rfl
  refine g_topi (fun z2393 h2394 => ?_)
  have h2394 : z2393.toInt = (pI P b2388 2).toInt := congrArg Int32.toInt h2394
  refine g_istore (lv' := [(8, .int z2393), (7, .int z2390), (6, .ref b2388), (5, .ref b2383), (0, .ref a0), (1, .int a1), (2, .int a2), (3, .ref a3), (4, .int a4)]) C dX10_tryBook_30 (by decide) rfl ?_
  refine g_aload C dX10_tryBook_32 3 rfl ?_
  refine g_aload_n C dX10_tryBook_34 rfl 7 rfl ?_
  refine g_iload C dX10_tryBook_35 8 rfl ?_
  refine g_iconst (v := 0) C dX10_tryBook_37 (by decide) ?_
  refine g_callVI (rest := [.ref b2383]) C mv_X10_71 [.int a4, .int 0] (s_X7_equation I ha3) (ha3).1 (ha3).2 rfl rfl (by decide) (Nat.le_of_ble_eq_true rfl) (by decide) dX10_tryBook_38 (fun r2395 Y2396 h2397 => ?_)
  obtain ⟨rfl, h2397⟩ := h2397
  have h2397 : True := h2397
  refine g_callVV (rest := []) C mv_X10_75 [.int r2395] (s_X0_add I h2381) (h2381).1 (h2381).2 rfl rfl (by decide) (Nat.le_of_ble_eq_true rfl) (by decide) dX10_tryBook_41 (fun Y2399 h2400 => ?_)
  obtain ⟨Iy2401, Xy2402⟩ := h2400
  have Xz2403 : EK [0, 10, 13] P Y2399 := Xy2402.mono (by decide)
  have h2404 := Xy2402.at ha0
  have h2405 := Xy2402.at ha3
  have h2406 := Xy2402.at h2381
  have h2407 := Xy2402.at h2386
  refine g_aload C dX10_tryBook_44 2 rfl ?_
  refine g_aload_n C dX10_tryBook_46 rfl 7 rfl ?_
  refine g_iload C dX10_tryBook_47 8 rfl ?_
  refine g_iconst (v := 1) C dX10_tryBook_49 (by decide) ?_
  refine g_callVI (rest := [.ref b2388]) C mv_X10_71 [.int a4, .int 1] (s_X7_equation Iy2401 h2405) (h2405).1 (h2405).2 rfl rfl (by decide) (Nat.le_of_ble_eq_true rfl) (by decide) dX10_tryBook_50 (fun r2408 Y2409 h2410 => ?_)
  obtain ⟨rfl, h2410⟩ := h2410
  have h2410 : True := h2410
  refine g_callVV (rest := []) C mv_X10_75 [.int r2408] (s_X0_add Iy2401 h2407) (h2407).1 (h2407).2 rfl rfl (by decide) (Nat.le_of_ble_eq_true rfl) (by decide) dX10_tryBook_53 (fun Y2412 h2413 => ?_)
  obtain ⟨Iy2414, Xy2415⟩ := h2413
  have Xz2416 : EK [0, 10, 13] P Y2412 := Xz2403.tr (Xy2415.mono (by decide))
  have h2417 := Xy2415.at h2404
  have h2418 := Xy2415.at h2405
  have h2419 := Xy2415.at h2406
  have h2420 := Xy2415.at h2407
  refine g_aload C dX10_tryBook_56 3 rfl ?_
  refine g_getI C fi_X10_56 (by decide) (h2419).1 (h2419).2 dX10_tryBook_58 ?_
  have h2421 := Iy2414.rg (h2419) 3 rfl
  refine b_if_eq C 85 dX10_tryBook_61 (by decide) (fun h2422 => ?_) (fun h2422 => ?_)
  · have h2422 : (pI Y2412 b2383 3).toInt = 0 := congrArg Int32.toInt h2422
    refine g_lv (lv' := [(5, .ref b2383), (6, .ref b2388), (7, .int z2390), (8, .int z2393)]) [3, 2, 1, 0] rfl ?_
    exact J85 Y2412 b2383 b2388 z2390 z2393 Iy2414 Xz2416 h2419 h2420 (by omega) (by omega)
  · have h2422 : (pI Y2412 b2383 3).toInt ≠ 0 := ti_ne h2422
    refine g_aload C dX10_tryBook_64 2 rfl ?_
    refine g_getI C fi_X10_56 (by decide) (h2420).1 (h2420).2 dX10_tryBook_66 ?_
    have h2423 := Iy2414.rg (h2420) 3 rfl
    refine b_if_eq C 85 dX10_tryBook_69 (by decide) (fun h2424 => ?_) (fun h2424 => ?_)
    · have h2424 : (pI Y2412 b2388 3).toInt = 0 := congrArg Int32.toInt h2424
      refine g_lv (lv' := [(5, .ref b2383), (6, .ref b2388), (7, .int z2390), (8, .int z2393)]) [3, 2, 1, 0] rfl ?_
      exact J85 Y2412 b2383 b2388 z2390 z2393 Iy2414 Xz2416 h2419 h2420 (by omega) (by omega)
    · have h2424 : (pI Y2412 b2388 3).toInt ≠ 0 := ti_ne h2424
      refine g_aload_n C dX10_tryBook_72 rfl 4 rfl ?_
      refine g_iload_n C dX10_tryBook_73 rfl 5 rfl ?_
      refine g_iconst (v := 1) C dX10_tryBook_74 (by decide) ?_
      refine s_iadd C dX10_tryBook_75 (by show -2147483648 ≤ a1.toInt + 1 ∧ a1.toInt + 1 ≤ 2147483647; omega) (fun z2425 h2426 => ?_)
      have h2426 : z2425.toInt = a1.toInt + 1 := h2426
      refine g_iload_n C dX10_tryBook_76 rfl 6 rfl ?_
      refine g_iload C dX10_tryBook_77 8 rfl ?_
      refine g_iload_n C dX10_tryBook_79 rfl 5 rfl ?_
      refine a_ishl C dX10_tryBook_80 (fun z2427 => ?_)
      refine a_ior C dX10_tryBook_81 (fun z2429 => ?_)
      refine g_callVV (rest := []) C mv_X10_52 [.int z2425, .int z2429] (s_X10_give_L2 Iy2414 h2417 (by omega)) (h2417).1 (h2417).2 rfl rfl (by decide) (Nat.le_of_ble_eq_true rfl) (by decide) dX10_tryBook_82 (fun Y2432 h2433 => ?_)
      obtain ⟨Iy2434, Xy2435⟩ := h2433
      have Xz2436 : EK [0, 10, 13] P Y2432 := Xz2416.tr (Xy2435.mono (by decide))
      have h2437 := Xy2435.at h2417
      have h2438 := Xy2435.at h2418
      have h2439 := Xy2435.at h2419
      have h2440 := Xy2435.at h2420
      refine g_lv (lv' := [(5, .ref b2383), (6, .ref b2388), (7, .int z2390), (8, .int z2393)]) [3, 2, 1, 0] rfl ?_
      exact J85 Y2432 b2383 b2388 z2390 z2393 Iy2434 Xz2436 h2439 h2440 (by omega) (by omega)
set_option maxHeartbeats 4000000 in
set_option maxRecDepth 100000 in
theorem s_X10_give_L3 {P : PP} {a0 : Nat} {a1 : Int32} {a2 : Int32} (I : IV P) (ha0 : At P a0 10) (ha1 : 3 ≤ a1.toInt ∧ a1.toInt ≤ 3) : CtrV yX10_give cX10_give 5 none ({ frames := 8, cells := 0, slots := 0, locals := 512 } : Room) 0 0 P [.ref a0, .int a1, .int a2] (fun P2 => IV P2 ∧ EK [0, 10, 13] P P2) := by
  refine enV (lv := [(0, .ref a0), (1, .int a1), (2, .int a2)]) (by decide) (Nat.le_of_ble_eq_true rfl) rfl (fun E D cy C Ci0 ret => ?_)
  have J51 : ∀ (n51 : Nat) (P51 : PP) (b51_3 : Nat) (v51_4 : Int32), (2 - v51_4.toInt).toNat < n51 → (IV P51) → (EK [0, 10, 13] P P51) → (At P51 b51_3 7) → (0 ≤ v51_4.toInt ∧ v51_4.toInt ≤ 2) → G E ({ frames := 8, cells := 0, slots := 0, locals := 512 } : Room) D cy 5 P51 0 0 51 [(0, .ref a0), (1, .int a1), (2, .int a2), (3, .ref b51_3), (4, .int v51_4)] [] := by
    intro n51
    induction n51 with
    | zero => intro P51 b51_3 v51_4 hm51 I51 X51 hb51_3 hv51_4; omega
    | succ n51 ih51 =>
      intro P51 b51_3 v51_4 hm51 I51 X51 hb51_3 hv51_4
      have h2508 := X51.at ha0
      refine g_iload C dX10_give_51 4 rfl ?_
      refine g_iconst (v := 2) C dX10_give_53 (by decide) ?_
      refine b_icmp_ge C 72 dX10_give_54 (by decide) (fun h2509 => ?_) (fun h2509 => ?_)
      · have h2509 : 2 ≤ v51_4.toInt := h2509
        exact ret _ _ _ _ _ dX10_give_72 (by decide) (by decide) ⟨I51, X51⟩
      · have h2509 : v51_4.toInt < 2 := h2509
        refine g_aload_n C dX10_give_57 rfl 0 rfl ?_
        refine g_iload_n C dX10_give_58 rfl 1 rfl ?_
        refine g_iload_n C dX10_give_59 rfl 2 rfl ?_
        refine g_aload_n C dX10_give_60 rfl 3 rfl ?_
        refine g_iload C dX10_give_61 4 rfl ?_
        refine g_callVV (rest := []) C mv_X10_60 [.int a1, .int a2, .ref b51_3, .int v51_4] (s_X10_tryBook_L3 I51 h2508 (by omega) hb51_3 (by omega)) (h2508).1 (h2508).2 rfl rfl (by decide) (Nat.le_of_ble_eq_true rfl) (by decide) dX10_give_63 (fun Y2511 h2512 => ?_)
        obtain ⟨Iy2513, Xy2514⟩ := h2512
        have Xz2515 : EK [0, 10, 13] P Y2511 := X51.tr (Xy2514.mono (by decide))
        have h2516 := Xy2514.at h2508
        have h2517 := Xy2514.at hb51_3
        refine s_iinc (lv0 := [(0, .ref a0), (1, .int a1), (2, .int a2), (3, .ref b51_3)]) (m := 1) C dX10_give_66 4 rfl (by decide) rfl (by decide) (by omega) (fun z2518 h2519 => ?_)
        have h2519 : z2518.toInt = v51_4.toInt + 1 := h2519
        refine g_goto C 51 dX10_give_69 (by decide) ?_
        refine g_lv (lv' := [(0, .ref a0), (1, .int a1), (2, .int a2), (3, .ref b51_3), (4, .int z2518)]) [1, 2, 3, 4, 0] rfl ?_
        exact ih51 Y2511 b51_3 z2518 (by omega) Iy2513 Xz2515 h2517 (by omega)
  have J14 : (0 ≤ (pI P a0 3).toInt ∧ (pI P a0 3).toInt ≤ 3) → G E ({ frames := 8, cells := 0, slots := 0, locals := 512 } : Room) D cy 5 P 0 0 14 [(0, .ref a0), (2, .int a2)] [] := by
    intro hq14_0
    refine g_aload_n C dX10_give_14 rfl 0 rfl ?_
    refine g_dup C dX10_give_15 rfl ?_
    refine g_getI C fi_X10_32 (by decide) (ha0).1 (ha0).2 dX10_give_16 ?_
    refine g_iload_n C dX10_give_19 rfl 1 rfl ?_
    refine a_ior C dX10_give_20 (fun z2520 => ?_)
    refine g_putI C fi_X10_32 rfl (ha0).1 (ha0).2 dX10_give_21 ?_
    refine gpW (ks := [10]) (I.setI (ha0) (rgOk.none rfl)) (EK.setI (ha0).2 (by decide)) (fun Y2522 Iy2523 Xy2524 w2525 w2526 => ?_)
    have q2527 := w2525 3 (by decide)
    have Xz2528 : EK [0, 10, 13] P Y2522 := Xy2524.mono (by decide)
    have h2529 := Xy2524.at ha0
    refine g_aload_n C dX10_give_24 rfl 0 rfl ?_
    refine g_dup C dX10_give_25 rfl ?_
    refine g_getI C fi_X10_28 (by decide) (h2529).1 (h2529).2 dX10_give_26 ?_
    refine g_iload_n C dX10_give_29 rfl 1 rfl ?_
    refine g_iconst (v := (-1)) C dX10_give_30 (by decide) ?_
    refine a_ixor C dX10_give_31 (fun z2530 => ?_)
    refine a_ior C dX10_give_32 (fun z2532 => ?_)
    refine g_putI C fi_X10_28 rfl (h2529).1 (h2529).2 dX10_give_33 ?_
    refine gpW (ks := [10]) (Iy2523.setI (h2529) (rgOk.none rfl)) (EK.setI (h2529).2 (by decide)) (fun Y2534 Iy2535 Xy2536 w2537 w2538 => ?_)
    have q2539 := w2537 3 (by decide)
    have q2540 := w2537 5 (by decide)
    have Xz2541 : EK [0, 10, 13] P Y2534 := Xz2528.tr (Xy2536.mono (by decide))
    have h2542 := Xy2536.at h2529
    exact ret _ _ _ _ _ dX10_give_36 (by decide) (by decide) ⟨Iy2535, Xz2541⟩
  refine g_iload_n C dX10_give_0 rfl 1 rfl ?_
  refine g_aload_n C dX10_give_1 rfl 0 rfl ?_
  refine g_getI C fi_X10_35 (by decide) (ha0).1 (ha0).2 dX10_give_2 ?_
  have h2543 := I.rg (ha0) 3 rfl
  refine b_icmp_ge C 14 dX10_give_5 (by decide) (fun h2544 => ?_) (fun h2544 => ?_)
  · have h2544 : (pI P a0 3).toInt ≤ a1.toInt := h2544
    refine g_lv (lv' := [(0, .ref a0), (2, .int a2)]) [0, 2] rfl ?_
    exact J14 (by omega)
  · have h2544 : a1.toInt < (pI P a0 3).toInt := h2544
    refine g_iload_n C dX10_give_8 rfl 1 rfl ?_
    refine g_bipush (v := 6) C dX10_give_9 (by decide) ?_
    refine b_icmp_lt C 37 dX10_give_11 (by decide) (fun h2545 => ?_) (fun h2545 => ?_)
    · have h2545 : a1.toInt < 6 := h2545
      refine g_aload_n C dX10_give_37 rfl 0 rfl ?_
      obtain ⟨b2546, e2547, h2548⟩ := I.fld (ha0) 0 20 6 rfl
      refine g_getR C fi_X10_11 rfl e2547 (ha0).1 (ha0).2 dX10_give_38 ?_
      refine g_iload_n C dX10_give_41 rfl 1 rfl ?_
      refine g_aldQ (j := (a1.toInt.toNat)) C h2548.1 h2548.2.1 (by decide) (ix_in h2548.2.2 (by omega)) dX10_give_42 ?_
      rcases I.pap h2548 (a1.toInt.toNat) with e2550 | ⟨b2549, e2550, h2551⟩
      · rw [e2550]
        show G _ _ _ _ _ _ _ _ _ _ (.null :: _)
        refine g_astore_nN (lv' := [(3, .null), (0, .ref a0), (1, .int a1), (2, .int a2)]) C dX10_give_43 rfl (by decide) rfl ?_
        refine g_aload_nN C dX10_give_44 rfl 0 rfl ?_
        refine g_ifnullN C 72 dX10_give_45 (by decide) ?_
        exact ret _ _ _ _ _ dX10_give_72 (by decide) (by decide) ⟨I, EK.rf⟩
      · rw [e2550]
        show G _ _ _ _ _ _ _ _ _ _ (.ref b2549 :: _)
        refine g_astore_n (lv' := [(3, .ref b2549), (0, .ref a0), (1, .int a1), (2, .int a2)]) C dX10_give_43 rfl (by decide) rfl ?_
        refine g_aload_n C dX10_give_44 rfl 0 rfl ?_
        refine g_ifnull C dX10_give_45 ?_
        refine g_iconst (v := 0) C dX10_give_48 (by decide) ?_
        refine g_istore (lv' := [(4, .int 0), (3, .ref b2549), (0, .ref a0), (1, .int a1), (2, .int a2)]) C dX10_give_49 (by decide) rfl ?_
        refine g_lv (lv' := [(0, .ref a0), (1, .int a1), (2, .int a2), (3, .ref b2549), (4, .int 0)]) [2, 3, 4, 1, 0] rfl ?_
        exact J51 _ P b2549 0 (Nat.lt_succ_self _) I EK.rf h2551 (by decide)
    · have h2545 : 6 ≤ a1.toInt := h2545
      omega
set_option maxHeartbeats 4000000 in
set_option maxRecDepth 100000 in
theorem s_X10_tryBook_L4 {P : PP} {a0 : Nat} {a1 : Int32} {a2 : Int32} {a3 : Nat} {a4 : Int32} (I : IV P) (ha0 : At P a0 10) (ha1 : 2 ≤ a1.toInt ∧ a1.toInt ≤ 2) (ha3 : At P a3 7) (ha4 : 0 ≤ a4.toInt ∧ a4.toInt ≤ 1) : CtrV yX10_tryBook cX10_tryBook 9 none ({ frames := 9, cells := 0, slots := 0, locals := 576 } : Room) 0 0 P [.ref a0, .int a1, .int a2, .ref a3, .int a4] (fun P2 => IV P2 ∧ EK [0, 10, 13] P P2) := by
  refine enV (lv := [(0, .ref a0), (1, .int a1), (2, .int a2), (3, .ref a3), (4, .int a4)]) (by decide) (Nat.le_of_ble_eq_true rfl) rfl (fun E D cy C Ci0 ret => ?_)
  have J85 : ∀ (P85 : PP) (b85_5 : Nat) (b85_6 : Nat) (v85_7 : Int32) (v85_8 : Int32), (IV P85) → (EK [0, 10, 13] P P85) → (At P85 b85_5 0) → (At P85 b85_6 0) → (0 ≤ v85_7.toInt ∧ v85_7.toInt ≤ 20) → (0 ≤ v85_8.toInt ∧ v85_8.toInt ≤ 20) → G E ({ frames := 9, cells := 0, slots := 0, locals := 576 } : Room) D cy 9 P85 0 0 85 [(5, .ref b85_5), (6, .ref b85_6), (7, .int v85_7), (8, .int v85_8)] [] := by
    intro P85 b85_5 b85_6 v85_7 v85_8 I85 X85 hb85_5 hb85_6 hv85_7 hv85_8
    have h2636 := X85.at ha0
    have h2637 := X85.at ha3
    refine g_aload C dX10_tryBook_85 0 rfl ?_
    refine g_iload C dX10_tryBook_87 2 rfl ?_
    refine g_callVV (rest := []) C mv_X10_79 [.int v85_7] (s_X0_cut I85 hb85_5) (hb85_5).1 (hb85_5).2 rfl rfl (by decide) (Nat.le_of_ble_eq_true rfl) (by decide) dX10_tryBook_89 (fun Y2639 h2640 => ?_)
    obtain ⟨Iy2641, Xy2642⟩ := h2640
    have Xz2643 : EK [0, 10, 13] P Y2639 := X85.tr (Xy2642.mono (by decide))
    have h2644 := Xy2642.at h2636
    have h2645 := Xy2642.at h2637
    have h2646 := Xy2642.at hb85_5
    have h2647 := Xy2642.at hb85_6
    refine g_aload C dX10_tryBook_92 1 rfl ?_
    refine g_iload C dX10_tryBook_94 3 rfl ?_
    refine g_callVV (rest := []) C mv_X10_79 [.int v85_8] (s_X0_cut Iy2641 h2647) (h2647).1 (h2647).2 rfl rfl (by decide) (Nat.le_of_ble_eq_true rfl) (by decide) dX10_tryBook_96 (fun Y2649 h2650 => ?_)
    obtain ⟨Iy2651, Xy2652⟩ := h2650
    have Xz2653 : EK [0, 10, 13] P Y2649 := Xz2643.tr (Xy2652.mono (by decide))
    have h2654 := Xy2652.at h2644
    have h2655 := Xy2652.at h2645
    have h2656 := Xy2652.at h2646
    have h2657 := Xy2652.at h2647
    exact ret _ _ _ _ _ dX10_tryBook_99 (by decide) (by decide) ⟨Iy2651, Xz2653⟩
  refine g_aload_n C dX10_tryBook_0 rfl 0 rfl ?_
  refine g_iload C dX10_tryBook_1 4 rfl ?_
  refine g_iconst (v := 0) C dX10_tryBook_3 (by decide) ?_
  refine g_callVQ (rest := []) C mv_X10_64 [.int a4, .int 0] (s_X10_basisOf I ha0 (by omega) (by decide)) (ha0).1 (ha0).2 rfl rfl (by decide) (Nat.le_of_ble_eq_true rfl) (by decide) dX10_tryBook_4 (fun r2658 Y2659 h2660 => ?_)
  obtain ⟨rfl, h2660⟩ := h2660
  obtain ⟨b2662, rfl, h2660⟩ := h2660
  show G _ _ _ _ _ _ _ _ _ _ (.ref b2662 :: _)
  refine g_astore (lv' := [(5, .ref b2662), (0, .ref a0), (1, .int a1), (2, .int a2), (3, .ref a3), (4, .int a4)]) C dX10_tryBook_7 (by decide) rfl ?_
  refine g_aload_n C dX10_tryBook_9 rfl 1 rfl ?_
  refine g_iload C dX10_tryBook_10 5 rfl ?_
  refine g_iconst (v := 1) C dX10_tryBook_12 (by decide) ?_
  refine g_callVQ (rest := []) C mv_X10_64 [.int a4, .int 1] (s_X10_basisOf I ha0 (by omega) (by decide)) (ha0).1 (ha0).2 rfl rfl (by decide) (Nat.le_of_ble_eq_true rfl) (by decide) dX10_tryBook_13 (fun r2663 Y2664 h2665 => ?_)
  obtain ⟨rfl, h2665⟩ := h2665
  obtain ⟨b2667, rfl, h2665⟩ := h2665
  show G _ _ _ _ _ _ _ _ _ _ (.ref b2667 :: _)
  refine g_astore (lv' := [(6, .ref b2667), (5, .ref b2662), (0, .ref a0), (1, .int a1), (2, .int a2), (3, .ref a3), (4, .int a4)]) C dX10_tryBook_16 (by decide) rfl ?_
  refine g_aload C dX10_tryBook_18 1 rfl ?_
  refine g_getI C fi_X10_68 (by decide) (h2660).1 (h2660).2 dX10_tryBook_20 ?_
  have h2668 := I.rg (h2660) 2 rfl
  refine g_topi (fun z2669 h2670 => ?_)
  have h2670 : z2669.toInt = (pI P b2662 2).toInt := congrArg Int32.toInt h2670
  refine g_istore (lv' := [(7, .int z2669), (6, .ref b2667), (5, .ref b2662), (0, .ref a0), (1, .int a1), (2, .int a2), (3, .ref a3), (4, .int a4)]) C dX10_tryBook_23 (by decide) rfl ?_
  refine g_aload C dX10_tryBook_25 1 rfl ?_
  refine g_getI C fi_X10_68 (by decide) (h2665).1 (h2665).2 dX10_tryBook_27 ?_
  have h2671 := I.rg (h2665) 2 rfl
  refine g_topi (fun z2672 h2673 => ?_)
  have h2673 : z2672.toInt = (pI P b2667 2).toInt := congrArg Int32.toInt h2673
  refine g_istore (lv' := [(8, .int z2672), (7, .int z2669), (6, .ref b2667), (5, .ref b2662), (0, .ref a0), (1, .int a1), (2, .int a2), (3, .ref a3), (4, .int a4)]) C dX10_tryBook_30 (by decide) rfl ?_
  refine g_aload C dX10_tryBook_32 3 rfl ?_
  refine g_aload_n C dX10_tryBook_34 rfl 7 rfl ?_
  refine g_iload C dX10_tryBook_35 8 rfl ?_
  refine g_iconst (v := 0) C dX10_tryBook_37 (by decide) ?_
  refine g_callVI (rest := [.ref b2662]) C mv_X10_71 [.int a4, .int 0] (s_X7_equation I ha3) (ha3).1 (ha3).2 rfl rfl (by decide) (Nat.le_of_ble_eq_true rfl) (by decide) dX10_tryBook_38 (fun r2674 Y2675 h2676 => ?_)
  obtain ⟨rfl, h2676⟩ := h2676
  have h2676 : True := h2676
  refine g_callVV (rest := []) C mv_X10_75 [.int r2674] (s_X0_add I h2660) (h2660).1 (h2660).2 rfl rfl (by decide) (Nat.le_of_ble_eq_true rfl) (by decide) dX10_tryBook_41 (fun Y2678 h2679 => ?_)
  obtain ⟨Iy2680, Xy2681⟩ := h2679
  have Xz2682 : EK [0, 10, 13] P Y2678 := Xy2681.mono (by decide)
  have h2683 := Xy2681.at ha0
  have h2684 := Xy2681.at ha3
  have h2685 := Xy2681.at h2660
  have h2686 := Xy2681.at h2665
  refine g_aload C dX10_tryBook_44 2 rfl ?_
  refine g_aload_n C dX10_tryBook_46 rfl 7 rfl ?_
  refine g_iload C dX10_tryBook_47 8 rfl ?_
  refine g_iconst (v := 1) C dX10_tryBook_49 (by decide) ?_
  refine g_callVI (rest := [.ref b2667]) C mv_X10_71 [.int a4, .int 1] (s_X7_equation Iy2680 h2684) (h2684).1 (h2684).2 rfl rfl (by decide) (Nat.le_of_ble_eq_true rfl) (by decide) dX10_tryBook_50 (fun r2687 Y2688 h2689 => ?_)
  obtain ⟨rfl, h2689⟩ := h2689
  have h2689 : True := h2689
  refine g_callVV (rest := []) C mv_X10_75 [.int r2687] (s_X0_add Iy2680 h2686) (h2686).1 (h2686).2 rfl rfl (by decide) (Nat.le_of_ble_eq_true rfl) (by decide) dX10_tryBook_53 (fun Y2691 h2692 => ?_)
  obtain ⟨Iy2693, Xy2694⟩ := h2692
  have Xz2695 : EK [0, 10, 13] P Y2691 := Xz2682.tr (Xy2694.mono (by decide))
  have h2696 := Xy2694.at h2683
  have h2697 := Xy2694.at h2684
  have h2698 := Xy2694.at h2685
  have h2699 := Xy2694.at h2686
  refine g_aload C dX10_tryBook_56 3 rfl ?_
  refine g_getI C fi_X10_56 (by decide) (h2698).1 (h2698).2 dX10_tryBook_58 ?_
  have h2700 := Iy2693.rg (h2698) 3 rfl
  refine b_if_eq C 85 dX10_tryBook_61 (by decide) (fun h2701 => ?_) (fun h2701 => ?_)
  · have h2701 : (pI Y2691 b2662 3).toInt = 0 := congrArg Int32.toInt h2701
    refine g_lv (lv' := [(5, .ref b2662), (6, .ref b2667), (7, .int z2669), (8, .int z2672)]) [3, 2, 1, 0] rfl ?_
    exact J85 Y2691 b2662 b2667 z2669 z2672 Iy2693 Xz2695 h2698 h2699 (by omega) (by omega)
  · have h2701 : (pI Y2691 b2662 3).toInt ≠ 0 := ti_ne h2701
    refine g_aload C dX10_tryBook_64 2 rfl ?_
    refine g_getI C fi_X10_56 (by decide) (h2699).1 (h2699).2 dX10_tryBook_66 ?_
    have h2702 := Iy2693.rg (h2699) 3 rfl
    refine b_if_eq C 85 dX10_tryBook_69 (by decide) (fun h2703 => ?_) (fun h2703 => ?_)
    · have h2703 : (pI Y2691 b2667 3).toInt = 0 := congrArg Int32.toInt h2703
      refine g_lv (lv' := [(5, .ref b2662), (6, .ref b2667), (7, .int z2669), (8, .int z2672)]) [3, 2, 1, 0] rfl ?_
      exact J85 Y2691 b2662 b2667 z2669 z2672 Iy2693 Xz2695 h2698 h2699 (by omega) (by omega)
    · have h2703 : (pI Y2691 b2667 3).toInt ≠ 0 := ti_ne h2703
      refine g_aload_n C dX10_tryBook_72 rfl 4 rfl ?_
      refine g_iload_n C dX10_tryBook_73 rfl 5 rfl ?_
      refine g_iconst (v := 1) C dX10_tryBook_74 (by decide) ?_
      refine s_iadd C dX10_tryBook_75 (by show -2147483648 ≤ a1.toInt + 1 ∧ a1.toInt + 1 ≤ 2147483647; omega) (fun z2704 h2705 => ?_)
      have h2705 : z2704.toInt = a1.toInt + 1 := h2705
      refine g_iload_n C dX10_tryBook_76 rfl 6 rfl ?_
      refine g_iload C dX10_tryBook_77 8 rfl ?_
      refine g_iload_n C dX10_tryBook_79 rfl 5 rfl ?_
      refine a_ishl C dX10_tryBook_80 (fun z2706 => ?_)
      refine a_ior C dX10_tryBook_81 (fun z2708 => ?_)
      refine g_callVV (rest := []) C mv_X10_52 [.int z2704, .int z2708] (s_X10_give_L3 Iy2693 h2696 (by omega)) (h2696).1 (h2696).2 rfl rfl (by decide) (Nat.le_of_ble_eq_true rfl) (by decide) dX10_tryBook_82 (fun Y2711 h2712 => ?_)
      obtain ⟨Iy2713, Xy2714⟩ := h2712
      have Xz2715 : EK [0, 10, 13] P Y2711 := Xz2695.tr (Xy2714.mono (by decide))
      have h2716 := Xy2714.at h2696
      have h2717 := Xy2714.at h2697
      have h2718 := Xy2714.at h2698
      have h2719 := Xy2714.at h2699
      refine g_lv (lv' := [(5, .ref b2662), (6, .ref b2667), (7, .int z2669), (8, .int z2672)]) [3, 2, 1, 0] rfl ?_
      exact J85 Y2711 b2662 b2667 z2669 z2672 Iy2713 Xz2715 h2718 h2719 (by omega) (by omega)
set_option maxHeartbeats 4000000 in
set_option maxRecDepth 100000 in
theorem s_X10_give_L4 {P : PP} {a0 : Nat} {a1 : Int32} {a2 : Int32} (I : IV P) (ha0 : At P a0 10) (ha1 : 2 ≤ a1.toInt ∧ a1.toInt ≤ 2) : CtrV yX10_give cX10_give 5 none ({ frames := 10, cells := 0, slots := 0, locals := 640 } : Room) 0 0 P [.ref a0, .int a1, .int a2] (fun P2 => IV P2 ∧ EK [0, 10, 13] P P2) := by
  refine enV (lv := [(0, .ref a0), (1, .int a1), (2, .int a2)]) (by decide) (Nat.le_of_ble_eq_true rfl) rfl (fun E D cy C Ci0 ret => ?_)
  have J51 : ∀ (n51 : Nat) (P51 : PP) (b51_3 : Nat) (v51_4 : Int32), (2 - v51_4.toInt).toNat < n51 → (IV P51) → (EK [0, 10, 13] P P51) → (At P51 b51_3 7) → (0 ≤ v51_4.toInt ∧ v51_4.toInt ≤ 2) → G E ({ frames := 10, cells := 0, slots := 0, locals := 640 } : Room) D cy 5 P51 0 0 51 [(0, .ref a0), (1, .int a1), (2, .int a2), (3, .ref b51_3), (4, .int v51_4)] [] := by
    intro n51
    induction n51 with
    | zero => intro P51 b51_3 v51_4 hm51 I51 X51 hb51_3 hv51_4; omega
    | succ n51 ih51 =>
      intro P51 b51_3 v51_4 hm51 I51 X51 hb51_3 hv51_4
      have h2787 := X51.at ha0
      refine g_iload C dX10_give_51 4 rfl ?_
      refine g_iconst (v := 2) C dX10_give_53 (by decide) ?_
      refine b_icmp_ge C 72 dX10_give_54 (by decide) (fun h2788 => ?_) (fun h2788 => ?_)
      · have h2788 : 2 ≤ v51_4.toInt := h2788
        exact ret _ _ _ _ _ dX10_give_72 (by decide) (by decide) ⟨I51, X51⟩
      · have h2788 : v51_4.toInt < 2 := h2788
        refine g_aload_n C dX10_give_57 rfl 0 rfl ?_
        refine g_iload_n C dX10_give_58 rfl 1 rfl ?_
        refine g_iload_n C dX10_give_59 rfl 2 rfl ?_
        refine g_aload_n C dX10_give_60 rfl 3 rfl ?_
        refine g_iload C dX10_give_61 4 rfl ?_
        refine g_callVV (rest := []) C mv_X10_60 [.int a1, .int a2, .ref b51_3, .int v51_4] (s_X10_tryBook_L4 I51 h2787 (by omega) hb51_3 (by omega)) (h2787).1 (h2787).2 rfl rfl (by decide) (Nat.le_of_ble_eq_true rfl) (by decide) dX10_give_63 (fun Y2790 h2791 => ?_)
        obtain ⟨Iy2792, Xy2793⟩ := h2791
        have Xz2794 : EK [0, 10, 13] P Y2790 := X51.tr (Xy2793.mono (by decide))
        have h2795 := Xy2793.at h2787
        have h2796 := Xy2793.at hb51_3
        refine s_iinc (lv0 := [(0, .ref a0), (1, .int a1), (2, .int a2), (3, .ref b51_3)]) (m := 1) C dX10_give_66 4 rfl (by decide) rfl (by decide) (by omega) (fun z2797 h2798 => ?_)
        have h2798 : z2797.toInt = v51_4.toInt + 1 := h2798
        refine g_goto C 51 dX10_give_69 (by decide) ?_
        refine g_lv (lv' := [(0, .ref a0), (1, .int a1), (2, .int a2), (3, .ref b51_3), (4, .int z2797)]) [1, 2, 3, 4, 0] rfl ?_
        exact ih51 Y2790 b51_3 z2797 (by omega) Iy2792 Xz2794 h2796 (by omega)
  have J14 : (0 ≤ (pI P a0 3).toInt ∧ (pI P a0 3).toInt ≤ 2) → G E ({ frames := 10, cells := 0, slots := 0, locals := 640 } : Room) D cy 5 P 0 0 14 [(0, .ref a0), (2, .int a2)] [] := by
    intro hq14_0
    refine g_aload_n C dX10_give_14 rfl 0 rfl ?_
    refine g_dup C dX10_give_15 rfl ?_
    refine g_getI C fi_X10_32 (by decide) (ha0).1 (ha0).2 dX10_give_16 ?_
    refine g_iload_n C dX10_give_19 rfl 1 rfl ?_
    refine a_ior C dX10_give_20 (fun z2799 => ?_)
    refine g_putI C fi_X10_32 rfl (ha0).1 (ha0).2 dX10_give_21 ?_
    refine gpW (ks := [10]) (I.setI (ha0) (rgOk.none rfl)) (EK.setI (ha0).2 (by decide)) (fun Y2801 Iy2802 Xy2803 w2804 w2805 => ?_)
    have q2806 := w2804 3 (by decide)
    have Xz2807 : EK [0, 10, 13] P Y2801 := Xy2803.mono (by decide)
    have h2808 := Xy2803.at ha0
    refine g_aload_n C dX10_give_24 rfl 0 rfl ?_
    refine g_dup C dX10_give_25 rfl ?_
    refine g_getI C fi_X10_28 (by decide) (h2808).1 (h2808).2 dX10_give_26 ?_
    refine g_iload_n C dX10_give_29 rfl 1 rfl ?_
    refine g_iconst (v := (-1)) C dX10_give_30 (by decide) ?_
    refine a_ixor C dX10_give_31 (fun z2809 => ?_)
    refine a_ior C dX10_give_32 (fun z2811 => ?_)
    refine g_putI C fi_X10_28 rfl (h2808).1 (h2808).2 dX10_give_33 ?_
    refine gpW (ks := [10]) (Iy2802.setI (h2808) (rgOk.none rfl)) (EK.setI (h2808).2 (by decide)) (fun Y2813 Iy2814 Xy2815 w2816 w2817 => ?_)
    have q2818 := w2816 3 (by decide)
    have q2819 := w2816 5 (by decide)
    have Xz2820 : EK [0, 10, 13] P Y2813 := Xz2807.tr (Xy2815.mono (by decide))
    have h2821 := Xy2815.at h2808
    exact ret _ _ _ _ _ dX10_give_36 (by decide) (by decide) ⟨Iy2814, Xz2820⟩
  refine g_iload_n C dX10_give_0 rfl 1 rfl ?_
  refine g_aload_n C dX10_give_1 rfl 0 rfl ?_
  refine g_getI C fi_X10_35 (by decide) (ha0).1 (ha0).2 dX10_give_2 ?_
  have h2822 := I.rg (ha0) 3 rfl
  refine b_icmp_ge C 14 dX10_give_5 (by decide) (fun h2823 => ?_) (fun h2823 => ?_)
  · have h2823 : (pI P a0 3).toInt ≤ a1.toInt := h2823
    refine g_lv (lv' := [(0, .ref a0), (2, .int a2)]) [0, 2] rfl ?_
    exact J14 (by omega)
  · have h2823 : a1.toInt < (pI P a0 3).toInt := h2823
    refine g_iload_n C dX10_give_8 rfl 1 rfl ?_
    refine g_bipush (v := 6) C dX10_give_9 (by decide) ?_
    refine b_icmp_lt C 37 dX10_give_11 (by decide) (fun h2824 => ?_) (fun h2824 => ?_)
    · have h2824 : a1.toInt < 6 := h2824
      refine g_aload_n C dX10_give_37 rfl 0 rfl ?_
      obtain ⟨b2825, e2826, h2827⟩ := I.fld (ha0) 0 20 6 rfl
      refine g_getR C fi_X10_11 rfl e2826 (ha0).1 (ha0).2 dX10_give_38 ?_
      refine g_iload_n C dX10_give_41 rfl 1 rfl ?_
      refine g_aldQ (j := (a1.toInt.toNat)) C h2827.1 h2827.2.1 (by decide) (ix_in h2827.2.2 (by omega)) dX10_give_42 ?_
      rcases I.pap h2827 (a1.toInt.toNat) with e2829 | ⟨b2828, e2829, h2830⟩
      · rw [e2829]
        show G _ _ _ _ _ _ _ _ _ _ (.null :: _)
        refine g_astore_nN (lv' := [(3, .null), (0, .ref a0), (1, .int a1), (2, .int a2)]) C dX10_give_43 rfl (by decide) rfl ?_
        refine g_aload_nN C dX10_give_44 rfl 0 rfl ?_
        refine g_ifnullN C 72 dX10_give_45 (by decide) ?_
        exact ret _ _ _ _ _ dX10_give_72 (by decide) (by decide) ⟨I, EK.rf⟩
      · rw [e2829]
        show G _ _ _ _ _ _ _ _ _ _ (.ref b2828 :: _)
        refine g_astore_n (lv' := [(3, .ref b2828), (0, .ref a0), (1, .int a1), (2, .int a2)]) C dX10_give_43 rfl (by decide) rfl ?_
        refine g_aload_n C dX10_give_44 rfl 0 rfl ?_
        refine g_ifnull C dX10_give_45 ?_
        refine g_iconst (v := 0) C dX10_give_48 (by decide) ?_
        refine g_istore (lv' := [(4, .int 0), (3, .ref b2828), (0, .ref a0), (1, .int a1), (2, .int a2)]) C dX10_give_49 (by decide) rfl ?_
        refine g_lv (lv' := [(0, .ref a0), (1, .int a1), (2, .int a2), (3, .ref b2828), (4, .int 0)]) [2, 3, 4, 1, 0] rfl ?_
        exact J51 _ P b2828 0 (Nat.lt_succ_self _) I EK.rf h2830 (by decide)
    · have h2824 : 6 ≤ a1.toInt := h2824
      omega
set_option maxHeartbeats 4000000 in
set_option maxRecDepth 100000 in
theorem s_X10_tryBook_L5 {P : PP} {a0 : Nat} {a1 : Int32} {a2 : Int32} {a3 : Nat} {a4 : Int32} (I : IV P) (ha0 : At P a0 10) (ha1 : 1 ≤ a1.toInt ∧ a1.toInt ≤ 1) (ha3 : At P a3 7) (ha4 : 0 ≤ a4.toInt ∧ a4.toInt ≤ 1) : CtrV yX10_tryBook cX10_tryBook 9 none ({ frames := 11, cells := 0, slots := 0, locals := 704 } : Room) 0 0 P [.ref a0, .int a1, .int a2, .ref a3, .int a4] (fun P2 => IV P2 ∧ EK [0, 10, 13] P P2) := by
  refine enV (lv := [(0, .ref a0), (1, .int a1), (2, .int a2), (3, .ref a3), (4, .int a4)]) (by decide) (Nat.le_of_ble_eq_true rfl) rfl (fun E D cy C Ci0 ret => ?_)
  have J85 : ∀ (P85 : PP) (b85_5 : Nat) (b85_6 : Nat) (v85_7 : Int32) (v85_8 : Int32), (IV P85) → (EK [0, 10, 13] P P85) → (At P85 b85_5 0) → (At P85 b85_6 0) → (0 ≤ v85_7.toInt ∧ v85_7.toInt ≤ 20) → (0 ≤ v85_8.toInt ∧ v85_8.toInt ≤ 20) → G E ({ frames := 11, cells := 0, slots := 0, locals := 704 } : Room) D cy 9 P85 0 0 85 [(5, .ref b85_5), (6, .ref b85_6), (7, .int v85_7), (8, .int v85_8)] [] := by
    intro P85 b85_5 b85_6 v85_7 v85_8 I85 X85 hb85_5 hb85_6 hv85_7 hv85_8
    have h2915 := X85.at ha0
    have h2916 := X85.at ha3
    refine g_aload C dX10_tryBook_85 0 rfl ?_
    refine g_iload C dX10_tryBook_87 2 rfl ?_
    refine g_callVV (rest := []) C mv_X10_79 [.int v85_7] (s_X0_cut I85 hb85_5) (hb85_5).1 (hb85_5).2 rfl rfl (by decide) (Nat.le_of_ble_eq_true rfl) (by decide) dX10_tryBook_89 (fun Y2918 h2919 => ?_)
    obtain ⟨Iy2920, Xy2921⟩ := h2919
    have Xz2922 : EK [0, 10, 13] P Y2918 := X85.tr (Xy2921.mono (by decide))
    have h2923 := Xy2921.at h2915
    have h2924 := Xy2921.at h2916
    have h2925 := Xy2921.at hb85_5
    have h2926 := Xy2921.at hb85_6
    refine g_aload C dX10_tryBook_92 1 rfl ?_
    refine g_iload C dX10_tryBook_94 3 rfl ?_
    refine g_callVV (rest := []) C mv_X10_79 [.int v85_8] (s_X0_cut Iy2920 h2926) (h2926).1 (h2926).2 rfl rfl (by decide) (Nat.le_of_ble_eq_true rfl) (by decide) dX10_tryBook_96 (fun Y2928 h2929 => ?_)
    obtain ⟨Iy2930, Xy2931⟩ := h2929
    have Xz2932 : EK [0, 10, 13] P Y2928 := Xz2922.tr (Xy2931.mono (by decide))
    have h2933 := Xy2931.at h2923
    have h2934 := Xy2931.at h2924
    have h2935 := Xy2931.at h2925
    have h2936 := Xy2931.at h2926
    exact ret _ _ _ _ _ dX10_tryBook_99 (by decide) (by decide) ⟨Iy2930, Xz2932⟩
  refine g_aload_n C dX10_tryBook_0 rfl 0 rfl ?_
  refine g_iload C dX10_tryBook_1 4 rfl ?_
  refine g_iconst (v := 0) C dX10_tryBook_3 (by decide) ?_
  refine g_callVQ (rest := []) C mv_X10_64 [.int a4, .int 0] (s_X10_basisOf I ha0 (by omega) (by decide)) (ha0).1 (ha0).2 rfl rfl (by decide) (Nat.le_of_ble_eq_true rfl) (by decide) dX10_tryBook_4 (fun r2937 Y2938 h2939 => ?_)
  obtain ⟨rfl, h2939⟩ := h2939
  obtain ⟨b2941, rfl, h2939⟩ := h2939
  show G _ _ _ _ _ _ _ _ _ _ (.ref b2941 :: _)
  refine g_astore (lv' := [(5, .ref b2941), (0, .ref a0), (1, .int a1), (2, .int a2), (3, .ref a3), (4, .int a4)]) C dX10_tryBook_7 (by decide) rfl ?_
  refine g_aload_n C dX10_tryBook_9 rfl 1 rfl ?_
  refine g_iload C dX10_tryBook_10 5 rfl ?_
  refine g_iconst (v := 1) C dX10_tryBook_12 (by decide) ?_
  refine g_callVQ (rest := []) C mv_X10_64 [.int a4, .int 1] (s_X10_basisOf I ha0 (by omega) (by decide)) (ha0).1 (ha0).2 rfl rfl (by decide) (Nat.le_of_ble_eq_true rfl) (by decide) dX10_tryBook_13 (fun r2942 Y2943 h2944 => ?_)
  obtain ⟨rfl, h2944⟩ := h2944
  obtain ⟨b2946, rfl, h2944⟩ := h2944
  show G _ _ _ _ _ _ _ _ _ _ (.ref b2946 :: _)
  refine g_astore (lv' := [(6, .ref b2946), (5, .ref b2941), (0, .ref a0), (1, .int a1), (2, .int a2), (3, .ref a3), (4, .int a4)]) C dX10_tryBook_16 (by decide) rfl ?_
  refine g_aload C dX10_tryBook_18 1 rfl ?_
  refine g_getI C fi_X10_68 (by decide) (h2939).1 (h2939).2 dX10_tryBook_20 ?_
  have h2947 := I.rg (h2939) 2 rfl
  refine g_topi (fun z2948 h2949 => ?_)
  have h2949 : z2948.toInt = (pI P b2941 2).toInt := congrArg Int32.toInt h2949
  refine g_istore (lv' := [(7, .int z2948), (6, .ref b2946), (5, .ref b2941), (0, .ref a0), (1, .int a1), (2, .int a2), (3, .ref a3), (4, .int a4)]) C dX10_tryBook_23 (by decide) rfl ?_
  refine g_aload C dX10_tryBook_25 1 rfl ?_
  refine g_getI C fi_X10_68 (by decide) (h2944).1 (h2944).2 dX10_tryBook_27 ?_
  have h2950 := I.rg (h2944) 2 rfl
  refine g_topi (fun z2951 h2952 => ?_)
  have h2952 : z2951.toInt = (pI P b2946 2).toInt := congrArg Int32.toInt h2952
  refine g_istore (lv' := [(8, .int z2951), (7, .int z2948), (6, .ref b2946), (5, .ref b2941), (0, .ref a0), (1, .int a1), (2, .int a2), (3, .ref a3), (4, .int a4)]) C dX10_tryBook_30 (by decide) rfl ?_
  refine g_aload C dX10_tryBook_32 3 rfl ?_
  refine g_aload_n C dX10_tryBook_34 rfl 7 rfl ?_
  refine g_iload C dX10_tryBook_35 8 rfl ?_
  refine g_iconst (v := 0) C dX10_tryBook_37 (by decide) ?_
  refine g_callVI (rest := [.ref b2941]) C mv_X10_71 [.int a4, .int 0] (s_X7_equation I ha3) (ha3).1 (ha3).2 rfl rfl (by decide) (Nat.le_of_ble_eq_true rfl) (by decide) dX10_tryBook_38 (fun r2953 Y2954 h2955 => ?_)
  obtain ⟨rfl, h2955⟩ := h2955
  have h2955 : True := h2955
  refine g_callVV (rest := []) C mv_X10_75 [.int r2953] (s_X0_add I h2939) (h2939).1 (h2939).2 rfl rfl (by decide) (Nat.le_of_ble_eq_true rfl) (by decide) dX10_tryBook_41 (fun Y2957 h2958 => ?_)
  obtain ⟨Iy2959, Xy2960⟩ := h2958
  have Xz2961 : EK [0, 10, 13] P Y2957 := Xy2960.mono (by decide)
  have h2962 := Xy2960.at ha0
  have h2963 := Xy2960.at ha3
  have h2964 := Xy2960.at h2939
  have h2965 := Xy2960.at h2944
  refine g_aload C dX10_tryBook_44 2 rfl ?_
  refine g_aload_n C dX10_tryBook_46 rfl 7 rfl ?_
  refine g_iload C dX10_tryBook_47 8 rfl ?_
  refine g_iconst (v := 1) C dX10_tryBook_49 (by decide) ?_
  refine g_callVI (rest := [.ref b2946]) C mv_X10_71 [.int a4, .int 1] (s_X7_equation Iy2959 h2963) (h2963).1 (h2963).2 rfl rfl (by decide) (Nat.le_of_ble_eq_true rfl) (by decide) dX10_tryBook_50 (fun r2966 Y2967 h2968 => ?_)
  obtain ⟨rfl, h2968⟩ := h2968
  have h2968 : True := h2968
  refine g_callVV (rest := []) C mv_X10_75 [.int r2966] (s_X0_add Iy2959 h2965) (h2965).1 (h2965).2 rfl rfl (by decide) (Nat.le_of_ble_eq_true rfl) (by decide) dX10_tryBook_53 (fun Y2970 h2971 => ?_)
  obtain ⟨Iy2972, Xy2973⟩ := h2971
  have Xz2974 : EK [0, 10, 13] P Y2970 := Xz2961.tr (Xy2973.mono (by decide))
  have h2975 := Xy2973.at h2962
  have h2976 := Xy2973.at h2963
  have h2977 := Xy2973.at h2964
  have h2978 := Xy2973.at h2965
  refine g_aload C dX10_tryBook_56 3 rfl ?_
  refine g_getI C fi_X10_56 (by decide) (h2977).1 (h2977).2 dX10_tryBook_58 ?_
  have h2979 := Iy2972.rg (h2977) 3 rfl
  refine b_if_eq C 85 dX10_tryBook_61 (by decide) (fun h2980 => ?_) (fun h2980 => ?_)
  · have h2980 : (pI Y2970 b2941 3).toInt = 0 := congrArg Int32.toInt h2980
    refine g_lv (lv' := [(5, .ref b2941), (6, .ref b2946), (7, .int z2948), (8, .int z2951)]) [3, 2, 1, 0] rfl ?_
    exact J85 Y2970 b2941 b2946 z2948 z2951 Iy2972 Xz2974 h2977 h2978 (by omega) (by omega)
  · have h2980 : (pI Y2970 b2941 3).toInt ≠ 0 := ti_ne h2980
    refine g_aload C dX10_tryBook_64 2 rfl ?_
    refine g_getI C fi_X10_56 (by decide) (h2978).1 (h2978).2 dX10_tryBook_66 ?_
    have h2981 := Iy2972.rg (h2978) 3 rfl
    refine b_if_eq C 85 dX10_tryBook_69 (by decide) (fun h2982 => ?_) (fun h2982 => ?_)
    · have h2982 : (pI Y2970 b2946 3).toInt = 0 := congrArg Int32.toInt h2982
      refine g_lv (lv' := [(5, .ref b2941), (6, .ref b2946), (7, .int z2948), (8, .int z2951)]) [3, 2, 1, 0] rfl ?_
      exact J85 Y2970 b2941 b2946 z2948 z2951 Iy2972 Xz2974 h2977 h2978 (by omega) (by omega)
    · have h2982 : (pI Y2970 b2946 3).toInt ≠ 0 := ti_ne h2982
      refine g_aload_n C dX10_tryBook_72 rfl 4 rfl ?_
      refine g_iload_n C dX10_tryBook_73 rfl 5 rfl ?_
      refine g_iconst (v := 1) C dX10_tryBook_74 (by decide) ?_
      refine s_iadd C dX10_tryBook_75 (by show -2147483648 ≤ a1.toInt + 1 ∧ a1.toInt + 1 ≤ 2147483647; omega) (fun z2983 h2984 => ?_)
      have h2984 : z2983.toInt = a1.toInt + 1 := h2984
      refine g_iload_n C dX10_tryBook_76 rfl 6 rfl ?_
      refine g_iload C dX10_tryBook_77 8 rfl ?_
      refine g_iload_n C dX10_tryBook_79 rfl 5 rfl ?_
      refine a_ishl C dX10_tryBook_80 (fun z2985 => ?_)
      refine a_ior C dX10_tryBook_81 (fun z2987 => ?_)
      refine g_callVV (rest := []) C mv_X10_52 [.int z2983, .int z2987] (s_X10_give_L4 Iy2972 h2975 (by omega)) (h2975).1 (h2975).2 rfl rfl (by decide) (Nat.le_of_ble_eq_true rfl) (by decide) dX10_tryBook_82 (fun Y2990 h2991 => ?_)
      obtain ⟨Iy2992, Xy2993⟩ := h2991
      have Xz2994 : EK [0, 10, 13] P Y2990 := Xz2974.tr (Xy2993.mono (by decide))
      have h2995 := Xy2993.at h2975
      have h2996 := Xy2993.at h2976
      have h2997 := Xy2993.at h2977
      have h2998 := Xy2993.at h2978
      refine g_lv (lv' := [(5, .ref b2941), (6, .ref b2946), (7, .int z2948), (8, .int z2951)]) [3, 2, 1, 0] rfl ?_
      exact J85 Y2990 b2941 b2946 z2948 z2951 Iy2992 Xz2994 h2997 h2998 (by omega) (by omega)
set_option maxHeartbeats 4000000 in
set_option maxRecDepth 100000 in
theorem s_X10_give_L5 {P : PP} {a0 : Nat} {a1 : Int32} {a2 : Int32} (I : IV P) (ha0 : At P a0 10) (ha1 : 1 ≤ a1.toInt ∧ a1.toInt ≤ 1) : CtrV yX10_give cX10_give 5 none ({ frames := 12, cells := 0, slots := 0, locals := 768 } : Room) 0 0 P [.ref a0, .int a1, .int a2] (fun P2 => IV P2 ∧ EK [0, 10, 13] P P2) := by
  refine enV (lv := [(0, .ref a0), (1, .int a1), (2, .int a2)]) (by decide) (Nat.le_of_ble_eq_true rfl) rfl (fun E D cy C Ci0 ret => ?_)
  have J51 : ∀ (n51 : Nat) (P51 : PP) (b51_3 : Nat) (v51_4 : Int32), (2 - v51_4.toInt).toNat < n51 → (IV P51) → (EK [0, 10, 13] P P51) → (At P51 b51_3 7) → (0 ≤ v51_4.toInt ∧ v51_4.toInt ≤ 2) → G E ({ frames := 12, cells := 0, slots := 0, locals := 768 } : Room) D cy 5 P51 0 0 51 [(0, .ref a0), (1, .int a1), (2, .int a2), (3, .ref b51_3), (4, .int v51_4)] [] := by
    intro n51
    induction n51 with
    | zero => intro P51 b51_3 v51_4 hm51 I51 X51 hb51_3 hv51_4; omega
    | succ n51 ih51 =>
      intro P51 b51_3 v51_4 hm51 I51 X51 hb51_3 hv51_4
      have h3066 := X51.at ha0
      refine g_iload C dX10_give_51 4 rfl ?_
      refine g_iconst (v := 2) C dX10_give_53 (by decide) ?_
      refine b_icmp_ge C 72 dX10_give_54 (by decide) (fun h3067 => ?_) (fun h3067 => ?_)
      · have h3067 : 2 ≤ v51_4.toInt := h3067
        exact ret _ _ _ _ _ dX10_give_72 (by decide) (by decide) ⟨I51, X51⟩
      · have h3067 : v51_4.toInt < 2 := h3067
        refine g_aload_n C dX10_give_57 rfl 0 rfl ?_
        refine g_iload_n C dX10_give_58 rfl 1 rfl ?_
        refine g_iload_n C dX10_give_59 rfl 2 rfl ?_
        refine g_aload_n C dX10_give_60 rfl 3 rfl ?_
        refine g_iload C dX10_give_61 4 rfl ?_
        refine g_callVV (rest := []) C mv_X10_60 [.int a1, .int a2, .ref b51_3, .int v51_4] (s_X10_tryBook_L5 I51 h3066 (by omega) hb51_3 (by omega)) (h3066).1 (h3066).2 rfl rfl (by decide) (Nat.le_of_ble_eq_true rfl) (by decide) dX10_give_63 (fun Y3069 h3070 => ?_)
        obtain ⟨Iy3071, Xy3072⟩ := h3070
        have Xz3073 : EK [0, 10, 13] P Y3069 := X51.tr (Xy3072.mono (by decide))
        have h3074 := Xy3072.at h3066
        have h3075 := Xy3072.at hb51_3
        refine s_iinc (lv0 := [(0, .ref a0), (1, .int a1), (2, .int a2), (3, .ref b51_3)]) (m := 1) C dX10_give_66 4 rfl (by decide) rfl (by decide) (by omega) (fun z3076 h3077 => ?_)
        have h3077 : z3076.toInt = v51_4.toInt + 1 := h3077
        refine g_goto C 51 dX10_give_69 (by decide) ?_
        refine g_lv (lv' := [(0, .ref a0), (1, .int a1), (2, .int a2), (3, .ref b51_3), (4, .int z3076)]) [1, 2, 3, 4, 0] rfl ?_
        exact ih51 Y3069 b51_3 z3076 (by omega) Iy3071 Xz3073 h3075 (by omega)
  have J14 : (0 ≤ (pI P a0 3).toInt ∧ (pI P a0 3).toInt ≤ 1) → G E ({ frames := 12, cells := 0, slots := 0, locals := 768 } : Room) D cy 5 P 0 0 14 [(0, .ref a0), (2, .int a2)] [] := by
    intro hq14_0
    refine g_aload_n C dX10_give_14 rfl 0 rfl ?_
    refine g_dup C dX10_give_15 rfl ?_
    refine g_getI C fi_X10_32 (by decide) (ha0).1 (ha0).2 dX10_give_16 ?_
    refine g_iload_n C dX10_give_19 rfl 1 rfl ?_
    refine a_ior C dX10_give_20 (fun z3078 => ?_)
    refine g_putI C fi_X10_32 rfl (ha0).1 (ha0).2 dX10_give_21 ?_
    refine gpW (ks := [10]) (I.setI (ha0) (rgOk.none rfl)) (EK.setI (ha0).2 (by decide)) (fun Y3080 Iy3081 Xy3082 w3083 w3084 => ?_)
    have q3085 := w3083 3 (by decide)
    have Xz3086 : EK [0, 10, 13] P Y3080 := Xy3082.mono (by decide)
    have h3087 := Xy3082.at ha0
    refine g_aload_n C dX10_give_24 rfl 0 rfl ?_
    refine g_dup C dX10_give_25 rfl ?_
    refine g_getI C fi_X10_28 (by decide) (h3087).1 (h3087).2 dX10_give_26 ?_
    refine g_iload_n C dX10_give_29 rfl 1 rfl ?_
    refine g_iconst (v := (-1)) C dX10_give_30 (by decide) ?_
    refine a_ixor C dX10_give_31 (fun z3088 => ?_)
    refine a_ior C dX10_give_32 (fun z3090 => ?_)
    refine g_putI C fi_X10_28 rfl (h3087).1 (h3087).2 dX10_give_33 ?_
    refine gpW (ks := [10]) (Iy3081.setI (h3087) (rgOk.none rfl)) (EK.setI (h3087).2 (by decide)) (fun Y3092 Iy3093 Xy3094 w3095 w3096 => ?_)
    have q3097 := w3095 3 (by decide)
    have q3098 := w3095 5 (by decide)
    have Xz3099 : EK [0, 10, 13] P Y3092 := Xz3086.tr (Xy3094.mono (by decide))
    have h3100 := Xy3094.at h3087
    exact ret _ _ _ _ _ dX10_give_36 (by decide) (by decide) ⟨Iy3093, Xz3099⟩
  refine g_iload_n C dX10_give_0 rfl 1 rfl ?_
  refine g_aload_n C dX10_give_1 rfl 0 rfl ?_
  refine g_getI C fi_X10_35 (by decide) (ha0).1 (ha0).2 dX10_give_2 ?_
  have h3101 := I.rg (ha0) 3 rfl
  refine b_icmp_ge C 14 dX10_give_5 (by decide) (fun h3102 => ?_) (fun h3102 => ?_)
  · have h3102 : (pI P a0 3).toInt ≤ a1.toInt := h3102
    refine g_lv (lv' := [(0, .ref a0), (2, .int a2)]) [0, 2] rfl ?_
    exact J14 (by omega)
  · have h3102 : a1.toInt < (pI P a0 3).toInt := h3102
    refine g_iload_n C dX10_give_8 rfl 1 rfl ?_
    refine g_bipush (v := 6) C dX10_give_9 (by decide) ?_
    refine b_icmp_lt C 37 dX10_give_11 (by decide) (fun h3103 => ?_) (fun h3103 => ?_)
    · have h3103 : a1.toInt < 6 := h3103
      refine g_aload_n C dX10_give_37 rfl 0 rfl ?_
      obtain ⟨b3104, e3105, h3106⟩ := I.fld (ha0) 0 20 6 rfl
      refine g_getR C fi_X10_11 rfl e3105 (ha0).1 (ha0).2 dX10_give_38 ?_
      refine g_iload_n C dX10_give_41 rfl 1 rfl ?_
      refine g_aldQ (j := (a1.toInt.toNat)) C h3106.1 h3106.2.1 (by decide) (ix_in h3106.2.2 (by omega)) dX10_give_42 ?_
      rcases I.pap h3106 (a1.toInt.toNat) with e3108 | ⟨b3107, e3108, h3109⟩
      · rw [e3108]
        show G _ _ _ _ _ _ _ _ _ _ (.null :: _)
        refine g_astore_nN (lv' := [(3, .null), (0, .ref a0), (1, .int a1), (2, .int a2)]) C dX10_give_43 rfl (by decide) rfl ?_
        refine g_aload_nN C dX10_give_44 rfl 0 rfl ?_
        refine g_ifnullN C 72 dX10_give_45 (by decide) ?_
        exact ret _ _ _ _ _ dX10_give_72 (by decide) (by decide) ⟨I, EK.rf⟩
      · rw [e3108]
        show G _ _ _ _ _ _ _ _ _ _ (.ref b3107 :: _)
        refine g_astore_n (lv' := [(3, .ref b3107), (0, .ref a0), (1, .int a1), (2, .int a2)]) C dX10_give_43 rfl (by decide) rfl ?_
        refine g_aload_n C dX10_give_44 rfl 0 rfl ?_
        refine g_ifnull C dX10_give_45 ?_
        refine g_iconst (v := 0) C dX10_give_48 (by decide) ?_
        refine g_istore (lv' := [(4, .int 0), (3, .ref b3107), (0, .ref a0), (1, .int a1), (2, .int a2)]) C dX10_give_49 (by decide) rfl ?_
        refine g_lv (lv' := [(0, .ref a0), (1, .int a1), (2, .int a2), (3, .ref b3107), (4, .int 0)]) [2, 3, 4, 1, 0] rfl ?_
        exact J51 _ P b3107 0 (Nat.lt_succ_self _) I EK.rf h3109 (by decide)
    · have h3103 : 6 ≤ a1.toInt := h3103
      omega
set_option maxHeartbeats 4000000 in
set_option maxRecDepth 100000 in
theorem s_X10_tryBook_L6 {P : PP} {a0 : Nat} {a1 : Int32} {a2 : Int32} {a3 : Nat} {a4 : Int32} (I : IV P) (ha0 : At P a0 10) (ha1 : 0 ≤ a1.toInt ∧ a1.toInt ≤ 0) (ha3 : At P a3 7) (ha4 : 0 ≤ a4.toInt ∧ a4.toInt ≤ 1) : CtrV yX10_tryBook cX10_tryBook 9 none ({ frames := 13, cells := 0, slots := 0, locals := 832 } : Room) 0 0 P [.ref a0, .int a1, .int a2, .ref a3, .int a4] (fun P2 => IV P2 ∧ EK [0, 10, 13] P P2) := by
  refine enV (lv := [(0, .ref a0), (1, .int a1), (2, .int a2), (3, .ref a3), (4, .int a4)]) (by decide) (Nat.le_of_ble_eq_true rfl) rfl (fun E D cy C Ci0 ret => ?_)
  have J85 : ∀ (P85 : PP) (b85_5 : Nat) (b85_6 : Nat) (v85_7 : Int32) (v85_8 : Int32), (IV P85) → (EK [0, 10, 13] P P85) → (At P85 b85_5 0) → (At P85 b85_6 0) → (0 ≤ v85_7.toInt ∧ v85_7.toInt ≤ 20) → (0 ≤ v85_8.toInt ∧ v85_8.toInt ≤ 20) → G E ({ frames := 13, cells := 0, slots := 0, locals := 832 } : Room) D cy 9 P85 0 0 85 [(5, .ref b85_5), (6, .ref b85_6), (7, .int v85_7), (8, .int v85_8)] [] := by
    intro P85 b85_5 b85_6 v85_7 v85_8 I85 X85 hb85_5 hb85_6 hv85_7 hv85_8
    have h3194 := X85.at ha0
    have h3195 := X85.at ha3
    refine g_aload C dX10_tryBook_85 0 rfl ?_
    refine g_iload C dX10_tryBook_87 2 rfl ?_
    refine g_callVV (rest := []) C mv_X10_79 [.int v85_7] (s_X0_cut I85 hb85_5) (hb85_5).1 (hb85_5).2 rfl rfl (by decide) (Nat.le_of_ble_eq_true rfl) (by decide) dX10_tryBook_89 (fun Y3197 h3198 => ?_)
    obtain ⟨Iy3199, Xy3200⟩ := h3198
    have Xz3201 : EK [0, 10, 13] P Y3197 := X85.tr (Xy3200.mono (by decide))
    have h3202 := Xy3200.at h3194
    have h3203 := Xy3200.at h3195
    have h3204 := Xy3200.at hb85_5
    have h3205 := Xy3200.at hb85_6
    refine g_aload C dX10_tryBook_92 1 rfl ?_
    refine g_iload C dX10_tryBook_94 3 rfl ?_
    refine g_callVV (rest := []) C mv_X10_79 [.int v85_8] (s_X0_cut Iy3199 h3205) (h3205).1 (h3205).2 rfl rfl (by decide) (Nat.le_of_ble_eq_true rfl) (by decide) dX10_tryBook_96 (fun Y3207 h3208 => ?_)
    obtain ⟨Iy3209, Xy3210⟩ := h3208
    have Xz3211 : EK [0, 10, 13] P Y3207 := Xz3201.tr (Xy3210.mono (by decide))
    have h3212 := Xy3210.at h3202
    have h3213 := Xy3210.at h3203
    have h3214 := Xy3210.at h3204
    have h3215 := Xy3210.at h3205
    exact ret _ _ _ _ _ dX10_tryBook_99 (by decide) (by decide) ⟨Iy3209, Xz3211⟩
  refine g_aload_n C dX10_tryBook_0 rfl 0 rfl ?_
  refine g_iload C dX10_tryBook_1 4 rfl ?_
  refine g_iconst (v := 0) C dX10_tryBook_3 (by decide) ?_
  refine g_callVQ (rest := []) C mv_X10_64 [.int a4, .int 0] (s_X10_basisOf I ha0 (by omega) (by decide)) (ha0).1 (ha0).2 rfl rfl (by decide) (Nat.le_of_ble_eq_true rfl) (by decide) dX10_tryBook_4 (fun r3216 Y3217 h3218 => ?_)
  obtain ⟨rfl, h3218⟩ := h3218
  obtain ⟨b3220, rfl, h3218⟩ := h3218
  show G _ _ _ _ _ _ _ _ _ _ (.ref b3220 :: _)
  refine g_astore (lv' := [(5, .ref b3220), (0, .ref a0), (1, .int a1), (2, .int a2), (3, .ref a3), (4, .int a4)]) C dX10_tryBook_7 (by decide) rfl ?_
  refine g_aload_n C dX10_tryBook_9 rfl 1 rfl ?_
  refine g_iload C dX10_tryBook_10 5 rfl ?_
  refine g_iconst (v := 1) C dX10_tryBook_12 (by decide) ?_
  refine g_callVQ (rest := []) C mv_X10_64 [.int a4, .int 1] (s_X10_basisOf I ha0 (by omega) (by decide)) (ha0).1 (ha0).2 rfl rfl (by decide) (Nat.le_of_ble_eq_true rfl) (by decide) dX10_tryBook_13 (fun r3221 Y3222 h3223 => ?_)
  obtain ⟨rfl, h3223⟩ := h3223
  obtain ⟨b3225, rfl, h3223⟩ := h3223
  show G _ _ _ _ _ _ _ _ _ _ (.ref b3225 :: _)
  refine g_astore (lv' := [(6, .ref b3225), (5, .ref b3220), (0, .ref a0), (1, .int a1), (2, .int a2), (3, .ref a3), (4, .int a4)]) C dX10_tryBook_16 (by decide) rfl ?_
  refine g_aload C dX10_tryBook_18 1 rfl ?_
  refine g_getI C fi_X10_68 (by decide) (h3218).1 (h3218).2 dX10_tryBook_20 ?_
  have h3226 := I.rg (h3218) 2 rfl
  refine g_topi (fun z3227 h3228 => ?_)
  have h3228 : z3227.toInt = (pI P b3220 2).toInt := congrArg Int32.toInt h3228
  refine g_istore (lv' := [(7, .int z3227), (6, .ref b3225), (5, .ref b3220), (0, .ref a0), (1, .int a1), (2, .int a2), (3, .ref a3), (4, .int a4)]) C dX10_tryBook_23 (by decide) rfl ?_
  refine g_aload C dX10_tryBook_25 1 rfl ?_
  refine g_getI C fi_X10_68 (by decide) (h3223).1 (h3223).2 dX10_tryBook_27 ?_
  have h3229 := I.rg (h3223) 2 rfl
  refine g_topi (fun z3230 h3231 => ?_)
  have h3231 : z3230.toInt = (pI P b3225 2).toInt := congrArg Int32.toInt h3231
  refine g_istore (lv' := [(8, .int z3230), (7, .int z3227), (6, .ref b3225), (5, .ref b3220), (0, .ref a0), (1, .int a1), (2, .int a2), (3, .ref a3), (4, .int a4)]) C dX10_tryBook_30 (by decide) rfl ?_
  refine g_aload C dX10_tryBook_32 3 rfl ?_
  refine g_aload_n C dX10_tryBook_34 rfl 7 rfl ?_
  refine g_iload C dX10_tryBook_35 8 rfl ?_
  refine g_iconst (v := 0) C dX10_tryBook_37 (by decide) ?_
  refine g_callVI (rest := [.ref b3220]) C mv_X10_71 [.int a4, .int 0] (s_X7_equation I ha3) (ha3).1 (ha3).2 rfl rfl (by decide) (Nat.le_of_ble_eq_true rfl) (by decide) dX10_tryBook_38 (fun r3232 Y3233 h3234 => ?_)
  obtain ⟨rfl, h3234⟩ := h3234
  have h3234 : True := h3234
  refine g_callVV (rest := []) C mv_X10_75 [.int r3232] (s_X0_add I h3218) (h3218).1 (h3218).2 rfl rfl (by decide) (Nat.le_of_ble_eq_true rfl) (by decide) dX10_tryBook_41 (fun Y3236 h3237 => ?_)
  obtain ⟨Iy3238, Xy3239⟩ := h3237
  have Xz3240 : EK [0, 10, 13] P Y3236 := Xy3239.mono (by decide)
  have h3241 := Xy3239.at ha0
  have h3242 := Xy3239.at ha3
  have h3243 := Xy3239.at h3218
  have h3244 := Xy3239.at h3223
  refine g_aload C dX10_tryBook_44 2 rfl ?_
  refine g_aload_n C dX10_tryBook_46 rfl 7 rfl ?_
  refine g_iload C dX10_tryBook_47 8 rfl ?_
  refine g_iconst (v := 1) C dX10_tryBook_49 (by decide) ?_
  refine g_callVI (rest := [.ref b3225]) C mv_X10_71 [.int a4, .int 1] (s_X7_equation Iy3238 h3242) (h3242).1 (h3242).2 rfl rfl (by decide) (Nat.le_of_ble_eq_true rfl) (by decide) dX10_tryBook_50 (fun r3245 Y3246 h3247 => ?_)
  obtain ⟨rfl, h3247⟩ := h3247
  have h3247 : True := h3247
  refine g_callVV (rest := []) C mv_X10_75 [.int r3245] (s_X0_add Iy3238 h3244) (h3244).1 (h3244).2 rfl rfl (by decide) (Nat.le_of_ble_eq_true rfl) (by decide) dX10_tryBook_53 (fun Y3249 h3250 => ?_)
  obtain ⟨Iy3251, Xy3252⟩ := h3250
  have Xz3253 : EK [0, 10, 13] P Y3249 := Xz3240.tr (Xy3252.mono (by decide))
  have h3254 := Xy3252.at h3241
  have h3255 := Xy3252.at h3242
  have h3256 := Xy3252.at h3243
  have h3257 := Xy3252.at h3244
  refine g_aload C dX10_tryBook_56 3 rfl ?_
  refine g_getI C fi_X10_56 (by decide) (h3256).1 (h3256).2 dX10_tryBook_58 ?_
  have h3258 := Iy3251.rg (h3256) 3 rfl
  refine b_if_eq C 85 dX10_tryBook_61 (by decide) (fun h3259 => ?_) (fun h3259 => ?_)
  · have h3259 : (pI Y3249 b3220 3).toInt = 0 := congrArg Int32.toInt h3259
    refine g_lv (lv' := [(5, .ref b3220), (6, .ref b3225), (7, .int z3227), (8, .int z3230)]) [3, 2, 1, 0] rfl ?_
    exact J85 Y3249 b3220 b3225 z3227 z3230 Iy3251 Xz3253 h3256 h3257 (by omega) (by omega)
  · have h3259 : (pI Y3249 b3220 3).toInt ≠ 0 := ti_ne h3259
    refine g_aload C dX10_tryBook_64 2 rfl ?_
    refine g_getI C fi_X10_56 (by decide) (h3257).1 (h3257).2 dX10_tryBook_66 ?_
    have h3260 := Iy3251.rg (h3257) 3 rfl
    refine b_if_eq C 85 dX10_tryBook_69 (by decide) (fun h3261 => ?_) (fun h3261 => ?_)
    · have h3261 : (pI Y3249 b3225 3).toInt = 0 := congrArg Int32.toInt h3261
      refine g_lv (lv' := [(5, .ref b3220), (6, .ref b3225), (7, .int z3227), (8, .int z3230)]) [3, 2, 1, 0] rfl ?_
      exact J85 Y3249 b3220 b3225 z3227 z3230 Iy3251 Xz3253 h3256 h3257 (by omega) (by omega)
    · have h3261 : (pI Y3249 b3225 3).toInt ≠ 0 := ti_ne h3261
      refine g_aload_n C dX10_tryBook_72 rfl 4 rfl ?_
      refine g_iload_n C dX10_tryBook_73 rfl 5 rfl ?_
      refine g_iconst (v := 1) C dX10_tryBook_74 (by decide) ?_
      refine s_iadd C dX10_tryBook_75 (by show -2147483648 ≤ a1.toInt + 1 ∧ a1.toInt + 1 ≤ 2147483647; omega) (fun z3262 h3263 => ?_)
      have h3263 : z3262.toInt = a1.toInt + 1 := h3263
      refine g_iload_n C dX10_tryBook_76 rfl 6 rfl ?_
      refine g_iload C dX10_tryBook_77 8 rfl ?_
      refine g_iload_n C dX10_tryBook_79 rfl 5 rfl ?_
      refine a_ishl C dX10_tryBook_80 (fun z3264 => ?_)
      refine a_ior C dX10_tryBook_81 (fun z3266 => ?_)
      refine g_callVV (rest := []) C mv_X10_52 [.int z3262, .int z3266] (s_X10_give_L5 Iy3251 h3254 (by omega)) (h3254).1 (h3254).2 rfl rfl (by decide) (Nat.le_of_ble_eq_true rfl) (by decide) dX10_tryBook_82 (fun Y3269 h3270 => ?_)
      obtain ⟨Iy3271, Xy3272⟩ := h3270
      have Xz3273 : EK [0, 10, 13] P Y3269 := Xz3253.tr (Xy3272.mono (by decide))
      have h3274 := Xy3272.at h3254
      have h3275 := Xy3272.at h3255
      have h3276 := Xy3272.at h3256
      have h3277 := Xy3272.at h3257
      refine g_lv (lv' := [(5, .ref b3220), (6, .ref b3225), (7, .int z3227), (8, .int z3230)]) [3, 2, 1, 0] rfl ?_
      exact J85 Y3269 b3220 b3225 z3227 z3230 Iy3271 Xz3273 h3276 h3277 (by omega) (by omega)
set_option maxHeartbeats 4000000 in
set_option maxRecDepth 100000 in
theorem s_X10_give_L6 {P : PP} {a0 : Nat} {a1 : Int32} {a2 : Int32} (I : IV P) (ha0 : At P a0 10) (ha1 : 0 ≤ a1.toInt ∧ a1.toInt ≤ 0) : CtrV yX10_give cX10_give 5 none ({ frames := 14, cells := 0, slots := 0, locals := 896 } : Room) 0 0 P [.ref a0, .int a1, .int a2] (fun P2 => IV P2 ∧ EK [0, 10, 13] P P2) := by
  refine enV (lv := [(0, .ref a0), (1, .int a1), (2, .int a2)]) (by decide) (Nat.le_of_ble_eq_true rfl) rfl (fun E D cy C Ci0 ret => ?_)
  have J51 : ∀ (n51 : Nat) (P51 : PP) (b51_3 : Nat) (v51_4 : Int32), (2 - v51_4.toInt).toNat < n51 → (IV P51) → (EK [0, 10, 13] P P51) → (At P51 b51_3 7) → (0 ≤ v51_4.toInt ∧ v51_4.toInt ≤ 2) → G E ({ frames := 14, cells := 0, slots := 0, locals := 896 } : Room) D cy 5 P51 0 0 51 [(0, .ref a0), (1, .int a1), (2, .int a2), (3, .ref b51_3), (4, .int v51_4)] [] := by
    intro n51
    induction n51 with
    | zero => intro P51 b51_3 v51_4 hm51 I51 X51 hb51_3 hv51_4; omega
    | succ n51 ih51 =>
      intro P51 b51_3 v51_4 hm51 I51 X51 hb51_3 hv51_4
      have h3345 := X51.at ha0
      refine g_iload C dX10_give_51 4 rfl ?_
      refine g_iconst (v := 2) C dX10_give_53 (by decide) ?_
      refine b_icmp_ge C 72 dX10_give_54 (by decide) (fun h3346 => ?_) (fun h3346 => ?_)
      · have h3346 : 2 ≤ v51_4.toInt := h3346
        exact ret _ _ _ _ _ dX10_give_72 (by decide) (by decide) ⟨I51, X51⟩
      · have h3346 : v51_4.toInt < 2 := h3346
        refine g_aload_n C dX10_give_57 rfl 0 rfl ?_
        refine g_iload_n C dX10_give_58 rfl 1 rfl ?_
        refine g_iload_n C dX10_give_59 rfl 2 rfl ?_
        refine g_aload_n C dX10_give_60 rfl 3 rfl ?_
        refine g_iload C dX10_give_61 4 rfl ?_
        refine g_callVV (rest := []) C mv_X10_60 [.int a1, .int a2, .ref b51_3, .int v51_4] (s_X10_tryBook_L6 I51 h3345 (by omega) hb51_3 (by omega)) (h3345).1 (h3345).2 rfl rfl (by decide) (Nat.le_of_ble_eq_true rfl) (by decide) dX10_give_63 (fun Y3348 h3349 => ?_)
        obtain ⟨Iy3350, Xy3351⟩ := h3349
        have Xz3352 : EK [0, 10, 13] P Y3348 := X51.tr (Xy3351.mono (by decide))
        have h3353 := Xy3351.at h3345
        have h3354 := Xy3351.at hb51_3
        refine s_iinc (lv0 := [(0, .ref a0), (1, .int a1), (2, .int a2), (3, .ref b51_3)]) (m := 1) C dX10_give_66 4 rfl (by decide) rfl (by decide) (by omega) (fun z3355 h3356 => ?_)
        have h3356 : z3355.toInt = v51_4.toInt + 1 := h3356
        refine g_goto C 51 dX10_give_69 (by decide) ?_
        refine g_lv (lv' := [(0, .ref a0), (1, .int a1), (2, .int a2), (3, .ref b51_3), (4, .int z3355)]) [1, 2, 3, 4, 0] rfl ?_
        exact ih51 Y3348 b51_3 z3355 (by omega) Iy3350 Xz3352 h3354 (by omega)
  have J14 : (0 ≤ (pI P a0 3).toInt ∧ (pI P a0 3).toInt ≤ 0) → G E ({ frames := 14, cells := 0, slots := 0, locals := 896 } : Room) D cy 5 P 0 0 14 [(0, .ref a0), (2, .int a2)] [] := by
    intro hq14_0
    refine g_aload_n C dX10_give_14 rfl 0 rfl ?_
    refine g_dup C dX10_give_15 rfl ?_
    refine g_getI C fi_X10_32 (by decide) (ha0).1 (ha0).2 dX10_give_16 ?_
    refine g_iload_n C dX10_give_19 rfl 1 rfl ?_
    refine a_ior C dX10_give_20 (fun z3357 => ?_)
    refine g_putI C fi_X10_32 rfl (ha0).1 (ha0).2 dX10_give_21 ?_
    refine gpW (ks := [10]) (I.setI (ha0) (rgOk.none rfl)) (EK.setI (ha0).2 (by decide)) (fun Y3359 Iy3360 Xy3361 w3362 w3363 => ?_)
    have q3364 := w3362 3 (by decide)
    have Xz3365 : EK [0, 10, 13] P Y3359 := Xy3361.mono (by decide)
    have h3366 := Xy3361.at ha0
    refine g_aload_n C dX10_give_24 rfl 0 rfl ?_
    refine g_dup C dX10_give_25 rfl ?_
    refine g_getI C fi_X10_28 (by decide) (h3366).1 (h3366).2 dX10_give_26 ?_
    refine g_iload_n C dX10_give_29 rfl 1 rfl ?_
    refine g_iconst (v := (-1)) C dX10_give_30 (by decide) ?_
    refine a_ixor C dX10_give_31 (fun z3367 => ?_)
    refine a_ior C dX10_give_32 (fun z3369 => ?_)
    refine g_putI C fi_X10_28 rfl (h3366).1 (h3366).2 dX10_give_33 ?_
    refine gpW (ks := [10]) (Iy3360.setI (h3366) (rgOk.none rfl)) (EK.setI (h3366).2 (by decide)) (fun Y3371 Iy3372 Xy3373 w3374 w3375 => ?_)
    have q3376 := w3374 3 (by decide)
    have q3377 := w3374 5 (by decide)
    have Xz3378 : EK [0, 10, 13] P Y3371 := Xz3365.tr (Xy3373.mono (by decide))
    have h3379 := Xy3373.at h3366
    exact ret _ _ _ _ _ dX10_give_36 (by decide) (by decide) ⟨Iy3372, Xz3378⟩
  refine g_iload_n C dX10_give_0 rfl 1 rfl ?_
  refine g_aload_n C dX10_give_1 rfl 0 rfl ?_
  refine g_getI C fi_X10_35 (by decide) (ha0).1 (ha0).2 dX10_give_2 ?_
  have h3380 := I.rg (ha0) 3 rfl
  refine b_icmp_ge C 14 dX10_give_5 (by decide) (fun h3381 => ?_) (fun h3381 => ?_)
  · have h3381 : (pI P a0 3).toInt ≤ a1.toInt := h3381
    refine g_lv (lv' := [(0, .ref a0), (2, .int a2)]) [0, 2] rfl ?_
    exact J14 (by omega)
  · have h3381 : a1.toInt < (pI P a0 3).toInt := h3381
    refine g_iload_n C dX10_give_8 rfl 1 rfl ?_
    refine g_bipush (v := 6) C dX10_give_9 (by decide) ?_
    refine b_icmp_lt C 37 dX10_give_11 (by decide) (fun h3382 => ?_) (fun h3382 => ?_)
    · have h3382 : a1.toInt < 6 := h3382
      refine g_aload_n C dX10_give_37 rfl 0 rfl ?_
      obtain ⟨b3383, e3384, h3385⟩ := I.fld (ha0) 0 20 6 rfl
      refine g_getR C fi_X10_11 rfl e3384 (ha0).1 (ha0).2 dX10_give_38 ?_
      refine g_iload_n C dX10_give_41 rfl 1 rfl ?_
      refine g_aldQ (j := (a1.toInt.toNat)) C h3385.1 h3385.2.1 (by decide) (ix_in h3385.2.2 (by omega)) dX10_give_42 ?_
      rcases I.pap h3385 (a1.toInt.toNat) with e3387 | ⟨b3386, e3387, h3388⟩
      · rw [e3387]
        show G _ _ _ _ _ _ _ _ _ _ (.null :: _)
        refine g_astore_nN (lv' := [(3, .null), (0, .ref a0), (1, .int a1), (2, .int a2)]) C dX10_give_43 rfl (by decide) rfl ?_
        refine g_aload_nN C dX10_give_44 rfl 0 rfl ?_
        refine g_ifnullN C 72 dX10_give_45 (by decide) ?_
        exact ret _ _ _ _ _ dX10_give_72 (by decide) (by decide) ⟨I, EK.rf⟩
      · rw [e3387]
        show G _ _ _ _ _ _ _ _ _ _ (.ref b3386 :: _)
        refine g_astore_n (lv' := [(3, .ref b3386), (0, .ref a0), (1, .int a1), (2, .int a2)]) C dX10_give_43 rfl (by decide) rfl ?_
        refine g_aload_n C dX10_give_44 rfl 0 rfl ?_
        refine g_ifnull C dX10_give_45 ?_
        refine g_iconst (v := 0) C dX10_give_48 (by decide) ?_
        refine g_istore (lv' := [(4, .int 0), (3, .ref b3386), (0, .ref a0), (1, .int a1), (2, .int a2)]) C dX10_give_49 (by decide) rfl ?_
        refine g_lv (lv' := [(0, .ref a0), (1, .int a1), (2, .int a2), (3, .ref b3386), (4, .int 0)]) [2, 3, 4, 1, 0] rfl ?_
        exact J51 _ P b3386 0 (Nat.lt_succ_self _) I EK.rf h3388 (by decide)
    · have h3382 : 6 ≤ a1.toInt := h3382
      omega
theorem dX10_findAll_25 : decode cX10_findAll 25 = .ok (.aload_n 1, 1) := by decide +kernel
theorem dX10_findAll_26 : decode cX10_findAll 26 = .ok (.iload_n 2, 1) := by decide +kernel
theorem dX10_findAll_27 : decode cX10_findAll 27 = .ok (.invokevirtual 41, 3) := by decide +kernel
theorem dX6_at_0 : decode cX6_at 0 = .ok (.iload_n 1, 1) := by decide +kernel
theorem dX6_at_1 : decode cX6_at 1 = .ok (.ifCond .lt 26, 3) := by decide +kernel
theorem dX6_at_4 : decode cX6_at 4 = .ok (.iload_n 1, 1) := by decide +kernel
theorem dX6_at_5 : decode cX6_at 5 = .ok (.aload_n 0, 1) := by decide +kernel
theorem dX6_at_6 : decode cX6_at 6 = .ok (.getfield 17, 3) := by decide +kernel
theorem dX6_at_9 : decode cX6_at 9 = .ok (.if_icmp .ge 18, 3) := by decide +kernel
theorem dX6_at_12 : decode cX6_at 12 = .ok (.iload_n 1, 1) := by decide +kernel
theorem dX6_at_13 : decode cX6_at 13 = .ok (.bipush 40, 2) := by decide +kernel
theorem dX6_at_15 : decode cX6_at 15 = .ok (.if_icmp .ge 12, 3) := by decide +kernel
theorem dX6_at_18 : decode cX6_at 18 = .ok (.aload_n 0, 1) := by decide +kernel
theorem dX6_at_19 : decode cX6_at 19 = .ok (.getfield 11, 3) := by decide +kernel
theorem dX6_at_22 : decode cX6_at 22 = .ok (.iload_n 1, 1) := by decide +kernel
theorem dX6_at_23 : decode cX6_at 23 = .ok (.aaload, 1) := by decide +kernel
theorem dX6_at_24 : decode cX6_at 24 = .ok (.goto 4, 3) := by decide +kernel
theorem dX6_at_27 : decode cX6_at 27 = .ok (.aconst_null, 1) := by decide +kernel
theorem dX6_at_28 : decode cX6_at 28 = .ok (.areturn, 1) := by decide +kernel
set_option maxHeartbeats 4000000 in
set_option maxRecDepth 100000 in
theorem s_X6_at {P : PP} {a0 : Nat} {a1 : Int32} (I : IV P) (ha0 : At P a0 6) : CtrQ yX6_at cX6_at 2 (some (Jvm.ClassFile.FieldType.object "ThousandLeaflets$Paper")) ({ frames := 1, cells := 0, slots := 0, locals := 64 } : Room) 0 0 P [.ref a0, .int a1] (fun r P2 => P = P2 ∧ (r = none ∨ ∃ b, r = some b ∧ At P2 b 7 ∧ ((0 : Int) ≤ a1.toInt ∧ a1.toInt ≤ (39 : Int)))) := by
  refine enQ (lv := [(0, .ref a0), (1, .int a1)]) (by decide) (by first | exact Or.inl ⟨_, rfl⟩ | exact Or.inr ⟨_, rfl⟩) (Nat.le_of_ble_eq_true rfl) rfl (fun E D cy C Ci0 ret => ?_)
  have J27 : G E ({ frames := 1, cells := 0, slots := 0, locals := 64 } : Room) D cy 2 P 0 0 27 [] [] := by
    refine g_null C dX6_at_27 ?_
    exact ret _ _ _ _ _ none dX6_at_28 (by decide) (by decide) ⟨rfl, Or.inl rfl⟩
  refine g_iload_n C dX6_at_0 rfl 1 rfl ?_
  have u3446 := ti_rng a1
  refine b_if_lt C 27 dX6_at_1 (by decide) (fun h3445 => ?_) (fun h3445 => ?_)
  · have h3445 : a1.toInt < 0 := h3445
    refine g_lv (lv' := []) [] rfl ?_
    exact J27 
  · have h3445 : 0 ≤ a1.toInt := h3445
    refine g_iload_n C dX6_at_4 rfl 1 rfl ?_
    refine g_aload_n C dX6_at_5 rfl 0 rfl ?_
    refine g_getI C fi_X6_17 (by decide) (ha0).1 (ha0).2 dX6_at_6 ?_
    have h3447 := I.rg (ha0) 1 rfl
    have u3449 := ti_rng a1
    refine b_icmp_ge C 27 dX6_at_9 (by decide) (fun h3448 => ?_) (fun h3448 => ?_)
    · have h3448 : (pI P a0 1).toInt ≤ a1.toInt := h3448
      refine g_lv (lv' := []) [] rfl ?_
      exact J27 
    · have h3448 : a1.toInt < (pI P a0 1).toInt := h3448
      refine g_iload_n C dX6_at_12 rfl 1 rfl ?_
      refine g_bipush (v := 40) C dX6_at_13 (by decide) ?_
      refine b_icmp_ge C 27 dX6_at_15 (by decide) (fun h3450 => ?_) (fun h3450 => ?_)
      · have h3450 : 40 ≤ a1.toInt := h3450
        omega
      · have h3450 : a1.toInt < 40 := h3450
        refine g_aload_n C dX6_at_18 rfl 0 rfl ?_
        obtain ⟨b3451, e3452, h3453⟩ := I.fld (ha0) 0 20 40 rfl
        refine g_getR C fi_X6_11 rfl e3452 (ha0).1 (ha0).2 dX6_at_19 ?_
        refine g_iload_n C dX6_at_22 rfl 1 rfl ?_
        refine g_aldQ (j := (a1.toInt.toNat)) C h3453.1 h3453.2.1 (by decide) (ix_in h3453.2.2 (by omega)) dX6_at_23 ?_
        rcases I.pap h3453 (a1.toInt.toNat) with e3455 | ⟨b3454, e3455, h3456⟩
        · rw [e3455]
          show G _ _ _ _ _ _ _ _ _ _ (.null :: _)
          refine g_goto C 28 dX6_at_24 (by decide) ?_
          exact ret _ _ _ _ _ none dX6_at_28 (by decide) (by decide) ⟨rfl, Or.inl rfl⟩
        · rw [e3455]
          show G _ _ _ _ _ _ _ _ _ _ (.ref b3454 :: _)
          refine g_goto C 28 dX6_at_24 (by decide) ?_
          exact ret _ _ _ _ _ (some b3454) dX6_at_28 (by decide) (by decide) ⟨rfl, Or.inr ⟨_, rfl, h3456, by omega⟩⟩
theorem dX10_findAll_30 : decode cX10_findAll 30 = .ok (.astore_n 3, 1) := by decide +kernel
theorem dX10_findAll_31 : decode cX10_findAll 31 = .ok (.aload_n 3, 1) := by decide +kernel
theorem dX10_findAll_32 : decode cX10_findAll 32 = .ok (.ifnull 50, 3) := by decide +kernel
theorem dX10_findAll_35 : decode cX10_findAll 35 = .ok (.aload_n 3, 1) := by decide +kernel
theorem dX10_findAll_36 : decode cX10_findAll 36 = .ok (.getfield 45, 3) := by decide +kernel
theorem dX10_findAll_39 : decode cX10_findAll 39 = .ok (.iconst (-1), 1) := by decide +kernel
theorem dX10_findAll_40 : decode cX10_findAll 40 = .ok (.if_icmp .ne 42, 3) := by decide +kernel
theorem dX10_findAll_43 : decode cX10_findAll 43 = .ok (.aload_n 0, 1) := by decide +kernel
theorem dX10_findAll_44 : decode cX10_findAll 44 = .ok (.getfield 35, 3) := by decide +kernel
theorem dX10_findAll_47 : decode cX10_findAll 47 = .ok (.bipush 6, 2) := by decide +kernel
theorem dX10_findAll_49 : decode cX10_findAll 49 = .ok (.if_icmp .ge 33, 3) := by decide +kernel
theorem dX10_findAll_52 : decode cX10_findAll 52 = .ok (.aload_n 0, 1) := by decide +kernel
theorem dX10_findAll_53 : decode cX10_findAll 53 = .ok (.getfield 11, 3) := by decide +kernel
theorem dX10_findAll_56 : decode cX10_findAll 56 = .ok (.aload_n 0, 1) := by decide +kernel
theorem dX10_findAll_57 : decode cX10_findAll 57 = .ok (.getfield 35, 3) := by decide +kernel
theorem dX10_findAll_60 : decode cX10_findAll 60 = .ok (.aload_n 3, 1) := by decide +kernel
theorem dX10_findAll_61 : decode cX10_findAll 61 = .ok (.aastore, 1) := by decide +kernel
theorem dX10_findAll_62 : decode cX10_findAll 62 = .ok (.aload_n 0, 1) := by decide +kernel
theorem dX10_findAll_63 : decode cX10_findAll 63 = .ok (.getfield 17, 3) := by decide +kernel
theorem dX10_findAll_66 : decode cX10_findAll 66 = .ok (.aload_n 0, 1) := by decide +kernel
theorem dX10_findAll_67 : decode cX10_findAll 67 = .ok (.getfield 35, 3) := by decide +kernel
theorem dX10_findAll_70 : decode cX10_findAll 70 = .ok (.iload_n 2, 1) := by decide +kernel
theorem dX10_findAll_71 : decode cX10_findAll 71 = .ok (.iastore, 1) := by decide +kernel
theorem dX10_findAll_72 : decode cX10_findAll 72 = .ok (.aload_n 0, 1) := by decide +kernel
theorem dX10_findAll_73 : decode cX10_findAll 73 = .ok (.dup, 1) := by decide +kernel
theorem dX10_findAll_74 : decode cX10_findAll 74 = .ok (.getfield 35, 3) := by decide +kernel
theorem dX10_findAll_77 : decode cX10_findAll 77 = .ok (.iconst 1, 1) := by decide +kernel
theorem dX10_findAll_78 : decode cX10_findAll 78 = .ok (.iadd, 1) := by decide +kernel
theorem dX10_findAll_79 : decode cX10_findAll 79 = .ok (.putfield 35, 3) := by decide +kernel
theorem dX10_findAll_82 : decode cX10_findAll 82 = .ok (.iinc 2 1, 3) := by decide +kernel
theorem dX10_findAll_85 : decode cX10_findAll 85 = .ok (.goto (-68), 3) := by decide +kernel
set_option maxHeartbeats 4000000 in
set_option maxRecDepth 100000 in
theorem s_X10_findAll {P : PP} {a0 : Nat} {a1 : Nat} (I : IV P) (ha0 : At P a0 10) (ha1 : At P a1 6) : CtrV yX10_findAll cX10_findAll 4 none ({ frames := 15, cells := 0, slots := 0, locals := 960 } : Room) 0 0 P [.ref a0, .ref a1] (fun P2 => IV P2 ∧ EK [0, 10, 13] P P2) := by
  refine enV (lv := [(0, .ref a0), (1, .ref a1)]) (by decide) (Nat.le_of_ble_eq_true rfl) rfl (fun E D cy C Ci0 ret => ?_)
  have J17 : ∀ (n17 : Nat) (P17 : PP) (v17_2 : Int32), (40 - v17_2.toInt).toNat < n17 → (IV P17) → (EK [0, 10, 13] P P17) → (0 ≤ v17_2.toInt ∧ v17_2.toInt ≤ 40) → (0 ≤ (pI P17 a0 4).toInt ∧ (pI P17 a0 4).toInt ≤ 0) → (0 ≤ (pI P17 a0 5).toInt ∧ (pI P17 a0 5).toInt ≤ 0) → G E ({ frames := 15, cells := 0, slots := 0, locals := 960 } : Room) D cy 4 P17 0 0 17 [(0, .ref a0), (1, .ref a1), (2, .int v17_2)] [] := by
    intro n17
    induction n17 with
    | zero => intro P17 v17_2 hm17 I17 X17 hv17_2 hq17_0 hq17_1; omega
    | succ n17 ih17 =>
      intro P17 v17_2 hm17 I17 X17 hv17_2 hq17_0 hq17_1
      have h4603 := X17.at ha0
      have h4604 := X17.at ha1
      have J82 : ∀ (P82 : PP), (IV P82) → (EK [0, 10, 13] P P82) → (0 ≤ v17_2.toInt ∧ v17_2.toInt ≤ 39) → (0 ≤ (pI P82 a0 4).toInt ∧ (pI P82 a0 4).toInt ≤ 0) → (0 ≤ (pI P82 a0 5).toInt ∧ (pI P82 a0 5).toInt ≤ 0) → (1 ≤ (pI P82 a1 1).toInt ∧ (pI P82 a1 1).toInt ≤ 40) → G E ({ frames := 15, cells := 0, slots := 0, locals := 960 } : Room) D cy 4 P82 0 0 82 [(0, .ref a0), (1, .ref a1), (2, .int v17_2)] [] := by
        intro P82 I82 X82 hv82_2 hq82_0 hq82_1 hq82_2
        have h4605 := X82.at ha0
        have h4606 := X82.at ha1
        refine s_iinc (lv0 := [(0, .ref a0), (1, .ref a1)]) (m := 1) C dX10_findAll_82 2 rfl (by decide) rfl (by decide) (by omega) (fun z4607 h4608 => ?_)
        have h4608 : z4607.toInt = v17_2.toInt + 1 := h4608
        refine g_goto C 17 dX10_findAll_85 (by decide) ?_
        refine g_lv (lv' := [(0, .ref a0), (1, .ref a1), (2, .int z4607)]) [1, 2, 0] rfl ?_
        exact ih17 P82 z4607 (by omega) I82 X82 (by omega) (by omega) (by omega)
      refine g_iload_n C dX10_findAll_17 rfl 2 rfl ?_
      refine g_aload_n C dX10_findAll_18 rfl 1 rfl ?_
      refine g_getI C fi_X10_38 (by decide) (h4604).1 (h4604).2 dX10_findAll_19 ?_
      have h4609 := I17.rg (h4604) 1 rfl
      refine b_icmp_ge C 88 dX10_findAll_22 (by decide) (fun h4610 => ?_) (fun h4610 => ?_)
      · have h4610 : (pI P17 a1 1).toInt ≤ v17_2.toInt := h4610
        refine g_aload_n C dX10_findAll_88 rfl 0 rfl ?_
        refine g_callVI (rest := []) C mv_X10_48 [] (s_X10_allAgree I17 h4603) (h4603).1 (h4603).2 rfl rfl (by decide) (Nat.le_of_ble_eq_true rfl) (by decide) dX10_findAll_89 (fun r4611 Y4612 h4613 => ?_)
        obtain ⟨rfl, h4613⟩ := h4613
        have h4613 : 0 ≤ r4611.toInt ∧ r4611.toInt ≤ 1 := h4613
        refine b_if_eq C 101 dX10_findAll_92 (by decide) (fun h4614 => ?_) (fun h4614 => ?_)
        · have h4614 : r4611.toInt = 0 := congrArg Int32.toInt h4614
          exact ret _ _ _ _ _ dX10_findAll_101 (by decide) (by decide) ⟨I17, X17⟩
        · have h4614 : r4611.toInt ≠ 0 := ti_ne h4614
          refine g_aload_n C dX10_findAll_95 rfl 0 rfl ?_
          refine g_iconst (v := 0) C dX10_findAll_96 (by decide) ?_
          refine g_iconst (v := 0) C dX10_findAll_97 (by decide) ?_
          refine g_callVV (rest := []) C mv_X10_52 [.int 0, .int 0] (s_X10_give_L6 I17 h4603 (by decide)) (h4603).1 (h4603).2 rfl rfl (by decide) (Nat.le_of_ble_eq_true rfl) (by decide) dX10_findAll_98 (fun Y4616 h4617 => ?_)
          obtain ⟨Iy4618, Xy4619⟩ := h4617
          have q4620 := Xy4619.keep h4604 (by decide) 1
          have Xz4621 : EK [0, 10, 13] P Y4616 := X17.tr (Xy4619.mono (by decide))
          have h4622 := Xy4619.at h4603
          have h4623 := Xy4619.at h4604
          exact ret _ _ _ _ _ dX10_findAll_101 (by decide) (by decide) ⟨Iy4618, Xz4621⟩
      · have h4610 : v17_2.toInt < (pI P17 a1 1).toInt := h4610
        refine g_aload_n C dX10_findAll_25 rfl 1 rfl ?_
        refine g_iload_n C dX10_findAll_26 rfl 2 rfl ?_
        refine g_callVQ (rest := []) C mv_X10_41 [.int v17_2] (s_X6_at I17 h4604) (h4604).1 (h4604).2 rfl rfl (by decide) (Nat.le_of_ble_eq_true rfl) (by decide) dX10_findAll_27 (fun r4624 Y4625 h4626 => ?_)
        obtain ⟨rfl, h4626⟩ := h4626
        rcases h4626 with rfl | ⟨b4628, rfl, h4626, hj4627⟩
        · show G _ _ _ _ _ _ _ _ _ _ (.null :: _)
          refine g_astore_nN (lv' := [(3, .null), (0, .ref a0), (1, .ref a1), (2, .int v17_2)]) C dX10_findAll_30 rfl (by decide) rfl ?_
          refine g_aload_nN C dX10_findAll_31 rfl 0 rfl ?_
          refine g_ifnullN C 82 dX10_findAll_32 (by decide) ?_
          refine g_lv (lv' := [(0, .ref a0), (1, .ref a1), (2, .int v17_2)]) [1, 2, 3] rfl ?_
          exact J82 P17 I17 X17 (by omega) (by omega) (by omega) (by omega)
        · have hj4627 : ((0 : Int) ≤ v17_2.toInt ∧ v17_2.toInt ≤ (39 : Int)) := hj4627
          show G _ _ _ _ _ _ _ _ _ _ (.ref b4628 :: _)
          refine g_astore_n (lv' := [(3, .ref b4628), (0, .ref a0), (1, .ref a1), (2, .int v17_2)]) C dX10_findAll_30 rfl (by decide) rfl ?_
          refine g_aload_n C dX10_findAll_31 rfl 0 rfl ?_
          refine g_ifnull C dX10_findAll_32 ?_
          refine g_aload_n C dX10_findAll_35 rfl 0 rfl ?_
          refine g_getI C fi_X10_45 (by decide) (h4626).1 (h4626).2 dX10_findAll_36 ?_
          have h4629 := I17.rg (h4626) 0 rfl
          refine g_iconst (v := (-1)) C dX10_findAll_39 (by decide) ?_
          refine b_icmp_ne C 82 dX10_findAll_40 (by decide) (fun h4630 => ?_) (fun h4630 => ?_)
          · have h4630 : (pI P17 b4628 0).toInt ≠ (-1) := ti_ne h4630
            refine g_lv (lv' := [(0, .ref a0), (1, .ref a1), (2, .int v17_2)]) [1, 2, 3] rfl ?_
            exact J82 P17 I17 X17 (by omega) (by omega) (by omega) (by omega)
          · have h4630 : (pI P17 b4628 0).toInt = (-1) := congrArg Int32.toInt h4630
            refine g_aload_n C dX10_findAll_43 rfl 1 rfl ?_
            refine g_getI C fi_X10_35 (by decide) (h4603).1 (h4603).2 dX10_findAll_44 ?_
            have h4631 := I17.rg (h4603) 3 rfl
            refine g_bipush (v := 6) C dX10_findAll_47 (by decide) ?_
            refine b_icmp_ge C 82 dX10_findAll_49 (by decide) (fun h4632 => ?_) (fun h4632 => ?_)
            · have h4632 : 6 ≤ (pI P17 a0 3).toInt := h4632
              refine g_lv (lv' := [(0, .ref a0), (1, .ref a1), (2, .int v17_2)]) [1, 2, 3] rfl ?_
              exact J82 P17 I17 X17 (by omega) (by omega) (by omega) (by omega)
            · have h4632 : (pI P17 a0 3).toInt < 6 := h4632
              refine g_aload_n C dX10_findAll_52 rfl 1 rfl ?_
              obtain ⟨b4633, e4634, h4635⟩ := I17.fld (h4603) 0 20 6 rfl
              refine g_getR C fi_X10_11 rfl e4634 (h4603).1 (h4603).2 dX10_findAll_53 ?_
              refine g_aload_n C dX10_findAll_56 rfl 1 rfl ?_
              refine g_getI C fi_X10_35 (by decide) (h4603).1 (h4603).2 dX10_findAll_57 ?_
              refine g_aload_n C dX10_findAll_60 rfl 0 rfl ?_
              refine g_astR (j := ((pI P17 a0 3).toInt.toNat)) C h4635.1 h4635.2.1 (by decide) (ix_in h4635.2.2 (by omega)) (h4626).1 (h4626).2 (by decide) rfl rfl dX10_findAll_61 ?_
              refine gp (ks := []) (I17.setP h4635 (fun _ z => by cases z; exact h4626)) (EK.setR h4635.2.1 (by decide)) (fun Y4636 Iy4637 Xy4638 => ?_)
              have q4639 := Xy4638.keep h4603 (by decide) 4
              have q4640 := Xy4638.keep h4603 (by decide) 5
              have q4641 := Xy4638.keep h4604 (by decide) 1
              have q4642 := Xy4638.keep h4626 (by decide) 0
              have q4643 := Xy4638.keep h4603 (by decide) 3
              have Xz4644 : EK [0, 10, 13] P Y4636 := X17.tr (Xy4638.mono (by decide))
              have h4645 := Xy4638.at h4603
              have h4646 := Xy4638.at h4604
              have h4647 := Xy4638.at h4626
              refine g_aload_n C dX10_findAll_62 rfl 1 rfl ?_
              obtain ⟨b4648, e4649, h4650⟩ := Iy4637.fld (h4645) 1 13 6 rfl
              refine g_getR C fi_X10_17 rfl e4649 (h4645).1 (h4645).2 dX10_findAll_63 ?_
              refine g_aload_n C dX10_findAll_66 rfl 1 rfl ?_
              refine g_getI C fi_X10_35 (by decide) (h4645).1 (h4645).2 dX10_findAll_67 ?_
              refine g_iload_n C dX10_findAll_70 rfl 3 rfl ?_
              refine g_iast (j := ((pI Y4636 a0 3).toInt.toNat)) C h4650.1 h4650.2.1 (ix_in h4650.2.2 (by omega)) dX10_findAll_71 ?_
              refine gp (ks := [13]) (Iy4637.setA h4650 (by decide)) (EK.setI h4650.2.1 (by decide)) (fun Y4651 Iy4652 Xy4653 => ?_)
              have q4654 := Xy4653.keep h4645 (by decide) 4
              have q4655 := Xy4653.keep h4645 (by decide) 5
              have q4656 := Xy4653.keep h4646 (by decide) 1
              have q4657 := Xy4653.keep h4647 (by decide) 0
              have q4658 := Xy4653.keep h4645 (by decide) 3
              have Xz4659 : EK [0, 10, 13] P Y4651 := Xz4644.tr (Xy4653.mono (by decide))
              have h4660 := Xy4653.at h4645
              have h4661 := Xy4653.at h4646
              have h4662 := Xy4653.at h4647
              refine g_aload_n C dX10_findAll_72 rfl 1 rfl ?_
              refine g_dup C dX10_findAll_73 rfl ?_
              refine g_getI C fi_X10_35 (by decide) (h4660).1 (h4660).2 dX10_findAll_74 ?_
              refine g_iconst (v := 1) C dX10_findAll_77 (by decide) ?_
              refine s_iadd C dX10_findAll_78 (by show -2147483648 ≤ (pI Y4651 a0 3).toInt + 1 ∧ (pI Y4651 a0 3).toInt + 1 ≤ 2147483647; omega) (fun z4663 h4664 => ?_)
              have h4664 : z4663.toInt = (pI Y4651 a0 3).toInt + 1 := h4664
              refine g_putI C fi_X10_35 rfl (h4660).1 (h4660).2 dX10_findAll_79 ?_
              refine gpW (ks := [10]) (Iy4652.setI (h4660) (rgOk.of rfl (by omega))) (EK.setI (h4660).2 (by decide)) (fun Y4665 Iy4666 Xy4667 w4668 w4669 => ?_)
              have q4670 := w4668 4 (by decide)
              have q4671 := w4668 5 (by decide)
              have q4672 := Xy4667.keep h4661 (by decide) 1
              have q4673 := Xy4667.keep h4662 (by decide) 0
              have Xz4674 : EK [0, 10, 13] P Y4665 := Xz4659.tr (Xy4667.mono (by decide))
              have h4675 := Xy4667.at h4660
              have h4676 := Xy4667.at h4661
              have h4677 := Xy4667.at h4662
              refine g_lv (lv' := [(0, .ref a0), (1, .ref a1), (2, .int v17_2)]) [1, 2, 3] rfl ?_
              exact J82 Y4665 Iy4666 Xz4674 (by omega) (by omega) (by omega) (by omega)
  refine g_aload_n C dX10_findAll_0 rfl 0 rfl ?_
  refine g_iconst (v := 0) C dX10_findAll_1 (by decide) ?_
  refine g_putI C fi_X10_28 rfl (ha0).1 (ha0).2 dX10_findAll_2 ?_
  refine gpW (ks := [10]) (I.setI (ha0) (rgOk.none rfl)) (EK.setI (ha0).2 (by decide)) (fun Y4678 Iy4679 Xy4680 w4681 w4682 => ?_)
  have w4682 : (pI Y4678 a0 4).toInt = 0 := w4682
  have Xz4683 : EK [0, 10, 13] P Y4678 := Xy4680.mono (by decide)
  have h4684 := Xy4680.at ha0
  have h4685 := Xy4680.at ha1
  refine g_aload_n C dX10_findAll_5 rfl 0 rfl ?_
  refine g_iconst (v := 0) C dX10_findAll_6 (by decide) ?_
  refine g_putI C fi_X10_32 rfl (h4684).1 (h4684).2 dX10_findAll_7 ?_
  refine gpW (ks := [10]) (Iy4679.setI (h4684) (rgOk.none rfl)) (EK.setI (h4684).2 (by decide)) (fun Y4686 Iy4687 Xy4688 w4689 w4690 => ?_)
  have w4690 : (pI Y4686 a0 5).toInt = 0 := w4690
  have q4691 := w4689 4 (by decide)
  have Xz4692 : EK [0, 10, 13] P Y4686 := Xz4683.tr (Xy4688.mono (by decide))
  have h4693 := Xy4688.at h4684
  have h4694 := Xy4688.at h4685
  refine g_aload_n C dX10_findAll_10 rfl 0 rfl ?_
  refine g_iconst (v := 0) C dX10_findAll_11 (by decide) ?_
  refine g_putI C fi_X10_35 rfl (h4693).1 (h4693).2 dX10_findAll_12 ?_
  refine gpW (ks := [10]) (Iy4687.setI (h4693) (rgOk.of rfl (by decide))) (EK.setI (h4693).2 (by decide)) (fun Y4695 Iy4696 Xy4697 w4698 w4699 => ?_)
  have w4699 : (pI Y4695 a0 3).toInt = 0 := w4699
  have q4700 := w4698 4 (by decide)
  have q4701 := w4698 5 (by decide)
  have Xz4702 : EK [0, 10, 13] P Y4695 := Xz4692.tr (Xy4697.mono (by decide))
  have h4703 := Xy4697.at h4693
  have h4704 := Xy4697.at h4694
  refine g_iconst (v := 0) C dX10_findAll_15 (by decide) ?_
  refine g_istore_n (lv' := [(2, .int 0), (0, .ref a0), (1, .ref a1)]) C dX10_findAll_16 rfl (by decide) rfl ?_
  refine g_lv (lv' := [(0, .ref a0), (1, .ref a1), (2, .int 0)]) [1, 2, 0] rfl ?_
  exact J17 _ Y4695 0 (Nat.lt_succ_self _) Iy4696 Xz4702 (by decide) (by omega) (by omega)
