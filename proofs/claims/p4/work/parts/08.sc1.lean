theorem dX0_add_0 : decode cX0_add 0 = .ok (.aload_n 0, 1) := by decide +kernel
theorem dX0_add_1 : decode cX0_add 1 = .ok (.iload_n 1, 1) := by decide +kernel
theorem dX0_add_2 : decode cX0_add 2 = .ok (.invokevirtual 36, 3) := by decide +kernel
theorem dX0_reduce_0 : decode cX0_reduce 0 = .ok (.iload_n 1, 1) := by decide +kernel
theorem dX0_reduce_1 : decode cX0_reduce 1 = .ok (.istore_n 2, 1) := by decide +kernel
theorem dX0_reduce_2 : decode cX0_reduce 2 = .ok (.iconst 0, 1) := by decide +kernel
theorem dX0_reduce_3 : decode cX0_reduce 3 = .ok (.istore_n 3, 1) := by decide +kernel
theorem dX0_reduce_4 : decode cX0_reduce 4 = .ok (.iload_n 3, 1) := by decide +kernel
theorem dX0_reduce_5 : decode cX0_reduce 5 = .ok (.aload_n 0, 1) := by decide +kernel
theorem dX0_reduce_6 : decode cX0_reduce 6 = .ok (.getfield 18, 3) := by decide +kernel
theorem dX0_reduce_9 : decode cX0_reduce 9 = .ok (.if_icmp .ge 29, 3) := by decide +kernel
theorem dX0_reduce_12 : decode cX0_reduce 12 = .ok (.iload_n 2, 1) := by decide +kernel
theorem dX0_reduce_13 : decode cX0_reduce 13 = .ok (.aload_n 0, 1) := by decide +kernel
theorem dX0_reduce_14 : decode cX0_reduce 14 = .ok (.getfield 15, 3) := by decide +kernel
theorem dX0_reduce_17 : decode cX0_reduce 17 = .ok (.iload_n 3, 1) := by decide +kernel
theorem dX0_reduce_18 : decode cX0_reduce 18 = .ok (.iaload, 1) := by decide +kernel
theorem dX0_reduce_19 : decode cX0_reduce 19 = .ok (.iand, 1) := by decide +kernel
theorem dX0_reduce_20 : decode cX0_reduce 20 = .ok (.ifCond .eq 12, 3) := by decide +kernel
theorem dX0_reduce_23 : decode cX0_reduce 23 = .ok (.iload_n 2, 1) := by decide +kernel
theorem dX0_reduce_24 : decode cX0_reduce 24 = .ok (.aload_n 0, 1) := by decide +kernel
theorem dX0_reduce_25 : decode cX0_reduce 25 = .ok (.getfield 9, 3) := by decide +kernel
theorem dX0_reduce_28 : decode cX0_reduce 28 = .ok (.iload_n 3, 1) := by decide +kernel
theorem dX0_reduce_29 : decode cX0_reduce 29 = .ok (.iaload, 1) := by decide +kernel
theorem dX0_reduce_30 : decode cX0_reduce 30 = .ok (.ixor, 1) := by decide +kernel
theorem dX0_reduce_31 : decode cX0_reduce 31 = .ok (.istore_n 2, 1) := by decide +kernel
theorem dX0_reduce_32 : decode cX0_reduce 32 = .ok (.iinc 3 1, 3) := by decide +kernel
theorem dX0_reduce_35 : decode cX0_reduce 35 = .ok (.goto (-31), 3) := by decide +kernel
theorem dX0_reduce_38 : decode cX0_reduce 38 = .ok (.iload_n 2, 1) := by decide +kernel
theorem dX0_reduce_39 : decode cX0_reduce 39 = .ok (.ireturn, 1) := by decide +kernel
set_option maxHeartbeats 4000000 in
set_option maxRecDepth 100000 in
theorem s_X0_reduce {P : PP} {a0 : Nat} {a1 : Int32} (I : IV P) (ha0 : At P a0 0) : CtrI yX0_reduce cX0_reduce 4 (some Jvm.ClassFile.FieldType.int) ({ frames := 1, cells := 0, slots := 0, locals := 64 } : Room) 0 0 P [.ref a0, .int a1] (fun r P2 => P = P2 ∧ (True)) := by
  refine enI (lv := [(0, .ref a0), (1, .int a1)]) (by decide) (Nat.le_of_ble_eq_true rfl) rfl (fun E D cy C Ci0 ret => ?_)
  have J4 : ∀ (n4 : Nat) (v4_2 : Int32) (v4_3 : Int32), (20 - v4_3.toInt).toNat < n4 → (0 ≤ v4_3.toInt ∧ v4_3.toInt ≤ 20) → G E ({ frames := 1, cells := 0, slots := 0, locals := 64 } : Room) D cy 4 P 0 0 4 [(0, .ref a0), (2, .int v4_2), (3, .int v4_3)] [] := by
    intro n4
    induction n4 with
    | zero => intro v4_2 v4_3 hm4 hv4_3; omega
    | succ n4 ih4 =>
      intro v4_2 v4_3 hm4 hv4_3
      have J32 : ∀ (v32_2 : Int32), (0 ≤ v4_3.toInt ∧ v4_3.toInt ≤ 19) → (1 ≤ (pI P a0 2).toInt ∧ (pI P a0 2).toInt ≤ 20) → G E ({ frames := 1, cells := 0, slots := 0, locals := 64 } : Room) D cy 4 P 0 0 32 [(0, .ref a0), (2, .int v32_2), (3, .int v4_3)] [] := by
        intro v32_2 hv32_3 hq32_0
        refine s_iinc (lv0 := [(0, .ref a0), (2, .int v32_2)]) (m := 1) C dX0_reduce_32 2 rfl (by decide) rfl (by decide) (by omega) (fun z235 h236 => ?_)
        have h236 : z235.toInt = v4_3.toInt + 1 := h236
        refine g_goto C 4 dX0_reduce_35 (by decide) ?_
        refine g_lv (lv' := [(0, .ref a0), (2, .int v32_2), (3, .int z235)]) [1, 2, 0] rfl ?_
        exact ih4 v32_2 z235 (by omega) (by omega)
      refine g_iload_n C dX0_reduce_4 rfl 2 rfl ?_
      refine g_aload_n C dX0_reduce_5 rfl 0 rfl ?_
      refine g_getI C fi_X0_18 (by decide) (ha0).1 (ha0).2 dX0_reduce_6 ?_
      have h237 := I.rg (ha0) 2 rfl
      refine b_icmp_ge C 38 dX0_reduce_9 (by decide) (fun h238 => ?_) (fun h238 => ?_)
      · have h238 : (pI P a0 2).toInt ≤ v4_3.toInt := h238
        refine g_iload_n C dX0_reduce_38 rfl 1 rfl ?_
        exact ret _ _ _ _ _ _ dX0_reduce_39 rfl (by decide) (by decide) ⟨rfl, trivial⟩
      · have h238 : v4_3.toInt < (pI P a0 2).toInt := h238
        refine g_iload_n C dX0_reduce_12 rfl 1 rfl ?_
        refine g_aload_n C dX0_reduce_13 rfl 0 rfl ?_
        obtain ⟨b239, e240, h241⟩ := I.fld (ha0) 1 13 20 rfl
        refine g_getR C fi_X0_15 rfl e240 (ha0).1 (ha0).2 dX0_reduce_14 ?_
        refine g_iload_n C dX0_reduce_17 rfl 2 rfl ?_
        refine g_iald (j := (v4_3.toInt.toNat)) C h241.1 h241.2.1 (ix_in h241.2.2 (by omega)) dX0_reduce_18 ?_
        refine g_topi (fun z242 _ => ?_)
        refine a_iand C dX0_reduce_19 (fun z243 => ?_)
        have u246 := ti_rng z243
        refine b_if_eq C 32 dX0_reduce_20 (by decide) (fun h245 => ?_) (fun h245 => ?_)
        · have h245 : z243.toInt = 0 := congrArg Int32.toInt h245
          exact J32 v4_2 (by omega) (by omega)
        · have h245 : z243.toInt ≠ 0 := ti_ne h245
          refine g_iload_n C dX0_reduce_23 rfl 1 rfl ?_
          refine g_aload_n C dX0_reduce_24 rfl 0 rfl ?_
          obtain ⟨b247, e248, h249⟩ := I.fld (ha0) 0 13 20 rfl
          refine g_getR C fi_X0_9 rfl e248 (ha0).1 (ha0).2 dX0_reduce_25 ?_
          refine g_iload_n C dX0_reduce_28 rfl 2 rfl ?_
          refine g_iald (j := (v4_3.toInt.toNat)) C h249.1 h249.2.1 (ix_in h249.2.2 (by omega)) dX0_reduce_29 ?_
          refine g_topi (fun z250 _ => ?_)
          refine a_ixor C dX0_reduce_30 (fun z251 => ?_)
          refine g_istore_n (lv' := [(2, .int z251), (0, .ref a0), (3, .int v4_3)]) C dX0_reduce_31 rfl (by decide) rfl ?_
          refine g_lv (lv' := [(0, .ref a0), (2, .int z251), (3, .int v4_3)]) [1, 0, 2] rfl ?_
          exact J32 z251 (by omega) (by omega)
  refine g_iload_n C dX0_reduce_0 rfl 1 rfl ?_
  refine g_istore_n (lv' := [(2, .int a1), (0, .ref a0), (1, .int a1)]) C dX0_reduce_1 rfl (by decide) rfl ?_
  refine g_iconst (v := 0) C dX0_reduce_2 (by decide) ?_
  refine g_istore_n (lv' := [(3, .int 0), (2, .int a1), (0, .ref a0), (1, .int a1)]) C dX0_reduce_3 rfl (by decide) rfl ?_
  refine g_lv (lv' := [(0, .ref a0), (2, .int a1), (3, .int 0)]) [2, 1, 0] rfl ?_
  exact J4 _ a1 0 (Nat.lt_succ_self _) (by decide)
theorem dX0_add_5 : decode cX0_add 5 = .ok (.istore_n 2, 1) := by decide +kernel
theorem dX0_add_6 : decode cX0_add 6 = .ok (.iload_n 2, 1) := by decide +kernel
theorem dX0_add_7 : decode cX0_add 7 = .ok (.ldc 40, 2) := by decide +kernel
theorem dX0_add_9 : decode cX0_add 9 = .ok (.iand, 1) := by decide +kernel
theorem dX0_add_10 : decode cX0_add 10 = .ok (.istore_n 3, 1) := by decide +kernel
theorem dX0_add_11 : decode cX0_add 11 = .ok (.iload_n 3, 1) := by decide +kernel
theorem dX0_add_12 : decode cX0_add 12 = .ok (.ifCond .ne 26, 3) := by decide +kernel
theorem dX0_add_15 : decode cX0_add 15 = .ok (.aload_n 0, 1) := by decide +kernel
theorem dX0_add_16 : decode cX0_add 16 = .ok (.aload_n 0, 1) := by decide +kernel
theorem dX0_add_17 : decode cX0_add 17 = .ok (.getfield 22, 3) := by decide +kernel
theorem dX0_add_20 : decode cX0_add 20 = .ok (.ifCond .eq 11, 3) := by decide +kernel
theorem dX0_add_23 : decode cX0_add 23 = .ok (.iload_n 2, 1) := by decide +kernel
theorem dX0_add_24 : decode cX0_add 24 = .ok (.ifCond .ne 7, 3) := by decide +kernel
theorem dX0_add_27 : decode cX0_add 27 = .ok (.iconst 1, 1) := by decide +kernel
theorem dX0_add_28 : decode cX0_add 28 = .ok (.goto 4, 3) := by decide +kernel
theorem dX0_add_31 : decode cX0_add 31 = .ok (.iconst 0, 1) := by decide +kernel
theorem dX0_add_32 : decode cX0_add 32 = .ok (.putfield 22, 3) := by decide +kernel
theorem dX0_add_35 : decode cX0_add 35 = .ok (.goto 45, 3) := by decide +kernel
theorem dX0_add_38 : decode cX0_add 38 = .ok (.aload_n 0, 1) := by decide +kernel
theorem dX0_add_39 : decode cX0_add 39 = .ok (.getfield 18, 3) := by decide +kernel
theorem dX0_add_42 : decode cX0_add 42 = .ok (.bipush 20, 2) := by decide +kernel
theorem dX0_add_44 : decode cX0_add 44 = .ok (.if_icmp .ge 36, 3) := by decide +kernel
theorem dX0_add_47 : decode cX0_add 47 = .ok (.aload_n 0, 1) := by decide +kernel
theorem dX0_add_48 : decode cX0_add 48 = .ok (.getfield 9, 3) := by decide +kernel
theorem dX0_add_51 : decode cX0_add 51 = .ok (.aload_n 0, 1) := by decide +kernel
theorem dX0_add_52 : decode cX0_add 52 = .ok (.getfield 18, 3) := by decide +kernel
theorem dX0_add_55 : decode cX0_add 55 = .ok (.iload_n 2, 1) := by decide +kernel
theorem dX0_add_56 : decode cX0_add 56 = .ok (.iastore, 1) := by decide +kernel
theorem dX0_add_57 : decode cX0_add 57 = .ok (.aload_n 0, 1) := by decide +kernel
theorem dX0_add_58 : decode cX0_add 58 = .ok (.getfield 15, 3) := by decide +kernel
theorem dX0_add_61 : decode cX0_add 61 = .ok (.aload_n 0, 1) := by decide +kernel
theorem dX0_add_62 : decode cX0_add 62 = .ok (.getfield 18, 3) := by decide +kernel
theorem dX0_add_65 : decode cX0_add 65 = .ok (.iload_n 3, 1) := by decide +kernel
theorem dX0_add_66 : decode cX0_add 66 = .ok (.iload_n 3, 1) := by decide +kernel
theorem dX0_add_67 : decode cX0_add 67 = .ok (.ineg, 1) := by decide +kernel
theorem dX0_add_68 : decode cX0_add 68 = .ok (.iand, 1) := by decide +kernel
theorem dX0_add_69 : decode cX0_add 69 = .ok (.iastore, 1) := by decide +kernel
theorem dX0_add_70 : decode cX0_add 70 = .ok (.aload_n 0, 1) := by decide +kernel
theorem dX0_add_71 : decode cX0_add 71 = .ok (.dup, 1) := by decide +kernel
theorem dX0_add_72 : decode cX0_add 72 = .ok (.getfield 18, 3) := by decide +kernel
theorem dX0_add_75 : decode cX0_add 75 = .ok (.iconst 1, 1) := by decide +kernel
theorem dX0_add_76 : decode cX0_add 76 = .ok (.iadd, 1) := by decide +kernel
theorem dX0_add_77 : decode cX0_add 77 = .ok (.putfield 18, 3) := by decide +kernel
theorem dX0_add_80 : decode cX0_add 80 = .ok (.return_, 1) := by decide +kernel
set_option maxHeartbeats 4000000 in
set_option maxRecDepth 100000 in
theorem s_X0_add {P : PP} {a0 : Nat} {a1 : Int32} (I : IV P) (ha0 : At P a0 0) : CtrV yX0_add cX0_add 4 none ({ frames := 2, cells := 0, slots := 0, locals := 128 } : Room) 0 0 P [.ref a0, .int a1] (fun P2 => IV P2 ∧ EK [0, 13] P P2) := by
  refine enV (lv := [(0, .ref a0), (1, .int a1)]) (by decide) (Nat.le_of_ble_eq_true rfl) rfl (fun E D cy C Ci0 ret => ?_)
  have J32 : ∀ (v32_s0 : Int32), (0 ≤ v32_s0.toInt ∧ v32_s0.toInt ≤ 1) → G E ({ frames := 2, cells := 0, slots := 0, locals := 128 } : Room) D cy 4 P 0 0 32 [] [.int v32_s0, .ref a0] := by
    intro v32_s0 hv32_s0
    refine g_putZ C fi_X0_22 rfl (b01 (by omega)) (ha0).1 (ha0).2 dX0_add_32 ?_
    refine gpW (ks := [0]) (I.setI (ha0) (rgOk.of rfl (by omega))) (EK.setI (ha0).2 (by decide)) (fun Y302 Iy303 Xy304 w305 w306 => ?_)
    have Xz307 : EK [0, 13] P Y302 := Xy304.mono (by decide)
    have h308 := Xy304.at ha0
    refine g_goto C 80 dX0_add_35 (by decide) ?_
    exact ret _ _ _ _ _ dX0_add_80 (by decide) (by decide) ⟨Iy303, Xz307⟩
  have J31 : (0 ≤ (pI P a0 3).toInt ∧ (pI P a0 3).toInt ≤ 1) → G E ({ frames := 2, cells := 0, slots := 0, locals := 128 } : Room) D cy 4 P 0 0 31 [] [.ref a0] := by
    intro hq31_0
    refine g_iconst (v := 0) C dX0_add_31 (by decide) ?_
    exact J32 0 (by decide)
  refine g_aload_n C dX0_add_0 rfl 0 rfl ?_
  refine g_iload_n C dX0_add_1 rfl 1 rfl ?_
  refine g_callVI (rest := []) C mv_X0_36 [.int a1] (s_X0_reduce I ha0) (ha0).1 (ha0).2 rfl rfl (by decide) (Nat.le_of_ble_eq_true rfl) (by decide) dX0_add_2 (fun r309 Y310 h311 => ?_)
  obtain ⟨rfl, h311⟩ := h311
  have h311 : True := h311
  refine g_istore_n (lv' := [(2, .int r309), (0, .ref a0), (1, .int a1)]) C dX0_add_5 rfl (by decide) rfl ?_
  refine g_iload_n C dX0_add_6 rfl 0 rfl ?_
  refine g_ldc (v := 1048575) C kc_X0_40 dX0_add_7 ?_
  refine s_iand C dX0_add_9 (by show 0 ≤ 1048575; omega) (fun z312 h313 => ?_)
  have h313 : 0 ≤ z312.toInt ∧ z312.toInt ≤ 1048575 := h313
  refine g_istore_n (lv' := [(3, .int z312), (2, .int r309), (0, .ref a0), (1, .int a1)]) C dX0_add_10 rfl (by decide) rfl ?_
  refine g_iload_n C dX0_add_11 rfl 0 rfl ?_
  refine b_if_ne C 38 dX0_add_12 (by decide) (fun h314 => ?_) (fun h314 => ?_)
  · have h314 : z312.toInt ≠ 0 := ti_ne h314
    refine g_aload_n C dX0_add_38 rfl 2 rfl ?_
    refine g_getI C fi_X0_18 (by decide) (ha0).1 (ha0).2 dX0_add_39 ?_
    have h315 := I.rg (ha0) 2 rfl
    refine g_bipush (v := 20) C dX0_add_42 (by decide) ?_
    refine b_icmp_ge C 80 dX0_add_44 (by decide) (fun h316 => ?_) (fun h316 => ?_)
    · have h316 : 20 ≤ (pI P a0 2).toInt := h316
      exact ret _ _ _ _ _ dX0_add_80 (by decide) (by decide) ⟨I, EK.rf⟩
    · have h316 : (pI P a0 2).toInt < 20 := h316
      refine g_aload_n C dX0_add_47 rfl 2 rfl ?_
      obtain ⟨b317, e318, h319⟩ := I.fld (ha0) 0 13 20 rfl
      refine g_getR C fi_X0_9 rfl e318 (ha0).1 (ha0).2 dX0_add_48 ?_
      refine g_aload_n C dX0_add_51 rfl 2 rfl ?_
      refine g_getI C fi_X0_18 (by decide) (ha0).1 (ha0).2 dX0_add_52 ?_
      refine g_iload_n C dX0_add_55 rfl 1 rfl ?_
      refine g_iast (j := ((pI P a0 2).toInt.toNat)) C h319.1 h319.2.1 (ix_in h319.2.2 (by omega)) dX0_add_56 ?_
      refine gp (ks := [13]) (I.setA h319 (by decide)) (EK.setI h319.2.1 (by decide)) (fun Y320 Iy321 Xy322 => ?_)
      have q323 := Xy322.keep ha0 (by decide) 2
      have Xz324 : EK [0, 13] P Y320 := Xy322.mono (by decide)
      have h325 := Xy322.at ha0
      refine g_aload_n C dX0_add_57 rfl 2 rfl ?_
      obtain ⟨b326, e327, h328⟩ := Iy321.fld (h325) 1 13 20 rfl
      refine g_getR C fi_X0_15 rfl e327 (h325).1 (h325).2 dX0_add_58 ?_
      refine g_aload_n C dX0_add_61 rfl 2 rfl ?_
      refine g_getI C fi_X0_18 (by decide) (h325).1 (h325).2 dX0_add_62 ?_
      refine g_iload_n C dX0_add_65 rfl 0 rfl ?_
      refine g_iload_n C dX0_add_66 rfl 0 rfl ?_
      refine a_ineg C dX0_add_67 (fun z329 => ?_)
      refine a_iand C dX0_add_68 (fun z330 => ?_)
      refine g_iast (j := ((pI Y320 a0 2).toInt.toNat)) C h328.1 h328.2.1 (ix_in h328.2.2 (by omega)) dX0_add_69 ?_
      refine gp (ks := [13]) (Iy321.setA h328 (by decide)) (EK.setI h328.2.1 (by decide)) (fun Y332 Iy333 Xy334 => ?_)
      have q335 := Xy334.keep h325 (by decide) 2
      have Xz336 : EK [0, 13] P Y332 := Xz324.tr (Xy334.mono (by decide))
      have h337 := Xy334.at h325
      refine g_aload_n C dX0_add_70 rfl 2 rfl ?_
      refine g_dup C dX0_add_71 rfl ?_
      refine g_getI C fi_X0_18 (by decide) (h337).1 (h337).2 dX0_add_72 ?_
      refine g_iconst (v := 1) C dX0_add_75 (by decide) ?_
      refine s_iadd C dX0_add_76 (by show -2147483648 ≤ (pI Y332 a0 2).toInt + 1 ∧ (pI Y332 a0 2).toInt + 1 ≤ 2147483647; omega) (fun z338 h339 => ?_)
      have h339 : z338.toInt = (pI Y332 a0 2).toInt + 1 := h339
      refine g_putI C fi_X0_18 rfl (h337).1 (h337).2 dX0_add_77 ?_
      refine gpW (ks := [0]) (Iy333.setI (h337) (rgOk.of rfl (by omega))) (EK.setI (h337).2 (by decide)) (fun Y340 Iy341 Xy342 w343 w344 => ?_)
      have Xz345 : EK [0, 13] P Y340 := Xz336.tr (Xy342.mono (by decide))
      have h346 := Xy342.at h337
      exact ret _ _ _ _ _ dX0_add_80 (by decide) (by decide) ⟨Iy341, Xz345⟩
  · have h314 : z312.toInt = 0 := congrArg Int32.toInt h314
    refine g_aload_n C dX0_add_15 rfl 2 rfl ?_
    refine g_aload_n C dX0_add_16 rfl 2 rfl ?_
    refine g_getI C fi_X0_22 (by decide) (ha0).1 (ha0).2 dX0_add_17 ?_
    have h347 := I.rg (ha0) 3 rfl
    refine b_if_eq C 31 dX0_add_20 (by decide) (fun h348 => ?_) (fun h348 => ?_)
    · have h348 : (pI P a0 3).toInt = 0 := congrArg Int32.toInt h348
      refine g_lv (lv' := []) [] rfl ?_
      exact J31 (by omega)
    · have h348 : (pI P a0 3).toInt ≠ 0 := ti_ne h348
      refine g_iload_n C dX0_add_23 rfl 1 rfl ?_
      have u350 := ti_rng r309
      refine b_if_ne C 31 dX0_add_24 (by decide) (fun h349 => ?_) (fun h349 => ?_)
      · have h349 : r309.toInt ≠ 0 := ti_ne h349
        refine g_lv (lv' := []) [] rfl ?_
        exact J31 (by omega)
      · have h349 : r309.toInt = 0 := congrArg Int32.toInt h349
        refine g_iconst (v := 1) C dX0_add_27 (by decide) ?_
        refine g_goto C 32 dX0_add_28 (by decide) ?_
        refine g_lv (lv' := []) [] rfl ?_
        exact J32 1 (by decide)
theorem dX0_cut_0 : decode cX0_cut 0 = .ok (.aload_n 0, 1) := by decide +kernel
theorem dX0_cut_1 : decode cX0_cut 1 = .ok (.iload_n 1, 1) := by decide +kernel
theorem dX0_cut_2 : decode cX0_cut 2 = .ok (.ifCond .lt 15, 3) := by decide +kernel
theorem dX0_cut_5 : decode cX0_cut 5 = .ok (.iload_n 1, 1) := by decide +kernel
theorem dX0_cut_6 : decode cX0_cut 6 = .ok (.aload_n 0, 1) := by decide +kernel
theorem dX0_cut_7 : decode cX0_cut 7 = .ok (.getfield 18, 3) := by decide +kernel
theorem dX0_cut_10 : decode cX0_cut 10 = .ok (.if_icmp .ge 7, 3) := by decide +kernel
theorem dX0_cut_13 : decode cX0_cut 13 = .ok (.iload_n 1, 1) := by decide +kernel
theorem dX0_cut_14 : decode cX0_cut 14 = .ok (.goto 7, 3) := by decide +kernel
theorem dX0_cut_17 : decode cX0_cut 17 = .ok (.aload_n 0, 1) := by decide +kernel
theorem dX0_cut_18 : decode cX0_cut 18 = .ok (.getfield 18, 3) := by decide +kernel
theorem dX0_cut_21 : decode cX0_cut 21 = .ok (.putfield 18, 3) := by decide +kernel
theorem dX0_cut_24 : decode cX0_cut 24 = .ok (.aload_n 0, 1) := by decide +kernel
theorem dX0_cut_25 : decode cX0_cut 25 = .ok (.iconst 1, 1) := by decide +kernel
theorem dX0_cut_26 : decode cX0_cut 26 = .ok (.putfield 22, 3) := by decide +kernel
theorem dX0_cut_29 : decode cX0_cut 29 = .ok (.return_, 1) := by decide +kernel
set_option maxHeartbeats 4000000 in
set_option maxRecDepth 100000 in
theorem s_X0_cut {P : PP} {a0 : Nat} {a1 : Int32} (I : IV P) (ha0 : At P a0 0) : CtrV yX0_cut cX0_cut 2 none ({ frames := 1, cells := 0, slots := 0, locals := 64 } : Room) 0 0 P [.ref a0, .int a1] (fun P2 => IV P2 ∧ EK [0] P P2) := by
  refine enV (lv := [(0, .ref a0), (1, .int a1)]) (by decide) (Nat.le_of_ble_eq_true rfl) rfl (fun E D cy C Ci0 ret => ?_)
  have J21 : ∀ (v21_s0 : Int32), (0 ≤ v21_s0.toInt ∧ v21_s0.toInt ≤ 20) → G E ({ frames := 1, cells := 0, slots := 0, locals := 64 } : Room) D cy 2 P 0 0 21 [(0, .ref a0)] [.int v21_s0, .ref a0] := by
    intro v21_s0 hv21_s0
    refine g_putI C fi_X0_18 rfl (ha0).1 (ha0).2 dX0_cut_21 ?_
    refine gpW (ks := [0]) (I.setI (ha0) (rgOk.of rfl (by omega))) (EK.setI (ha0).2 (by decide)) (fun Y372 Iy373 Xy374 w375 w376 => ?_)
    have Xz377 : EK [0] P Y372 := Xy374.mono (by decide)
    have h378 := Xy374.at ha0
    refine g_aload_n C dX0_cut_24 rfl 0 rfl ?_
    refine g_iconst (v := 1) C dX0_cut_25 (by decide) ?_
    refine g_putZ C fi_X0_22 rfl (Or.inr rfl) (h378).1 (h378).2 dX0_cut_26 ?_
    refine gpW (ks := [0]) (Iy373.setI (h378) (rgOk.of rfl (by decide))) (EK.setI (h378).2 (by decide)) (fun Y379 Iy380 Xy381 w382 w383 => ?_)
    have w383 : (pI Y379 a0 3).toInt = 1 := w383
    have q384 := w382 2 (by decide)
    have Xz385 : EK [0] P Y379 := Xz377.tr (Xy381.mono (by decide))
    have h386 := Xy381.at h378
    exact ret _ _ _ _ _ dX0_cut_29 (by decide) (by decide) ⟨Iy380, Xz385⟩
  have J17 : G E ({ frames := 1, cells := 0, slots := 0, locals := 64 } : Room) D cy 2 P 0 0 17 [(0, .ref a0)] [.ref a0] := by
    refine g_aload_n C dX0_cut_17 rfl 0 rfl ?_
    refine g_getI C fi_X0_18 (by decide) (ha0).1 (ha0).2 dX0_cut_18 ?_
    have h387 := I.rg (ha0) 2 rfl
    exact J21 (pI P a0 2) (by omega)
  refine g_aload_n C dX0_cut_0 rfl 0 rfl ?_
  refine g_iload_n C dX0_cut_1 rfl 1 rfl ?_
  have u389 := ti_rng a1
  refine b_if_lt C 17 dX0_cut_2 (by decide) (fun h388 => ?_) (fun h388 => ?_)
  · have h388 : a1.toInt < 0 := h388
    refine g_lv (lv' := [(0, .ref a0)]) [0] rfl ?_
    exact J17 
  · have h388 : 0 ≤ a1.toInt := h388
    refine g_iload_n C dX0_cut_5 rfl 1 rfl ?_
    refine g_aload_n C dX0_cut_6 rfl 0 rfl ?_
    refine g_getI C fi_X0_18 (by decide) (ha0).1 (ha0).2 dX0_cut_7 ?_
    have h390 := I.rg (ha0) 2 rfl
    have u392 := ti_rng a1
    refine b_icmp_ge C 17 dX0_cut_10 (by decide) (fun h391 => ?_) (fun h391 => ?_)
    · have h391 : (pI P a0 2).toInt ≤ a1.toInt := h391
      refine g_lv (lv' := [(0, .ref a0)]) [0] rfl ?_
      exact J17 
    · have h391 : a1.toInt < (pI P a0 2).toInt := h391
      refine g_iload_n C dX0_cut_13 rfl 1 rfl ?_
      refine g_goto C 21 dX0_cut_14 (by decide) ?_
      refine g_lv (lv' := [(0, .ref a0)]) [0] rfl ?_
      exact J21 a1 (by omega)
theorem dX0_fixedPages_0 : decode cX0_fixedPages 0 = .ok (.iconst 0, 1) := by decide +kernel
theorem dX0_fixedPages_1 : decode cX0_fixedPages 1 = .ok (.istore_n 2, 1) := by decide +kernel
theorem dX0_fixedPages_2 : decode cX0_fixedPages 2 = .ok (.iconst 0, 1) := by decide +kernel
theorem dX0_fixedPages_3 : decode cX0_fixedPages 3 = .ok (.istore_n 3, 1) := by decide +kernel
theorem dX0_fixedPages_4 : decode cX0_fixedPages 4 = .ok (.iload_n 3, 1) := by decide +kernel
theorem dX0_fixedPages_5 : decode cX0_fixedPages 5 = .ok (.iload_n 1, 1) := by decide +kernel
theorem dX0_fixedPages_6 : decode cX0_fixedPages 6 = .ok (.if_icmp .ge 24, 3) := by decide +kernel
theorem dX0_fixedPages_9 : decode cX0_fixedPages 9 = .ok (.aload_n 0, 1) := by decide +kernel
theorem dX0_fixedPages_10 : decode cX0_fixedPages 10 = .ok (.iload_n 3, 1) := by decide +kernel
theorem dX0_fixedPages_11 : decode cX0_fixedPages 11 = .ok (.invokevirtual 41, 3) := by decide +kernel
theorem dX0_fixedPages_30 : decode cX0_fixedPages 30 = .ok (.iload_n 2, 1) := by decide +kernel
theorem dX0_fixedPages_31 : decode cX0_fixedPages 31 = .ok (.ireturn, 1) := by decide +kernel
theorem dX0_octetOf_0 : decode cX0_octetOf 0 = .ok (.aload_n 0, 1) := by decide +kernel
theorem dX0_octetOf_1 : decode cX0_octetOf 1 = .ok (.iconst 1, 1) := by decide +kernel
theorem dX0_octetOf_2 : decode cX0_octetOf 2 = .ok (.iload_n 1, 1) := by decide +kernel
theorem dX0_octetOf_3 : decode cX0_octetOf 3 = .ok (.ishl, 1) := by decide +kernel
theorem dX0_octetOf_4 : decode cX0_octetOf 4 = .ok (.invokevirtual 36, 3) := by decide +kernel
theorem dX0_octetOf_7 : decode cX0_octetOf 7 = .ok (.istore_n 2, 1) := by decide +kernel
theorem dX0_octetOf_8 : decode cX0_octetOf 8 = .ok (.aload_n 0, 1) := by decide +kernel
theorem dX0_octetOf_9 : decode cX0_octetOf 9 = .ok (.getfield 22, 3) := by decide +kernel
theorem dX0_octetOf_12 : decode cX0_octetOf 12 = .ok (.ifCond .eq 17, 3) := by decide +kernel
theorem dX0_octetOf_15 : decode cX0_octetOf 15 = .ok (.iload_n 2, 1) := by decide +kernel
theorem dX0_octetOf_16 : decode cX0_octetOf 16 = .ok (.ldc 40, 2) := by decide +kernel
theorem dX0_octetOf_18 : decode cX0_octetOf 18 = .ok (.iand, 1) := by decide +kernel
theorem dX0_octetOf_19 : decode cX0_octetOf 19 = .ok (.ifCond .ne 10, 3) := by decide +kernel
theorem dX0_octetOf_22 : decode cX0_octetOf 22 = .ok (.iload_n 2, 1) := by decide +kernel
theorem dX0_octetOf_23 : decode cX0_octetOf 23 = .ok (.bipush 20, 2) := by decide +kernel
theorem dX0_octetOf_25 : decode cX0_octetOf 25 = .ok (.iushr, 1) := by decide +kernel
theorem dX0_octetOf_26 : decode cX0_octetOf 26 = .ok (.goto 4, 3) := by decide +kernel
theorem dX0_octetOf_29 : decode cX0_octetOf 29 = .ok (.iconst (-1), 1) := by decide +kernel
theorem dX0_octetOf_30 : decode cX0_octetOf 30 = .ok (.ireturn, 1) := by decide +kernel
set_option maxHeartbeats 4000000 in
set_option maxRecDepth 100000 in
theorem s_X0_octetOf {P : PP} {a0 : Nat} {a1 : Int32} (I : IV P) (ha0 : At P a0 0) : CtrI yX0_octetOf cX0_octetOf 3 (some Jvm.ClassFile.FieldType.int) ({ frames := 2, cells := 0, slots := 0, locals := 128 } : Room) 0 0 P [.ref a0, .int a1] (fun r P2 => P = P2 ∧ (True)) := by
  refine enI (lv := [(0, .ref a0), (1, .int a1)]) (by decide) (Nat.le_of_ble_eq_true rfl) rfl (fun E D cy C Ci0 ret => ?_)
  have J29 : (0 ≤ (pI P a0 3).toInt ∧ (pI P a0 3).toInt ≤ 1) → G E ({ frames := 2, cells := 0, slots := 0, locals := 128 } : Room) D cy 3 P 0 0 29 [] [] := by
    intro hq29_0
    refine g_iconst (v := (-1)) C dX0_octetOf_29 (by decide) ?_
    exact ret _ _ _ _ _ _ dX0_octetOf_30 rfl (by decide) (by decide) ⟨rfl, trivial⟩
  refine g_aload_n C dX0_octetOf_0 rfl 0 rfl ?_
  refine g_iconst (v := 1) C dX0_octetOf_1 (by decide) ?_
  refine g_iload_n C dX0_octetOf_2 rfl 1 rfl ?_
  refine a_ishl C dX0_octetOf_3 (fun z407 => ?_)
  refine g_callVI (rest := []) C mv_X0_36 [.int z407] (s_X0_reduce I ha0) (ha0).1 (ha0).2 rfl rfl (by decide) (Nat.le_of_ble_eq_true rfl) (by decide) dX0_octetOf_4 (fun r409 Y410 h411 => ?_)
  obtain ⟨rfl, h411⟩ := h411
  have h411 : True := h411
  refine g_istore_n (lv' := [(2, .int r409), (0, .ref a0), (1, .int a1)]) C dX0_octetOf_7 rfl (by decide) rfl ?_
  refine g_aload_n C dX0_octetOf_8 rfl 1 rfl ?_
  refine g_getI C fi_X0_22 (by decide) (ha0).1 (ha0).2 dX0_octetOf_9 ?_
  have h412 := I.rg (ha0) 3 rfl
  refine b_if_eq C 29 dX0_octetOf_12 (by decide) (fun h413 => ?_) (fun h413 => ?_)
  · have h413 : (pI P a0 3).toInt = 0 := congrArg Int32.toInt h413
    refine g_lv (lv' := []) [] rfl ?_
    exact J29 (by omega)
  · have h413 : (pI P a0 3).toInt ≠ 0 := ti_ne h413
    refine g_iload_n C dX0_octetOf_15 rfl 0 rfl ?_
    refine g_ldc (v := 1048575) C kc_X0_40 dX0_octetOf_16 ?_
    refine s_iand C dX0_octetOf_18 (by show 0 ≤ 1048575; omega) (fun z414 h415 => ?_)
    have h415 : 0 ≤ z414.toInt ∧ z414.toInt ≤ 1048575 := h415
    refine b_if_ne C 29 dX0_octetOf_19 (by decide) (fun h416 => ?_) (fun h416 => ?_)
    · have h416 : z414.toInt ≠ 0 := ti_ne h416
      refine g_lv (lv' := []) [] rfl ?_
      exact J29 (by omega)
    · have h416 : z414.toInt = 0 := congrArg Int32.toInt h416
      refine g_iload_n C dX0_octetOf_22 rfl 0 rfl ?_
      refine g_bipush (v := 20) C dX0_octetOf_23 (by decide) ?_
      refine a_iushr C dX0_octetOf_25 (fun z417 => ?_)
      refine g_goto C 30 dX0_octetOf_26 (by decide) ?_
      exact ret _ _ _ _ _ _ dX0_octetOf_30 rfl (by decide) (by decide) ⟨rfl, trivial⟩
theorem dX0_fixedPages_14 : decode cX0_fixedPages 14 = .ok (.iconst (-1), 1) := by decide +kernel
theorem dX0_fixedPages_15 : decode cX0_fixedPages 15 = .ok (.if_icmp .eq 9, 3) := by decide +kernel
theorem dX0_fixedPages_18 : decode cX0_fixedPages 18 = .ok (.iload_n 2, 1) := by decide +kernel
theorem dX0_fixedPages_19 : decode cX0_fixedPages 19 = .ok (.iconst 1, 1) := by decide +kernel
theorem dX0_fixedPages_20 : decode cX0_fixedPages 20 = .ok (.iload_n 3, 1) := by decide +kernel
theorem dX0_fixedPages_21 : decode cX0_fixedPages 21 = .ok (.ishl, 1) := by decide +kernel
theorem dX0_fixedPages_22 : decode cX0_fixedPages 22 = .ok (.ior, 1) := by decide +kernel
theorem dX0_fixedPages_23 : decode cX0_fixedPages 23 = .ok (.istore_n 2, 1) := by decide +kernel
theorem dX0_fixedPages_24 : decode cX0_fixedPages 24 = .ok (.iinc 3 1, 3) := by decide +kernel
theorem dX0_fixedPages_27 : decode cX0_fixedPages 27 = .ok (.goto (-23), 3) := by decide +kernel
set_option maxHeartbeats 4000000 in
set_option maxRecDepth 100000 in
theorem s_X0_fixedPages {P : PP} {a0 : Nat} {a1 : Int32} (I : IV P) (ha0 : At P a0 0) : CtrI yX0_fixedPages cX0_fixedPages 4 (some Jvm.ClassFile.FieldType.int) ({ frames := 3, cells := 0, slots := 0, locals := 192 } : Room) 0 0 P [.ref a0, .int a1] (fun r P2 => P = P2 ∧ (True)) := by
  refine enI (lv := [(0, .ref a0), (1, .int a1)]) (by decide) (Nat.le_of_ble_eq_true rfl) rfl (fun E D cy C Ci0 ret => ?_)
  have J4 : ∀ (n4 : Nat) (v4_2 : Int32) (v4_3 : Int32), (2147483647 - v4_3.toInt).toNat < n4 → (0 ≤ v4_3.toInt) → G E ({ frames := 3, cells := 0, slots := 0, locals := 192 } : Room) D cy 4 P 0 0 4 [(0, .ref a0), (1, .int a1), (2, .int v4_2), (3, .int v4_3)] [] := by
    intro n4
    induction n4 with
    | zero => intro v4_2 v4_3 hm4 hv4_3; omega
    | succ n4 ih4 =>
      intro v4_2 v4_3 hm4 hv4_3
      have J24 : ∀ (v24_2 : Int32), (1 ≤ a1.toInt) → (0 ≤ v4_3.toInt ∧ v4_3.toInt ≤ 2147483646) → G E ({ frames := 3, cells := 0, slots := 0, locals := 192 } : Room) D cy 4 P 0 0 24 [(0, .ref a0), (1, .int a1), (2, .int v24_2), (3, .int v4_3)] [] := by
        intro v24_2 hv24_1 hv24_3
        refine s_iinc (lv0 := [(0, .ref a0), (1, .int a1), (2, .int v24_2)]) (m := 1) C dX0_fixedPages_24 3 rfl (by decide) rfl (by decide) (by omega) (fun z849 h850 => ?_)
        have h850 : z849.toInt = v4_3.toInt + 1 := h850
        refine g_goto C 4 dX0_fixedPages_27 (by decide) ?_
        refine g_lv (lv' := [(0, .ref a0), (1, .int a1), (2, .int v24_2), (3, .int z849)]) [1, 2, 3, 0] rfl ?_
        exact ih4 v24_2 z849 (by omega) (by omega)
      refine g_iload_n C dX0_fixedPages_4 rfl 3 rfl ?_
      refine g_iload_n C dX0_fixedPages_5 rfl 1 rfl ?_
      have u852 := ti_rng v4_3
      have u853 := ti_rng a1
      refine b_icmp_ge C 30 dX0_fixedPages_6 (by decide) (fun h851 => ?_) (fun h851 => ?_)
      · have h851 : a1.toInt ≤ v4_3.toInt := h851
        refine g_iload_n C dX0_fixedPages_30 rfl 2 rfl ?_
        exact ret _ _ _ _ _ _ dX0_fixedPages_31 rfl (by decide) (by decide) ⟨rfl, trivial⟩
      · have h851 : v4_3.toInt < a1.toInt := h851
        refine g_aload_n C dX0_fixedPages_9 rfl 0 rfl ?_
        refine g_iload_n C dX0_fixedPages_10 rfl 3 rfl ?_
        refine g_callVI (rest := []) C mv_X0_41 [.int v4_3] (s_X0_octetOf I ha0) (ha0).1 (ha0).2 rfl rfl (by decide) (Nat.le_of_ble_eq_true rfl) (by decide) dX0_fixedPages_11 (fun r854 Y855 h856 => ?_)
        obtain ⟨rfl, h856⟩ := h856
        have h856 : True := h856
        refine g_iconst (v := (-1)) C dX0_fixedPages_14 (by decide) ?_
        have u858 := ti_rng r854
        refine b_icmp_eq C 24 dX0_fixedPages_15 (by decide) (fun h857 => ?_) (fun h857 => ?_)
        · have h857 : r854.toInt = (-1) := congrArg Int32.toInt h857
          exact J24 v4_2 (by omega) (by omega)
        · have h857 : r854.toInt ≠ (-1) := ti_ne h857
          refine g_iload_n C dX0_fixedPages_18 rfl 2 rfl ?_
          refine g_iconst (v := 1) C dX0_fixedPages_19 (by decide) ?_
          refine g_iload_n C dX0_fixedPages_20 rfl 3 rfl ?_
          refine a_ishl C dX0_fixedPages_21 (fun z859 => ?_)
          refine a_ior C dX0_fixedPages_22 (fun z861 => ?_)
          refine g_istore_n (lv' := [(2, .int z861), (0, .ref a0), (1, .int a1), (3, .int v4_3)]) C dX0_fixedPages_23 rfl (by decide) rfl ?_
          refine g_lv (lv' := [(0, .ref a0), (1, .int a1), (2, .int z861), (3, .int v4_3)]) [1, 2, 0, 3] rfl ?_
          exact J24 z861 (by omega) (by omega)
  refine g_iconst (v := 0) C dX0_fixedPages_0 (by decide) ?_
  refine g_istore_n (lv' := [(2, .int 0), (0, .ref a0), (1, .int a1)]) C dX0_fixedPages_1 rfl (by decide) rfl ?_
  refine g_iconst (v := 0) C dX0_fixedPages_2 (by decide) ?_
  refine g_istore_n (lv' := [(3, .int 0), (2, .int 0), (0, .ref a0), (1, .int a1)]) C dX0_fixedPages_3 rfl (by decide) rfl ?_
  refine g_lv (lv' := [(0, .ref a0), (1, .int a1), (2, .int 0), (3, .int 0)]) [2, 3, 1, 0] rfl ?_
  exact J4 _ 0 0 (Nat.lt_succ_self _) (by decide)
theorem dX0_init_0 : decode cX0_init 0 = .ok (.aload_n 0, 1) := by decide +kernel
theorem dX0_init_1 : decode cX0_init 1 = .ok (.invokespecial 3, 3) := by decide +kernel
theorem dX0_init_4 : decode cX0_init 4 = .ok (.aload_n 0, 1) := by decide +kernel
theorem dX0_init_5 : decode cX0_init 5 = .ok (.bipush 20, 2) := by decide +kernel
theorem dX0_init_7 : decode cX0_init 7 = .ok (.newarray .int, 2) := by decide +kernel
theorem dX0_take_0 : decode cX0_take 0 = .ok (.aload_n 0, 1) := by decide +kernel
theorem dX0_take_1 : decode cX0_take 1 = .ok (.iconst 0, 1) := by decide +kernel
theorem dX0_take_2 : decode cX0_take 2 = .ok (.putfield 18, 3) := by decide +kernel
theorem dX0_take_5 : decode cX0_take 5 = .ok (.aload_n 0, 1) := by decide +kernel
theorem dX0_take_6 : decode cX0_take 6 = .ok (.iconst 1, 1) := by decide +kernel
theorem dX0_take_7 : decode cX0_take 7 = .ok (.putfield 22, 3) := by decide +kernel
theorem dX0_take_10 : decode cX0_take 10 = .ok (.iconst 0, 1) := by decide +kernel
theorem dX0_take_11 : decode cX0_take 11 = .ok (.istore_n 3, 1) := by decide +kernel
theorem dX0_take_12 : decode cX0_take 12 = .ok (.iload_n 3, 1) := by decide +kernel
theorem dX0_take_13 : decode cX0_take 13 = .ok (.aload_n 1, 1) := by decide +kernel
theorem dX0_take_14 : decode cX0_take 14 = .ok (.getfield 26, 3) := by decide +kernel
theorem dX0_take_17 : decode cX0_take 17 = .ok (.if_icmp .ge 24, 3) := by decide +kernel
theorem dX0_take_20 : decode cX0_take 20 = .ok (.iload_n 3, 1) := by decide +kernel
theorem dX0_take_21 : decode cX0_take 21 = .ok (.iload_n 2, 1) := by decide +kernel
theorem dX0_take_22 : decode cX0_take 22 = .ok (.if_icmp .eq 13, 3) := by decide +kernel
theorem dX0_take_25 : decode cX0_take 25 = .ok (.aload_n 0, 1) := by decide +kernel
theorem dX0_take_26 : decode cX0_take 26 = .ok (.aload_n 1, 1) := by decide +kernel
theorem dX0_take_27 : decode cX0_take 27 = .ok (.getfield 31, 3) := by decide +kernel
theorem dX0_take_30 : decode cX0_take 30 = .ok (.iload_n 3, 1) := by decide +kernel
theorem dX0_take_31 : decode cX0_take 31 = .ok (.iaload, 1) := by decide +kernel
theorem dX0_take_32 : decode cX0_take 32 = .ok (.invokevirtual 32, 3) := by decide +kernel
theorem dX0_take_35 : decode cX0_take 35 = .ok (.iinc 3 1, 3) := by decide +kernel
theorem dX0_take_38 : decode cX0_take 38 = .ok (.goto (-26), 3) := by decide +kernel
theorem dX0_take_41 : decode cX0_take 41 = .ok (.return_, 1) := by decide +kernel
set_option maxHeartbeats 4000000 in
set_option maxRecDepth 100000 in
theorem s_X0_take {P : PP} {a0 : Nat} {a1 : Nat} {a2 : Int32} (I : IV P) (ha0 : At P a0 0) (ha1 : At P a1 5) : CtrV yX0_take cX0_take 4 none ({ frames := 3, cells := 0, slots := 0, locals := 192 } : Room) 0 0 P [.ref a0, .ref a1, .int a2] (fun P2 => IV P2 ∧ EK [0, 13] P P2) := by
  refine enV (lv := [(0, .ref a0), (1, .ref a1), (2, .int a2)]) (by decide) (Nat.le_of_ble_eq_true rfl) rfl (fun E D cy C Ci0 ret => ?_)
  have J12 : ∀ (n12 : Nat) (P12 : PP) (v12_3 : Int32), (44 - v12_3.toInt).toNat < n12 → (IV P12) → (EK [0, 13] P P12) → (0 ≤ v12_3.toInt ∧ v12_3.toInt ≤ 44) → G E ({ frames := 3, cells := 0, slots := 0, locals := 192 } : Room) D cy 4 P12 0 0 12 [(0, .ref a0), (1, .ref a1), (2, .int a2), (3, .int v12_3)] [] := by
    intro n12
    induction n12 with
    | zero => intro P12 v12_3 hm12 I12 X12 hv12_3; omega
    | succ n12 ih12 =>
      intro P12 v12_3 hm12 I12 X12 hv12_3
      have h1271 := X12.at ha0
      have h1272 := X12.at ha1
      have J35 : ∀ (P35 : PP), (IV P35) → (EK [0, 13] P P35) → (0 ≤ v12_3.toInt ∧ v12_3.toInt ≤ 43) → (1 ≤ (pI P35 a1 4).toInt ∧ (pI P35 a1 4).toInt ≤ 44) → G E ({ frames := 3, cells := 0, slots := 0, locals := 192 } : Room) D cy 4 P35 0 0 35 [(0, .ref a0), (1, .ref a1), (2, .int a2), (3, .int v12_3)] [] := by
        intro P35 I35 X35 hv35_3 hq35_0
        have h1273 := X35.at ha0
        have h1274 := X35.at ha1
        refine s_iinc (lv0 := [(0, .ref a0), (1, .ref a1), (2, .int a2)]) (m := 1) C dX0_take_35 3 rfl (by decide) rfl (by decide) (by omega) (fun z1275 h1276 => ?_)
        have h1276 : z1275.toInt = v12_3.toInt + 1 := h1276
        refine g_goto C 12 dX0_take_38 (by decide) ?_
        refine g_lv (lv' := [(0, .ref a0), (1, .ref a1), (2, .int a2), (3, .int z1275)]) [1, 2, 3, 0] rfl ?_
        exact ih12 P35 z1275 (by omega) I35 X35 (by omega)
      refine g_iload_n C dX0_take_12 rfl 3 rfl ?_
      refine g_aload_n C dX0_take_13 rfl 1 rfl ?_
      refine g_getI C fi_X0_26 (by decide) (h1272).1 (h1272).2 dX0_take_14 ?_
      have h1277 := I12.rg (h1272) 4 rfl
      refine b_icmp_ge C 41 dX0_take_17 (by decide) (fun h1278 => ?_) (fun h1278 => ?_)
      · have h1278 : (pI P12 a1 4).toInt ≤ v12_3.toInt := h1278
        exact ret _ _ _ _ _ dX0_take_41 (by decide) (by decide) ⟨I12, X12⟩
      · have h1278 : v12_3.toInt < (pI P12 a1 4).toInt := h1278
        refine g_iload_n C dX0_take_20 rfl 3 rfl ?_
        refine g_iload_n C dX0_take_21 rfl 2 rfl ?_
        have u1280 := ti_rng a2
        refine b_icmp_eq C 35 dX0_take_22 (by decide) (fun h1279 => ?_) (fun h1279 => ?_)
        · have h1279 : v12_3.toInt = a2.toInt := congrArg Int32.toInt h1279
          exact J35 P12 I12 X12 (by omega) (by omega)
        · have h1279 : v12_3.toInt ≠ a2.toInt := ti_ne h1279
          refine g_aload_n C dX0_take_25 rfl 0 rfl ?_
          refine g_aload_n C dX0_take_26 rfl 1 rfl ?_
          obtain ⟨b1281, e1282, h1283⟩ := I12.fld (h1272) 0 13 44 rfl
          refine g_getR C fi_X0_31 rfl e1282 (h1272).1 (h1272).2 dX0_take_27 ?_
          refine g_iload_n C dX0_take_30 rfl 3 rfl ?_
          refine g_iald (j := (v12_3.toInt.toNat)) C h1283.1 h1283.2.1 (ix_in h1283.2.2 (by omega)) dX0_take_31 ?_
          refine g_topi (fun z1284 _ => ?_)
          refine g_callVV (rest := []) C mv_X0_32 [.int z1284] (s_X0_add I12 h1271) (h1271).1 (h1271).2 rfl rfl (by decide) (Nat.le_of_ble_eq_true rfl) (by decide) dX0_take_32 (fun Y1286 h1287 => ?_)
          obtain ⟨Iy1288, Xy1289⟩ := h1287
          have q1290 := Xy1289.keep h1272 (by decide) 4
          have Xz1291 : EK [0, 13] P Y1286 := X12.tr (Xy1289.mono (by decide))
          have h1292 := Xy1289.at h1271
          have h1293 := Xy1289.at h1272
          exact J35 Y1286 Iy1288 Xz1291 (by omega) (by omega)
  refine g_aload_n C dX0_take_0 rfl 0 rfl ?_
  refine g_iconst (v := 0) C dX0_take_1 (by decide) ?_
  refine g_putI C fi_X0_18 rfl (ha0).1 (ha0).2 dX0_take_2 ?_
  refine gpW (ks := [0]) (I.setI (ha0) (rgOk.of rfl (by decide))) (EK.setI (ha0).2 (by decide)) (fun Y1294 Iy1295 Xy1296 w1297 w1298 => ?_)
  have w1298 : (pI Y1294 a0 2).toInt = 0 := w1298
  have Xz1299 : EK [0, 13] P Y1294 := Xy1296.mono (by decide)
  have h1300 := Xy1296.at ha0
  have h1301 := Xy1296.at ha1
  refine g_aload_n C dX0_take_5 rfl 0 rfl ?_
  refine g_iconst (v := 1) C dX0_take_6 (by decide) ?_
  refine g_putZ C fi_X0_22 rfl (Or.inr rfl) (h1300).1 (h1300).2 dX0_take_7 ?_
  refine gpW (ks := [0]) (Iy1295.setI (h1300) (rgOk.of rfl (by decide))) (EK.setI (h1300).2 (by decide)) (fun Y1302 Iy1303 Xy1304 w1305 w1306 => ?_)
  have w1306 : (pI Y1302 a0 3).toInt = 1 := w1306
  have q1307 := w1305 2 (by decide)
  have Xz1308 : EK [0, 13] P Y1302 := Xz1299.tr (Xy1304.mono (by decide))
  have h1309 := Xy1304.at h1300
  have h1310 := Xy1304.at h1301
  refine g_iconst (v := 0) C dX0_take_10 (by decide) ?_
  refine g_istore_n (lv' := [(3, .int 0), (0, .ref a0), (1, .ref a1), (2, .int a2)]) C dX0_take_11 rfl (by decide) rfl ?_
  refine g_lv (lv' := [(0, .ref a0), (1, .ref a1), (2, .int a2), (3, .int 0)]) [1, 2, 3, 0] rfl ?_
  exact J12 _ Y1302 0 (Nat.lt_succ_self _) Iy1303 Xz1308 (by decide)
theorem dX10_allAgree_0 : decode cX10_allAgree 0 = .ok (.iconst 0, 1) := by decide +kernel
theorem dX10_allAgree_1 : decode cX10_allAgree 1 = .ok (.istore_n 1, 1) := by decide +kernel
theorem dX10_allAgree_2 : decode cX10_allAgree 2 = .ok (.iload_n 1, 1) := by decide +kernel
theorem dX10_allAgree_3 : decode cX10_allAgree 3 = .ok (.aload_n 0, 1) := by decide +kernel
theorem dX10_allAgree_4 : decode cX10_allAgree 4 = .ok (.getfield 23, 3) := by decide +kernel
theorem dX10_allAgree_7 : decode cX10_allAgree 7 = .ok (.arraylength, 1) := by decide +kernel
theorem dX10_allAgree_8 : decode cX10_allAgree 8 = .ok (.if_icmp .ge 23, 3) := by decide +kernel
theorem dX10_allAgree_11 : decode cX10_allAgree 11 = .ok (.aload_n 0, 1) := by decide +kernel
theorem dX10_allAgree_12 : decode cX10_allAgree 12 = .ok (.getfield 23, 3) := by decide +kernel
theorem dX10_allAgree_15 : decode cX10_allAgree 15 = .ok (.iload_n 1, 1) := by decide +kernel
theorem dX10_allAgree_16 : decode cX10_allAgree 16 = .ok (.aaload, 1) := by decide +kernel
theorem dX10_allAgree_17 : decode cX10_allAgree 17 = .ok (.getfield 56, 3) := by decide +kernel
theorem dX10_allAgree_20 : decode cX10_allAgree 20 = .ok (.ifCond .ne 5, 3) := by decide +kernel
theorem dX10_allAgree_23 : decode cX10_allAgree 23 = .ok (.iconst 0, 1) := by decide +kernel
theorem dX10_allAgree_24 : decode cX10_allAgree 24 = .ok (.ireturn, 1) := by decide +kernel
theorem dX10_allAgree_25 : decode cX10_allAgree 25 = .ok (.iinc 1 1, 3) := by decide +kernel
theorem dX10_allAgree_28 : decode cX10_allAgree 28 = .ok (.goto (-26), 3) := by decide +kernel
theorem dX10_allAgree_31 : decode cX10_allAgree 31 = .ok (.iconst 1, 1) := by decide +kernel
theorem dX10_allAgree_32 : decode cX10_allAgree 32 = .ok (.ireturn, 1) := by decide +kernel
set_option maxHeartbeats 4000000 in
set_option maxRecDepth 100000 in
theorem s_X10_allAgree {P : PP} {a0 : Nat} (I : IV P) (ha0 : At P a0 10) : CtrI yX10_allAgree cX10_allAgree 2 (some Jvm.ClassFile.FieldType.boolean) ({ frames := 1, cells := 0, slots := 0, locals := 64 } : Room) 0 0 P [.ref a0] (fun r P2 => P = P2 ∧ (0 ≤ r.toInt ∧ r.toInt ≤ 1)) := by
  refine enI (lv := [(0, .ref a0)]) (by decide) (Nat.le_of_ble_eq_true rfl) rfl (fun E D cy C Ci0 ret => ?_)
  have J2 : ∀ (n2 : Nat) (v2_1 : Int32), (4 - v2_1.toInt).toNat < n2 → (0 ≤ v2_1.toInt ∧ v2_1.toInt ≤ 4) → G E ({ frames := 1, cells := 0, slots := 0, locals := 64 } : Room) D cy 2 P 0 0 2 [(0, .ref a0), (1, .int v2_1)] [] := by
    intro n2
    induction n2 with
    | zero => intro v2_1 hm2 hv2_1; omega
    | succ n2 ih2 =>
      intro v2_1 hm2 hv2_1
      refine g_iload_n C dX10_allAgree_2 rfl 1 rfl ?_
      refine g_aload_n C dX10_allAgree_3 rfl 0 rfl ?_
      obtain ⟨b1366, e1367, h1368⟩ := I.fld (ha0) 2 16 4 rfl
      refine g_getR C fi_X10_23 rfl e1367 (ha0).1 (ha0).2 dX10_allAgree_4 ?_
      refine g_alen (v := 4) C h1368.1 h1368.2.1 (by decide) (by rw [h1368.2.2]; rfl) dX10_allAgree_7 ?_
      refine b_icmp_ge C 31 dX10_allAgree_8 (by decide) (fun h1369 => ?_) (fun h1369 => ?_)
      · have h1369 : 4 ≤ v2_1.toInt := h1369
        refine g_iconst (v := 1) C dX10_allAgree_31 (by decide) ?_
        exact ret _ _ _ _ _ _ dX10_allAgree_32 rfl (by decide) (by decide) ⟨rfl, (by decide)⟩
      · have h1369 : v2_1.toInt < 4 := h1369
        refine g_aload_n C dX10_allAgree_11 rfl 0 rfl ?_
        refine g_getR C fi_X10_23 rfl e1367 (ha0).1 (ha0).2 dX10_allAgree_12 ?_
        refine g_iload_n C dX10_allAgree_15 rfl 1 rfl ?_
        obtain ⟨b1370, e1371, h1372⟩ := I.elm h1368 (by decide) (v2_1.toInt.toNat) (by omega)
        refine g_aldR C h1368.1 h1368.2.1 (by decide) (ix_in h1368.2.2 (by omega)) e1371 dX10_allAgree_16 ?_
        refine g_getI C fi_X10_56 (by decide) (h1372).1 (h1372).2 dX10_allAgree_17 ?_
        have h1373 := I.rg (h1372) 3 rfl
        refine b_if_ne C 25 dX10_allAgree_20 (by decide) (fun h1374 => ?_) (fun h1374 => ?_)
        · have h1374 : (pI P b1370 3).toInt ≠ 0 := ti_ne h1374
          refine s_iinc (lv0 := [(0, .ref a0)]) (m := 1) C dX10_allAgree_25 1 rfl (by decide) rfl (by decide) (by omega) (fun z1375 h1376 => ?_)
          have h1376 : z1375.toInt = v2_1.toInt + 1 := h1376
          refine g_goto C 2 dX10_allAgree_28 (by decide) ?_
          refine g_lv (lv' := [(0, .ref a0), (1, .int z1375)]) [1, 0] rfl ?_
          exact ih2 z1375 (by omega) (by omega)
        · have h1374 : (pI P b1370 3).toInt = 0 := congrArg Int32.toInt h1374
          refine g_iconst (v := 0) C dX10_allAgree_23 (by decide) ?_
          exact ret _ _ _ _ _ _ dX10_allAgree_24 rfl (by decide) (by decide) ⟨rfl, (by decide)⟩
  refine g_iconst (v := 0) C dX10_allAgree_0 (by decide) ?_
  refine g_istore_n (lv' := [(1, .int 0), (0, .ref a0)]) C dX10_allAgree_1 rfl (by decide) rfl ?_
  refine g_lv (lv' := [(0, .ref a0), (1, .int 0)]) [1, 0] rfl ?_
  exact J2 _ 0 (Nat.lt_succ_self _) (by decide)
theorem dX10_basisOf_0 : decode cX10_basisOf 0 = .ok (.aload_n 0, 1) := by decide +kernel
theorem dX10_basisOf_1 : decode cX10_basisOf 1 = .ok (.getfield 23, 3) := by decide +kernel
theorem dX10_basisOf_4 : decode cX10_basisOf 4 = .ok (.iload_n 1, 1) := by decide +kernel
theorem dX10_basisOf_5 : decode cX10_basisOf 5 = .ok (.iconst 2, 1) := by decide +kernel
theorem dX10_basisOf_6 : decode cX10_basisOf 6 = .ok (.imul, 1) := by decide +kernel
theorem dX10_basisOf_7 : decode cX10_basisOf 7 = .ok (.iload_n 2, 1) := by decide +kernel
theorem dX10_basisOf_8 : decode cX10_basisOf 8 = .ok (.iadd, 1) := by decide +kernel
theorem dX10_basisOf_9 : decode cX10_basisOf 9 = .ok (.aaload, 1) := by decide +kernel
theorem dX10_basisOf_10 : decode cX10_basisOf 10 = .ok (.areturn, 1) := by decide +kernel
set_option maxHeartbeats 4000000 in
set_option maxRecDepth 100000 in
theorem s_X10_basisOf {P : PP} {a0 : Nat} {a1 : Int32} {a2 : Int32} (I : IV P) (ha0 : At P a0 10) (ha1 : 0 ≤ a1.toInt ∧ a1.toInt ≤ 1) (ha2 : 0 ≤ a2.toInt ∧ a2.toInt ≤ 1) : CtrQ yX10_basisOf cX10_basisOf 3 (some (Jvm.ClassFile.FieldType.object "ThousandLeaflets$Basis")) ({ frames := 1, cells := 0, slots := 0, locals := 64 } : Room) 0 0 P [.ref a0, .int a1, .int a2] (fun r P2 => P = P2 ∧ (∃ b, r = some b ∧ At P2 b 0)) := by
  refine enQ (lv := [(0, .ref a0), (1, .int a1), (2, .int a2)]) (by decide) (by first | exact Or.inl ⟨_, rfl⟩ | exact Or.inr ⟨_, rfl⟩) (Nat.le_of_ble_eq_true rfl) rfl (fun E D cy C Ci0 ret => ?_)
  refine g_aload_n C dX10_basisOf_0 rfl 0 rfl ?_
  obtain ⟨b1387, e1388, h1389⟩ := I.fld (ha0) 2 16 4 rfl
  refine g_getR C fi_X10_23 rfl e1388 (ha0).1 (ha0).2 dX10_basisOf_1 ?_
  refine g_iload_n C dX10_basisOf_4 rfl 1 rfl ?_
  refine g_iconst (v := 2) C dX10_basisOf_5 (by decide) ?_
  refine s_imul C dX10_basisOf_6 (by show -2147483648 ≤ a1.toInt * 2 ∧ a1.toInt * 2 ≤ 2147483647; omega) (fun z1390 h1391 => ?_)
  have h1391 : z1390.toInt = a1.toInt * 2 := h1391
  refine g_iload_n C dX10_basisOf_7 rfl 2 rfl ?_
  refine s_iadd C dX10_basisOf_8 (by show -2147483648 ≤ z1390.toInt + a2.toInt ∧ z1390.toInt + a2.toInt ≤ 2147483647; omega) (fun z1392 h1393 => ?_)
  have h1393 : z1392.toInt = z1390.toInt + a2.toInt := h1393
  obtain ⟨b1394, e1395, h1396⟩ := I.elm h1389 (by decide) (z1392.toInt.toNat) (by omega)
  refine g_aldR C h1389.1 h1389.2.1 (by decide) (ix_in h1389.2.2 (by omega)) e1395 dX10_basisOf_9 ?_
  exact ret _ _ _ _ _ (some b1394) dX10_basisOf_10 (by decide) (by decide) ⟨rfl, ⟨_, rfl, h1396⟩⟩
theorem dX10_bookAt_0 : decode cX10_bookAt 0 = .ok (.iconst 0, 1) := by decide +kernel
theorem dX10_bookAt_1 : decode cX10_bookAt 1 = .ok (.istore_n 2, 1) := by decide +kernel
theorem dX10_bookAt_2 : decode cX10_bookAt 2 = .ok (.iload_n 2, 1) := by decide +kernel
theorem dX10_bookAt_3 : decode cX10_bookAt 3 = .ok (.aload_n 0, 1) := by decide +kernel
theorem dX10_bookAt_4 : decode cX10_bookAt 4 = .ok (.getfield 35, 3) := by decide +kernel
theorem dX10_bookAt_7 : decode cX10_bookAt 7 = .ok (.if_icmp .ge 64, 3) := by decide +kernel
theorem dX10_bookAt_10 : decode cX10_bookAt 10 = .ok (.aload_n 0, 1) := by decide +kernel
theorem dX10_bookAt_11 : decode cX10_bookAt 11 = .ok (.getfield 17, 3) := by decide +kernel
theorem dX10_bookAt_14 : decode cX10_bookAt 14 = .ok (.iload_n 2, 1) := by decide +kernel
theorem dX10_bookAt_15 : decode cX10_bookAt 15 = .ok (.iaload, 1) := by decide +kernel
theorem dX10_bookAt_16 : decode cX10_bookAt 16 = .ok (.iload_n 1, 1) := by decide +kernel
theorem dX10_bookAt_17 : decode cX10_bookAt 17 = .ok (.if_icmp .ne 48, 3) := by decide +kernel
theorem dX10_bookAt_20 : decode cX10_bookAt 20 = .ok (.aload_n 0, 1) := by decide +kernel
theorem dX10_bookAt_21 : decode cX10_bookAt 21 = .ok (.getfield 28, 3) := by decide +kernel
theorem dX10_bookAt_24 : decode cX10_bookAt 24 = .ok (.iload_n 2, 1) := by decide +kernel
theorem dX10_bookAt_25 : decode cX10_bookAt 25 = .ok (.ishr, 1) := by decide +kernel
theorem dX10_bookAt_26 : decode cX10_bookAt 26 = .ok (.iconst 1, 1) := by decide +kernel
theorem dX10_bookAt_27 : decode cX10_bookAt 27 = .ok (.iand, 1) := by decide +kernel
theorem dX10_bookAt_28 : decode cX10_bookAt 28 = .ok (.istore_n 3, 1) := by decide +kernel
theorem dX10_bookAt_29 : decode cX10_bookAt 29 = .ok (.aload_n 0, 1) := by decide +kernel
theorem dX10_bookAt_30 : decode cX10_bookAt 30 = .ok (.getfield 32, 3) := by decide +kernel
theorem dX10_bookAt_33 : decode cX10_bookAt 33 = .ok (.iload_n 2, 1) := by decide +kernel
theorem dX10_bookAt_34 : decode cX10_bookAt 34 = .ok (.ishr, 1) := by decide +kernel
theorem dX10_bookAt_35 : decode cX10_bookAt 35 = .ok (.iconst 1, 1) := by decide +kernel
theorem dX10_bookAt_36 : decode cX10_bookAt 36 = .ok (.iand, 1) := by decide +kernel
theorem dX10_bookAt_37 : decode cX10_bookAt 37 = .ok (.istore 4, 2) := by decide +kernel
theorem dX10_bookAt_39 : decode cX10_bookAt 39 = .ok (.iload_n 3, 1) := by decide +kernel
theorem dX10_bookAt_40 : decode cX10_bookAt 40 = .ok (.iload 4, 2) := by decide +kernel
theorem dX10_bookAt_42 : decode cX10_bookAt 42 = .ok (.iadd, 1) := by decide +kernel
theorem dX10_bookAt_43 : decode cX10_bookAt 43 = .ok (.ifCond .ne 7, 3) := by decide +kernel
theorem dX10_bookAt_46 : decode cX10_bookAt 46 = .ok (.iconst (-1), 1) := by decide +kernel
theorem dX10_bookAt_47 : decode cX10_bookAt 47 = .ok (.goto 17, 3) := by decide +kernel
theorem dX10_bookAt_50 : decode cX10_bookAt 50 = .ok (.iload_n 3, 1) := by decide +kernel
theorem dX10_bookAt_51 : decode cX10_bookAt 51 = .ok (.iload 4, 2) := by decide +kernel
theorem dX10_bookAt_53 : decode cX10_bookAt 53 = .ok (.iadd, 1) := by decide +kernel
theorem dX10_bookAt_54 : decode cX10_bookAt 54 = .ok (.iconst 2, 1) := by decide +kernel
theorem dX10_bookAt_55 : decode cX10_bookAt 55 = .ok (.if_icmp .ne 7, 3) := by decide +kernel
theorem dX10_bookAt_58 : decode cX10_bookAt 58 = .ok (.iconst 2, 1) := by decide +kernel
theorem dX10_bookAt_59 : decode cX10_bookAt 59 = .ok (.goto 5, 3) := by decide +kernel
theorem dX10_bookAt_62 : decode cX10_bookAt 62 = .ok (.iload 4, 2) := by decide +kernel
theorem dX10_bookAt_64 : decode cX10_bookAt 64 = .ok (.ireturn, 1) := by decide +kernel
theorem dX10_bookAt_65 : decode cX10_bookAt 65 = .ok (.iinc 2 1, 3) := by decide +kernel
theorem dX10_bookAt_68 : decode cX10_bookAt 68 = .ok (.goto (-66), 3) := by decide +kernel
theorem dX10_bookAt_71 : decode cX10_bookAt 71 = .ok (.iconst (-1), 1) := by decide +kernel
theorem dX10_bookAt_72 : decode cX10_bookAt 72 = .ok (.ireturn, 1) := by decide +kernel
set_option maxHeartbeats 4000000 in
set_option maxRecDepth 100000 in
theorem s_X10_bookAt {P : PP} {a0 : Nat} {a1 : Int32} (I : IV P) (ha0 : At P a0 10) : CtrI yX10_bookAt cX10_bookAt 5 (some Jvm.ClassFile.FieldType.int) ({ frames := 1, cells := 0, slots := 0, locals := 64 } : Room) 0 0 P [.ref a0, .int a1] (fun r P2 => P = P2 ∧ (-1 ≤ r.toInt ∧ r.toInt ≤ 2)) := by
  refine enI (lv := [(0, .ref a0), (1, .int a1)]) (by decide) (Nat.le_of_ble_eq_true rfl) rfl (fun E D cy C Ci0 ret => ?_)
  have J2 : ∀ (n2 : Nat) (v2_2 : Int32), (6 - v2_2.toInt).toNat < n2 → (0 ≤ v2_2.toInt ∧ v2_2.toInt ≤ 6) → G E ({ frames := 1, cells := 0, slots := 0, locals := 64 } : Room) D cy 5 P 0 0 2 [(0, .ref a0), (1, .int a1), (2, .int v2_2)] [] := by
    intro n2
    induction n2 with
    | zero => intro v2_2 hm2 hv2_2; omega
    | succ n2 ih2 =>
      intro v2_2 hm2 hv2_2
      refine g_iload_n C dX10_bookAt_2 rfl 2 rfl ?_
      refine g_aload_n C dX10_bookAt_3 rfl 0 rfl ?_
      refine g_getI C fi_X10_35 (by decide) (ha0).1 (ha0).2 dX10_bookAt_4 ?_
      have h1572 := I.rg (ha0) 3 rfl
      refine b_icmp_ge C 71 dX10_bookAt_7 (by decide) (fun h1573 => ?_) (fun h1573 => ?_)
      · have h1573 : (pI P a0 3).toInt ≤ v2_2.toInt := h1573
        refine g_iconst (v := (-1)) C dX10_bookAt_71 (by decide) ?_
        exact ret _ _ _ _ _ _ dX10_bookAt_72 rfl (by decide) (by decide) ⟨rfl, (by decide)⟩
      · have h1573 : v2_2.toInt < (pI P a0 3).toInt := h1573
        refine g_aload_n C dX10_bookAt_10 rfl 0 rfl ?_
        obtain ⟨b1574, e1575, h1576⟩ := I.fld (ha0) 1 13 6 rfl
        refine g_getR C fi_X10_17 rfl e1575 (ha0).1 (ha0).2 dX10_bookAt_11 ?_
        refine g_iload_n C dX10_bookAt_14 rfl 2 rfl ?_
        refine g_iald (j := (v2_2.toInt.toNat)) C h1576.1 h1576.2.1 (ix_in h1576.2.2 (by omega)) dX10_bookAt_15 ?_
        refine g_topi (fun z1577 _ => ?_)
        refine g_iload_n C dX10_bookAt_16 rfl 1 rfl ?_
        have u1579 := ti_rng z1577
        have u1580 := ti_rng a1
        refine b_icmp_ne C 65 dX10_bookAt_17 (by decide) (fun h1578 => ?_) (fun h1578 => ?_)
        · have h1578 : z1577.toInt ≠ a1.toInt := ti_ne h1578
          refine s_iinc (lv0 := [(0, .ref a0), (1, .int a1)]) (m := 1) C dX10_bookAt_65 2 rfl (by decide) rfl (by decide) (by omega) (fun z1581 h1582 => ?_)
          have h1582 : z1581.toInt = v2_2.toInt + 1 := h1582
          refine g_goto C 2 dX10_bookAt_68 (by decide) ?_
          refine g_lv (lv' := [(0, .ref a0), (1, .int a1), (2, .int z1581)]) [1, 2, 0] rfl ?_
          exact ih2 z1581 (by omega) (by omega)
        · have h1578 : z1577.toInt = a1.toInt := congrArg Int32.toInt h1578
          refine g_aload_n C dX10_bookAt_20 rfl 0 rfl ?_
          refine g_getI C fi_X10_28 (by decide) (ha0).1 (ha0).2 dX10_bookAt_21 ?_
          refine g_iload_n C dX10_bookAt_24 rfl 2 rfl ?_
          refine a_ishr C dX10_bookAt_25 (fun z1583 => ?_)
          refine g_iconst (v := 1) C dX10_bookAt_26 (by decide) ?_
          refine s_iand C dX10_bookAt_27 (by show 0 ≤ 1; omega) (fun z1585 h1586 => ?_)
          have h1586 : 0 ≤ z1585.toInt ∧ z1585.toInt ≤ 1 := h1586
          refine g_istore_n (lv' := [(3, .int z1585), (0, .ref a0), (1, .int a1), (2, .int v2_2)]) C dX10_bookAt_28 rfl (by decide) rfl ?_
          refine g_aload_n C dX10_bookAt_29 rfl 1 rfl ?_
          refine g_getI C fi_X10_32 (by decide) (ha0).1 (ha0).2 dX10_bookAt_30 ?_
          refine g_iload_n C dX10_bookAt_33 rfl 3 rfl ?_
          refine a_ishr C dX10_bookAt_34 (fun z1587 => ?_)
          refine g_iconst (v := 1) C dX10_bookAt_35 (by decide) ?_
          refine s_iand C dX10_bookAt_36 (by show 0 ≤ 1; omega) (fun z1589 h1590 => ?_)
          have h1590 : 0 ≤ z1589.toInt ∧ z1589.toInt ≤ 1 := h1590
          refine g_istore (lv' := [(4, .int z1589), (3, .int z1585), (0, .ref a0), (1, .int a1), (2, .int v2_2)]) C dX10_bookAt_37 (by decide) rfl ?_
          refine g_iload_n C dX10_bookAt_39 rfl 1 rfl ?_
          refine g_iload C dX10_bookAt_40 0 rfl ?_
          refine s_iadd C dX10_bookAt_42 (by show -2147483648 ≤ z1585.toInt + z1589.toInt ∧ z1585.toInt + z1589.toInt ≤ 2147483647; omega) (fun z1591 h1592 => ?_)
          have h1592 : z1591.toInt = z1585.toInt + z1589.toInt := h1592
          refine b_if_ne C 50 dX10_bookAt_43 (by decide) (fun h1593 => ?_) (fun h1593 => ?_)
          · have h1593 : z1591.toInt ≠ 0 := ti_ne h1593
            refine g_iload_n C dX10_bookAt_50 rfl 1 rfl ?_
            refine g_iload C dX10_bookAt_51 0 rfl ?_
            refine s_iadd C dX10_bookAt_53 (by show -2147483648 ≤ z1585.toInt + z1589.toInt ∧ z1585.toInt + z1589.toInt ≤ 2147483647; omega) (fun z1594 h1595 => ?_)
            have h1595 : z1594.toInt = z1585.toInt + z1589.toInt := h1595
            refine g_iconst (v := 2) C dX10_bookAt_54 (by decide) ?_
            refine b_icmp_ne C 62 dX10_bookAt_55 (by decide) (fun h1596 => ?_) (fun h1596 => ?_)
            · have h1596 : z1594.toInt ≠ 2 := ti_ne h1596
              refine g_iload C dX10_bookAt_62 0 rfl ?_
              exact ret _ _ _ _ _ _ dX10_bookAt_64 rfl (by decide) (by decide) ⟨rfl, (by omega)⟩
            · have h1596 : z1594.toInt = 2 := congrArg Int32.toInt h1596
              refine g_iconst (v := 2) C dX10_bookAt_58 (by decide) ?_
              refine g_goto C 64 dX10_bookAt_59 (by decide) ?_
              exact ret _ _ _ _ _ _ dX10_bookAt_64 rfl (by decide) (by decide) ⟨rfl, (by decide)⟩
          · have h1593 : z1591.toInt = 0 := congrArg Int32.toInt h1593
            refine g_iconst (v := (-1)) C dX10_bookAt_46 (by decide) ?_
            refine g_goto C 64 dX10_bookAt_47 (by decide) ?_
            exact ret _ _ _ _ _ _ dX10_bookAt_64 rfl (by decide) (by decide) ⟨rfl, (by decide)⟩
  refine g_iconst (v := 0) C dX10_bookAt_0 (by decide) ?_
  refine g_istore_n (lv' := [(2, .int 0), (0, .ref a0), (1, .int a1)]) C dX10_bookAt_1 rfl (by decide) rfl ?_
  refine g_lv (lv' := [(0, .ref a0), (1, .int a1), (2, .int 0)]) [1, 2, 0] rfl ?_
  exact J2 _ 0 (Nat.lt_succ_self _) (by decide)
theorem dX10_tryBook_0 : decode cX10_tryBook 0 = .ok (.aload_n 0, 1) := by decide +kernel
theorem dX10_tryBook_1 : decode cX10_tryBook 1 = .ok (.iload 4, 2) := by decide +kernel
theorem dX10_tryBook_3 : decode cX10_tryBook 3 = .ok (.iconst 0, 1) := by decide +kernel
theorem dX10_tryBook_4 : decode cX10_tryBook 4 = .ok (.invokevirtual 64, 3) := by decide +kernel
theorem dX10_tryBook_7 : decode cX10_tryBook 7 = .ok (.astore 5, 2) := by decide +kernel
theorem dX10_tryBook_9 : decode cX10_tryBook 9 = .ok (.aload_n 0, 1) := by decide +kernel
theorem dX10_tryBook_10 : decode cX10_tryBook 10 = .ok (.iload 4, 2) := by decide +kernel
theorem dX10_tryBook_12 : decode cX10_tryBook 12 = .ok (.iconst 1, 1) := by decide +kernel
theorem dX10_tryBook_13 : decode cX10_tryBook 13 = .ok (.invokevirtual 64, 3) := by decide +kernel
theorem dX10_tryBook_16 : decode cX10_tryBook 16 = .ok (.astore 6, 2) := by decide +kernel
theorem dX10_tryBook_18 : decode cX10_tryBook 18 = .ok (.aload 5, 2) := by decide +kernel
theorem dX10_tryBook_20 : decode cX10_tryBook 20 = .ok (.getfield 68, 3) := by decide +kernel
theorem dX10_tryBook_23 : decode cX10_tryBook 23 = .ok (.istore 7, 2) := by decide +kernel
theorem dX10_tryBook_25 : decode cX10_tryBook 25 = .ok (.aload 6, 2) := by decide +kernel
theorem dX10_tryBook_27 : decode cX10_tryBook 27 = .ok (.getfield 68, 3) := by decide +kernel
theorem dX10_tryBook_30 : decode cX10_tryBook 30 = .ok (.istore 8, 2) := by decide +kernel
theorem dX10_tryBook_32 : decode cX10_tryBook 32 = .ok (.aload 5, 2) := by decide +kernel
theorem dX10_tryBook_34 : decode cX10_tryBook 34 = .ok (.aload_n 3, 1) := by decide +kernel
theorem dX10_tryBook_35 : decode cX10_tryBook 35 = .ok (.iload 4, 2) := by decide +kernel
theorem dX10_tryBook_37 : decode cX10_tryBook 37 = .ok (.iconst 0, 1) := by decide +kernel
theorem dX10_tryBook_38 : decode cX10_tryBook 38 = .ok (.invokevirtual 71, 3) := by decide +kernel
theorem dX7_equation_0 : decode cX7_equation 0 = .ok (.aload_n 0, 1) := by decide +kernel
theorem dX7_equation_1 : decode cX7_equation 1 = .ok (.iload_n 1, 1) := by decide +kernel
theorem dX7_equation_2 : decode cX7_equation 2 = .ok (.invokevirtual 33, 3) := by decide +kernel
theorem dX7_pagesBy_0 : decode cX7_pagesBy 0 = .ok (.iload_n 1, 1) := by decide +kernel
theorem dX7_pagesBy_1 : decode cX7_pagesBy 1 = .ok (.ifCond .ne 10, 3) := by decide +kernel
theorem dX7_pagesBy_4 : decode cX7_pagesBy 4 = .ok (.aload_n 0, 1) := by decide +kernel
theorem dX7_pagesBy_5 : decode cX7_pagesBy 5 = .ok (.getfield 27, 3) := by decide +kernel
theorem dX7_pagesBy_8 : decode cX7_pagesBy 8 = .ok (.goto 7, 3) := by decide +kernel
theorem dX7_pagesBy_11 : decode cX7_pagesBy 11 = .ok (.aload_n 0, 1) := by decide +kernel
theorem dX7_pagesBy_12 : decode cX7_pagesBy 12 = .ok (.getfield 30, 3) := by decide +kernel
theorem dX7_pagesBy_15 : decode cX7_pagesBy 15 = .ok (.ireturn, 1) := by decide +kernel
set_option maxHeartbeats 4000000 in
set_option maxRecDepth 100000 in
theorem s_X7_pagesBy {P : PP} {a0 : Nat} {a1 : Int32} (I : IV P) (ha0 : At P a0 7) : CtrI yX7_pagesBy cX7_pagesBy 2 (some Jvm.ClassFile.FieldType.int) ({ frames := 1, cells := 0, slots := 0, locals := 64 } : Room) 0 0 P [.ref a0, .int a1] (fun r P2 => P = P2 ∧ (True)) := by
  refine enI (lv := [(0, .ref a0), (1, .int a1)]) (by decide) (Nat.le_of_ble_eq_true rfl) rfl (fun E D cy C Ci0 ret => ?_)
  refine g_iload_n C dX7_pagesBy_0 rfl 1 rfl ?_
  have u1697 := ti_rng a1
  refine b_if_ne C 11 dX7_pagesBy_1 (by decide) (fun h1696 => ?_) (fun h1696 => ?_)
  · have h1696 : a1.toInt ≠ 0 := ti_ne h1696
    refine g_aload_n C dX7_pagesBy_11 rfl 0 rfl ?_
    refine g_getI C fi_X7_30 (by decide) (ha0).1 (ha0).2 dX7_pagesBy_12 ?_
    exact ret _ _ _ _ _ _ dX7_pagesBy_15 rfl (by decide) (by decide) ⟨rfl, trivial⟩
  · have h1696 : a1.toInt = 0 := congrArg Int32.toInt h1696
    refine g_aload_n C dX7_pagesBy_4 rfl 0 rfl ?_
    refine g_getI C fi_X7_27 (by decide) (ha0).1 (ha0).2 dX7_pagesBy_5 ?_
    refine g_goto C 15 dX7_pagesBy_8 (by decide) ?_
    exact ret _ _ _ _ _ _ dX7_pagesBy_15 rfl (by decide) (by decide) ⟨rfl, trivial⟩
theorem dX7_equation_5 : decode cX7_equation 5 = .ok (.aload_n 0, 1) := by decide +kernel
theorem dX7_equation_6 : decode cX7_equation 6 = .ok (.getfield 18, 3) := by decide +kernel
theorem dX7_equation_9 : decode cX7_equation 9 = .ok (.bipush 8, 2) := by decide +kernel
theorem dX7_equation_11 : decode cX7_equation 11 = .ok (.iload_n 2, 1) := by decide +kernel
theorem dX7_equation_12 : decode cX7_equation 12 = .ok (.imul, 1) := by decide +kernel
theorem dX7_equation_13 : decode cX7_equation 13 = .ok (.ishr, 1) := by decide +kernel
theorem dX7_equation_14 : decode cX7_equation 14 = .ok (.sipush 255, 3) := by decide +kernel
theorem dX7_equation_17 : decode cX7_equation 17 = .ok (.iand, 1) := by decide +kernel
theorem dX7_equation_18 : decode cX7_equation 18 = .ok (.bipush 20, 2) := by decide +kernel
theorem dX7_equation_20 : decode cX7_equation 20 = .ok (.ishl, 1) := by decide +kernel
theorem dX7_equation_21 : decode cX7_equation 21 = .ok (.ior, 1) := by decide +kernel
theorem dX7_equation_22 : decode cX7_equation 22 = .ok (.ireturn, 1) := by decide +kernel
set_option maxHeartbeats 4000000 in
set_option maxRecDepth 100000 in
theorem s_X7_equation {P : PP} {a0 : Nat} {a1 : Int32} {a2 : Int32} (I : IV P) (ha0 : At P a0 7) : CtrI yX7_equation cX7_equation 3 (some Jvm.ClassFile.FieldType.int) ({ frames := 2, cells := 0, slots := 0, locals := 128 } : Room) 0 0 P [.ref a0, .int a1, .int a2] (fun r P2 => P = P2 ∧ (True)) := by
  refine enI (lv := [(0, .ref a0), (1, .int a1), (2, .int a2)]) (by decide) (Nat.le_of_ble_eq_true rfl) rfl (fun E D cy C Ci0 ret => ?_)
  refine g_aload_n C dX7_equation_0 rfl 0 rfl ?_
  refine g_iload_n C dX7_equation_1 rfl 1 rfl ?_
  refine g_callVI (rest := []) C mv_X7_33 [.int a1] (s_X7_pagesBy I ha0) (ha0).1 (ha0).2 rfl rfl (by decide) (Nat.le_of_ble_eq_true rfl) (by decide) dX7_equation_2 (fun r1711 Y1712 h1713 => ?_)
  obtain ⟨rfl, h1713⟩ := h1713
  have h1713 : True := h1713
  refine g_aload_n C dX7_equation_5 rfl 0 rfl ?_
  refine g_getI C fi_X7_18 (by decide) (ha0).1 (ha0).2 dX7_equation_6 ?_
  refine g_bipush (v := 8) C dX7_equation_9 (by decide) ?_
  refine g_iload_n C dX7_equation_11 rfl 2 rfl ?_
  refine a_imul C dX7_equation_12 (fun z1714 => ?_)
  refine a_ishr C dX7_equation_13 (fun z1716 => ?_)
  refine g_sipush (v := 255) C dX7_equation_14 (by decide) ?_
  refine s_iand C dX7_equation_17 (by show 0 ≤ 255; omega) (fun z1718 h1719 => ?_)
  have h1719 : 0 ≤ z1718.toInt ∧ z1718.toInt ≤ 255 := h1719
  refine g_bipush (v := 20) C dX7_equation_18 (by decide) ?_
  refine a_ishl C dX7_equation_20 (fun z1720 => ?_)
  refine a_ior C dX7_equation_21 (fun z1722 => ?_)
  exact ret _ _ _ _ _ _ dX7_equation_22 rfl (by decide) (by decide) ⟨rfl, trivial⟩
theorem dX10_findAll_0 : decode cX10_findAll 0 = .ok (.aload_n 0, 1) := by decide +kernel
theorem dX10_findAll_1 : decode cX10_findAll 1 = .ok (.iconst 0, 1) := by decide +kernel
theorem dX10_findAll_2 : decode cX10_findAll 2 = .ok (.putfield 28, 3) := by decide +kernel
theorem dX10_findAll_5 : decode cX10_findAll 5 = .ok (.aload_n 0, 1) := by decide +kernel
theorem dX10_findAll_6 : decode cX10_findAll 6 = .ok (.iconst 0, 1) := by decide +kernel
theorem dX10_findAll_7 : decode cX10_findAll 7 = .ok (.putfield 32, 3) := by decide +kernel
theorem dX10_findAll_10 : decode cX10_findAll 10 = .ok (.aload_n 0, 1) := by decide +kernel
theorem dX10_findAll_11 : decode cX10_findAll 11 = .ok (.iconst 0, 1) := by decide +kernel
theorem dX10_findAll_12 : decode cX10_findAll 12 = .ok (.putfield 35, 3) := by decide +kernel
theorem dX10_findAll_15 : decode cX10_findAll 15 = .ok (.iconst 0, 1) := by decide +kernel
theorem dX10_findAll_16 : decode cX10_findAll 16 = .ok (.istore_n 2, 1) := by decide +kernel
theorem dX10_findAll_17 : decode cX10_findAll 17 = .ok (.iload_n 2, 1) := by decide +kernel
theorem dX10_findAll_18 : decode cX10_findAll 18 = .ok (.aload_n 1, 1) := by decide +kernel
theorem dX10_findAll_19 : decode cX10_findAll 19 = .ok (.getfield 38, 3) := by decide +kernel
theorem dX10_findAll_22 : decode cX10_findAll 22 = .ok (.if_icmp .ge 66, 3) := by decide +kernel
theorem dX10_findAll_88 : decode cX10_findAll 88 = .ok (.aload_n 0, 1) := by decide +kernel
theorem dX10_findAll_89 : decode cX10_findAll 89 = .ok (.invokevirtual 48, 3) := by decide +kernel
theorem dX10_findAll_92 : decode cX10_findAll 92 = .ok (.ifCond .eq 9, 3) := by decide +kernel
theorem dX10_findAll_95 : decode cX10_findAll 95 = .ok (.aload_n 0, 1) := by decide +kernel
theorem dX10_findAll_96 : decode cX10_findAll 96 = .ok (.iconst 0, 1) := by decide +kernel
theorem dX10_findAll_97 : decode cX10_findAll 97 = .ok (.iconst 0, 1) := by decide +kernel
theorem dX10_findAll_98 : decode cX10_findAll 98 = .ok (.invokevirtual 52, 3) := by decide +kernel
theorem dX10_findAll_101 : decode cX10_findAll 101 = .ok (.return_, 1) := by decide +kernel
theorem dX10_give_0 : decode cX10_give 0 = .ok (.iload_n 1, 1) := by decide +kernel
theorem dX10_give_1 : decode cX10_give 1 = .ok (.aload_n 0, 1) := by decide +kernel
theorem dX10_give_2 : decode cX10_give 2 = .ok (.getfield 35, 3) := by decide +kernel
theorem dX10_give_5 : decode cX10_give 5 = .ok (.if_icmp .ge 9, 3) := by decide +kernel
theorem dX10_give_14 : decode cX10_give 14 = .ok (.aload_n 0, 1) := by decide +kernel
theorem dX10_give_15 : decode cX10_give 15 = .ok (.dup, 1) := by decide +kernel
theorem dX10_give_16 : decode cX10_give 16 = .ok (.getfield 32, 3) := by decide +kernel
theorem dX10_give_19 : decode cX10_give 19 = .ok (.iload_n 2, 1) := by decide +kernel
theorem dX10_give_20 : decode cX10_give 20 = .ok (.ior, 1) := by decide +kernel
theorem dX10_give_21 : decode cX10_give 21 = .ok (.putfield 32, 3) := by decide +kernel
theorem dX10_give_24 : decode cX10_give 24 = .ok (.aload_n 0, 1) := by decide +kernel
theorem dX10_give_25 : decode cX10_give 25 = .ok (.dup, 1) := by decide +kernel
theorem dX10_give_26 : decode cX10_give 26 = .ok (.getfield 28, 3) := by decide +kernel
theorem dX10_give_29 : decode cX10_give 29 = .ok (.iload_n 2, 1) := by decide +kernel
theorem dX10_give_30 : decode cX10_give 30 = .ok (.iconst (-1), 1) := by decide +kernel
theorem dX10_give_31 : decode cX10_give 31 = .ok (.ixor, 1) := by decide +kernel
theorem dX10_give_32 : decode cX10_give 32 = .ok (.ior, 1) := by decide +kernel
theorem dX10_give_33 : decode cX10_give 33 = .ok (.putfield 28, 3) := by decide +kernel
theorem dX10_give_36 : decode cX10_give 36 = .ok (.return_, 1) := by decide +kernel
set_option maxHeartbeats 4000000 in
set_option maxRecDepth 100000 in
theorem s_X10_give_L0 {P : PP} {a0 : Nat} {a1 : Int32} {a2 : Int32} (I : IV P) (ha0 : At P a0 10) (ha1 : 6 ≤ a1.toInt ∧ a1.toInt ≤ 6) : CtrV yX10_give cX10_give 5 none ({ frames := 1, cells := 0, slots := 0, locals := 64 } : Room) 0 0 P [.ref a0, .int a1, .int a2] (fun P2 => IV P2 ∧ EK [10] P P2) := by
  refine enV (lv := [(0, .ref a0), (1, .int a1), (2, .int a2)]) (by decide) (Nat.le_of_ble_eq_true rfl) rfl (fun E D cy C Ci0 ret => ?_)
  have J14 : G E ({ frames := 1, cells := 0, slots := 0, locals := 64 } : Room) D cy 5 P 0 0 14 [(0, .ref a0), (2, .int a2)] [] := by
    refine g_aload_n C dX10_give_14 rfl 0 rfl ?_
    refine g_dup C dX10_give_15 rfl ?_
    refine g_getI C fi_X10_32 (by decide) (ha0).1 (ha0).2 dX10_give_16 ?_
    refine g_iload_n C dX10_give_19 rfl 1 rfl ?_
    refine a_ior C dX10_give_20 (fun z1655 => ?_)
    refine g_putI C fi_X10_32 rfl (ha0).1 (ha0).2 dX10_give_21 ?_
    refine gpW (ks := [10]) (I.setI (ha0) (rgOk.none rfl)) (EK.setI (ha0).2 (by decide)) (fun Y1657 Iy1658 Xy1659 w1660 w1661 => ?_)
    have Xz1662 : EK [10] P Y1657 := Xy1659.mono (by decide)
    have h1663 := Xy1659.at ha0
    refine g_aload_n C dX10_give_24 rfl 0 rfl ?_
    refine g_dup C dX10_give_25 rfl ?_
    refine g_getI C fi_X10_28 (by decide) (h1663).1 (h1663).2 dX10_give_26 ?_
    refine g_iload_n C dX10_give_29 rfl 1 rfl ?_
    refine g_iconst (v := (-1)) C dX10_give_30 (by decide) ?_
    refine a_ixor C dX10_give_31 (fun z1664 => ?_)
    refine a_ior C dX10_give_32 (fun z1666 => ?_)
    refine g_putI C fi_X10_28 rfl (h1663).1 (h1663).2 dX10_give_33 ?_
    refine gpW (ks := [10]) (Iy1658.setI (h1663) (rgOk.none rfl)) (EK.setI (h1663).2 (by decide)) (fun Y1668 Iy1669 Xy1670 w1671 w1672 => ?_)
    have q1673 := w1671 5 (by decide)
    have Xz1674 : EK [10] P Y1668 := Xz1662.tr (Xy1670.mono (by decide))
    have h1675 := Xy1670.at h1663
    exact ret _ _ _ _ _ dX10_give_36 (by decide) (by decide) ⟨Iy1669, Xz1674⟩
  refine g_iload_n C dX10_give_0 rfl 1 rfl ?_
  refine g_aload_n C dX10_give_1 rfl 0 rfl ?_
  refine g_getI C fi_X10_35 (by decide) (ha0).1 (ha0).2 dX10_give_2 ?_
  have h1676 := I.rg (ha0) 3 rfl
  refine b_icmp_ge C 14 dX10_give_5 (by decide) (fun h1677 => ?_) (fun h1677 => ?_)
  · have h1677 : (pI P a0 3).toInt ≤ a1.toInt := h1677
    refine g_lv (lv' := [(0, .ref a0), (2, .int a2)]) [0, 2] rfl ?_
    exact J14 
  · have h1677 : a1.toInt < (pI P a0 3).toInt := h1677
    omega
theorem dX10_tryBook_41 : decode cX10_tryBook 41 = .ok (.invokevirtual 75, 3) := by decide +kernel
theorem dX10_tryBook_44 : decode cX10_tryBook 44 = .ok (.aload 6, 2) := by decide +kernel
theorem dX10_tryBook_46 : decode cX10_tryBook 46 = .ok (.aload_n 3, 1) := by decide +kernel
theorem dX10_tryBook_47 : decode cX10_tryBook 47 = .ok (.iload 4, 2) := by decide +kernel
theorem dX10_tryBook_49 : decode cX10_tryBook 49 = .ok (.iconst 1, 1) := by decide +kernel
theorem dX10_tryBook_50 : decode cX10_tryBook 50 = .ok (.invokevirtual 71, 3) := by decide +kernel
theorem dX10_tryBook_53 : decode cX10_tryBook 53 = .ok (.invokevirtual 75, 3) := by decide +kernel
theorem dX10_tryBook_56 : decode cX10_tryBook 56 = .ok (.aload 5, 2) := by decide +kernel
theorem dX10_tryBook_58 : decode cX10_tryBook 58 = .ok (.getfield 56, 3) := by decide +kernel
theorem dX10_tryBook_61 : decode cX10_tryBook 61 = .ok (.ifCond .eq 24, 3) := by decide +kernel
theorem dX10_tryBook_64 : decode cX10_tryBook 64 = .ok (.aload 6, 2) := by decide +kernel
theorem dX10_tryBook_66 : decode cX10_tryBook 66 = .ok (.getfield 56, 3) := by decide +kernel
theorem dX10_tryBook_69 : decode cX10_tryBook 69 = .ok (.ifCond .eq 16, 3) := by decide +kernel
theorem dX10_tryBook_72 : decode cX10_tryBook 72 = .ok (.aload_n 0, 1) := by decide +kernel
theorem dX10_tryBook_73 : decode cX10_tryBook 73 = .ok (.iload_n 1, 1) := by decide +kernel
theorem dX10_tryBook_74 : decode cX10_tryBook 74 = .ok (.iconst 1, 1) := by decide +kernel
theorem dX10_tryBook_75 : decode cX10_tryBook 75 = .ok (.iadd, 1) := by decide +kernel
theorem dX10_tryBook_76 : decode cX10_tryBook 76 = .ok (.iload_n 2, 1) := by decide +kernel
theorem dX10_tryBook_77 : decode cX10_tryBook 77 = .ok (.iload 4, 2) := by decide +kernel
theorem dX10_tryBook_79 : decode cX10_tryBook 79 = .ok (.iload_n 1, 1) := by decide +kernel
theorem dX10_tryBook_80 : decode cX10_tryBook 80 = .ok (.ishl, 1) := by decide +kernel
theorem dX10_tryBook_81 : decode cX10_tryBook 81 = .ok (.ior, 1) := by decide +kernel
theorem dX10_tryBook_82 : decode cX10_tryBook 82 = .ok (.invokevirtual 52, 3) := by decide +kernel
theorem dX10_tryBook_85 : decode cX10_tryBook 85 = .ok (.aload 5, 2) := by decide +kernel
theorem dX10_tryBook_87 : decode cX10_tryBook 87 = .ok (.iload 7, 2) := by decide +kernel
theorem dX10_tryBook_89 : decode cX10_tryBook 89 = .ok (.invokevirtual 79, 3) := by decide +kernel
theorem dX10_tryBook_92 : decode cX10_tryBook 92 = .ok (.aload 6, 2) := by decide +kernel
theorem dX10_tryBook_94 : decode cX10_tryBook 94 = .ok (.iload 8, 2) := by decide +kernel
theorem dX10_tryBook_96 : decode cX10_tryBook 96 = .ok (.invokevirtual 79, 3) := by decide +kernel
theorem dX10_tryBook_99 : decode cX10_tryBook 99 = .ok (.return_, 1) := by decide +kernel
set_option maxHeartbeats 4000000 in
set_option maxRecDepth 100000 in
theorem s_X10_tryBook_L1 {P : PP} {a0 : Nat} {a1 : Int32} {a2 : Int32} {a3 : Nat} {a4 : Int32} (I : IV P) (ha0 : At P a0 10) (ha1 : 5 ≤ a1.toInt ∧ a1.toInt ≤ 5) (ha3 : At P a3 7) (ha4 : 0 ≤ a4.toInt ∧ a4.toInt ≤ 1) : CtrV yX10_tryBook cX10_tryBook 9 none ({ frames := 3, cells := 0, slots := 0, locals := 192 } : Room) 0 0 P [.ref a0, .int a1, .int a2, .ref a3, .int a4] (fun P2 => IV P2 ∧ EK [0, 10, 13] P P2) := by
  refine enV (lv := [(0, .ref a0), (1, .int a1), (2, .int a2), (3, .ref a3), (4, .int a4)]) (by decide) (Nat.le_of_ble_eq_true rfl) rfl (fun E D cy C Ci0 ret => ?_)
  have J85 : ∀ (P85 : PP) (b85_5 : Nat) (b85_6 : Nat) (v85_7 : Int32) (v85_8 : Int32), (IV P85) → (EK [0, 10, 13] P P85) → (At P85 b85_5 0) → (At P85 b85_6 0) → (0 ≤ v85_7.toInt ∧ v85_7.toInt ≤ 20) → (0 ≤ v85_8.toInt ∧ v85_8.toInt ≤ 20) → (0 ≤ (pI P85 b85_5 3).toInt ∧ (pI P85 b85_5 3).toInt ≤ 1) → G E ({ frames := 3, cells := 0, slots := 0, locals := 192 } : Room) D cy 9 P85 0 0 85 [(5, .ref b85_5), (6, .ref b85_6), (7, .int v85_7), (8, .int v85_8)] [] := by
    intro P85 b85_5 b85_6 v85_7 v85_8 I85 X85 hb85_5 hb85_6 hv85_7 hv85_8 hq85_0
    have h1810 := X85.at ha0
    have h1811 := X85.at ha3
    refine g_aload C dX10_tryBook_85 0 rfl ?_
    refine g_iload C dX10_tryBook_87 2 rfl ?_
    refine g_callVV (rest := []) C mv_X10_79 [.int v85_7] (s_X0_cut I85 hb85_5) (hb85_5).1 (hb85_5).2 rfl rfl (by decide) (Nat.le_of_ble_eq_true rfl) (by decide) dX10_tryBook_89 (fun Y1813 h1814 => ?_)
    obtain ⟨Iy1815, Xy1816⟩ := h1814
    have Xz1817 : EK [0, 10, 13] P Y1813 := X85.tr (Xy1816.mono (by decide))
    have h1818 := Xy1816.at h1810
    have h1819 := Xy1816.at h1811
    have h1820 := Xy1816.at hb85_5
    have h1821 := Xy1816.at hb85_6
    refine g_aload C dX10_tryBook_92 1 rfl ?_
    refine g_iload C dX10_tryBook_94 3 rfl ?_
    refine g_callVV (rest := []) C mv_X10_79 [.int v85_8] (s_X0_cut Iy1815 h1821) (h1821).1 (h1821).2 rfl rfl (by decide) (Nat.le_of_ble_eq_true rfl) (by decide) dX10_tryBook_96 (fun Y1823 h1824 => ?_)
    obtain ⟨Iy1825, Xy1826⟩ := h1824
    have Xz1827 : EK [0, 10, 13] P Y1823 := Xz1817.tr (Xy1826.mono (by decide))
    have h1828 := Xy1826.at h1818
    have h1829 := Xy1826.at h1819
    have h1830 := Xy1826.at h1820
    have h1831 := Xy1826.at h1821
    exact ret _ _ _ _ _ dX10_tryBook_99 (by decide) (by decide) ⟨Iy1825, Xz1827⟩
  refine g_aload_n C dX10_tryBook_0 rfl 0 rfl ?_
  refine g_iload C dX10_tryBook_1 4 rfl ?_
  refine g_iconst (v := 0) C dX10_tryBook_3 (by decide) ?_
  refine g_callVQ (rest := []) C mv_X10_64 [.int a4, .int 0] (s_X10_basisOf I ha0 (by omega) (by decide)) (ha0).1 (ha0).2 rfl rfl (by decide) (Nat.le_of_ble_eq_true rfl) (by decide) dX10_tryBook_4 (fun r1832 Y1833 h1834 => ?_)
  obtain ⟨rfl, h1834⟩ := h1834
  obtain ⟨b1836, rfl, h1834⟩ := h1834
  show G _ _ _ _ _ _ _ _ _ _ (.ref b1836 :: _)
  refine g_astore (lv' := [(5, .ref b1836), (0, .ref a0), (1, .int a1), (2, .int a2), (3, .ref a3), (4, .int a4)]) C dX10_tryBook_7 (by decide) rfl ?_
  refine g_aload_n C dX10_tryBook_9 rfl 1 rfl ?_
  refine g_iload C dX10_tryBook_10 5 rfl ?_
  refine g_iconst (v := 1) C dX10_tryBook_12 (by decide) ?_
  refine g_callVQ (rest := []) C mv_X10_64 [.int a4, .int 1] (s_X10_basisOf I ha0 (by omega) (by decide)) (ha0).1 (ha0).2 rfl rfl (by decide) (Nat.le_of_ble_eq_true rfl) (by decide) dX10_tryBook_13 (fun r1837 Y1838 h1839 => ?_)
  obtain ⟨rfl, h1839⟩ := h1839
  obtain ⟨b1841, rfl, h1839⟩ := h1839
  show G _ _ _ _ _ _ _ _ _ _ (.ref b1841 :: _)
  refine g_astore (lv' := [(6, .ref b1841), (5, .ref b1836), (0, .ref a0), (1, .int a1), (2, .int a2), (3, .ref a3), (4, .int a4)]) C dX10_tryBook_16 (by decide) rfl ?_
  refine g_aload C dX10_tryBook_18 1 rfl ?_
  refine g_getI C fi_X10_68 (by decide) (h1834).1 (h1834).2 dX10_tryBook_20 ?_
  have h1842 := I.rg (h1834) 2 rfl
  refine g_topi (fun z1843 h1844 => ?_)
  have h1844 : z1843.toInt = (pI P b1836 2).toInt := congrArg Int32.toInt h1844
  refine g_istore (lv' := [(7, .int z1843), (6, .ref b1841), (5, .ref b1836), (0, .ref a0), (1, .int a1), (2, .int a2), (3, .ref a3), (4, .int a4)]) C dX10_tryBook_23 (by decide) rfl ?_
  refine g_aload C dX10_tryBook_25 1 rfl ?_
  refine g_getI C fi_X10_68 (by decide) (h1839).1 (h1839).2 dX10_tryBook_27 ?_
  have h1845 := I.rg (h1839) 2 rfl
  refine g_topi (fun z1846 h1847 => ?_)
  have h1847 : z1846.toInt = (pI P b1841 2).toInt := congrArg Int32.toInt h1847
  refine g_istore (lv' := [(8, .int z1846), (7, .int z1843), (6, .ref b1841), (5, .ref b1836), (0, .ref a0), (1, .int a1), (2, .int a2), (3, .ref a3), (4, .int a4)]) C dX10_tryBook_30 (by decide) rfl ?_
  refine g_aload C dX10_tryBook_32 3 rfl ?_
  refine g_aload_n C dX10_tryBook_34 rfl 7 rfl ?_
  refine g_iload C dX10_tryBook_35 8 rfl ?_
  refine g_iconst (v := 0) C dX10_tryBook_37 (by decide) ?_
  refine g_callVI (rest := [.ref b1836]) C mv_X10_71 [.int a4, .int 0] (s_X7_equation I ha3) (ha3).1 (ha3).2 rfl rfl (by decide) (Nat.le_of_ble_eq_true rfl) (by decide) dX10_tryBook_38 (fun r1848 Y1849 h1850 => ?_)
  obtain ⟨rfl, h1850⟩ := h1850
  have h1850 : True := h1850
  refine g_callVV (rest := []) C mv_X10_75 [.int r1848] (s_X0_add I h1834) (h1834).1 (h1834).2 rfl rfl (by decide) (Nat.le_of_ble_eq_true rfl) (by decide) dX10_tryBook_41 (fun Y1852 h1853 => ?_)
  obtain ⟨Iy1854, Xy1855⟩ := h1853
  have Xz1856 : EK [0, 10, 13] P Y1852 := Xy1855.mono (by decide)
  have h1857 := Xy1855.at ha0
  have h1858 := Xy1855.at ha3
  have h1859 := Xy1855.at h1834
  have h1860 := Xy1855.at h1839
  refine g_aload C dX10_tryBook_44 2 rfl ?_
  refine g_aload_n C dX10_tryBook_46 rfl 7 rfl ?_
  refine g_iload C dX10_tryBook_47 8 rfl ?_
  refine g_iconst (v := 1) C dX10_tryBook_49 (by decide) ?_
  refine g_callVI (rest := [.ref b1841]) C mv_X10_71 [.int a4, .int 1] (s_X7_equation Iy1854 h1858) (h1858).1 (h1858).2 rfl rfl (by decide) (Nat.le_of_ble_eq_true rfl) (by decide) dX10_tryBook_50 (fun r1861 Y1862 h1863 => ?_)
  obtain ⟨rfl, h1863⟩ := h1863
  have h1863 : True := h1863
  refine g_callVV (rest := []) C mv_X10_75 [.int r1861] (s_X0_add Iy1854 h1860) (h1860).1 (h1860).2 rfl rfl (by decide) (Nat.le_of_ble_eq_true rfl) (by decide) dX10_tryBook_53 (fun Y1865 h1866 => ?_)
  obtain ⟨Iy1867, Xy1868⟩ := h1866
  have Xz1869 : EK [0, 10, 13] P Y1865 := Xz1856.tr (Xy1868.mono (by decide))
  have h1870 := Xy1868.at h1857
  have h1871 := Xy1868.at h1858
  have h1872 := Xy1868.at h1859
  have h1873 := Xy1868.at h1860
  refine g_aload C dX10_tryBook_56 3 rfl ?_
  refine g_getI C fi_X10_56 (by decide) (h1872).1 (h1872).2 dX10_tryBook_58 ?_
  have h1874 := Iy1867.rg (h1872) 3 rfl
  refine b_if_eq C 85 dX10_tryBook_61 (by decide) (fun h1875 => ?_) (fun h1875 => ?_)
  · have h1875 : (pI Y1865 b1836 3).toInt = 0 := congrArg Int32.toInt h1875
    refine g_lv (lv' := [(5, .ref b1836), (6, .ref b1841), (7, .int z1843), (8, .int z1846)]) [3, 2, 1, 0] rfl ?_
    exact J85 Y1865 b1836 b1841 z1843 z1846 Iy1867 Xz1869 h1872 h1873 (by omega) (by omega) (by omega)
  · have h1875 : (pI Y1865 b1836 3).toInt ≠ 0 := ti_ne h1875
    refine g_aload C dX10_tryBook_64 2 rfl ?_
    refine g_getI C fi_X10_56 (by decide) (h1873).1 (h1873).2 dX10_tryBook_66 ?_
    have h1876 := Iy1867.rg (h1873) 3 rfl
    refine b_if_eq C 85 dX10_tryBook_69 (by decide) (fun h1877 => ?_) (fun h1877 => ?_)
    · have h1877 : (pI Y1865 b1841 3).toInt = 0 := congrArg Int32.toInt h1877
      refine g_lv (lv' := [(5, .ref b1836), (6, .ref b1841), (7, .int z1843), (8, .int z1846)]) [3, 2, 1, 0] rfl ?_
      exact J85 Y1865 b1836 b1841 z1843 z1846 Iy1867 Xz1869 h1872 h1873 (by omega) (by omega) (by omega)
    · have h1877 : (pI Y1865 b1841 3).toInt ≠ 0 := ti_ne h1877
      refine g_aload_n C dX10_tryBook_72 rfl 4 rfl ?_
      refine g_iload_n C dX10_tryBook_73 rfl 5 rfl ?_
      refine g_iconst (v := 1) C dX10_tryBook_74 (by decide) ?_
      refine s_iadd C dX10_tryBook_75 (by show -2147483648 ≤ a1.toInt + 1 ∧ a1.toInt + 1 ≤ 2147483647; omega) (fun z1878 h1879 => ?_)
      have h1879 : z1878.toInt = a1.toInt + 1 := h1879
      refine g_iload_n C dX10_tryBook_76 rfl 6 rfl ?_
      refine g_iload C dX10_tryBook_77 8 rfl ?_
      refine g_iload_n C dX10_tryBook_79 rfl 5 rfl ?_
      refine a_ishl C dX10_tryBook_80 (fun z1880 => ?_)
      refine a_ior C dX10_tryBook_81 (fun z1882 => ?_)
      refine g_callVV (rest := []) C mv_X10_52 [.int z1878, .int z1882] (s_X10_give_L0 Iy1867 h1870 (by omega)) (h1870).1 (h1870).2 rfl rfl (by decide) (Nat.le_of_ble_eq_true rfl) (by decide) dX10_tryBook_82 (fun Y1885 h1886 => ?_)
      obtain ⟨Iy1887, Xy1888⟩ := h1886
      have q1889 := Xy1888.keep h1872 (by decide) 3
      have q1890 := Xy1888.keep h1873 (by decide) 3
      have Xz1891 : EK [0, 10, 13] P Y1885 := Xz1869.tr (Xy1888.mono (by decide))
      have h1892 := Xy1888.at h1870
      have h1893 := Xy1888.at h1871
      have h1894 := Xy1888.at h1872
      have h1895 := Xy1888.at h1873
      refine g_lv (lv' := [(5, .ref b1836), (6, .ref b1841), (7, .int z1843), (8, .int z1846)]) [3, 2, 1, 0] rfl ?_
      exact J85 Y1885 b1836 b1841 z1843 z1846 Iy1887 Xz1891 h1894 h1895 (by omega) (by omega) (by omega)
theorem dX10_give_8 : decode cX10_give 8 = .ok (.iload_n 1, 1) := by decide +kernel
theorem dX10_give_9 : decode cX10_give 9 = .ok (.bipush 6, 2) := by decide +kernel
theorem dX10_give_11 : decode cX10_give 11 = .ok (.if_icmp .lt 26, 3) := by decide +kernel
theorem dX10_give_37 : decode cX10_give 37 = .ok (.aload_n 0, 1) := by decide +kernel
theorem dX10_give_38 : decode cX10_give 38 = .ok (.getfield 11, 3) := by decide +kernel
theorem dX10_give_41 : decode cX10_give 41 = .ok (.iload_n 1, 1) := by decide +kernel
theorem dX10_give_42 : decode cX10_give 42 = .ok (.aaload, 1) := by decide +kernel
theorem dX10_give_43 : decode cX10_give 43 = .ok (.astore_n 3, 1) := by decide +kernel
theorem dX10_give_44 : decode cX10_give 44 = .ok (.aload_n 3, 1) := by decide +kernel
theorem dX10_give_45 : decode cX10_give 45 = .ok (.ifnull 27, 3) := by decide +kernel
theorem dX10_give_48 : decode cX10_give 48 = .ok (.iconst 0, 1) := by decide +kernel
theorem dX10_give_49 : decode cX10_give 49 = .ok (.istore 4, 2) := by decide +kernel
theorem dX10_give_51 : decode cX10_give 51 = .ok (.iload 4, 2) := by decide +kernel
theorem dX10_give_53 : decode cX10_give 53 = .ok (.iconst 2, 1) := by decide +kernel
theorem dX10_give_54 : decode cX10_give 54 = .ok (.if_icmp .ge 18, 3) := by decide +kernel
theorem dX10_give_57 : decode cX10_give 57 = .ok (.aload_n 0, 1) := by decide +kernel
theorem dX10_give_58 : decode cX10_give 58 = .ok (.iload_n 1, 1) := by decide +kernel
theorem dX10_give_59 : decode cX10_give 59 = .ok (.iload_n 2, 1) := by decide +kernel
theorem dX10_give_60 : decode cX10_give 60 = .ok (.aload_n 3, 1) := by decide +kernel
theorem dX10_give_61 : decode cX10_give 61 = .ok (.iload 4, 2) := by decide +kernel
theorem dX10_give_63 : decode cX10_give 63 = .ok (.invokevirtual 60, 3) := by decide +kernel
theorem dX10_give_66 : decode cX10_give 66 = .ok (.iinc 4 1, 3) := by decide +kernel
theorem dX10_give_69 : decode cX10_give 69 = .ok (.goto (-18), 3) := by decide +kernel
theorem dX10_give_72 : decode cX10_give 72 = .ok (.return_, 1) := by decide +kernel
set_option maxHeartbeats 4000000 in
set_option maxRecDepth 100000 in
theorem s_X10_give_L1 {P : PP} {a0 : Nat} {a1 : Int32} {a2 : Int32} (I : IV P) (ha0 : At P a0 10) (ha1 : 5 ≤ a1.toInt ∧ a1.toInt ≤ 5) : CtrV yX10_give cX10_give 5 none ({ frames := 4, cells := 0, slots := 0, locals := 256 } : Room) 0 0 P [.ref a0, .int a1, .int a2] (fun P2 => IV P2 ∧ EK [0, 10, 13] P P2) := by
  refine enV (lv := [(0, .ref a0), (1, .int a1), (2, .int a2)]) (by decide) (Nat.le_of_ble_eq_true rfl) rfl (fun E D cy C Ci0 ret => ?_)
  have J51 : ∀ (n51 : Nat) (P51 : PP) (b51_3 : Nat) (v51_4 : Int32), (2 - v51_4.toInt).toNat < n51 → (IV P51) → (EK [0, 10, 13] P P51) → (At P51 b51_3 7) → (0 ≤ v51_4.toInt ∧ v51_4.toInt ≤ 2) → G E ({ frames := 4, cells := 0, slots := 0, locals := 256 } : Room) D cy 5 P51 0 0 51 [(0, .ref a0), (1, .int a1), (2, .int a2), (3, .ref b51_3), (4, .int v51_4)] [] := by
    intro n51
    induction n51 with
    | zero => intro P51 b51_3 v51_4 hm51 I51 X51 hb51_3 hv51_4; omega
    | succ n51 ih51 =>
      intro P51 b51_3 v51_4 hm51 I51 X51 hb51_3 hv51_4
      have h1963 := X51.at ha0
      refine g_iload C dX10_give_51 4 rfl ?_
      refine g_iconst (v := 2) C dX10_give_53 (by decide) ?_
      refine b_icmp_ge C 72 dX10_give_54 (by decide) (fun h1964 => ?_) (fun h1964 => ?_)
      · have h1964 : 2 ≤ v51_4.toInt := h1964
        exact ret _ _ _ _ _ dX10_give_72 (by decide) (by decide) ⟨I51, X51⟩
      · have h1964 : v51_4.toInt < 2 := h1964
        refine g_aload_n C dX10_give_57 rfl 0 rfl ?_
        refine g_iload_n C dX10_give_58 rfl 1 rfl ?_
        refine g_iload_n C dX10_give_59 rfl 2 rfl ?_
        refine g_aload_n C dX10_give_60 rfl 3 rfl ?_
        refine g_iload C dX10_give_61 4 rfl ?_
        refine g_callVV (rest := []) C mv_X10_60 [.int a1, .int a2, .ref b51_3, .int v51_4] (s_X10_tryBook_L1 I51 h1963 (by omega) hb51_3 (by omega)) (h1963).1 (h1963).2 rfl rfl (by decide) (Nat.le_of_ble_eq_true rfl) (by decide) dX10_give_63 (fun Y1966 h1967 => ?_)
        obtain ⟨Iy1968, Xy1969⟩ := h1967
        have Xz1970 : EK [0, 10, 13] P Y1966 := X51.tr (Xy1969.mono (by decide))
        have h1971 := Xy1969.at h1963
        have h1972 := Xy1969.at hb51_3
        refine s_iinc (lv0 := [(0, .ref a0), (1, .int a1), (2, .int a2), (3, .ref b51_3)]) (m := 1) C dX10_give_66 4 rfl (by decide) rfl (by decide) (by omega) (fun z1973 h1974 => ?_)
        have h1974 : z1973.toInt = v51_4.toInt + 1 := h1974
        refine g_goto C 51 dX10_give_69 (by decide) ?_
        refine g_lv (lv' := [(0, .ref a0), (1, .int a1), (2, .int a2), (3, .ref b51_3), (4, .int z1973)]) [1, 2, 3, 4, 0] rfl ?_
        exact ih51 Y1966 b51_3 z1973 (by omega) Iy1968 Xz1970 h1972 (by omega)
  have J14 : (0 ≤ (pI P a0 3).toInt ∧ (pI P a0 3).toInt ≤ 5) → G E ({ frames := 4, cells := 0, slots := 0, locals := 256 } : Room) D cy 5 P 0 0 14 [(0, .ref a0), (2, .int a2)] [] := by
    intro hq14_0
    refine g_aload_n C dX10_give_14 rfl 0 rfl ?_
    refine g_dup C dX10_give_15 rfl ?_
    refine g_getI C fi_X10_32 (by decide) (ha0).1 (ha0).2 dX10_give_16 ?_
    refine g_iload_n C dX10_give_19 rfl 1 rfl ?_
    refine a_ior C dX10_give_20 (fun z1975 => ?_)
    refine g_putI C fi_X10_32 rfl (ha0).1 (ha0).2 dX10_give_21 ?_
    refine gpW (ks := [10]) (I.setI (ha0) (rgOk.none rfl)) (EK.setI (ha0).2 (by decide)) (fun Y1977 Iy1978 Xy1979 w1980 w1981 => ?_)
    have q1982 := w1980 3 (by decide)
    have Xz1983 : EK [0, 10, 13] P Y1977 := Xy1979.mono (by decide)
    have h1984 := Xy1979.at ha0
    refine g_aload_n C dX10_give_24 rfl 0 rfl ?_
    refine g_dup C dX10_give_25 rfl ?_
    refine g_getI C fi_X10_28 (by decide) (h1984).1 (h1984).2 dX10_give_26 ?_
    refine g_iload_n C dX10_give_29 rfl 1 rfl ?_
    refine g_iconst (v := (-1)) C dX10_give_30 (by decide) ?_
    refine a_ixor C dX10_give_31 (fun z1985 => ?_)
    refine a_ior C dX10_give_32 (fun z1987 => ?_)
    refine g_putI C fi_X10_28 rfl (h1984).1 (h1984).2 dX10_give_33 ?_
    refine gpW (ks := [10]) (Iy1978.setI (h1984) (rgOk.none rfl)) (EK.setI (h1984).2 (by decide)) (fun Y1989 Iy1990 Xy1991 w1992 w1993 => ?_)
    have q1994 := w1992 3 (by decide)
    have q1995 := w1992 5 (by decide)
    have Xz1996 : EK [0, 10, 13] P Y1989 := Xz1983.tr (Xy1991.mono (by decide))
    have h1997 := Xy1991.at h1984
    exact ret _ _ _ _ _ dX10_give_36 (by decide) (by decide) ⟨Iy1990, Xz1996⟩
  refine g_iload_n C dX10_give_0 rfl 1 rfl ?_
  refine g_aload_n C dX10_give_1 rfl 0 rfl ?_
  refine g_getI C fi_X10_35 (by decide) (ha0).1 (ha0).2 dX10_give_2 ?_
  have h1998 := I.rg (ha0) 3 rfl
  refine b_icmp_ge C 14 dX10_give_5 (by decide) (fun h1999 => ?_) (fun h1999 => ?_)
  · have h1999 : (pI P a0 3).toInt ≤ a1.toInt := h1999
    refine g_lv (lv' := [(0, .ref a0), (2, .int a2)]) [0, 2] rfl ?_
    exact J14 (by omega)
  · have h1999 : a1.toInt < (pI P a0 3).toInt := h1999
    refine g_iload_n C dX10_give_8 rfl 1 rfl ?_
    refine g_bipush (v := 6) C dX10_give_9 (by decide) ?_
    refine b_icmp_lt C 37 dX10_give_11 (by decide) (fun h2000 => ?_) (fun h2000 => ?_)
    · have h2000 : a1.toInt < 6 := h2000
      refine g_aload_n C dX10_give_37 rfl 0 rfl ?_
      obtain ⟨b2001, e2002, h2003⟩ := I.fld (ha0) 0 20 6 rfl
      refine g_getR C fi_X10_11 rfl e2002 (ha0).1 (ha0).2 dX10_give_38 ?_
      refine g_iload_n C dX10_give_41 rfl 1 rfl ?_
      refine g_aldQ (j := (a1.toInt.toNat)) C h2003.1 h2003.2.1 (by decide) (ix_in h2003.2.2 (by omega)) dX10_give_42 ?_
      rcases I.pap h2003 (a1.toInt.toNat) with e2005 | ⟨b2004, e2005, h2006⟩
      · rw [e2005]
        show G _ _ _ _ _ _ _ _ _ _ (.null :: _)
        refine g_astore_nN (lv' := [(3, .null), (0, .ref a0), (1, .int a1), (2, .int a2)]) C dX10_give_43 rfl (by decide) rfl ?_
        refine g_aload_nN C dX10_give_44 rfl 0 rfl ?_
        refine g_ifnullN C 72 dX10_give_45 (by decide) ?_
        exact ret _ _ _ _ _ dX10_give_72 (by decide) (by decide) ⟨I, EK.rf⟩
      · rw [e2005]
        show G _ _ _ _ _ _ _ _ _ _ (.ref b2004 :: _)
        refine g_astore_n (lv' := [(3, .ref b2004), (0, .ref a0), (1, .int a1), (2, .int a2)]) C dX10_give_43 rfl (by decide) rfl ?_
        refine g_aload_n C dX10_give_44 rfl 0 rfl ?_
        refine g_ifnull C dX10_give_45 ?_
        refine g_iconst (v := 0) C dX10_give_48 (by decide) ?_
        refine g_istore (lv' := [(4, .int 0), (3, .ref b2004), (0, .ref a0), (1, .int a1), (2, .int a2)]) C dX10_give_49 (by decide) rfl ?_
        refine g_lv (lv' := [(0, .ref a0), (1, .int a1), (2, .int a2), (3, .ref b2004), (4, .int 0)]) [2, 3, 4, 1, 0] rfl ?_
        exact J51 _ P b2004 0 (Nat.lt_succ_self _) I EK.rf h2006 (by decide)
    · have h2000 : 6 ≤ a1.toInt := h2000
      omega
set_option maxHeartbeats 4000000 in
set_option maxRecDepth 100000 in
theorem s_X10_tryBook_L2 {P : PP} {a0 : Nat} {a1 : Int32} {a2 : Int32} {a3 : Nat} {a4 : Int32} (I : IV P) (ha0 : At P a0 10) (ha1 : 4 ≤ a1.toInt ∧ a1.toInt ≤ 4) (ha3 : At P a3 7) (ha4 : 0 ≤ a4.toInt ∧ a4.toInt ≤ 1) : CtrV yX10_tryBook cX10_tryBook 9 none ({ frames := 5, cells := 0, slots := 0, locals := 320 } : Room) 0 0 P [.ref a0, .int a1, .int a2, .ref a3, .int a4] (fun P2 => IV P2 ∧ EK [0, 10, 13] P P2) := by
  refine enV (lv := [(0, .ref a0), (1, .int a1), (2, .int a2), (3, .ref a3), (4, .int a4)]) (by decide) (Nat.le_of_ble_eq_true rfl) rfl (fun E D cy C Ci0 ret => ?_)
  have J85 : ∀ (P85 : PP) (b85_5 : Nat) (b85_6 : Nat) (v85_7 : Int32) (v85_8 : Int32), (IV P85) → (EK [0, 10, 13] P P85) → (At P85 b85_5 0) → (At P85 b85_6 0) → (0 ≤ v85_7.toInt ∧ v85_7.toInt ≤ 20) → (0 ≤ v85_8.toInt ∧ v85_8.toInt ≤ 20) → G E ({ frames := 5, cells := 0, slots := 0, locals := 320 } : Room) D cy 9 P85 0 0 85 [(5, .ref b85_5), (6, .ref b85_6), (7, .int v85_7), (8, .int v85_8)] [] := by
    intro P85 b85_5 b85_6 v85_7 v85_8 I85 X85 hb85_5 hb85_6 hv85_7 hv85_8
    have h2091 := X85.at ha0
    have h2092 := X85.at ha3
    refine g_aload C dX10_tryBook_85 0 rfl ?_
    refine g_iload C dX10_tryBook_87 2 rfl ?_
    refine g_callVV (rest := []) C mv_X10_79 [.int v85_7] (s_X0_cut I85 hb85_5) (hb85_5).1 (hb85_5).2 rfl rfl (by decide) (Nat.le_of_ble_eq_true rfl) (by decide) dX10_tryBook_89 (fun Y2094 h2095 => ?_)
    obtain ⟨Iy2096, Xy2097⟩ := h2095
    have Xz2098 : EK [0, 10, 13] P Y2094 := X85.tr (Xy2097.mono (by decide))
    have h2099 := Xy2097.at h2091
    have h2100 := Xy2097.at h2092
    have h2101 := Xy2097.at hb85_5
    have h2102 := Xy2097.at hb85_6
    refine g_aload C dX10_tryBook_92 1 rfl ?_
    refine g_iload C dX10_tryBook_94 3 rfl ?_
    refine g_callVV (rest := []) C mv_X10_79 [.int v85_8] (s_X0_cut Iy2096 h2102) (h2102).1 (h2102).2 rfl rfl (by decide) (Nat.le_of_ble_eq_true rfl) (by decide) dX10_tryBook_96 (fun Y2104 h2105 => ?_)
    obtain ⟨Iy2106, Xy2107⟩ := h2105
    have Xz2108 : EK [0, 10, 13] P Y2104 := Xz2098.tr (Xy2107.mono (by decide))
    have h2109 := Xy2107.at h2099
    have h2110 := Xy2107.at h2100
    have h2111 := Xy2107.at h2101
    have h2112 := Xy2107.at h2102
    exact ret _ _ _ _ _ dX10_tryBook_99 (by decide) (by decide) ⟨Iy2106, Xz2108⟩
  refine g_aload_n C dX10_tryBook_0 rfl 0 rfl ?_
  refine g_iload C dX10_tryBook_1 4 rfl ?_
  refine g_iconst (v := 0) C dX10_tryBook_3 (by decide) ?_
  refine g_callVQ (rest := []) C mv_X10_64 [.int a4, .int 0] (s_X10_basisOf I ha0 (by omega) (by decide)) (ha0).1 (ha0).2 rfl rfl (by decide) (Nat.le_of_ble_eq_true rfl) (by decide) dX10_tryBook_4 (fun r2113 Y2114 h2115 => ?_)
  obtain ⟨rfl, h2115⟩ := h2115
  obtain ⟨b2117, rfl, h2115⟩ := h2115
  show G _ _ _ _ _ _ _ _ _ _ (.ref b2117 :: _)
  refine g_astore (lv' := [(5, .ref b2117), (0, .ref a0), (1, .int a1), (2, .int a2), (3, .ref a3), (4, .int a4)]) C dX10_tryBook_7 (by decide) rfl ?_
  refine g_aload_n C dX10_tryBook_9 rfl 1 rfl ?_
  refine g_iload C dX10_tryBook_10 5 rfl ?_
  refine g_iconst (v := 1) C dX10_tryBook_12 (by decide) ?_
  refine g_callVQ (rest := []) C mv_X10_64 [.int a4, .int 1] (s_X10_basisOf I ha0 (by omega) (by decide)) (ha0).1 (ha0).2 rfl rfl (by decide) (Nat.le_of_ble_eq_true rfl) (by decide) dX10_tryBook_13 (fun r2118 Y2119 h2120 => ?_)
  obtain ⟨rfl, h2120⟩ := h2120
  obtain ⟨b2122, rfl, h2120⟩ := h2120
  show G _ _ _ _ _ _ _ _ _ _ (.ref b2122 :: _)
  refine g_astore (lv' := [(6, .ref b2122), (5, .ref b2117), (0, .ref a0), (1, .int a1), (2, .int a2), (3, .ref a3), (4, .int a4)]) C dX10_tryBook_16 (by decide) rfl ?_
  refine g_aload C dX10_tryBook_18 1 rfl ?_
  refine g_getI C fi_X10_68 (by decide) (h2115).1 (h2115).2 dX10_tryBook_20 ?_
  have h2123 := I.rg (h2115) 2 rfl
  refine g_topi (fun z2124 h2125 => ?_)
  have h2125 : z2124.toInt = (pI P b2117 2).toInt := congrArg Int32.toInt h2125
  refine g_istore (lv' := [(7, .int z2124), (6, .ref b2122), (5, .ref b2117), (0, .ref a0), (1, .int a1), (2, .int a2), (3, .ref a3), (4, .int a4)]) C dX10_tryBook_23 (by decide) rfl ?_
  refine g_aload C dX10_tryBook_25 1 rfl ?_
  refine g_getI C fi_X10_68 (by decide) (h2120).1 (h2120).2 dX10_tryBook_27 ?_
  have h2126 := I.rg (h2120) 2 rfl
  refine g_topi (fun z2127 h2128 => ?_)
  have h2128 : z2127.toInt = (pI P b2122 2).toInt := congrArg Int32.toInt h2128
  refine g_istore (lv' := [(8, .int z2127), (7, .int z2124), (6, .ref b2122), (5, .ref b2117), (0, .ref a0), (1, .int a1), (2, .int a2), (3, .ref a3), (4, .int a4)]) C dX10_tryBook_30 (by decide) rfl ?_
  refine g_aload C dX10_tryBook_32 3 rfl ?_
  refine g_aload_n C dX10_tryBook_34 rfl 7 rfl ?_
  refine g_iload C dX10_tryBook_35 8 rfl ?_
  refine g_iconst (v := 0) C dX10_tryBook_37 (by decide) ?_
  refine g_callVI (rest := [.ref b2117]) C mv_X10_71 [.int a4, .int 0] (s_X7_equation I ha3) (ha3).1 (ha3).2 rfl rfl (by decide) (Nat.le_of_ble_eq_true rfl) (by decide) dX10_tryBook_38 (fun r2129 Y2130 h2131 => ?_)
  obtain ⟨rfl, h2131⟩ := h2131
  have h2131 : True := h2131
  refine g_callVV (rest := []) C mv_X10_75 [.int r2129] (s_X0_add I h2115) (h2115).1 (h2115).2 rfl rfl (by decide) (Nat.le_of_ble_eq_true rfl) (by decide) dX10_tryBook_41 (fun Y2133 h2134 => ?_)
  obtain ⟨Iy2135, Xy2136⟩ := h2134
  have Xz2137 : EK [0, 10, 13] P Y2133 := Xy2136.mono (by decide)
  have h2138 := Xy2136.at ha0
  have h2139 := Xy2136.at ha3
  have h2140 := Xy2136.at h2115
  have h2141 := Xy2136.at h2120
  refine g_aload C dX10_tryBook_44 2 rfl ?_
  refine g_aload_n C dX10_tryBook_46 rfl 7 rfl ?_
  refine g_iload C dX10_tryBook_47 8 rfl ?_
  refine g_iconst (v := 1) C dX10_tryBook_49 (by decide) ?_
  refine g_callVI (rest := [.ref b2122]) C mv_X10_71 [.int a4, .int 1] (s_X7_equation Iy2135 h2139) (h2139).1 (h2139).2 rfl rfl (by decide) (Nat.le_of_ble_eq_true rfl) (by decide) dX10_tryBook_50 (fun r2142 Y2143 h2144 => ?_)
  obtain ⟨rfl, h2144⟩ := h2144
  have h2144 : True := h2144
  refine g_callVV (rest := []) C mv_X10_75 [.int r2142] (s_X0_add Iy2135 h2141) (h2141).1 (h2141).2 rfl rfl (by decide) (Nat.le_of_ble_eq_true rfl) (by decide) dX10_tryBook_53 (fun Y2146 h2147 => ?_)
  obtain ⟨Iy2148, Xy2149⟩ := h2147
  have Xz2150 : EK [0, 10, 13] P Y2146 := Xz2137.tr (Xy2149.mono (by decide))
  have h2151 := Xy2149.at h2138
  have h2152 := Xy2149.at h2139
  have h2153 := Xy2149.at h2140
  have h2154 := Xy2149.at h2141
  refine g_aload C dX10_tryBook_56 3 rfl ?_
  refine g_getI C fi_X10_56 (by decide) (h2153).1 (h2153).2 dX10_tryBook_58 ?_
  have h2155 := Iy2148.rg (h2153) 3 rfl
  refine b_if_eq C 85 dX10_tryBook_61 (by decide) (fun h2156 => ?_) (fun h2156 => ?_)
  · have h2156 : (pI Y2146 b2117 3).toInt = 0 := congrArg Int32.toInt h2156
    refine g_lv (lv' := [(5, .ref b2117), (6, .ref b2122), (7, .int z2124), (8, .int z2127)]) [3, 2, 1, 0] rfl ?_
    exact J85 Y2146 b2117 b2122 z2124 z2127 Iy2148 Xz2150 h2153 h2154 (by omega) (by omega)
  · have h2156 : (pI Y2146 b2117 3).toInt ≠ 0 := ti_ne h2156
    refine g_aload C dX10_tryBook_64 2 rfl ?_
    refine g_getI C fi_X10_56 (by decide) (h2154).1 (h2154).2 dX10_tryBook_66 ?_
    have h2157 := Iy2148.rg (h2154) 3 rfl
    refine b_if_eq C 85 dX10_tryBook_69 (by decide) (fun h2158 => ?_) (fun h2158 => ?_)
    · have h2158 : (pI Y2146 b2122 3).toInt = 0 := congrArg Int32.toInt h2158
      refine g_lv (lv' := [(5, .ref b2117), (6, .ref b2122), (7, .int z2124), (8, .int z2127)]) [3, 2, 1, 0] rfl ?_
      exact J85 Y2146 b2117 b2122 z2124 z2127 Iy2148 Xz2150 h2153 h2154 (by omega) (by omega)
    · have h2158 : (pI Y2146 b2122 3).toInt ≠ 0 := ti_ne h2158
      refine g_aload_n C dX10_tryBook_72 rfl 4 rfl ?_
      refine g_iload_n C dX10_tryBook_73 rfl 5 rfl ?_
      refine g_iconst (v := 1) C dX10_tryBook_74 (by decide) ?_
      refine s_iadd C dX10_tryBook_75 (by show -2147483648 ≤ a1.toInt + 1 ∧ a1.toInt + 1 ≤ 2147483647; omega) (fun z2159 h2160 => ?_)
      have h2160 : z2159.toInt = a1.toInt + 1 := h2160
      refine g_iload_n C dX10_tryBook_76 rfl 6 rfl ?_
      refine g_iload C dX10_tryBook_77 8 rfl ?_
      refine g_iload_n C dX10_tryBook_79 rfl 5 rfl ?_
      refine a_ishl C dX10_tryBook_80 (fun z2161 => ?_)
      refine a_ior C dX10_tryBook_81 (fun z2163 => ?_)
      refine g_callVV (rest := []) C mv_X10_52 [.int z2159, .int z2163] (s_X10_give_L1 Iy2148 h2151 (by omega)) (h2151).1 (h2151).2 rfl rfl (by decide) (Nat.le_of_ble_eq_true rfl) (by decide) dX10_tryBook_82 (fun Y2166 h2167 => ?_)
      obtain ⟨Iy2168, Xy2169⟩ := h2167
      have Xz2170 : EK [0, 10, 13] P Y2166 := Xz2150.tr (Xy2169.mono (by decide))
      have h2171 := Xy2169.at h2151
      have h2172 := Xy2169.at h2152
      have h2173 := Xy2169.at h2153
      have h2174 := Xy2169.at h2154
      refine g_lv (lv' := [(5, .ref b2117), (6, .ref b2122), (7, .int z2124), (8, .int z2127)]) [3, 2, 1, 0] rfl ?_
      exact J85 Y2166 b2117 b2122 z2124 z2127 Iy2168 Xz2170 h2173 h2174 (by omega) (by omega)
set_option maxHeartbeats 4000000 in
set_option maxRecDepth 100000 in
theorem s_X10_give_L2 {P : PP} {a0 : Nat} {a1 : Int32} {a2 : Int32} (I : IV P) (ha0 : At P a0 10) (ha1 : 4 ≤ a1.toInt ∧ a1.toInt ≤ 4) : CtrV yX10_give cX10_give 5 none ({ frames := 6, cells := 0, slots := 0, locals := 384 } : Room) 0 0 P [.ref a0, .int a1, .int a2] (fun P2 => IV P2 ∧ EK [0, 10, 13] P P2) := by
  refine enV (lv := [(0, .ref a0), (1, .int a1), (2, .int a2)]) (by decide) (Nat.le_of_ble_eq_true rfl) rfl (fun E D cy C Ci0 ret => ?_)
  have J51 : ∀ (n51 : Nat) (P51 : PP) (b51_3 : Nat) (v51_4 : Int32), (2 - v51_4.toInt).toNat < n51 → (IV P51) → (EK [0, 10, 13] P P51) → (At P51 b51_3 7) → (0 ≤ v51_4.toInt ∧ v51_4.toInt ≤ 2) → G E ({ frames := 6, cells := 0, slots := 0, locals := 384 } : Room) D cy 5 P51 0 0 51 [(0, .ref a0), (1, .int a1), (2, .int a2), (3, .ref b51_3), (4, .int v51_4)] [] := by
    intro n51
    induction n51 with
    | zero => intro P51 b51_3 v51_4 hm51 I51 X51 hb51_3 hv51_4; omega
    | succ n51 ih51 =>
      intro P51 b51_3 v51_4 hm51 I51 X51 hb51_3 hv51_4
      have h2242 := X51.at ha0
      refine g_iload C dX10_give_51 4 rfl ?_
      refine g_iconst (v := 2) C dX10_give_53 (by decide) ?_
      refine b_icmp_ge C 72 dX10_give_54 (by decide) (fun h2243 => ?_) (fun h2243 => ?_)
      · have h2243 : 2 ≤ v51_4.toInt := h2243
        exact ret _ _ _ _ _ dX10_give_72 (by decide) (by decide) ⟨I51, X51⟩
      · have h2243 : v51_4.toInt < 2 := h2243
        refine g_aload_n C dX10_give_57 rfl 0 rfl ?_
        refine g_iload_n C dX10_give_58 rfl 1 rfl ?_
        refine g_iload_n C dX10_give_59 rfl 2 rfl ?_
        refine g_aload_n C dX10_give_60 rfl 3 rfl ?_
        refine g_iload C dX10_give_61 4 rfl ?_
        refine g_callVV (rest := []) C mv_X10_60 [.int a1, .int a2, .ref b51_3, .int v51_4] (s_X10_tryBook_L2 I51 h2242 (by omega) hb51_3 (by omega)) (h2242).1 (h2242).2 rfl rfl (by decide) (Nat.le_of_ble_eq_true rfl) (by decide) dX10_give_63 (fun Y2245 h2246 => ?_)
        obtain ⟨Iy2247, Xy2248⟩ := h2246
        have Xz2249 : EK [0, 10, 13] P Y2245 := X51.tr (Xy2248.mono (by decide))
        have h2250 := Xy2248.at h2242
        have h2251 := Xy2248.at hb51_3
        refine s_iinc (lv0 := [(0, .ref a0), (1, .int a1), (2, .int a2), (3, .ref b51_3)]) (m := 1) C dX10_give_66 4 rfl (by decide) rfl (by decide) (by omega) (fun z2252 h2253 => ?_)
        have h2253 : z2252.toInt = v51_4.toInt + 1 := h2253
        refine g_goto C 51 dX10_give_69 (by decide) ?_
        refine g_lv (lv' := [(0, .ref a0), (1, .int a1), (2, .int a2), (3, .ref b51_3), (4, .int z2252)]) [1, 2, 3, 4, 0] rfl ?_
        exact ih51 Y2245 b51_3 z2252 (by omega) Iy2247 Xz2249 h2251 (by omega)
  have J14 : (0 ≤ (pI P a0 3).toInt ∧ (pI P a0 3).toInt ≤ 4) → G E ({ frames := 6, cells := 0, slots := 0, locals := 384 } : Room) D cy 5 P 0 0 14 [(0, .ref a0), (2, .int a2)] [] := by
    intro hq14_0
    refine g_aload_n C dX10_give_14 rfl 0 rfl ?_
    refine g_dup C dX10_give_15 rfl ?_
    refine g_getI C fi_X10_32 (by decide) (ha0).1 (ha0).2 dX10_give_16 ?_
    refine g_iload_n C dX10_give_19 rfl 1 rfl ?_
    refine a_ior C dX10_give_20 (fun z2254 => ?_)
    refine g_putI C fi_X10_32 rfl (ha0).1 (ha0).2 dX10_give_21 ?_
    refine gpW (ks := [10]) (I.setI (ha0) (rgOk.none rfl)) (EK.setI (ha0).2 (by decide)) (fun Y2256 Iy2257 Xy2258 w2259 w2260 => ?_)
    have q2261 := w2259 3 (by decide)
    have Xz2262 : EK [0, 10, 13] P Y2256 := Xy2258.mono (by decide)
    have h2263 := Xy2258.at ha0
    refine g_aload_n C dX10_give_24 rfl 0 rfl ?_
    refine g_dup C dX10_give_25 rfl ?_
    refine g_getI C fi_X10_28 (by decide) (h2263).1 (h2263).2 dX10_give_26 ?_
    refine g_iload_n C dX10_give_29 rfl 1 rfl ?_
    refine g_iconst (v := (-1)) C dX10_give_30 (by decide) ?_
    refine a_ixor C dX10_give_31 (fun z2264 => ?_)
    refine a_ior C dX10_give_32 (fun z2266 => ?_)
    refine g_putI C fi_X10_28 rfl (h2263).1 (h2263).2 dX10_give_33 ?_
    refine gpW (ks := [10]) (Iy2257.setI (h2263) (rgOk.none rfl)) (EK.setI (h2263).2 (by decide)) (fun Y2268 Iy2269 Xy2270 w2271 w2272 => ?_)
    have q2273 := w2271 3 (by decide)
    have q2274 := w2271 5 (by decide)
    have Xz2275 : EK [0, 10, 13] P Y2268 := Xz2262.tr (Xy2270.mono (by decide))
    have h2276 := Xy2270.at h2263
    exact ret _ _ _ _ _ dX10_give_36 (by decide) (by decide) ⟨Iy2269, Xz2275⟩
  refine g_iload_n C dX10_give_0 rfl 1 rfl ?_
  refine g_aload_n C dX10_give_1 rfl 0 rfl ?_
  refine g_getI C fi_X10_35 (by decide) (ha0).1 (ha0).2 dX10_give_2 ?_
  have h2277 := I.rg (ha0) 3 rfl
  refine b_icmp_ge C 14 dX10_give_5 (by decide) (fun h2278 => ?_) (fun h2278 => ?_)
  · have h2278 : (pI P a0 3).toInt ≤ a1.toInt := h2278
    refine g_lv (lv' := [(0, .ref a0), (2, .int a2)]) [0, 2] rfl ?_
    exact J14 (by omega)
  · have h2278 : a1.toInt < (pI P a0 3).toInt := h2278
    refine g_iload_n C dX10_give_8 rfl 1 rfl ?_
    refine g_bipush (v := 6) C dX10_give_9 (by decide) ?_
    refine b_icmp_lt C 37 dX10_give_11 (by decide) (fun h2279 => ?_) (fun h2279 => ?_)
    · have h2279 : a1.toInt < 6 := h2279
      refine g_aload_n C dX10_give_37 rfl 0 rfl ?_
      obtain ⟨b2280, e2281, h2282⟩ := I.fld (ha0) 0 20 6 rfl
      refine g_getR C fi_X10_11 rfl e2281 (ha0).1 (ha0).2 dX10_give_38 ?_
      refine g_iload_n C dX10_give_41 rfl 1 rfl ?_
      refine g_aldQ (j := (a1.toInt.toNat)) C h2282.1 h2282.2.1 (by decide) (ix_in h2282.2.2 (by omega)) dX10_give_42 ?_
      rcases I.pap h2282 (a1.toInt.toNat) with e2284 | ⟨b2283, e2284, h2285⟩
      · rw [e2284]
        show G _ _ _ _ _ _ _ _ _ _ (.null :: _)
        refine g_astore_nN (lv' := [(3, .null), (0, .ref a0), (1, .int a1), (2, .int a2)]) C dX10_give_43 rfl (by decide) rfl ?_
        refine g_aload_nN C dX10_give_44 rfl 0 rfl ?_
        refine g_ifnullN C 72 dX10_give_45 (by decide) ?_
        exact ret _ _ _ _ _ dX10_give_72 (by decide) (by decide) ⟨I, EK.rf⟩
      · rw [e2284]
        show G _ _ _ _ _ _ _ _ _ _ (.ref b2283 :: _)
        refine g_astore_n (lv' := [(3, .ref b2283), (0, .ref a0), (1, .int a1), (2, .int a2)]) C dX10_give_43 rfl (by decide) rfl ?_
        refine g_aload_n C dX10_give_44 rfl 0 rfl ?_
        refine g_ifnull C dX10_give_45 ?_
        refine g_iconst (v := 0) C dX10_give_48 (by decide) ?_
        refine g_istore (lv' := [(4, .int 0), (3, .ref b2283), (0, .ref a0), (1, .int a1), (2, .int a2)]) C dX10_give_49 (by decide) rfl ?_
        refine g_lv (lv' := [(0, .ref a0), (1, .int a1), (2, .int a2), (3, .ref b2283), (4, .int 0)]) [2, 3, 4, 1, 0] rfl ?_
        exact J51 _ P b2283 0 (Nat.lt_succ_self _) I EK.rf h2285 (by decide)
    · have h2279 : 6 ≤ a1.toInt := h2279
      omega
set_option maxHeartbeats 4000000 in
set_option maxRecDepth 100000 in
theorem s_X10_tryBook_L3 {P : PP} {a0 : Nat} {a1 : Int32} {a2 : Int32} {a3 : Nat} {a4 : Int32} (I : IV P) (ha0 : At P a0 10) (ha1 : 3 ≤ a1.toInt ∧ a1.toInt ≤ 3) (ha3 : At P a3 7) (ha4 : 0 ≤ a4.toInt ∧ a4.toInt ≤ 1) : CtrV yX10_tryBook cX10_tryBook 9 none ({ frames := 7, cells := 0, slots := 0, locals := 448 } : Room) 0 0 P [.ref a0, .int a1, .int a2, .ref a3, .int a4] (fun P2 => IV P2 ∧ EK [0, 10, 13] P P2) := by
  refine enV (lv := [(0, .ref a0), (1, .int a1), (2, .int a2), (3, .ref a3), (4, .int a4)]) (by decide) (Nat.le_of_ble_eq_true rfl) rfl (fun E D cy C Ci0 ret => ?_)
  have J85 : ∀ (P85 : PP) (b85_5 : Nat) (b85_6 : Nat) (v85_7 : Int32) (v85_8 : Int32), (IV P85) → (EK [0, 10, 13] P P85) → (At P85 b85_5 0) → (At P85 b85_6 0) → (0 ≤ v85_7.toInt ∧ v85_7.toInt ≤ 20) → (0 ≤ v85_8.toInt ∧ v85_8.toInt ≤ 20) → G E ({ frames := 7, cells := 0, slots := 0, locals := 448 } : Room) D cy 9 P85 0 0 85 [(5, .ref b85_5), (6, .ref b85_6), (7, .int v85_7), (8, .int v85_8)] [] := by
    intro P85 b85_5 b85_6 v85_7 v85_8 I85 X85 hb85_5 hb85_6 hv85_7 hv85_8
    have h2370 := X85.at ha0
    have h2371 := X85.at ha3
    refine g_aload C dX10_tryBook_85 0 rfl ?_
    refine g_iload C dX10_tryBook_87 2 rfl ?_
    refine g_callVV (rest := []) C mv_X10_79 [.int v85_7] (s_X0_cut I85 hb85_5) (hb85_5).1 (hb85_5).2 rfl rfl (by decide) (Nat.le_of_ble_eq_true rfl) (by decide) dX10_tryBook_89 (fun Y2373 h2374 => ?_)
    obtain ⟨Iy2375, Xy2376⟩ := h2374
    have Xz2377 : EK [0, 10, 13] P Y2373 := X85.tr (Xy2376.mono (by decide))
    have h2378 := Xy2376.at h2370
    have h2379 := Xy2376.at h2371
    have h2380 := Xy2376.at hb85_5
    have h2381 := Xy2376.at hb85_6
    refine g_aload C dX10_tryBook_92 1 rfl ?_
    refine g_iload C dX10_tryBook_94 3 rfl ?_
    refine g_callVV (rest := []) C mv_X10_79 [.int v85_8] (s_X0_cut Iy2375 h2381) (h2381).1 (h2381).2 rfl rfl (by decide) (Nat.le_of_ble_eq_true rfl) (by decide) dX10_tryBook_96 (fun Y2383 h2384 => ?_)
    obtain ⟨Iy2385, Xy2386⟩ := h2384
    have Xz2387 : EK [0, 10, 13] P Y2383 := Xz2377.tr (Xy2386.mono (by decide))
    have h2388 := Xy2386.at h2378
    have h2389 := Xy2386.at h2379
    have h2390 := Xy2386.at h2380
    have h2391 := Xy2386.at h2381
    exact ret _ _ _ _ _ dX10_tryBook_99 (by decide) (by decide) ⟨Iy2385, Xz2387⟩
  refine g_aload_n C dX10_tryBook_0 rfl 0 rfl ?_
  refine g_iload C dX10_tryBook_1 4 rfl ?_
  refine g_iconst (v := 0) C dX10_tryBook_3 (by decide) ?_
  refine g_callVQ (rest := []) C mv_X10_64 [.int a4, .int 0] (s_X10_basisOf I ha0 (by omega) (by decide)) (ha0).1 (ha0).2 rfl rfl (by decide) (Nat.le_of_ble_eq_true rfl) (by decide) dX10_tryBook_4 (fun r2392 Y2393 h2394 => ?_)
  obtain ⟨rfl, h2394⟩ := h2394
  obtain ⟨b2396, rfl, h2394⟩ := h2394
  show G _ _ _ _ _ _ _ _ _ _ (.ref b2396 :: _)
  refine g_astore (lv' := [(5, .ref b2396), (0, .ref a0), (1, .int a1), (2, .int a2), (3, .ref a3), (4, .int a4)]) C dX10_tryBook_7 (by decide) rfl ?_
  refine g_aload_n C dX10_tryBook_9 rfl 1 rfl ?_
  refine g_iload C dX10_tryBook_10 5 rfl ?_
  refine g_iconst (v := 1) C dX10_tryBook_12 (by decide) ?_
  refine g_callVQ (rest := []) C mv_X10_64 [.int a4, .int 1] (s_X10_basisOf I ha0 (by omega) (by decide)) (ha0).1 (ha0).2 rfl rfl (by decide) (Nat.le_of_ble_eq_true rfl) (by decide) dX10_tryBook_13 (fun r2397 Y2398 h2399 => ?_)
  obtain ⟨rfl, h2399⟩ := h2399
  obtain ⟨b2401, rfl, h2399⟩ := h2399
  show G _ _ _ _ _ _ _ _ _ _ (.ref b2401 :: _)
  refine g_astore (lv' := [(6, .ref b2401), (5, .ref b2396), (0, .ref a0), (1, .int a1), (2, .int a2), (3, .ref a3), (4, .int a4)]) C dX10_tryBook_16 (by decide) rfl ?_
  refine g_aload C dX10_tryBook_18 1 rfl ?_
  refine g_getI C fi_X10_68 (by decide) (h2394).1 (h2394).2 dX10_tryBook_20 ?_
  have h2402 := I.rg (h2394) 2 rfl
  refine g_topi (fun z2403 h2404 => ?_)
  have h2404 : z2403.toInt = (pI P b2396 2).toInt := congrArg Int32.toInt h2404
  refine g_istore (lv' := [(7, .int z2403), (6, .ref b2401), (5, .ref b2396), (0, .ref a0), (1, .int a1), (2, .int a2), (3, .ref a3), (4, .int a4)]) C dX10_tryBook_23 (by decide) rfl ?_
  refine g_aload C dX10_tryBook_25 1 rfl ?_
  refine g_getI C fi_X10_68 (by decide) (h2399).1 (h2399).2 dX10_tryBook_27 ?_
  have h2405 := I.rg (h2399) 2 rfl
  refine g_topi (fun z2406 h2407 => ?_)
  have h2407 : z2406.toInt = (pI P b2401 2).toInt := congrArg Int32.toInt h2407
  refine g_istore (lv' := [(8, .int z2406), (7, .int z2403), (6, .ref b2401), (5, .ref b2396), (0, .ref a0), (1, .int a1), (2, .int a2), (3, .ref a3), (4, .int a4)]) C dX10_tryBook_30 (by decide) rfl ?_
  refine g_aload C dX10_tryBook_32 3 rfl ?_
  refine g_aload_n C dX10_tryBook_34 rfl 7 rfl ?_
  refine g_iload C dX10_tryBook_35 8 rfl ?_
  refine g_iconst (v := 0) C dX10_tryBook_37 (by decide) ?_
  refine g_callVI (rest := [.ref b2396]) C mv_X10_71 [.int a4, .int 0] (s_X7_equation I ha3) (ha3).1 (ha3).2 rfl rfl (by decide) (Nat.le_of_ble_eq_true rfl) (by decide) dX10_tryBook_38 (fun r2408 Y2409 h2410 => ?_)
  obtain ⟨rfl, h2410⟩ := h2410
  have h2410 : True := h2410
  refine g_callVV (rest := []) C mv_X10_75 [.int r2408] (s_X0_add I h2394) (h2394).1 (h2394).2 rfl rfl (by decide) (Nat.le_of_ble_eq_true rfl) (by decide) dX10_tryBook_41 (fun Y2412 h2413 => ?_)
  obtain ⟨Iy2414, Xy2415⟩ := h2413
  have Xz2416 : EK [0, 10, 13] P Y2412 := Xy2415.mono (by decide)
  have h2417 := Xy2415.at ha0
  have h2418 := Xy2415.at ha3
  have h2419 := Xy2415.at h2394
  have h2420 := Xy2415.at h2399
  refine g_aload C dX10_tryBook_44 2 rfl ?_
  refine g_aload_n C dX10_tryBook_46 rfl 7 rfl ?_
  refine g_iload C dX10_tryBook_47 8 rfl ?_
  refine g_iconst (v := 1) C dX10_tryBook_49 (by decide) ?_
  refine g_callVI (rest := [.ref b2401]) C mv_X10_71 [.int a4, .int 1] (s_X7_equation Iy2414 h2418) (h2418).1 (h2418).2 rfl rfl (by decide) (Nat.le_of_ble_eq_true rfl) (by decide) dX10_tryBook_50 (fun r2421 Y2422 h2423 => ?_)
  obtain ⟨rfl, h2423⟩ := h2423
  have h2423 : True := h2423
  refine g_callVV (rest := []) C mv_X10_75 [.int r2421] (s_X0_add Iy2414 h2420) (h2420).1 (h2420).2 rfl rfl (by decide) (Nat.le_of_ble_eq_true rfl) (by decide) dX10_tryBook_53 (fun Y2425 h2426 => ?_)
  obtain ⟨Iy2427, Xy2428⟩ := h2426
  have Xz2429 : EK [0, 10, 13] P Y2425 := Xz2416.tr (Xy2428.mono (by decide))
  have h2430 := Xy2428.at h2417
  have h2431 := Xy2428.at h2418
  have h2432 := Xy2428.at h2419
  have h2433 := Xy2428.at h2420
  refine g_aload C dX10_tryBook_56 3 rfl ?_
  refine g_getI C fi_X10_56 (by decide) (h2432).1 (h2432).2 dX10_tryBook_58 ?_
  have h2434 := Iy2427.rg (h2432) 3 rfl
  refine b_if_eq C 85 dX10_tryBook_61 (by decide) (fun h2435 => ?_) (fun h2435 => ?_)
  · have h2435 : (pI Y2425 b2396 3).toInt = 0 := congrArg Int32.toInt h2435
    refine g_lv (lv' := [(5, .ref b2396), (6, .ref b2401), (7, .int z2403), (8, .int z2406)]) [3, 2, 1, 0] rfl ?_
    exact J85 Y2425 b2396 b2401 z2403 z2406 Iy2427 Xz2429 h2432 h2433 (by omega) (by omega)
  · have h2435 : (pI Y2425 b2396 3).toInt ≠ 0 := ti_ne h2435
    refine g_aload C dX10_tryBook_64 2 rfl ?_
    refine g_getI C fi_X10_56 (by decide) (h2433).1 (h2433).2 dX10_tryBook_66 ?_
    have h2436 := Iy2427.rg (h2433) 3 rfl
    refine b_if_eq C 85 dX10_tryBook_69 (by decide) (fun h2437 => ?_) (fun h2437 => ?_)
    · have h2437 : (pI Y2425 b2401 3).toInt = 0 := congrArg Int32.toInt h2437
      refine g_lv (lv' := [(5, .ref b2396), (6, .ref b2401), (7, .int z2403), (8, .int z2406)]) [3, 2, 1, 0] rfl ?_
      exact J85 Y2425 b2396 b2401 z2403 z2406 Iy2427 Xz2429 h2432 h2433 (by omega) (by omega)
    · have h2437 : (pI Y2425 b2401 3).toInt ≠ 0 := ti_ne h2437
      refine g_aload_n C dX10_tryBook_72 rfl 4 rfl ?_
      refine g_iload_n C dX10_tryBook_73 rfl 5 rfl ?_
      refine g_iconst (v := 1) C dX10_tryBook_74 (by decide) ?_
      refine s_iadd C dX10_tryBook_75 (by show -2147483648 ≤ a1.toInt + 1 ∧ a1.toInt + 1 ≤ 2147483647; omega) (fun z2438 h2439 => ?_)
      have h2439 : z2438.toInt = a1.toInt + 1 := h2439
      refine g_iload_n C dX10_tryBook_76 rfl 6 rfl ?_
      refine g_iload C dX10_tryBook_77 8 rfl ?_
      refine g_iload_n C dX10_tryBook_79 rfl 5 rfl ?_
      refine a_ishl C dX10_tryBook_80 (fun z2440 => ?_)
      refine a_ior C dX10_tryBook_81 (fun z2442 => ?_)
      refine g_callVV (rest := []) C mv_X10_52 [.int z2438, .int z2442] (s_X10_give_L2 Iy2427 h2430 (by omega)) (h2430).1 (h2430).2 rfl rfl (by decide) (Nat.le_of_ble_eq_true rfl) (by decide) dX10_tryBook_82 (fun Y2445 h2446 => ?_)
      obtain ⟨Iy2447, Xy2448⟩ := h2446
      have Xz2449 : EK [0, 10, 13] P Y2445 := Xz2429.tr (Xy2448.mono (by decide))
      have h2450 := Xy2448.at h2430
      have h2451 := Xy2448.at h2431
      have h2452 := Xy2448.at h2432
      have h2453 := Xy2448.at h2433
      refine g_lv (lv' := [(5, .ref b2396), (6, .ref b2401), (7, .int z2403), (8, .int z2406)]) [3, 2, 1, 0] rfl ?_
      exact J85 Y2445 b2396 b2401 z2403 z2406 Iy2447 Xz2449 h2452 h2453 (by omega) (by omega)
set_option maxHeartbeats 4000000 in
set_option maxRecDepth 100000 in
theorem s_X10_give_L3 {P : PP} {a0 : Nat} {a1 : Int32} {a2 : Int32} (I : IV P) (ha0 : At P a0 10) (ha1 : 3 ≤ a1.toInt ∧ a1.toInt ≤ 3) : CtrV yX10_give cX10_give 5 none ({ frames := 8, cells := 0, slots := 0, locals := 512 } : Room) 0 0 P [.ref a0, .int a1, .int a2] (fun P2 => IV P2 ∧ EK [0, 10, 13] P P2) := by
  refine enV (lv := [(0, .ref a0), (1, .int a1), (2, .int a2)]) (by decide) (Nat.le_of_ble_eq_true rfl) rfl (fun E D cy C Ci0 ret => ?_)
  have J51 : ∀ (n51 : Nat) (P51 : PP) (b51_3 : Nat) (v51_4 : Int32), (2 - v51_4.toInt).toNat < n51 → (IV P51) → (EK [0, 10, 13] P P51) → (At P51 b51_3 7) → (0 ≤ v51_4.toInt ∧ v51_4.toInt ≤ 2) → G E ({ frames := 8, cells := 0, slots := 0, locals := 512 } : Room) D cy 5 P51 0 0 51 [(0, .ref a0), (1, .int a1), (2, .int a2), (3, .ref b51_3), (4, .int v51_4)] [] := by
    intro n51
    induction n51 with
    | zero => intro P51 b51_3 v51_4 hm51 I51 X51 hb51_3 hv51_4; omega
    | succ n51 ih51 =>
      intro P51 b51_3 v51_4 hm51 I51 X51 hb51_3 hv51_4
      have h2521 := X51.at ha0
      refine g_iload C dX10_give_51 4 rfl ?_
      refine g_iconst (v := 2) C dX10_give_53 (by decide) ?_
      refine b_icmp_ge C 72 dX10_give_54 (by decide) (fun h2522 => ?_) (fun h2522 => ?_)
      · have h2522 : 2 ≤ v51_4.toInt := h2522
        exact ret _ _ _ _ _ dX10_give_72 (by decide) (by decide) ⟨I51, X51⟩
      · have h2522 : v51_4.toInt < 2 := h2522
        refine g_aload_n C dX10_give_57 rfl 0 rfl ?_
        refine g_iload_n C dX10_give_58 rfl 1 rfl ?_
        refine g_iload_n C dX10_give_59 rfl 2 rfl ?_
        refine g_aload_n C dX10_give_60 rfl 3 rfl ?_
        refine g_iload C dX10_give_61 4 rfl ?_
        refine g_callVV (rest := []) C mv_X10_60 [.int a1, .int a2, .ref b51_3, .int v51_4] (s_X10_tryBook_L3 I51 h2521 (by omega) hb51_3 (by omega)) (h2521).1 (h2521).2 rfl rfl (by decide) (Nat.le_of_ble_eq_true rfl) (by decide) dX10_give_63 (fun Y2524 h2525 => ?_)
        obtain ⟨Iy2526, Xy2527⟩ := h2525
        have Xz2528 : EK [0, 10, 13] P Y2524 := X51.tr (Xy2527.mono (by decide))
        have h2529 := Xy2527.at h2521
        have h2530 := Xy2527.at hb51_3
        refine s_iinc (lv0 := [(0, .ref a0), (1, .int a1), (2, .int a2), (3, .ref b51_3)]) (m := 1) C dX10_give_66 4 rfl (by decide) rfl (by decide) (by omega) (fun z2531 h2532 => ?_)
        have h2532 : z2531.toInt = v51_4.toInt + 1 := h2532
        refine g_goto C 51 dX10_give_69 (by decide) ?_
        refine g_lv (lv' := [(0, .ref a0), (1, .int a1), (2, .int a2), (3, .ref b51_3), (4, .int z2531)]) [1, 2, 3, 4, 0] rfl ?_
        exact ih51 Y2524 b51_3 z2531 (by omega) Iy2526 Xz2528 h2530 (by omega)
  have J14 : (0 ≤ (pI P a0 3).toInt ∧ (pI P a0 3).toInt ≤ 3) → G E ({ frames := 8, cells := 0, slots := 0, locals := 512 } : Room) D cy 5 P 0 0 14 [(0, .ref a0), (2, .int a2)] [] := by
    intro hq14_0
    refine g_aload_n C dX10_give_14 rfl 0 rfl ?_
    refine g_dup C dX10_give_15 rfl ?_
    refine g_getI C fi_X10_32 (by decide) (ha0).1 (ha0).2 dX10_give_16 ?_
    refine g_iload_n C dX10_give_19 rfl 1 rfl ?_
    refine a_ior C dX10_give_20 (fun z2533 => ?_)
    refine g_putI C fi_X10_32 rfl (ha0).1 (ha0).2 dX10_give_21 ?_
    refine gpW (ks := [10]) (I.setI (ha0) (rgOk.none rfl)) (EK.setI (ha0).2 (by decide)) (fun Y2535 Iy2536 Xy2537 w2538 w2539 => ?_)
    have q2540 := w2538 3 (by decide)
    have Xz2541 : EK [0, 10, 13] P Y2535 := Xy2537.mono (by decide)
    have h2542 := Xy2537.at ha0
    refine g_aload_n C dX10_give_24 rfl 0 rfl ?_
    refine g_dup C dX10_give_25 rfl ?_
    refine g_getI C fi_X10_28 (by decide) (h2542).1 (h2542).2 dX10_give_26 ?_
    refine g_iload_n C dX10_give_29 rfl 1 rfl ?_
    refine g_iconst (v := (-1)) C dX10_give_30 (by decide) ?_
    refine a_ixor C dX10_give_31 (fun z2543 => ?_)
    refine a_ior C dX10_give_32 (fun z2545 => ?_)
    refine g_putI C fi_X10_28 rfl (h2542).1 (h2542).2 dX10_give_33 ?_
    refine gpW (ks := [10]) (Iy2536.setI (h2542) (rgOk.none rfl)) (EK.setI (h2542).2 (by decide)) (fun Y2547 Iy2548 Xy2549 w2550 w2551 => ?_)
    have q2552 := w2550 3 (by decide)
    have q2553 := w2550 5 (by decide)
    have Xz2554 : EK [0, 10, 13] P Y2547 := Xz2541.tr (Xy2549.mono (by decide))
    have h2555 := Xy2549.at h2542
    exact ret _ _ _ _ _ dX10_give_36 (by decide) (by decide) ⟨Iy2548, Xz2554⟩
  refine g_iload_n C dX10_give_0 rfl 1 rfl ?_
  refine g_aload_n C dX10_give_1 rfl 0 rfl ?_
  refine g_getI C fi_X10_35 (by decide) (ha0).1 (ha0).2 dX10_give_2 ?_
  have h2556 := I.rg (ha0) 3 rfl
  refine b_icmp_ge C 14 dX10_give_5 (by decide) (fun h2557 => ?_) (fun h2557 => ?_)
  · have h2557 : (pI P a0 3).toInt ≤ a1.toInt := h2557
    refine g_lv (lv' := [(0, .ref a0), (2, .int a2)]) [0, 2] rfl ?_
    exact J14 (by omega)
  · have h2557 : a1.toInt < (pI P a0 3).toInt := h2557
    refine g_iload_n C dX10_give_8 rfl 1 rfl ?_
    refine g_bipush (v := 6) C dX10_give_9 (by decide) ?_
    refine b_icmp_lt C 37 dX10_give_11 (by decide) (fun h2558 => ?_) (fun h2558 => ?_)
    · have h2558 : a1.toInt < 6 := h2558
      refine g_aload_n C dX10_give_37 rfl 0 rfl ?_
      obtain ⟨b2559, e2560, h2561⟩ := I.fld (ha0) 0 20 6 rfl
      refine g_getR C fi_X10_11 rfl e2560 (ha0).1 (ha0).2 dX10_give_38 ?_
      refine g_iload_n C dX10_give_41 rfl 1 rfl ?_
      refine g_aldQ (j := (a1.toInt.toNat)) C h2561.1 h2561.2.1 (by decide) (ix_in h2561.2.2 (by omega)) dX10_give_42 ?_
      rcases I.pap h2561 (a1.toInt.toNat) with e2563 | ⟨b2562, e2563, h2564⟩
      · rw [e2563]
        show G _ _ _ _ _ _ _ _ _ _ (.null :: _)
        refine g_astore_nN (lv' := [(3, .null), (0, .ref a0), (1, .int a1), (2, .int a2)]) C dX10_give_43 rfl (by decide) rfl ?_
        refine g_aload_nN C dX10_give_44 rfl 0 rfl ?_
        refine g_ifnullN C 72 dX10_give_45 (by decide) ?_
        exact ret _ _ _ _ _ dX10_give_72 (by decide) (by decide) ⟨I, EK.rf⟩
      · rw [e2563]
        show G _ _ _ _ _ _ _ _ _ _ (.ref b2562 :: _)
        refine g_astore_n (lv' := [(3, .ref b2562), (0, .ref a0), (1, .int a1), (2, .int a2)]) C dX10_give_43 rfl (by decide) rfl ?_
        refine g_aload_n C dX10_give_44 rfl 0 rfl ?_
        refine g_ifnull C dX10_give_45 ?_
        refine g_iconst (v := 0) C dX10_give_48 (by decide) ?_
        refine g_istore (lv' := [(4, .int 0), (3, .ref b2562), (0, .ref a0), (1, .int a1), (2, .int a2)]) C dX10_give_49 (by decide) rfl ?_
        refine g_lv (lv' := [(0, .ref a0), (1, .int a1), (2, .int a2), (3, .ref b2562), (4, .int 0)]) [2, 3, 4, 1, 0] rfl ?_
        exact J51 _ P b2562 0 (Nat.lt_succ_self _) I EK.rf h2564 (by decide)
    · have h2558 : 6 ≤ a1.toInt := h2558
      omega
set_option maxHeartbeats 4000000 in
set_option maxRecDepth 100000 in
theorem s_X10_tryBook_L4 {P : PP} {a0 : Nat} {a1 : Int32} {a2 : Int32} {a3 : Nat} {a4 : Int32} (I : IV P) (ha0 : At P a0 10) (ha1 : 2 ≤ a1.toInt ∧ a1.toInt ≤ 2) (ha3 : At P a3 7) (ha4 : 0 ≤ a4.toInt ∧ a4.toInt ≤ 1) : CtrV yX10_tryBook cX10_tryBook 9 none ({ frames := 9, cells := 0, slots := 0, locals := 576 } : Room) 0 0 P [.ref a0, .int a1, .int a2, .ref a3, .int a4] (fun P2 => IV P2 ∧ EK [0, 10, 13] P P2) := by
  refine enV (lv := [(0, .ref a0), (1, .int a1), (2, .int a2), (3, .ref a3), (4, .int a4)]) (by decide) (Nat.le_of_ble_eq_true rfl) rfl (fun E D cy C Ci0 ret => ?_)
  have J85 : ∀ (P85 : PP) (b85_5 : Nat) (b85_6 : Nat) (v85_7 : Int32) (v85_8 : Int32), (IV P85) → (EK [0, 10, 13] P P85) → (At P85 b85_5 0) → (At P85 b85_6 0) → (0 ≤ v85_7.toInt ∧ v85_7.toInt ≤ 20) → (0 ≤ v85_8.toInt ∧ v85_8.toInt ≤ 20) → G E ({ frames := 9, cells := 0, slots := 0, locals := 576 } : Room) D cy 9 P85 0 0 85 [(5, .ref b85_5), (6, .ref b85_6), (7, .int v85_7), (8, .int v85_8)] [] := by
    intro P85 b85_5 b85_6 v85_7 v85_8 I85 X85 hb85_5 hb85_6 hv85_7 hv85_8
    have h2649 := X85.at ha0
    have h2650 := X85.at ha3
    refine g_aload C dX10_tryBook_85 0 rfl ?_
    refine g_iload C dX10_tryBook_87 2 rfl ?_
    refine g_callVV (rest := []) C mv_X10_79 [.int v85_7] (s_X0_cut I85 hb85_5) (hb85_5).1 (hb85_5).2 rfl rfl (by decide) (Nat.le_of_ble_eq_true rfl) (by decide) dX10_tryBook_89 (fun Y2652 h2653 => ?_)
    obtain ⟨Iy2654, Xy2655⟩ := h2653
    have Xz2656 : EK [0, 10, 13] P Y2652 := X85.tr (Xy2655.mono (by decide))
    have h2657 := Xy2655.at h2649
    have h2658 := Xy2655.at h2650
    have h2659 := Xy2655.at hb85_5
    have h2660 := Xy2655.at hb85_6
    refine g_aload C dX10_tryBook_92 1 rfl ?_
    refine g_iload C dX10_tryBook_94 3 rfl ?_
    refine g_callVV (rest := []) C mv_X10_79 [.int v85_8] (s_X0_cut Iy2654 h2660) (h2660).1 (h2660).2 rfl rfl (by decide) (Nat.le_of_ble_eq_true rfl) (by decide) dX10_tryBook_96 (fun Y2662 h2663 => ?_)
    obtain ⟨Iy2664, Xy2665⟩ := h2663
    have Xz2666 : EK [0, 10, 13] P Y2662 := Xz2656.tr (Xy2665.mono (by decide))
    have h2667 := Xy2665.at h2657
    have h2668 := Xy2665.at h2658
    have h2669 := Xy2665.at h2659
    have h2670 := Xy2665.at h2660
    exact ret _ _ _ _ _ dX10_tryBook_99 (by decide) (by decide) ⟨Iy2664, Xz2666⟩
  refine g_aload_n C dX10_tryBook_0 rfl 0 rfl ?_
  refine g_iload C dX10_tryBook_1 4 rfl ?_
  refine g_iconst (v := 0) C dX10_tryBook_3 (by decide) ?_
  refine g_callVQ (rest := []) C mv_X10_64 [.int a4, .int 0] (s_X10_basisOf I ha0 (by omega) (by decide)) (ha0).1 (ha0).2 rfl rfl (by decide) (Nat.le_of_ble_eq_true rfl) (by decide) dX10_tryBook_4 (fun r2671 Y2672 h2673 => ?_)
  obtain ⟨rfl, h2673⟩ := h2673
  obtain ⟨b2675, rfl, h2673⟩ := h2673
  show G _ _ _ _ _ _ _ _ _ _ (.ref b2675 :: _)
  refine g_astore (lv' := [(5, .ref b2675), (0, .ref a0), (1, .int a1), (2, .int a2), (3, .ref a3), (4, .int a4)]) C dX10_tryBook_7 (by decide) rfl ?_
  refine g_aload_n C dX10_tryBook_9 rfl 1 rfl ?_
  refine g_iload C dX10_tryBook_10 5 rfl ?_
  refine g_iconst (v := 1) C dX10_tryBook_12 (by decide) ?_
  refine g_callVQ (rest := []) C mv_X10_64 [.int a4, .int 1] (s_X10_basisOf I ha0 (by omega) (by decide)) (ha0).1 (ha0).2 rfl rfl (by decide) (Nat.le_of_ble_eq_true rfl) (by decide) dX10_tryBook_13 (fun r2676 Y2677 h2678 => ?_)
  obtain ⟨rfl, h2678⟩ := h2678
  obtain ⟨b2680, rfl, h2678⟩ := h2678
  show G _ _ _ _ _ _ _ _ _ _ (.ref b2680 :: _)
  refine g_astore (lv' := [(6, .ref b2680), (5, .ref b2675), (0, .ref a0), (1, .int a1), (2, .int a2), (3, .ref a3), (4, .int a4)]) C dX10_tryBook_16 (by decide) rfl ?_
  refine g_aload C dX10_tryBook_18 1 rfl ?_
  refine g_getI C fi_X10_68 (by decide) (h2673).1 (h2673).2 dX10_tryBook_20 ?_
  have h2681 := I.rg (h2673) 2 rfl
  refine g_topi (fun z2682 h2683 => ?_)
  have h2683 : z2682.toInt = (pI P b2675 2).toInt := congrArg Int32.toInt h2683
  refine g_istore (lv' := [(7, .int z2682), (6, .ref b2680), (5, .ref b2675), (0, .ref a0), (1, .int a1), (2, .int a2), (3, .ref a3), (4, .int a4)]) C dX10_tryBook_23 (by decide) rfl ?_
  refine g_aload C dX10_tryBook_25 1 rfl ?_
  refine g_getI C fi_X10_68 (by decide) (h2678).1 (h2678).2 dX10_tryBook_27 ?_
  have h2684 := I.rg (h2678) 2 rfl
  refine g_topi (fun z2685 h2686 => ?_)
  have h2686 : z2685.toInt = (pI P b2680 2).toInt := congrArg Int32.toInt h2686
  refine g_istore (lv' := [(8, .int z2685), (7, .int z2682), (6, .ref b2680), (5, .ref b2675), (0, .ref a0), (1, .int a1), (2, .int a2), (3, .ref a3), (4, .int a4)]) C dX10_tryBook_30 (by decide) rfl ?_
  refine g_aload C dX10_tryBook_32 3 rfl ?_
  refine g_aload_n C dX10_tryBook_34 rfl 7 rfl ?_
  refine g_iload C dX10_tryBook_35 8 rfl ?_
  refine g_iconst (v := 0) C dX10_tryBook_37 (by decide) ?_
  refine g_callVI (rest := [.ref b2675]) C mv_X10_71 [.int a4, .int 0] (s_X7_equation I ha3) (ha3).1 (ha3).2 rfl rfl (by decide) (Nat.le_of_ble_eq_true rfl) (by decide) dX10_tryBook_38 (fun r2687 Y2688 h2689 => ?_)
  obtain ⟨rfl, h2689⟩ := h2689
  have h2689 : True := h2689
  refine g_callVV (rest := []) C mv_X10_75 [.int r2687] (s_X0_add I h2673) (h2673).1 (h2673).2 rfl rfl (by decide) (Nat.le_of_ble_eq_true rfl) (by decide) dX10_tryBook_41 (fun Y2691 h2692 => ?_)
  obtain ⟨Iy2693, Xy2694⟩ := h2692
  have Xz2695 : EK [0, 10, 13] P Y2691 := Xy2694.mono (by decide)
  have h2696 := Xy2694.at ha0
  have h2697 := Xy2694.at ha3
  have h2698 := Xy2694.at h2673
  have h2699 := Xy2694.at h2678
  refine g_aload C dX10_tryBook_44 2 rfl ?_
  refine g_aload_n C dX10_tryBook_46 rfl 7 rfl ?_
  refine g_iload C dX10_tryBook_47 8 rfl ?_
  refine g_iconst (v := 1) C dX10_tryBook_49 (by decide) ?_
  refine g_callVI (rest := [.ref b2680]) C mv_X10_71 [.int a4, .int 1] (s_X7_equation Iy2693 h2697) (h2697).1 (h2697).2 rfl rfl (by decide) (Nat.le_of_ble_eq_true rfl) (by decide) dX10_tryBook_50 (fun r2700 Y2701 h2702 => ?_)
  obtain ⟨rfl, h2702⟩ := h2702
  have h2702 : True := h2702
  refine g_callVV (rest := []) C mv_X10_75 [.int r2700] (s_X0_add Iy2693 h2699) (h2699).1 (h2699).2 rfl rfl (by decide) (Nat.le_of_ble_eq_true rfl) (by decide) dX10_tryBook_53 (fun Y2704 h2705 => ?_)
  obtain ⟨Iy2706, Xy2707⟩ := h2705
  have Xz2708 : EK [0, 10, 13] P Y2704 := Xz2695.tr (Xy2707.mono (by decide))
  have h2709 := Xy2707.at h2696
  have h2710 := Xy2707.at h2697
  have h2711 := Xy2707.at h2698
  have h2712 := Xy2707.at h2699
  refine g_aload C dX10_tryBook_56 3 rfl ?_
  refine g_getI C fi_X10_56 (by decide) (h2711).1 (h2711).2 dX10_tryBook_58 ?_
  have h2713 := Iy2706.rg (h2711) 3 rfl
  refine b_if_eq C 85 dX10_tryBook_61 (by decide) (fun h2714 => ?_) (fun h2714 => ?_)
  · have h2714 : (pI Y2704 b2675 3).toInt = 0 := congrArg Int32.toInt h2714
    refine g_lv (lv' := [(5, .ref b2675), (6, .ref b2680), (7, .int z2682), (8, .int z2685)]) [3, 2, 1, 0] rfl ?_
    exact J85 Y2704 b2675 b2680 z2682 z2685 Iy2706 Xz2708 h2711 h2712 (by omega) (by omega)
  · have h2714 : (pI Y2704 b2675 3).toInt ≠ 0 := ti_ne h2714
    refine g_aload C dX10_tryBook_64 2 rfl ?_
    refine g_getI C fi_X10_56 (by decide) (h2712).1 (h2712).2 dX10_tryBook_66 ?_
    have h2715 := Iy2706.rg (h2712) 3 rfl
    refine b_if_eq C 85 dX10_tryBook_69 (by decide) (fun h2716 => ?_) (fun h2716 => ?_)
    · have h2716 : (pI Y2704 b2680 3).toInt = 0 := congrArg Int32.toInt h2716
      refine g_lv (lv' := [(5, .ref b2675), (6, .ref b2680), (7, .int z2682), (8, .int z2685)]) [3, 2, 1, 0] rfl ?_
      exact J85 Y2704 b2675 b2680 z2682 z2685 Iy2706 Xz2708 h2711 h2712 (by omega) (by omega)
    · have h2716 : (pI Y2704 b2680 3).toInt ≠ 0 := ti_ne h2716
      refine g_aload_n C dX10_tryBook_72 rfl 4 rfl ?_
      refine g_iload_n C dX10_tryBook_73 rfl 5 rfl ?_
      refine g_iconst (v := 1) C dX10_tryBook_74 (by decide) ?_
      refine s_iadd C dX10_tryBook_75 (by show -2147483648 ≤ a1.toInt + 1 ∧ a1.toInt + 1 ≤ 2147483647; omega) (fun z2717 h2718 => ?_)
      have h2718 : z2717.toInt = a1.toInt + 1 := h2718
      refine g_iload_n C dX10_tryBook_76 rfl 6 rfl ?_
      refine g_iload C dX10_tryBook_77 8 rfl ?_
      refine g_iload_n C dX10_tryBook_79 rfl 5 rfl ?_
      refine a_ishl C dX10_tryBook_80 (fun z2719 => ?_)
      refine a_ior C dX10_tryBook_81 (fun z2721 => ?_)
      refine g_callVV (rest := []) C mv_X10_52 [.int z2717, .int z2721] (s_X10_give_L3 Iy2706 h2709 (by omega)) (h2709).1 (h2709).2 rfl rfl (by decide) (Nat.le_of_ble_eq_true rfl) (by decide) dX10_tryBook_82 (fun Y2724 h2725 => ?_)
      obtain ⟨Iy2726, Xy2727⟩ := h2725
      have Xz2728 : EK [0, 10, 13] P Y2724 := Xz2708.tr (Xy2727.mono (by decide))
      have h2729 := Xy2727.at h2709
      have h2730 := Xy2727.at h2710
      have h2731 := Xy2727.at h2711
      have h2732 := Xy2727.at h2712
      refine g_lv (lv' := [(5, .ref b2675), (6, .ref b2680), (7, .int z2682), (8, .int z2685)]) [3, 2, 1, 0] rfl ?_
      exact J85 Y2724 b2675 b2680 z2682 z2685 Iy2726 Xz2728 h2731 h2732 (by omega) (by omega)
set_option maxHeartbeats 4000000 in
set_option maxRecDepth 100000 in
theorem s_X10_give_L4 {P : PP} {a0 : Nat} {a1 : Int32} {a2 : Int32} (I : IV P) (ha0 : At P a0 10) (ha1 : 2 ≤ a1.toInt ∧ a1.toInt ≤ 2) : CtrV yX10_give cX10_give 5 none ({ frames := 10, cells := 0, slots := 0, locals := 640 } : Room) 0 0 P [.ref a0, .int a1, .int a2] (fun P2 => IV P2 ∧ EK [0, 10, 13] P P2) := by
  refine enV (lv := [(0, .ref a0), (1, .int a1), (2, .int a2)]) (by decide) (Nat.le_of_ble_eq_true rfl) rfl (fun E D cy C Ci0 ret => ?_)
  have J51 : ∀ (n51 : Nat) (P51 : PP) (b51_3 : Nat) (v51_4 : Int32), (2 - v51_4.toInt).toNat < n51 → (IV P51) → (EK [0, 10, 13] P P51) → (At P51 b51_3 7) → (0 ≤ v51_4.toInt ∧ v51_4.toInt ≤ 2) → G E ({ frames := 10, cells := 0, slots := 0, locals := 640 } : Room) D cy 5 P51 0 0 51 [(0, .ref a0), (1, .int a1), (2, .int a2), (3, .ref b51_3), (4, .int v51_4)] [] := by
    intro n51
    induction n51 with
    | zero => intro P51 b51_3 v51_4 hm51 I51 X51 hb51_3 hv51_4; omega
    | succ n51 ih51 =>
      intro P51 b51_3 v51_4 hm51 I51 X51 hb51_3 hv51_4
      have h2800 := X51.at ha0
      refine g_iload C dX10_give_51 4 rfl ?_
      refine g_iconst (v := 2) C dX10_give_53 (by decide) ?_
      refine b_icmp_ge C 72 dX10_give_54 (by decide) (fun h2801 => ?_) (fun h2801 => ?_)
      · have h2801 : 2 ≤ v51_4.toInt := h2801
        exact ret _ _ _ _ _ dX10_give_72 (by decide) (by decide) ⟨I51, X51⟩
      · have h2801 : v51_4.toInt < 2 := h2801
        refine g_aload_n C dX10_give_57 rfl 0 rfl ?_
        refine g_iload_n C dX10_give_58 rfl 1 rfl ?_
        refine g_iload_n C dX10_give_59 rfl 2 rfl ?_
        refine g_aload_n C dX10_give_60 rfl 3 rfl ?_
        refine g_iload C dX10_give_61 4 rfl ?_
        refine g_callVV (rest := []) C mv_X10_60 [.int a1, .int a2, .ref b51_3, .int v51_4] (s_X10_tryBook_L4 I51 h2800 (by omega) hb51_3 (by omega)) (h2800).1 (h2800).2 rfl rfl (by decide) (Nat.le_of_ble_eq_true rfl) (by decide) dX10_give_63 (fun Y2803 h2804 => ?_)
        obtain ⟨Iy2805, Xy2806⟩ := h2804
        have Xz2807 : EK [0, 10, 13] P Y2803 := X51.tr (Xy2806.mono (by decide))
        have h2808 := Xy2806.at h2800
        have h2809 := Xy2806.at hb51_3
        refine s_iinc (lv0 := [(0, .ref a0), (1, .int a1), (2, .int a2), (3, .ref b51_3)]) (m := 1) C dX10_give_66 4 rfl (by decide) rfl (by decide) (by omega) (fun z2810 h2811 => ?_)
        have h2811 : z2810.toInt = v51_4.toInt + 1 := h2811
        refine g_goto C 51 dX10_give_69 (by decide) ?_
        refine g_lv (lv' := [(0, .ref a0), (1, .int a1), (2, .int a2), (3, .ref b51_3), (4, .int z2810)]) [1, 2, 3, 4, 0] rfl ?_
        exact ih51 Y2803 b51_3 z2810 (by omega) Iy2805 Xz2807 h2809 (by omega)
  have J14 : (0 ≤ (pI P a0 3).toInt ∧ (pI P a0 3).toInt ≤ 2) → G E ({ frames := 10, cells := 0, slots := 0, locals := 640 } : Room) D cy 5 P 0 0 14 [(0, .ref a0), (2, .int a2)] [] := by
    intro hq14_0
    refine g_aload_n C dX10_give_14 rfl 0 rfl ?_
    refine g_dup C dX10_give_15 rfl ?_
    refine g_getI C fi_X10_32 (by decide) (ha0).1 (ha0).2 dX10_give_16 ?_
    refine g_iload_n C dX10_give_19 rfl 1 rfl ?_
    refine a_ior C dX10_give_20 (fun z2812 => ?_)
    refine g_putI C fi_X10_32 rfl (ha0).1 (ha0).2 dX10_give_21 ?_
    refine gpW (ks := [10]) (I.setI (ha0) (rgOk.none rfl)) (EK.setI (ha0).2 (by decide)) (fun Y2814 Iy2815 Xy2816 w2817 w2818 => ?_)
    have q2819 := w2817 3 (by decide)
    have Xz2820 : EK [0, 10, 13] P Y2814 := Xy2816.mono (by decide)
    have h2821 := Xy2816.at ha0
    refine g_aload_n C dX10_give_24 rfl 0 rfl ?_
    refine g_dup C dX10_give_25 rfl ?_
    refine g_getI C fi_X10_28 (by decide) (h2821).1 (h2821).2 dX10_give_26 ?_
    refine g_iload_n C dX10_give_29 rfl 1 rfl ?_
    refine g_iconst (v := (-1)) C dX10_give_30 (by decide) ?_
    refine a_ixor C dX10_give_31 (fun z2822 => ?_)
    refine a_ior C dX10_give_32 (fun z2824 => ?_)
    refine g_putI C fi_X10_28 rfl (h2821).1 (h2821).2 dX10_give_33 ?_
    refine gpW (ks := [10]) (Iy2815.setI (h2821) (rgOk.none rfl)) (EK.setI (h2821).2 (by decide)) (fun Y2826 Iy2827 Xy2828 w2829 w2830 => ?_)
    have q2831 := w2829 3 (by decide)
    have q2832 := w2829 5 (by decide)
    have Xz2833 : EK [0, 10, 13] P Y2826 := Xz2820.tr (Xy2828.mono (by decide))
    have h2834 := Xy2828.at h2821
    exact ret _ _ _ _ _ dX10_give_36 (by decide) (by decide) ⟨Iy2827, Xz2833⟩
  refine g_iload_n C dX10_give_0 rfl 1 rfl ?_
  refine g_aload_n C dX10_give_1 rfl 0 rfl ?_
  refine g_getI C fi_X10_35 (by decide) (ha0).1 (ha0).2 dX10_give_2 ?_
  have h2835 := I.rg (ha0) 3 rfl
  refine b_icmp_ge C 14 dX10_give_5 (by decide) (fun h2836 => ?_) (fun h2836 => ?_)
  · have h2836 : (pI P a0 3).toInt ≤ a1.toInt := h2836
    refine g_lv (lv' := [(0, .ref a0), (2, .int a2)]) [0, 2] rfl ?_
    exact J14 (by omega)
  · have h2836 : a1.toInt < (pI P a0 3).toInt := h2836
    refine g_iload_n C dX10_give_8 rfl 1 rfl ?_
    refine g_bipush (v := 6) C dX10_give_9 (by decide) ?_
    refine b_icmp_lt C 37 dX10_give_11 (by decide) (fun h2837 => ?_) (fun h2837 => ?_)
    · have h2837 : a1.toInt < 6 := h2837
      refine g_aload_n C dX10_give_37 rfl 0 rfl ?_
      obtain ⟨b2838, e2839, h2840⟩ := I.fld (ha0) 0 20 6 rfl
      refine g_getR C fi_X10_11 rfl e2839 (ha0).1 (ha0).2 dX10_give_38 ?_
      refine g_iload_n C dX10_give_41 rfl 1 rfl ?_
      refine g_aldQ (j := (a1.toInt.toNat)) C h2840.1 h2840.2.1 (by decide) (ix_in h2840.2.2 (by omega)) dX10_give_42 ?_
      rcases I.pap h2840 (a1.toInt.toNat) with e2842 | ⟨b2841, e2842, h2843⟩
      · rw [e2842]
        show G _ _ _ _ _ _ _ _ _ _ (.null :: _)
        refine g_astore_nN (lv' := [(3, .null), (0, .ref a0), (1, .int a1), (2, .int a2)]) C dX10_give_43 rfl (by decide) rfl ?_
        refine g_aload_nN C dX10_give_44 rfl 0 rfl ?_
        refine g_ifnullN C 72 dX10_give_45 (by decide) ?_
        exact ret _ _ _ _ _ dX10_give_72 (by decide) (by decide) ⟨I, EK.rf⟩
      · rw [e2842]
        show G _ _ _ _ _ _ _ _ _ _ (.ref b2841 :: _)
        refine g_astore_n (lv' := [(3, .ref b2841), (0, .ref a0), (1, .int a1), (2, .int a2)]) C dX10_give_43 rfl (by decide) rfl ?_
        refine g_aload_n C dX10_give_44 rfl 0 rfl ?_
        refine g_ifnull C dX10_give_45 ?_
        refine g_iconst (v := 0) C dX10_give_48 (by decide) ?_
        refine g_istore (lv' := [(4, .int 0), (3, .ref b2841), (0, .ref a0), (1, .int a1), (2, .int a2)]) C dX10_give_49 (by decide) rfl ?_
        refine g_lv (lv' := [(0, .ref a0), (1, .int a1), (2, .int a2), (3, .ref b2841), (4, .int 0)]) [2, 3, 4, 1, 0] rfl ?_
        exact J51 _ P b2841 0 (Nat.lt_succ_self _) I EK.rf h2843 (by decide)
    · have h2837 : 6 ≤ a1.toInt := h2837
      omega
set_option maxHeartbeats 4000000 in
set_option maxRecDepth 100000 in
theorem s_X10_tryBook_L5 {P : PP} {a0 : Nat} {a1 : Int32} {a2 : Int32} {a3 : Nat} {a4 : Int32} (I : IV P) (ha0 : At P a0 10) (ha1 : 1 ≤ a1.toInt ∧ a1.toInt ≤ 1) (ha3 : At P a3 7) (ha4 : 0 ≤ a4.toInt ∧ a4.toInt ≤ 1) : CtrV yX10_tryBook cX10_tryBook 9 none ({ frames := 11, cells := 0, slots := 0, locals := 704 } : Room) 0 0 P [.ref a0, .int a1, .int a2, .ref a3, .int a4] (fun P2 => IV P2 ∧ EK [0, 10, 13] P P2) := by
  refine enV (lv := [(0, .ref a0), (1, .int a1), (2, .int a2), (3, .ref a3), (4, .int a4)]) (by decide) (Nat.le_of_ble_eq_true rfl) rfl (fun E D cy C Ci0 ret => ?_)
  have J85 : ∀ (P85 : PP) (b85_5 : Nat) (b85_6 : Nat) (v85_7 : Int32) (v85_8 : Int32), (IV P85) → (EK [0, 10, 13] P P85) → (At P85 b85_5 0) → (At P85 b85_6 0) → (0 ≤ v85_7.toInt ∧ v85_7.toInt ≤ 20) → (0 ≤ v85_8.toInt ∧ v85_8.toInt ≤ 20) → G E ({ frames := 11, cells := 0, slots := 0, locals := 704 } : Room) D cy 9 P85 0 0 85 [(5, .ref b85_5), (6, .ref b85_6), (7, .int v85_7), (8, .int v85_8)] [] := by
    intro P85 b85_5 b85_6 v85_7 v85_8 I85 X85 hb85_5 hb85_6 hv85_7 hv85_8
    have h2928 := X85.at ha0
    have h2929 := X85.at ha3
    refine g_aload C dX10_tryBook_85 0 rfl ?_
    refine g_iload C dX10_tryBook_87 2 rfl ?_
    refine g_callVV (rest := []) C mv_X10_79 [.int v85_7] (s_X0_cut I85 hb85_5) (hb85_5).1 (hb85_5).2 rfl rfl (by decide) (Nat.le_of_ble_eq_true rfl) (by decide) dX10_tryBook_89 (fun Y2931 h2932 => ?_)
    obtain ⟨Iy2933, Xy2934⟩ := h2932
    have Xz2935 : EK [0, 10, 13] P Y2931 := X85.tr (Xy2934.mono (by decide))
    have h2936 := Xy2934.at h2928
    have h2937 := Xy2934.at h2929
    have h2938 := Xy2934.at hb85_5
    have h2939 := Xy2934.at hb85_6
    refine g_aload C dX10_tryBook_92 1 rfl ?_
    refine g_iload C dX10_tryBook_94 3 rfl ?_
    refine g_callVV (rest := []) C mv_X10_79 [.int v85_8] (s_X0_cut Iy2933 h2939) (h2939).1 (h2939).2 rfl rfl (by decide) (Nat.le_of_ble_eq_true rfl) (by decide) dX10_tryBook_96 (fun Y2941 h2942 => ?_)
    obtain ⟨Iy2943, Xy2944⟩ := h2942
    have Xz2945 : EK [0, 10, 13] P Y2941 := Xz2935.tr (Xy2944.mono (by decide))
    have h2946 := Xy2944.at h2936
    have h2947 := Xy2944.at h2937
    have h2948 := Xy2944.at h2938
    have h2949 := Xy2944.at h2939
    exact ret _ _ _ _ _ dX10_tryBook_99 (by decide) (by decide) ⟨Iy2943, Xz2945⟩
  refine g_aload_n C dX10_tryBook_0 rfl 0 rfl ?_
  refine g_iload C dX10_tryBook_1 4 rfl ?_
  refine g_iconst (v := 0) C dX10_tryBook_3 (by decide) ?_
  refine g_callVQ (rest := []) C mv_X10_64 [.int a4, .int 0] (s_X10_basisOf I ha0 (by omega) (by decide)) (ha0).1 (ha0).2 rfl rfl (by decide) (Nat.le_of_ble_eq_true rfl) (by decide) dX10_tryBook_4 (fun r2950 Y2951 h2952 => ?_)
  obtain ⟨rfl, h2952⟩ := h2952
  obtain ⟨b2954, rfl, h2952⟩ := h2952
  show G _ _ _ _ _ _ _ _ _ _ (.ref b2954 :: _)
  refine g_astore (lv' := [(5, .ref b2954), (0, .ref a0), (1, .int a1), (2, .int a2), (3, .ref a3), (4, .int a4)]) C dX10_tryBook_7 (by decide) rfl ?_
  refine g_aload_n C dX10_tryBook_9 rfl 1 rfl ?_
  refine g_iload C dX10_tryBook_10 5 rfl ?_
  refine g_iconst (v := 1) C dX10_tryBook_12 (by decide) ?_
  refine g_callVQ (rest := []) C mv_X10_64 [.int a4, .int 1] (s_X10_basisOf I ha0 (by omega) (by decide)) (ha0).1 (ha0).2 rfl rfl (by decide) (Nat.le_of_ble_eq_true rfl) (by decide) dX10_tryBook_13 (fun r2955 Y2956 h2957 => ?_)
  obtain ⟨rfl, h2957⟩ := h2957
  obtain ⟨b2959, rfl, h2957⟩ := h2957
  show G _ _ _ _ _ _ _ _ _ _ (.ref b2959 :: _)
  refine g_astore (lv' := [(6, .ref b2959), (5, .ref b2954), (0, .ref a0), (1, .int a1), (2, .int a2), (3, .ref a3), (4, .int a4)]) C dX10_tryBook_16 (by decide) rfl ?_
  refine g_aload C dX10_tryBook_18 1 rfl ?_
  refine g_getI C fi_X10_68 (by decide) (h2952).1 (h2952).2 dX10_tryBook_20 ?_
  have h2960 := I.rg (h2952) 2 rfl
  refine g_topi (fun z2961 h2962 => ?_)
  have h2962 : z2961.toInt = (pI P b2954 2).toInt := congrArg Int32.toInt h2962
  refine g_istore (lv' := [(7, .int z2961), (6, .ref b2959), (5, .ref b2954), (0, .ref a0), (1, .int a1), (2, .int a2), (3, .ref a3), (4, .int a4)]) C dX10_tryBook_23 (by decide) rfl ?_
  refine g_aload C dX10_tryBook_25 1 rfl ?_
  refine g_getI C fi_X10_68 (by decide) (h2957).1 (h2957).2 dX10_tryBook_27 ?_
  have h2963 := I.rg (h2957) 2 rfl
  refine g_topi (fun z2964 h2965 => ?_)
  have h2965 : z2964.toInt = (pI P b2959 2).toInt := congrArg Int32.toInt h2965
  refine g_istore (lv' := [(8, .int z2964), (7, .int z2961), (6, .ref b2959), (5, .ref b2954), (0, .ref a0), (1, .int a1), (2, .int a2), (3, .ref a3), (4, .int a4)]) C dX10_tryBook_30 (by decide) rfl ?_
  refine g_aload C dX10_tryBook_32 3 rfl ?_
  refine g_aload_n C dX10_tryBook_34 rfl 7 rfl ?_
  refine g_iload C dX10_tryBook_35 8 rfl ?_
  refine g_iconst (v := 0) C dX10_tryBook_37 (by decide) ?_
  refine g_callVI (rest := [.ref b2954]) C mv_X10_71 [.int a4, .int 0] (s_X7_equation I ha3) (ha3).1 (ha3).2 rfl rfl (by decide) (Nat.le_of_ble_eq_true rfl) (by decide) dX10_tryBook_38 (fun r2966 Y2967 h2968 => ?_)
  obtain ⟨rfl, h2968⟩ := h2968
  have h2968 : True := h2968
  refine g_callVV (rest := []) C mv_X10_75 [.int r2966] (s_X0_add I h2952) (h2952).1 (h2952).2 rfl rfl (by decide) (Nat.le_of_ble_eq_true rfl) (by decide) dX10_tryBook_41 (fun Y2970 h2971 => ?_)
  obtain ⟨Iy2972, Xy2973⟩ := h2971
  have Xz2974 : EK [0, 10, 13] P Y2970 := Xy2973.mono (by decide)
  have h2975 := Xy2973.at ha0
  have h2976 := Xy2973.at ha3
  have h2977 := Xy2973.at h2952
  have h2978 := Xy2973.at h2957
  refine g_aload C dX10_tryBook_44 2 rfl ?_
  refine g_aload_n C dX10_tryBook_46 rfl 7 rfl ?_
  refine g_iload C dX10_tryBook_47 8 rfl ?_
  refine g_iconst (v := 1) C dX10_tryBook_49 (by decide) ?_
  refine g_callVI (rest := [.ref b2959]) C mv_X10_71 [.int a4, .int 1] (s_X7_equation Iy2972 h2976) (h2976).1 (h2976).2 rfl rfl (by decide) (Nat.le_of_ble_eq_true rfl) (by decide) dX10_tryBook_50 (fun r2979 Y2980 h2981 => ?_)
  obtain ⟨rfl, h2981⟩ := h2981
  have h2981 : True := h2981
  refine g_callVV (rest := []) C mv_X10_75 [.int r2979] (s_X0_add Iy2972 h2978) (h2978).1 (h2978).2 rfl rfl (by decide) (Nat.le_of_ble_eq_true rfl) (by decide) dX10_tryBook_53 (fun Y2983 h2984 => ?_)
  obtain ⟨Iy2985, Xy2986⟩ := h2984
  have Xz2987 : EK [0, 10, 13] P Y2983 := Xz2974.tr (Xy2986.mono (by decide))
  have h2988 := Xy2986.at h2975
  have h2989 := Xy2986.at h2976
  have h2990 := Xy2986.at h2977
  have h2991 := Xy2986.at h2978
  refine g_aload C dX10_tryBook_56 3 rfl ?_
  refine g_getI C fi_X10_56 (by decide) (h2990).1 (h2990).2 dX10_tryBook_58 ?_
  have h2992 := Iy2985.rg (h2990) 3 rfl
  refine b_if_eq C 85 dX10_tryBook_61 (by decide) (fun h2993 => ?_) (fun h2993 => ?_)
  · have h2993 : (pI Y2983 b2954 3).toInt = 0 := congrArg Int32.toInt h2993
    refine g_lv (lv' := [(5, .ref b2954), (6, .ref b2959), (7, .int z2961), (8, .int z2964)]) [3, 2, 1, 0] rfl ?_
    exact J85 Y2983 b2954 b2959 z2961 z2964 Iy2985 Xz2987 h2990 h2991 (by omega) (by omega)
  · have h2993 : (pI Y2983 b2954 3).toInt ≠ 0 := ti_ne h2993
    refine g_aload C dX10_tryBook_64 2 rfl ?_
    refine g_getI C fi_X10_56 (by decide) (h2991).1 (h2991).2 dX10_tryBook_66 ?_
    have h2994 := Iy2985.rg (h2991) 3 rfl
    refine b_if_eq C 85 dX10_tryBook_69 (by decide) (fun h2995 => ?_) (fun h2995 => ?_)
    · have h2995 : (pI Y2983 b2959 3).toInt = 0 := congrArg Int32.toInt h2995
      refine g_lv (lv' := [(5, .ref b2954), (6, .ref b2959), (7, .int z2961), (8, .int z2964)]) [3, 2, 1, 0] rfl ?_
      exact J85 Y2983 b2954 b2959 z2961 z2964 Iy2985 Xz2987 h2990 h2991 (by omega) (by omega)
    · have h2995 : (pI Y2983 b2959 3).toInt ≠ 0 := ti_ne h2995
      refine g_aload_n C dX10_tryBook_72 rfl 4 rfl ?_
      refine g_iload_n C dX10_tryBook_73 rfl 5 rfl ?_
      refine g_iconst (v := 1) C dX10_tryBook_74 (by decide) ?_
      refine s_iadd C dX10_tryBook_75 (by show -2147483648 ≤ a1.toInt + 1 ∧ a1.toInt + 1 ≤ 2147483647; omega) (fun z2996 h2997 => ?_)
      have h2997 : z2996.toInt = a1.toInt + 1 := h2997
      refine g_iload_n C dX10_tryBook_76 rfl 6 rfl ?_
      refine g_iload C dX10_tryBook_77 8 rfl ?_
      refine g_iload_n C dX10_tryBook_79 rfl 5 rfl ?_
      refine a_ishl C dX10_tryBook_80 (fun z2998 => ?_)
      refine a_ior C dX10_tryBook_81 (fun z3000 => ?_)
      refine g_callVV (rest := []) C mv_X10_52 [.int z2996, .int z3000] (s_X10_give_L4 Iy2985 h2988 (by omega)) (h2988).1 (h2988).2 rfl rfl (by decide) (Nat.le_of_ble_eq_true rfl) (by decide) dX10_tryBook_82 (fun Y3003 h3004 => ?_)
      obtain ⟨Iy3005, Xy3006⟩ := h3004
      have Xz3007 : EK [0, 10, 13] P Y3003 := Xz2987.tr (Xy3006.mono (by decide))
      have h3008 := Xy3006.at h2988
      have h3009 := Xy3006.at h2989
      have h3010 := Xy3006.at h2990
      have h3011 := Xy3006.at h2991
      refine g_lv (lv' := [(5, .ref b2954), (6, .ref b2959), (7, .int z2961), (8, .int z2964)]) [3, 2, 1, 0] rfl ?_
      exact J85 Y3003 b2954 b2959 z2961 z2964 Iy3005 Xz3007 h3010 h3011 (by omega) (by omega)
set_option maxHeartbeats 4000000 in
set_option maxRecDepth 100000 in
theorem s_X10_give_L5 {P : PP} {a0 : Nat} {a1 : Int32} {a2 : Int32} (I : IV P) (ha0 : At P a0 10) (ha1 : 1 ≤ a1.toInt ∧ a1.toInt ≤ 1) : CtrV yX10_give cX10_give 5 none ({ frames := 12, cells := 0, slots := 0, locals := 768 } : Room) 0 0 P [.ref a0, .int a1, .int a2] (fun P2 => IV P2 ∧ EK [0, 10, 13] P P2) := by
  refine enV (lv := [(0, .ref a0), (1, .int a1), (2, .int a2)]) (by decide) (Nat.le_of_ble_eq_true rfl) rfl (fun E D cy C Ci0 ret => ?_)
  have J51 : ∀ (n51 : Nat) (P51 : PP) (b51_3 : Nat) (v51_4 : Int32), (2 - v51_4.toInt).toNat < n51 → (IV P51) → (EK [0, 10, 13] P P51) → (At P51 b51_3 7) → (0 ≤ v51_4.toInt ∧ v51_4.toInt ≤ 2) → G E ({ frames := 12, cells := 0, slots := 0, locals := 768 } : Room) D cy 5 P51 0 0 51 [(0, .ref a0), (1, .int a1), (2, .int a2), (3, .ref b51_3), (4, .int v51_4)] [] := by
    intro n51
    induction n51 with
    | zero => intro P51 b51_3 v51_4 hm51 I51 X51 hb51_3 hv51_4; omega
    | succ n51 ih51 =>
      intro P51 b51_3 v51_4 hm51 I51 X51 hb51_3 hv51_4
      have h3079 := X51.at ha0
      refine g_iload C dX10_give_51 4 rfl ?_
      refine g_iconst (v := 2) C dX10_give_53 (by decide) ?_
      refine b_icmp_ge C 72 dX10_give_54 (by decide) (fun h3080 => ?_) (fun h3080 => ?_)
      · have h3080 : 2 ≤ v51_4.toInt := h3080
        exact ret _ _ _ _ _ dX10_give_72 (by decide) (by decide) ⟨I51, X51⟩
      · have h3080 : v51_4.toInt < 2 := h3080
        refine g_aload_n C dX10_give_57 rfl 0 rfl ?_
        refine g_iload_n C dX10_give_58 rfl 1 rfl ?_
        refine g_iload_n C dX10_give_59 rfl 2 rfl ?_
        refine g_aload_n C dX10_give_60 rfl 3 rfl ?_
        refine g_iload C dX10_give_61 4 rfl ?_
        refine g_callVV (rest := []) C mv_X10_60 [.int a1, .int a2, .ref b51_3, .int v51_4] (s_X10_tryBook_L5 I51 h3079 (by omega) hb51_3 (by omega)) (h3079).1 (h3079).2 rfl rfl (by decide) (Nat.le_of_ble_eq_true rfl) (by decide) dX10_give_63 (fun Y3082 h3083 => ?_)
        obtain ⟨Iy3084, Xy3085⟩ := h3083
        have Xz3086 : EK [0, 10, 13] P Y3082 := X51.tr (Xy3085.mono (by decide))
        have h3087 := Xy3085.at h3079
        have h3088 := Xy3085.at hb51_3
        refine s_iinc (lv0 := [(0, .ref a0), (1, .int a1), (2, .int a2), (3, .ref b51_3)]) (m := 1) C dX10_give_66 4 rfl (by decide) rfl (by decide) (by omega) (fun z3089 h3090 => ?_)
        have h3090 : z3089.toInt = v51_4.toInt + 1 := h3090
        refine g_goto C 51 dX10_give_69 (by decide) ?_
        refine g_lv (lv' := [(0, .ref a0), (1, .int a1), (2, .int a2), (3, .ref b51_3), (4, .int z3089)]) [1, 2, 3, 4, 0] rfl ?_
        exact ih51 Y3082 b51_3 z3089 (by omega) Iy3084 Xz3086 h3088 (by omega)
  have J14 : (0 ≤ (pI P a0 3).toInt ∧ (pI P a0 3).toInt ≤ 1) → G E ({ frames := 12, cells := 0, slots := 0, locals := 768 } : Room) D cy 5 P 0 0 14 [(0, .ref a0), (2, .int a2)] [] := by
    intro hq14_0
    refine g_aload_n C dX10_give_14 rfl 0 rfl ?_
    refine g_dup C dX10_give_15 rfl ?_
    refine g_getI C fi_X10_32 (by decide) (ha0).1 (ha0).2 dX10_give_16 ?_
    refine g_iload_n C dX10_give_19 rfl 1 rfl ?_
    refine a_ior C dX10_give_20 (fun z3091 => ?_)
    refine g_putI C fi_X10_32 rfl (ha0).1 (ha0).2 dX10_give_21 ?_
    refine gpW (ks := [10]) (I.setI (ha0) (rgOk.none rfl)) (EK.setI (ha0).2 (by decide)) (fun Y3093 Iy3094 Xy3095 w3096 w3097 => ?_)
    have q3098 := w3096 3 (by decide)
    have Xz3099 : EK [0, 10, 13] P Y3093 := Xy3095.mono (by decide)
    have h3100 := Xy3095.at ha0
    refine g_aload_n C dX10_give_24 rfl 0 rfl ?_
    refine g_dup C dX10_give_25 rfl ?_
    refine g_getI C fi_X10_28 (by decide) (h3100).1 (h3100).2 dX10_give_26 ?_
    refine g_iload_n C dX10_give_29 rfl 1 rfl ?_
    refine g_iconst (v := (-1)) C dX10_give_30 (by decide) ?_
    refine a_ixor C dX10_give_31 (fun z3101 => ?_)
    refine a_ior C dX10_give_32 (fun z3103 => ?_)
    refine g_putI C fi_X10_28 rfl (h3100).1 (h3100).2 dX10_give_33 ?_
    refine gpW (ks := [10]) (Iy3094.setI (h3100) (rgOk.none rfl)) (EK.setI (h3100).2 (by decide)) (fun Y3105 Iy3106 Xy3107 w3108 w3109 => ?_)
    have q3110 := w3108 3 (by decide)
    have q3111 := w3108 5 (by decide)
    have Xz3112 : EK [0, 10, 13] P Y3105 := Xz3099.tr (Xy3107.mono (by decide))
    have h3113 := Xy3107.at h3100
    exact ret _ _ _ _ _ dX10_give_36 (by decide) (by decide) ⟨Iy3106, Xz3112⟩
  refine g_iload_n C dX10_give_0 rfl 1 rfl ?_
  refine g_aload_n C dX10_give_1 rfl 0 rfl ?_
  refine g_getI C fi_X10_35 (by decide) (ha0).1 (ha0).2 dX10_give_2 ?_
  have h3114 := I.rg (ha0) 3 rfl
  refine b_icmp_ge C 14 dX10_give_5 (by decide) (fun h3115 => ?_) (fun h3115 => ?_)
  · have h3115 : (pI P a0 3).toInt ≤ a1.toInt := h3115
    refine g_lv (lv' := [(0, .ref a0), (2, .int a2)]) [0, 2] rfl ?_
    exact J14 (by omega)
  · have h3115 : a1.toInt < (pI P a0 3).toInt := h3115
    refine g_iload_n C dX10_give_8 rfl 1 rfl ?_
    refine g_bipush (v := 6) C dX10_give_9 (by decide) ?_
    refine b_icmp_lt C 37 dX10_give_11 (by decide) (fun h3116 => ?_) (fun h3116 => ?_)
    · have h3116 : a1.toInt < 6 := h3116
      refine g_aload_n C dX10_give_37 rfl 0 rfl ?_
      obtain ⟨b3117, e3118, h3119⟩ := I.fld (ha0) 0 20 6 rfl
      refine g_getR C fi_X10_11 rfl e3118 (ha0).1 (ha0).2 dX10_give_38 ?_
      refine g_iload_n C dX10_give_41 rfl 1 rfl ?_
      refine g_aldQ (j := (a1.toInt.toNat)) C h3119.1 h3119.2.1 (by decide) (ix_in h3119.2.2 (by omega)) dX10_give_42 ?_
      rcases I.pap h3119 (a1.toInt.toNat) with e3121 | ⟨b3120, e3121, h3122⟩
      · rw [e3121]
        show G _ _ _ _ _ _ _ _ _ _ (.null :: _)
        refine g_astore_nN (lv' := [(3, .null), (0, .ref a0), (1, .int a1), (2, .int a2)]) C dX10_give_43 rfl (by decide) rfl ?_
        refine g_aload_nN C dX10_give_44 rfl 0 rfl ?_
        refine g_ifnullN C 72 dX10_give_45 (by decide) ?_
        exact ret _ _ _ _ _ dX10_give_72 (by decide) (by decide) ⟨I, EK.rf⟩
      · rw [e3121]
        show G _ _ _ _ _ _ _ _ _ _ (.ref b3120 :: _)
        refine g_astore_n (lv' := [(3, .ref b3120), (0, .ref a0), (1, .int a1), (2, .int a2)]) C dX10_give_43 rfl (by decide) rfl ?_
        refine g_aload_n C dX10_give_44 rfl 0 rfl ?_
        refine g_ifnull C dX10_give_45 ?_
        refine g_iconst (v := 0) C dX10_give_48 (by decide) ?_
        refine g_istore (lv' := [(4, .int 0), (3, .ref b3120), (0, .ref a0), (1, .int a1), (2, .int a2)]) C dX10_give_49 (by decide) rfl ?_
        refine g_lv (lv' := [(0, .ref a0), (1, .int a1), (2, .int a2), (3, .ref b3120), (4, .int 0)]) [2, 3, 4, 1, 0] rfl ?_
        exact J51 _ P b3120 0 (Nat.lt_succ_self _) I EK.rf h3122 (by decide)
    · have h3116 : 6 ≤ a1.toInt := h3116
      omega
set_option maxHeartbeats 4000000 in
set_option maxRecDepth 100000 in
theorem s_X10_tryBook_L6 {P : PP} {a0 : Nat} {a1 : Int32} {a2 : Int32} {a3 : Nat} {a4 : Int32} (I : IV P) (ha0 : At P a0 10) (ha1 : 0 ≤ a1.toInt ∧ a1.toInt ≤ 0) (ha3 : At P a3 7) (ha4 : 0 ≤ a4.toInt ∧ a4.toInt ≤ 1) : CtrV yX10_tryBook cX10_tryBook 9 none ({ frames := 13, cells := 0, slots := 0, locals := 832 } : Room) 0 0 P [.ref a0, .int a1, .int a2, .ref a3, .int a4] (fun P2 => IV P2 ∧ EK [0, 10, 13] P P2) := by
  refine enV (lv := [(0, .ref a0), (1, .int a1), (2, .int a2), (3, .ref a3), (4, .int a4)]) (by decide) (Nat.le_of_ble_eq_true rfl) rfl (fun E D cy C Ci0 ret => ?_)
  have J85 : ∀ (P85 : PP) (b85_5 : Nat) (b85_6 : Nat) (v85_7 : Int32) (v85_8 : Int32), (IV P85) → (EK [0, 10, 13] P P85) → (At P85 b85_5 0) → (At P85 b85_6 0) → (0 ≤ v85_7.toInt ∧ v85_7.toInt ≤ 20) → (0 ≤ v85_8.toInt ∧ v85_8.toInt ≤ 20) → G E ({ frames := 13, cells := 0, slots := 0, locals := 832 } : Room) D cy 9 P85 0 0 85 [(5, .ref b85_5), (6, .ref b85_6), (7, .int v85_7), (8, .int v85_8)] [] := by
    intro P85 b85_5 b85_6 v85_7 v85_8 I85 X85 hb85_5 hb85_6 hv85_7 hv85_8
    have h3207 := X85.at ha0
    have h3208 := X85.at ha3
    refine g_aload C dX10_tryBook_85 0 rfl ?_
    refine g_iload C dX10_tryBook_87 2 rfl ?_
    refine g_callVV (rest := []) C mv_X10_79 [.int v85_7] (s_X0_cut I85 hb85_5) (hb85_5).1 (hb85_5).2 rfl rfl (by decide) (Nat.le_of_ble_eq_true rfl) (by decide) dX10_tryBook_89 (fun Y3210 h3211 => ?_)
    obtain ⟨Iy3212, Xy3213⟩ := h3211
    have Xz3214 : EK [0, 10, 13] P Y3210 := X85.tr (Xy3213.mono (by decide))
    have h3215 := Xy3213.at h3207
    have h3216 := Xy3213.at h3208
    have h3217 := Xy3213.at hb85_5
    have h3218 := Xy3213.at hb85_6
    refine g_aload C dX10_tryBook_92 1 rfl ?_
    refine g_iload C dX10_tryBook_94 3 rfl ?_
    refine g_callVV (rest := []) C mv_X10_79 [.int v85_8] (s_X0_cut Iy3212 h3218) (h3218).1 (h3218).2 rfl rfl (by decide) (Nat.le_of_ble_eq_true rfl) (by decide) dX10_tryBook_96 (fun Y3220 h3221 => ?_)
    obtain ⟨Iy3222, Xy3223⟩ := h3221
    have Xz3224 : EK [0, 10, 13] P Y3220 := Xz3214.tr (Xy3223.mono (by decide))
    have h3225 := Xy3223.at h3215
    have h3226 := Xy3223.at h3216
    have h3227 := Xy3223.at h3217
    have h3228 := Xy3223.at h3218
    exact ret _ _ _ _ _ dX10_tryBook_99 (by decide) (by decide) ⟨Iy3222, Xz3224⟩
  refine g_aload_n C dX10_tryBook_0 rfl 0 rfl ?_
  refine g_iload C dX10_tryBook_1 4 rfl ?_
  refine g_iconst (v := 0) C dX10_tryBook_3 (by decide) ?_
  refine g_callVQ (rest := []) C mv_X10_64 [.int a4, .int 0] (s_X10_basisOf I ha0 (by omega) (by decide)) (ha0).1 (ha0).2 rfl rfl (by decide) (Nat.le_of_ble_eq_true rfl) (by decide) dX10_tryBook_4 (fun r3229 Y3230 h3231 => ?_)
  obtain ⟨rfl, h3231⟩ := h3231
  obtain ⟨b3233, rfl, h3231⟩ := h3231
  show G _ _ _ _ _ _ _ _ _ _ (.ref b3233 :: _)
  refine g_astore (lv' := [(5, .ref b3233), (0, .ref a0), (1, .int a1), (2, .int a2), (3, .ref a3), (4, .int a4)]) C dX10_tryBook_7 (by decide) rfl ?_
  refine g_aload_n C dX10_tryBook_9 rfl 1 rfl ?_
  refine g_iload C dX10_tryBook_10 5 rfl ?_
  refine g_iconst (v := 1) C dX10_tryBook_12 (by decide) ?_
  refine g_callVQ (rest := []) C mv_X10_64 [.int a4, .int 1] (s_X10_basisOf I ha0 (by omega) (by decide)) (ha0).1 (ha0).2 rfl rfl (by decide) (Nat.le_of_ble_eq_true rfl) (by decide) dX10_tryBook_13 (fun r3234 Y3235 h3236 => ?_)
  obtain ⟨rfl, h3236⟩ := h3236
  obtain ⟨b3238, rfl, h3236⟩ := h3236
  show G _ _ _ _ _ _ _ _ _ _ (.ref b3238 :: _)
  refine g_astore (lv' := [(6, .ref b3238), (5, .ref b3233), (0, .ref a0), (1, .int a1), (2, .int a2), (3, .ref a3), (4, .int a4)]) C dX10_tryBook_16 (by decide) rfl ?_
  refine g_aload C dX10_tryBook_18 1 rfl ?_
  refine g_getI C fi_X10_68 (by decide) (h3231).1 (h3231).2 dX10_tryBook_20 ?_
  have h3239 := I.rg (h3231) 2 rfl
  refine g_topi (fun z3240 h3241 => ?_)
  have h3241 : z3240.toInt = (pI P b3233 2).toInt := congrArg Int32.toInt h3241
  refine g_istore (lv' := [(7, .int z3240), (6, .ref b3238), (5, .ref b3233), (0, .ref a0), (1, .int a1), (2, .int a2), (3, .ref a3), (4, .int a4)]) C dX10_tryBook_23 (by decide) rfl ?_
  refine g_aload C dX10_tryBook_25 1 rfl ?_
  refine g_getI C fi_X10_68 (by decide) (h3236).1 (h3236).2 dX10_tryBook_27 ?_
  have h3242 := I.rg (h3236) 2 rfl
  refine g_topi (fun z3243 h3244 => ?_)
  have h3244 : z3243.toInt = (pI P b3238 2).toInt := congrArg Int32.toInt h3244
  refine g_istore (lv' := [(8, .int z3243), (7, .int z3240), (6, .ref b3238), (5, .ref b3233), (0, .ref a0), (1, .int a1), (2, .int a2), (3, .ref a3), (4, .int a4)]) C dX10_tryBook_30 (by decide) rfl ?_
  refine g_aload C dX10_tryBook_32 3 rfl ?_
  refine g_aload_n C dX10_tryBook_34 rfl 7 rfl ?_
  refine g_iload C dX10_tryBook_35 8 rfl ?_
  refine g_iconst (v := 0) C dX10_tryBook_37 (by decide) ?_
  refine g_callVI (rest := [.ref b3233]) C mv_X10_71 [.int a4, .int 0] (s_X7_equation I ha3) (ha3).1 (ha3).2 rfl rfl (by decide) (Nat.le_of_ble_eq_true rfl) (by decide) dX10_tryBook_38 (fun r3245 Y3246 h3247 => ?_)
  obtain ⟨rfl, h3247⟩ := h3247
  have h3247 : True := h3247
  refine g_callVV (rest := []) C mv_X10_75 [.int r3245] (s_X0_add I h3231) (h3231).1 (h3231).2 rfl rfl (by decide) (Nat.le_of_ble_eq_true rfl) (by decide) dX10_tryBook_41 (fun Y3249 h3250 => ?_)
  obtain ⟨Iy3251, Xy3252⟩ := h3250
  have Xz3253 : EK [0, 10, 13] P Y3249 := Xy3252.mono (by decide)
  have h3254 := Xy3252.at ha0
  have h3255 := Xy3252.at ha3
  have h3256 := Xy3252.at h3231
  have h3257 := Xy3252.at h3236
  refine g_aload C dX10_tryBook_44 2 rfl ?_
  refine g_aload_n C dX10_tryBook_46 rfl 7 rfl ?_
  refine g_iload C dX10_tryBook_47 8 rfl ?_
  refine g_iconst (v := 1) C dX10_tryBook_49 (by decide) ?_
  refine g_callVI (rest := [.ref b3238]) C mv_X10_71 [.int a4, .int 1] (s_X7_equation Iy3251 h3255) (h3255).1 (h3255).2 rfl rfl (by decide) (Nat.le_of_ble_eq_true rfl) (by decide) dX10_tryBook_50 (fun r3258 Y3259 h3260 => ?_)
  obtain ⟨rfl, h3260⟩ := h3260
  have h3260 : True := h3260
  refine g_callVV (rest := []) C mv_X10_75 [.int r3258] (s_X0_add Iy3251 h3257) (h3257).1 (h3257).2 rfl rfl (by decide) (Nat.le_of_ble_eq_true rfl) (by decide) dX10_tryBook_53 (fun Y3262 h3263 => ?_)
  obtain ⟨Iy3264, Xy3265⟩ := h3263
  have Xz3266 : EK [0, 10, 13] P Y3262 := Xz3253.tr (Xy3265.mono (by decide))
  have h3267 := Xy3265.at h3254
  have h3268 := Xy3265.at h3255
  have h3269 := Xy3265.at h3256
  have h3270 := Xy3265.at h3257
  refine g_aload C dX10_tryBook_56 3 rfl ?_
  refine g_getI C fi_X10_56 (by decide) (h3269).1 (h3269).2 dX10_tryBook_58 ?_
  have h3271 := Iy3264.rg (h3269) 3 rfl
  refine b_if_eq C 85 dX10_tryBook_61 (by decide) (fun h3272 => ?_) (fun h3272 => ?_)
  · have h3272 : (pI Y3262 b3233 3).toInt = 0 := congrArg Int32.toInt h3272
    refine g_lv (lv' := [(5, .ref b3233), (6, .ref b3238), (7, .int z3240), (8, .int z3243)]) [3, 2, 1, 0] rfl ?_
    exact J85 Y3262 b3233 b3238 z3240 z3243 Iy3264 Xz3266 h3269 h3270 (by omega) (by omega)
  · have h3272 : (pI Y3262 b3233 3).toInt ≠ 0 := ti_ne h3272
    refine g_aload C dX10_tryBook_64 2 rfl ?_
    refine g_getI C fi_X10_56 (by decide) (h3270).1 (h3270).2 dX10_tryBook_66 ?_
    have h3273 := Iy3264.rg (h3270) 3 rfl
    refine b_if_eq C 85 dX10_tryBook_69 (by decide) (fun h3274 => ?_) (fun h3274 => ?_)
    · have h3274 : (pI Y3262 b3238 3).toInt = 0 := congrArg Int32.toInt h3274
      refine g_lv (lv' := [(5, .ref b3233), (6, .ref b3238), (7, .int z3240), (8, .int z3243)]) [3, 2, 1, 0] rfl ?_
      exact J85 Y3262 b3233 b3238 z3240 z3243 Iy3264 Xz3266 h3269 h3270 (by omega) (by omega)
    · have h3274 : (pI Y3262 b3238 3).toInt ≠ 0 := ti_ne h3274
      refine g_aload_n C dX10_tryBook_72 rfl 4 rfl ?_
      refine g_iload_n C dX10_tryBook_73 rfl 5 rfl ?_
      refine g_iconst (v := 1) C dX10_tryBook_74 (by decide) ?_
      refine s_iadd C dX10_tryBook_75 (by show -2147483648 ≤ a1.toInt + 1 ∧ a1.toInt + 1 ≤ 2147483647; omega) (fun z3275 h3276 => ?_)
      have h3276 : z3275.toInt = a1.toInt + 1 := h3276
      refine g_iload_n C dX10_tryBook_76 rfl 6 rfl ?_
      refine g_iload C dX10_tryBook_77 8 rfl ?_
      refine g_iload_n C dX10_tryBook_79 rfl 5 rfl ?_
      refine a_ishl C dX10_tryBook_80 (fun z3277 => ?_)
      refine a_ior C dX10_tryBook_81 (fun z3279 => ?_)
      refine g_callVV (rest := []) C mv_X10_52 [.int z3275, .int z3279] (s_X10_give_L5 Iy3264 h3267 (by omega)) (h3267).1 (h3267).2 rfl rfl (by decide) (Nat.le_of_ble_eq_true rfl) (by decide) dX10_tryBook_82 (fun Y3282 h3283 => ?_)
      obtain ⟨Iy3284, Xy3285⟩ := h3283
      have Xz3286 : EK [0, 10, 13] P Y3282 := Xz3266.tr (Xy3285.mono (by decide))
      have h3287 := Xy3285.at h3267
      have h3288 := Xy3285.at h3268
      have h3289 := Xy3285.at h3269
      have h3290 := Xy3285.at h3270
      refine g_lv (lv' := [(5, .ref b3233), (6, .ref b3238), (7, .int z3240), (8, .int z3243)]) [3, 2, 1, 0] rfl ?_
      exact J85 Y3282 b3233 b3238 z3240 z3243 Iy3284 Xz3286 h3289 h3290 (by omega) (by omega)
set_option maxHeartbeats 4000000 in
set_option maxRecDepth 100000 in
theorem s_X10_give_L6 {P : PP} {a0 : Nat} {a1 : Int32} {a2 : Int32} (I : IV P) (ha0 : At P a0 10) (ha1 : 0 ≤ a1.toInt ∧ a1.toInt ≤ 0) : CtrV yX10_give cX10_give 5 none ({ frames := 14, cells := 0, slots := 0, locals := 896 } : Room) 0 0 P [.ref a0, .int a1, .int a2] (fun P2 => IV P2 ∧ EK [0, 10, 13] P P2) := by
  refine enV (lv := [(0, .ref a0), (1, .int a1), (2, .int a2)]) (by decide) (Nat.le_of_ble_eq_true rfl) rfl (fun E D cy C Ci0 ret => ?_)
  have J51 : ∀ (n51 : Nat) (P51 : PP) (b51_3 : Nat) (v51_4 : Int32), (2 - v51_4.toInt).toNat < n51 → (IV P51) → (EK [0, 10, 13] P P51) → (At P51 b51_3 7) → (0 ≤ v51_4.toInt ∧ v51_4.toInt ≤ 2) → G E ({ frames := 14, cells := 0, slots := 0, locals := 896 } : Room) D cy 5 P51 0 0 51 [(0, .ref a0), (1, .int a1), (2, .int a2), (3, .ref b51_3), (4, .int v51_4)] [] := by
    intro n51
    induction n51 with
    | zero => intro P51 b51_3 v51_4 hm51 I51 X51 hb51_3 hv51_4; omega
    | succ n51 ih51 =>
      intro P51 b51_3 v51_4 hm51 I51 X51 hb51_3 hv51_4
      have h3358 := X51.at ha0
      refine g_iload C dX10_give_51 4 rfl ?_
      refine g_iconst (v := 2) C dX10_give_53 (by decide) ?_
      refine b_icmp_ge C 72 dX10_give_54 (by decide) (fun h3359 => ?_) (fun h3359 => ?_)
      · have h3359 : 2 ≤ v51_4.toInt := h3359
        exact ret _ _ _ _ _ dX10_give_72 (by decide) (by decide) ⟨I51, X51⟩
      · have h3359 : v51_4.toInt < 2 := h3359
        refine g_aload_n C dX10_give_57 rfl 0 rfl ?_
        refine g_iload_n C dX10_give_58 rfl 1 rfl ?_
        refine g_iload_n C dX10_give_59 rfl 2 rfl ?_
        refine g_aload_n C dX10_give_60 rfl 3 rfl ?_
        refine g_iload C dX10_give_61 4 rfl ?_
        refine g_callVV (rest := []) C mv_X10_60 [.int a1, .int a2, .ref b51_3, .int v51_4] (s_X10_tryBook_L6 I51 h3358 (by omega) hb51_3 (by omega)) (h3358).1 (h3358).2 rfl rfl (by decide) (Nat.le_of_ble_eq_true rfl) (by decide) dX10_give_63 (fun Y3361 h3362 => ?_)
        obtain ⟨Iy3363, Xy3364⟩ := h3362
        have Xz3365 : EK [0, 10, 13] P Y3361 := X51.tr (Xy3364.mono (by decide))
        have h3366 := Xy3364.at h3358
        have h3367 := Xy3364.at hb51_3
        refine s_iinc (lv0 := [(0, .ref a0), (1, .int a1), (2, .int a2), (3, .ref b51_3)]) (m := 1) C dX10_give_66 4 rfl (by decide) rfl (by decide) (by omega) (fun z3368 h3369 => ?_)
        have h3369 : z3368.toInt = v51_4.toInt + 1 := h3369
        refine g_goto C 51 dX10_give_69 (by decide) ?_
        refine g_lv (lv' := [(0, .ref a0), (1, .int a1), (2, .int a2), (3, .ref b51_3), (4, .int z3368)]) [1, 2, 3, 4, 0] rfl ?_
        exact ih51 Y3361 b51_3 z3368 (by omega) Iy3363 Xz3365 h3367 (by omega)
  have J14 : (0 ≤ (pI P a0 3).toInt ∧ (pI P a0 3).toInt ≤ 0) → G E ({ frames := 14, cells := 0, slots := 0, locals := 896 } : Room) D cy 5 P 0 0 14 [(0, .ref a0), (2, .int a2)] [] := by
    intro hq14_0
    refine g_aload_n C dX10_give_14 rfl 0 rfl ?_
    refine g_dup C dX10_give_15 rfl ?_
    refine g_getI C fi_X10_32 (by decide) (ha0).1 (ha0).2 dX10_give_16 ?_
    refine g_iload_n C dX10_give_19 rfl 1 rfl ?_
    refine a_ior C dX10_give_20 (fun z3370 => ?_)
    refine g_putI C fi_X10_32 rfl (ha0).1 (ha0).2 dX10_give_21 ?_
    refine gpW (ks := [10]) (I.setI (ha0) (rgOk.none rfl)) (EK.setI (ha0).2 (by decide)) (fun Y3372 Iy3373 Xy3374 w3375 w3376 => ?_)
    have q3377 := w3375 3 (by decide)
    have Xz3378 : EK [0, 10, 13] P Y3372 := Xy3374.mono (by decide)
    have h3379 := Xy3374.at ha0
    refine g_aload_n C dX10_give_24 rfl 0 rfl ?_
    refine g_dup C dX10_give_25 rfl ?_
    refine g_getI C fi_X10_28 (by decide) (h3379).1 (h3379).2 dX10_give_26 ?_
    refine g_iload_n C dX10_give_29 rfl 1 rfl ?_
    refine g_iconst (v := (-1)) C dX10_give_30 (by decide) ?_
    refine a_ixor C dX10_give_31 (fun z3380 => ?_)
    refine a_ior C dX10_give_32 (fun z3382 => ?_)
    refine g_putI C fi_X10_28 rfl (h3379).1 (h3379).2 dX10_give_33 ?_
    refine gpW (ks := [10]) (Iy3373.setI (h3379) (rgOk.none rfl)) (EK.setI (h3379).2 (by decide)) (fun Y3384 Iy3385 Xy3386 w3387 w3388 => ?_)
    have q3389 := w3387 3 (by decide)
    have q3390 := w3387 5 (by decide)
    have Xz3391 : EK [0, 10, 13] P Y3384 := Xz3378.tr (Xy3386.mono (by decide))
    have h3392 := Xy3386.at h3379
    exact ret _ _ _ _ _ dX10_give_36 (by decide) (by decide) ⟨Iy3385, Xz3391⟩
  refine g_iload_n C dX10_give_0 rfl 1 rfl ?_
  refine g_aload_n C dX10_give_1 rfl 0 rfl ?_
  refine g_getI C fi_X10_35 (by decide) (ha0).1 (ha0).2 dX10_give_2 ?_
  have h3393 := I.rg (ha0) 3 rfl
  refine b_icmp_ge C 14 dX10_give_5 (by decide) (fun h3394 => ?_) (fun h3394 => ?_)
  · have h3394 : (pI P a0 3).toInt ≤ a1.toInt := h3394
    refine g_lv (lv' := [(0, .ref a0), (2, .int a2)]) [0, 2] rfl ?_
    exact J14 (by omega)
  · have h3394 : a1.toInt < (pI P a0 3).toInt := h3394
    refine g_iload_n C dX10_give_8 rfl 1 rfl ?_
    refine g_bipush (v := 6) C dX10_give_9 (by decide) ?_
    refine b_icmp_lt C 37 dX10_give_11 (by decide) (fun h3395 => ?_) (fun h3395 => ?_)
    · have h3395 : a1.toInt < 6 := h3395
      refine g_aload_n C dX10_give_37 rfl 0 rfl ?_
      obtain ⟨b3396, e3397, h3398⟩ := I.fld (ha0) 0 20 6 rfl
      refine g_getR C fi_X10_11 rfl e3397 (ha0).1 (ha0).2 dX10_give_38 ?_
      refine g_iload_n C dX10_give_41 rfl 1 rfl ?_
      refine g_aldQ (j := (a1.toInt.toNat)) C h3398.1 h3398.2.1 (by decide) (ix_in h3398.2.2 (by omega)) dX10_give_42 ?_
      rcases I.pap h3398 (a1.toInt.toNat) with e3400 | ⟨b3399, e3400, h3401⟩
      · rw [e3400]
        show G _ _ _ _ _ _ _ _ _ _ (.null :: _)
        refine g_astore_nN (lv' := [(3, .null), (0, .ref a0), (1, .int a1), (2, .int a2)]) C dX10_give_43 rfl (by decide) rfl ?_
        refine g_aload_nN C dX10_give_44 rfl 0 rfl ?_
        refine g_ifnullN C 72 dX10_give_45 (by decide) ?_
        exact ret _ _ _ _ _ dX10_give_72 (by decide) (by decide) ⟨I, EK.rf⟩
      · rw [e3400]
        show G _ _ _ _ _ _ _ _ _ _ (.ref b3399 :: _)
        refine g_astore_n (lv' := [(3, .ref b3399), (0, .ref a0), (1, .int a1), (2, .int a2)]) C dX10_give_43 rfl (by decide) rfl ?_
        refine g_aload_n C dX10_give_44 rfl 0 rfl ?_
        refine g_ifnull C dX10_give_45 ?_
        refine g_iconst (v := 0) C dX10_give_48 (by decide) ?_
        refine g_istore (lv' := [(4, .int 0), (3, .ref b3399), (0, .ref a0), (1, .int a1), (2, .int a2)]) C dX10_give_49 (by decide) rfl ?_
        refine g_lv (lv' := [(0, .ref a0), (1, .int a1), (2, .int a2), (3, .ref b3399), (4, .int 0)]) [2, 3, 4, 1, 0] rfl ?_
        exact J51 _ P b3399 0 (Nat.lt_succ_self _) I EK.rf h3401 (by decide)
    · have h3395 : 6 ≤ a1.toInt := h3395
      omega
theorem dX10_findAll_25 : decode cX10_findAll 25 = .ok (.aload_n 1, 1) := by decide +kernel
theorem dX10_findAll_26 : decode cX10_findAll 26 = .ok (.iload_n 2, 1) := by decide +kernel
theorem dX10_findAll_27 : decode cX10_findAll 27 = .ok (.invokevirtual 41, 3) := by decide +kernel
theorem dX6_at_0 : decode cX6_at 0 = .ok (.iload_n 1, 1) := by decide +kernel
theorem dX6_at_1 : decode cX6_at 1 = .ok (.ifCond .lt 26, 3) := by decide +kernel
theorem dX6_at_4 : decode cX6_at 4 = .ok (.iload_n 1, 1) := by decide +kernel
theorem dX6_at_5 : decode cX6_at 5 = .ok (.aload_n 0, 1) := by decide +kernel
theorem dX6_at_6 : decode cX6_at 6 = .ok (.getfield 17, 3) := by decide +kernel
theorem dX6_at_9 : decode cX6_at 9 = .ok (.if_icmp .ge 18, 3) := by decide +kernel
theorem dX6_at_12 : decode cX6_at 12 = .ok (.iload_n 1, 1) := by decide +kernel
theorem dX6_at_13 : decode cX6_at 13 = .ok (.bipush 40, 2) := by decide +kernel
theorem dX6_at_15 : decode cX6_at 15 = .ok (.if_icmp .ge 12, 3) := by decide +kernel
theorem dX6_at_18 : decode cX6_at 18 = .ok (.aload_n 0, 1) := by decide +kernel
theorem dX6_at_19 : decode cX6_at 19 = .ok (.getfield 11, 3) := by decide +kernel
theorem dX6_at_22 : decode cX6_at 22 = .ok (.iload_n 1, 1) := by decide +kernel
theorem dX6_at_23 : decode cX6_at 23 = .ok (.aaload, 1) := by decide +kernel
theorem dX6_at_24 : decode cX6_at 24 = .ok (.goto 4, 3) := by decide +kernel
theorem dX6_at_27 : decode cX6_at 27 = .ok (.aconst_null, 1) := by decide +kernel
theorem dX6_at_28 : decode cX6_at 28 = .ok (.areturn, 1) := by decide +kernel
set_option maxHeartbeats 4000000 in
set_option maxRecDepth 100000 in
theorem s_X6_at {P : PP} {a0 : Nat} {a1 : Int32} (I : IV P) (ha0 : At P a0 6) : CtrQ yX6_at cX6_at 2 (some (Jvm.ClassFile.FieldType.object "ThousandLeaflets$Paper")) ({ frames := 1, cells := 0, slots := 0, locals := 64 } : Room) 0 0 P [.ref a0, .int a1] (fun r P2 => P = P2 ∧ (r = none ∨ ∃ b, r = some b ∧ At P2 b 7 ∧ ((0 : Int) ≤ a1.toInt ∧ a1.toInt ≤ (39 : Int)))) := by
  refine enQ (lv := [(0, .ref a0), (1, .int a1)]) (by decide) (by first | exact Or.inl ⟨_, rfl⟩ | exact Or.inr ⟨_, rfl⟩) (Nat.le_of_ble_eq_true rfl) rfl (fun E D cy C Ci0 ret => ?_)
  have J27 : G E ({ frames := 1, cells := 0, slots := 0, locals := 64 } : Room) D cy 2 P 0 0 27 [] [] := by
    refine g_null C dX6_at_27 ?_
    exact ret _ _ _ _ _ none dX6_at_28 (by decide) (by decide) ⟨rfl, Or.inl rfl⟩
  refine g_iload_n C dX6_at_0 rfl 1 rfl ?_
  have u3459 := ti_rng a1
  refine b_if_lt C 27 dX6_at_1 (by decide) (fun h3458 => ?_) (fun h3458 => ?_)
  · have h3458 : a1.toInt < 0 := h3458
    refine g_lv (lv' := []) [] rfl ?_
    exact J27 
  · have h3458 : 0 ≤ a1.toInt := h3458
    refine g_iload_n C dX6_at_4 rfl 1 rfl ?_
    refine g_aload_n C dX6_at_5 rfl 0 rfl ?_
    refine g_getI C fi_X6_17 (by decide) (ha0).1 (ha0).2 dX6_at_6 ?_
    have h3460 := I.rg (ha0) 1 rfl
    have u3462 := ti_rng a1
    refine b_icmp_ge C 27 dX6_at_9 (by decide) (fun h3461 => ?_) (fun h3461 => ?_)
    · have h3461 : (pI P a0 1).toInt ≤ a1.toInt := h3461
      refine g_lv (lv' := []) [] rfl ?_
      exact J27 
    · have h3461 : a1.toInt < (pI P a0 1).toInt := h3461
      refine g_iload_n C dX6_at_12 rfl 1 rfl ?_
      refine g_bipush (v := 40) C dX6_at_13 (by decide) ?_
      refine b_icmp_ge C 27 dX6_at_15 (by decide) (fun h3463 => ?_) (fun h3463 => ?_)
      · have h3463 : 40 ≤ a1.toInt := h3463
        omega
      · have h3463 : a1.toInt < 40 := h3463
        refine g_aload_n C dX6_at_18 rfl 0 rfl ?_
        obtain ⟨b3464, e3465, h3466⟩ := I.fld (ha0) 0 20 40 rfl
        refine g_getR C fi_X6_11 rfl e3465 (ha0).1 (ha0).2 dX6_at_19 ?_
        refine g_iload_n C dX6_at_22 rfl 1 rfl ?_
        refine g_aldQ (j := (a1.toInt.toNat)) C h3466.1 h3466.2.1 (by decide) (ix_in h3466.2.2 (by omega)) dX6_at_23 ?_
        rcases I.pap h3466 (a1.toInt.toNat) with e3468 | ⟨b3467, e3468, h3469⟩
        · rw [e3468]
          show G _ _ _ _ _ _ _ _ _ _ (.null :: _)
          refine g_goto C 28 dX6_at_24 (by decide) ?_
          exact ret _ _ _ _ _ none dX6_at_28 (by decide) (by decide) ⟨rfl, Or.inl rfl⟩
        · rw [e3468]
          show G _ _ _ _ _ _ _ _ _ _ (.ref b3467 :: _)
          refine g_goto C 28 dX6_at_24 (by decide) ?_
          exact ret _ _ _ _ _ (some b3467) dX6_at_28 (by decide) (by decide) ⟨rfl, Or.inr ⟨_, rfl, h3469, by omega⟩⟩
theorem dX10_findAll_30 : decode cX10_findAll 30 = .ok (.astore_n 3, 1) := by decide +kernel
theorem dX10_findAll_31 : decode cX10_findAll 31 = .ok (.aload_n 3, 1) := by decide +kernel
theorem dX10_findAll_32 : decode cX10_findAll 32 = .ok (.ifnull 50, 3) := by decide +kernel
theorem dX10_findAll_35 : decode cX10_findAll 35 = .ok (.aload_n 3, 1) := by decide +kernel
theorem dX10_findAll_36 : decode cX10_findAll 36 = .ok (.getfield 45, 3) := by decide +kernel
theorem dX10_findAll_39 : decode cX10_findAll 39 = .ok (.iconst (-1), 1) := by decide +kernel
theorem dX10_findAll_40 : decode cX10_findAll 40 = .ok (.if_icmp .ne 42, 3) := by decide +kernel
theorem dX10_findAll_43 : decode cX10_findAll 43 = .ok (.aload_n 0, 1) := by decide +kernel
theorem dX10_findAll_44 : decode cX10_findAll 44 = .ok (.getfield 35, 3) := by decide +kernel
theorem dX10_findAll_47 : decode cX10_findAll 47 = .ok (.bipush 6, 2) := by decide +kernel
theorem dX10_findAll_49 : decode cX10_findAll 49 = .ok (.if_icmp .ge 33, 3) := by decide +kernel
theorem dX10_findAll_52 : decode cX10_findAll 52 = .ok (.aload_n 0, 1) := by decide +kernel
theorem dX10_findAll_53 : decode cX10_findAll 53 = .ok (.getfield 11, 3) := by decide +kernel
theorem dX10_findAll_56 : decode cX10_findAll 56 = .ok (.aload_n 0, 1) := by decide +kernel
theorem dX10_findAll_57 : decode cX10_findAll 57 = .ok (.getfield 35, 3) := by decide +kernel
theorem dX10_findAll_60 : decode cX10_findAll 60 = .ok (.aload_n 3, 1) := by decide +kernel
theorem dX10_findAll_61 : decode cX10_findAll 61 = .ok (.aastore, 1) := by decide +kernel
theorem dX10_findAll_62 : decode cX10_findAll 62 = .ok (.aload_n 0, 1) := by decide +kernel
theorem dX10_findAll_63 : decode cX10_findAll 63 = .ok (.getfield 17, 3) := by decide +kernel
theorem dX10_findAll_66 : decode cX10_findAll 66 = .ok (.aload_n 0, 1) := by decide +kernel
theorem dX10_findAll_67 : decode cX10_findAll 67 = .ok (.getfield 35, 3) := by decide +kernel
theorem dX10_findAll_70 : decode cX10_findAll 70 = .ok (.iload_n 2, 1) := by decide +kernel
theorem dX10_findAll_71 : decode cX10_findAll 71 = .ok (.iastore, 1) := by decide +kernel
theorem dX10_findAll_72 : decode cX10_findAll 72 = .ok (.aload_n 0, 1) := by decide +kernel
theorem dX10_findAll_73 : decode cX10_findAll 73 = .ok (.dup, 1) := by decide +kernel
theorem dX10_findAll_74 : decode cX10_findAll 74 = .ok (.getfield 35, 3) := by decide +kernel
theorem dX10_findAll_77 : decode cX10_findAll 77 = .ok (.iconst 1, 1) := by decide +kernel
theorem dX10_findAll_78 : decode cX10_findAll 78 = .ok (.iadd, 1) := by decide +kernel
theorem dX10_findAll_79 : decode cX10_findAll 79 = .ok (.putfield 35, 3) := by decide +kernel
theorem dX10_findAll_82 : decode cX10_findAll 82 = .ok (.iinc 2 1, 3) := by decide +kernel
theorem dX10_findAll_85 : decode cX10_findAll 85 = .ok (.goto (-68), 3) := by decide +kernel
set_option maxHeartbeats 4000000 in
set_option maxRecDepth 100000 in
theorem s_X10_findAll {P : PP} {a0 : Nat} {a1 : Nat} (I : IV P) (ha0 : At P a0 10) (ha1 : At P a1 6) : CtrV yX10_findAll cX10_findAll 4 none ({ frames := 15, cells := 0, slots := 0, locals := 960 } : Room) 0 0 P [.ref a0, .ref a1] (fun P2 => IV P2 ∧ EK [0, 10, 13] P P2) := by
  refine enV (lv := [(0, .ref a0), (1, .ref a1)]) (by decide) (Nat.le_of_ble_eq_true rfl) rfl (fun E D cy C Ci0 ret => ?_)
  have J17 : ∀ (n17 : Nat) (P17 : PP) (v17_2 : Int32), (40 - v17_2.toInt).toNat < n17 → (IV P17) → (EK [0, 10, 13] P P17) → (0 ≤ v17_2.toInt ∧ v17_2.toInt ≤ 40) → (0 ≤ (pI P17 a0 4).toInt ∧ (pI P17 a0 4).toInt ≤ 0) → (0 ≤ (pI P17 a0 5).toInt ∧ (pI P17 a0 5).toInt ≤ 0) → G E ({ frames := 15, cells := 0, slots := 0, locals := 960 } : Room) D cy 4 P17 0 0 17 [(0, .ref a0), (1, .ref a1), (2, .int v17_2)] [] := by
    intro n17
    induction n17 with
    | zero => intro P17 v17_2 hm17 I17 X17 hv17_2 hq17_0 hq17_1; omega
    | succ n17 ih17 =>
      intro P17 v17_2 hm17 I17 X17 hv17_2 hq17_0 hq17_1
      have h4616 := X17.at ha0
      have h4617 := X17.at ha1
      have J82 : ∀ (P82 : PP), (IV P82) → (EK [0, 10, 13] P P82) → (0 ≤ v17_2.toInt ∧ v17_2.toInt ≤ 39) → (0 ≤ (pI P82 a0 4).toInt ∧ (pI P82 a0 4).toInt ≤ 0) → (0 ≤ (pI P82 a0 5).toInt ∧ (pI P82 a0 5).toInt ≤ 0) → (1 ≤ (pI P82 a1 1).toInt ∧ (pI P82 a1 1).toInt ≤ 40) → G E ({ frames := 15, cells := 0, slots := 0, locals := 960 } : Room) D cy 4 P82 0 0 82 [(0, .ref a0), (1, .ref a1), (2, .int v17_2)] [] := by
        intro P82 I82 X82 hv82_2 hq82_0 hq82_1 hq82_2
        have h4618 := X82.at ha0
        have h4619 := X82.at ha1
        refine s_iinc (lv0 := [(0, .ref a0), (1, .ref a1)]) (m := 1) C dX10_findAll_82 2 rfl (by decide) rfl (by decide) (by omega) (fun z4620 h4621 => ?_)
        have h4621 : z4620.toInt = v17_2.toInt + 1 := h4621
        refine g_goto C 17 dX10_findAll_85 (by decide) ?_
        refine g_lv (lv' := [(0, .ref a0), (1, .ref a1), (2, .int z4620)]) [1, 2, 0] rfl ?_
        exact ih17 P82 z4620 (by omega) I82 X82 (by omega) (by omega) (by omega)
      refine g_iload_n C dX10_findAll_17 rfl 2 rfl ?_
      refine g_aload_n C dX10_findAll_18 rfl 1 rfl ?_
      refine g_getI C fi_X10_38 (by decide) (h4617).1 (h4617).2 dX10_findAll_19 ?_
      have h4622 := I17.rg (h4617) 1 rfl
      refine b_icmp_ge C 88 dX10_findAll_22 (by decide) (fun h4623 => ?_) (fun h4623 => ?_)
      · have h4623 : (pI P17 a1 1).toInt ≤ v17_2.toInt := h4623
        refine g_aload_n C dX10_findAll_88 rfl 0 rfl ?_
        refine g_callVI (rest := []) C mv_X10_48 [] (s_X10_allAgree I17 h4616) (h4616).1 (h4616).2 rfl rfl (by decide) (Nat.le_of_ble_eq_true rfl) (by decide) dX10_findAll_89 (fun r4624 Y4625 h4626 => ?_)
        obtain ⟨rfl, h4626⟩ := h4626
        have h4626 : 0 ≤ r4624.toInt ∧ r4624.toInt ≤ 1 := h4626
        refine b_if_eq C 101 dX10_findAll_92 (by decide) (fun h4627 => ?_) (fun h4627 => ?_)
        · have h4627 : r4624.toInt = 0 := congrArg Int32.toInt h4627
          exact ret _ _ _ _ _ dX10_findAll_101 (by decide) (by decide) ⟨I17, X17⟩
        · have h4627 : r4624.toInt ≠ 0 := ti_ne h4627
          refine g_aload_n C dX10_findAll_95 rfl 0 rfl ?_
          refine g_iconst (v := 0) C dX10_findAll_96 (by decide) ?_
          refine g_iconst (v := 0) C dX10_findAll_97 (by decide) ?_
          refine g_callVV (rest := []) C mv_X10_52 [.int 0, .int 0] (s_X10_give_L6 I17 h4616 (by decide)) (h4616).1 (h4616).2 rfl rfl (by decide) (Nat.le_of_ble_eq_true rfl) (by decide) dX10_findAll_98 (fun Y4629 h4630 => ?_)
          obtain ⟨Iy4631, Xy4632⟩ := h4630
          have q4633 := Xy4632.keep h4617 (by decide) 1
          have Xz4634 : EK [0, 10, 13] P Y4629 := X17.tr (Xy4632.mono (by decide))
          have h4635 := Xy4632.at h4616
          have h4636 := Xy4632.at h4617
          exact ret _ _ _ _ _ dX10_findAll_101 (by decide) (by decide) ⟨Iy4631, Xz4634⟩
      · have h4623 : v17_2.toInt < (pI P17 a1 1).toInt := h4623
        refine g_aload_n C dX10_findAll_25 rfl 1 rfl ?_
        refine g_iload_n C dX10_findAll_26 rfl 2 rfl ?_
        refine g_callVQ (rest := []) C mv_X10_41 [.int v17_2] (s_X6_at I17 h4617) (h4617).1 (h4617).2 rfl rfl (by decide) (Nat.le_of_ble_eq_true rfl) (by decide) dX10_findAll_27 (fun r4637 Y4638 h4639 => ?_)
        obtain ⟨rfl, h4639⟩ := h4639
        rcases h4639 with rfl | ⟨b4641, rfl, h4639, hj4640⟩
        · show G _ _ _ _ _ _ _ _ _ _ (.null :: _)
          refine g_astore_nN (lv' := [(3, .null), (0, .ref a0), (1, .ref a1), (2, .int v17_2)]) C dX10_findAll_30 rfl (by decide) rfl ?_
          refine g_aload_nN C dX10_findAll_31 rfl 0 rfl ?_
          refine g_ifnullN C 82 dX10_findAll_32 (by decide) ?_
          refine g_lv (lv' := [(0, .ref a0), (1, .ref a1), (2, .int v17_2)]) [1, 2, 3] rfl ?_
          exact J82 P17 I17 X17 (by omega) (by omega) (by omega) (by omega)
        · have hj4640 : ((0 : Int) ≤ v17_2.toInt ∧ v17_2.toInt ≤ (39 : Int)) := hj4640
          show G _ _ _ _ _ _ _ _ _ _ (.ref b4641 :: _)
          refine g_astore_n (lv' := [(3, .ref b4641), (0, .ref a0), (1, .ref a1), (2, .int v17_2)]) C dX10_findAll_30 rfl (by decide) rfl ?_
          refine g_aload_n C dX10_findAll_31 rfl 0 rfl ?_
          refine g_ifnull C dX10_findAll_32 ?_
          refine g_aload_n C dX10_findAll_35 rfl 0 rfl ?_
          refine g_getI C fi_X10_45 (by decide) (h4639).1 (h4639).2 dX10_findAll_36 ?_
          have h4642 := I17.rg (h4639) 0 rfl
          refine g_iconst (v := (-1)) C dX10_findAll_39 (by decide) ?_
          refine b_icmp_ne C 82 dX10_findAll_40 (by decide) (fun h4643 => ?_) (fun h4643 => ?_)
          · have h4643 : (pI P17 b4641 0).toInt ≠ (-1) := ti_ne h4643
            refine g_lv (lv' := [(0, .ref a0), (1, .ref a1), (2, .int v17_2)]) [1, 2, 3] rfl ?_
            exact J82 P17 I17 X17 (by omega) (by omega) (by omega) (by omega)
          · have h4643 : (pI P17 b4641 0).toInt = (-1) := congrArg Int32.toInt h4643
            refine g_aload_n C dX10_findAll_43 rfl 1 rfl ?_
            refine g_getI C fi_X10_35 (by decide) (h4616).1 (h4616).2 dX10_findAll_44 ?_
            have h4644 := I17.rg (h4616) 3 rfl
            refine g_bipush (v := 6) C dX10_findAll_47 (by decide) ?_
            refine b_icmp_ge C 82 dX10_findAll_49 (by decide) (fun h4645 => ?_) (fun h4645 => ?_)
            · have h4645 : 6 ≤ (pI P17 a0 3).toInt := h4645
              refine g_lv (lv' := [(0, .ref a0), (1, .ref a1), (2, .int v17_2)]) [1, 2, 3] rfl ?_
              exact J82 P17 I17 X17 (by omega) (by omega) (by omega) (by omega)
            · have h4645 : (pI P17 a0 3).toInt < 6 := h4645
              refine g_aload_n C dX10_findAll_52 rfl 1 rfl ?_
              obtain ⟨b4646, e4647, h4648⟩ := I17.fld (h4616) 0 20 6 rfl
              refine g_getR C fi_X10_11 rfl e4647 (h4616).1 (h4616).2 dX10_findAll_53 ?_
              refine g_aload_n C dX10_findAll_56 rfl 1 rfl ?_
              refine g_getI C fi_X10_35 (by decide) (h4616).1 (h4616).2 dX10_findAll_57 ?_
              refine g_aload_n C dX10_findAll_60 rfl 0 rfl ?_
              refine g_astR (j := ((pI P17 a0 3).toInt.toNat)) C h4648.1 h4648.2.1 (by decide) (ix_in h4648.2.2 (by omega)) (h4639).1 (h4639).2 (by decide) rfl rfl dX10_findAll_61 ?_
              refine gp (ks := []) (I17.setP h4648 (fun _ z => by cases z; exact h4639)) (EK.setR h4648.2.1 (by decide)) (fun Y4649 Iy4650 Xy4651 => ?_)
              have q4652 := Xy4651.keep h4616 (by decide) 4
              have q4653 := Xy4651.keep h4616 (by decide) 5
              have q4654 := Xy4651.keep h4617 (by decide) 1
              have q4655 := Xy4651.keep h4639 (by decide) 0
              have q4656 := Xy4651.keep h4616 (by decide) 3
              have Xz4657 : EK [0, 10, 13] P Y4649 := X17.tr (Xy4651.mono (by decide))
              have h4658 := Xy4651.at h4616
              have h4659 := Xy4651.at h4617
              have h4660 := Xy4651.at h4639
              refine g_aload_n C dX10_findAll_62 rfl 1 rfl ?_
              obtain ⟨b4661, e4662, h4663⟩ := Iy4650.fld (h4658) 1 13 6 rfl
              refine g_getR C fi_X10_17 rfl e4662 (h4658).1 (h4658).2 dX10_findAll_63 ?_
              refine g_aload_n C dX10_findAll_66 rfl 1 rfl ?_
              refine g_getI C fi_X10_35 (by decide) (h4658).1 (h4658).2 dX10_findAll_67 ?_
              refine g_iload_n C dX10_findAll_70 rfl 3 rfl ?_
              refine g_iast (j := ((pI Y4649 a0 3).toInt.toNat)) C h4663.1 h4663.2.1 (ix_in h4663.2.2 (by omega)) dX10_findAll_71 ?_
              refine gp (ks := [13]) (Iy4650.setA h4663 (by decide)) (EK.setI h4663.2.1 (by decide)) (fun Y4664 Iy4665 Xy4666 => ?_)
              have q4667 := Xy4666.keep h4658 (by decide) 4
              have q4668 := Xy4666.keep h4658 (by decide) 5
              have q4669 := Xy4666.keep h4659 (by decide) 1
              have q4670 := Xy4666.keep h4660 (by decide) 0
              have q4671 := Xy4666.keep h4658 (by decide) 3
              have Xz4672 : EK [0, 10, 13] P Y4664 := Xz4657.tr (Xy4666.mono (by decide))
              have h4673 := Xy4666.at h4658
              have h4674 := Xy4666.at h4659
              have h4675 := Xy4666.at h4660
              refine g_aload_n C dX10_findAll_72 rfl 1 rfl ?_
              refine g_dup C dX10_findAll_73 rfl ?_
              refine g_getI C fi_X10_35 (by decide) (h4673).1 (h4673).2 dX10_findAll_74 ?_
              refine g_iconst (v := 1) C dX10_findAll_77 (by decide) ?_
              refine s_iadd C dX10_findAll_78 (by show -2147483648 ≤ (pI Y4664 a0 3).toInt + 1 ∧ (pI Y4664 a0 3).toInt + 1 ≤ 2147483647; omega) (fun z4676 h4677 => ?_)
              have h4677 : z4676.toInt = (pI Y4664 a0 3).toInt + 1 := h4677
              refine g_putI C fi_X10_35 rfl (h4673).1 (h4673).2 dX10_findAll_79 ?_
              refine gpW (ks := [10]) (Iy4665.setI (h4673) (rgOk.of rfl (by omega))) (EK.setI (h4673).2 (by decide)) (fun Y4678 Iy4679 Xy4680 w4681 w4682 => ?_)
              have q4683 := w4681 4 (by decide)
              have q4684 := w4681 5 (by decide)
              have q4685 := Xy4680.keep h4674 (by decide) 1
              have q4686 := Xy4680.keep h4675 (by decide) 0
              have Xz4687 : EK [0, 10, 13] P Y4678 := Xz4672.tr (Xy4680.mono (by decide))
              have h4688 := Xy4680.at h4673
              have h4689 := Xy4680.at h4674
              have h4690 := Xy4680.at h4675
              refine g_lv (lv' := [(0, .ref a0), (1, .ref a1), (2, .int v17_2)]) [1, 2, 3] rfl ?_
              exact J82 Y4678 Iy4679 Xz4687 (by omega) (by omega) (by omega) (by omega)
  refine g_aload_n C dX10_findAll_0 rfl 0 rfl ?_
  refine g_iconst (v := 0) C dX10_findAll_1 (by decide) ?_
  refine g_putI C fi_X10_28 rfl (ha0).1 (ha0).2 dX10_findAll_2 ?_
  refine gpW (ks := [10]) (I.setI (ha0) (rgOk.none rfl)) (EK.setI (ha0).2 (by decide)) (fun Y4691 Iy4692 Xy4693 w4694 w4695 => ?_)
  have w4695 : (pI Y4691 a0 4).toInt = 0 := w4695
  have Xz4696 : EK [0, 10, 13] P Y4691 := Xy4693.mono (by decide)
  have h4697 := Xy4693.at ha0
  have h4698 := Xy4693.at ha1
  refine g_aload_n C dX10_findAll_5 rfl 0 rfl ?_
  refine g_iconst (v := 0) C dX10_findAll_6 (by decide) ?_
  refine g_putI C fi_X10_32 rfl (h4697).1 (h4697).2 dX10_findAll_7 ?_
  refine gpW (ks := [10]) (Iy4692.setI (h4697) (rgOk.none rfl)) (EK.setI (h4697).2 (by decide)) (fun Y4699 Iy4700 Xy4701 w4702 w4703 => ?_)
  have w4703 : (pI Y4699 a0 5).toInt = 0 := w4703
  have q4704 := w4702 4 (by decide)
  have Xz4705 : EK [0, 10, 13] P Y4699 := Xz4696.tr (Xy4701.mono (by decide))
  have h4706 := Xy4701.at h4697
  have h4707 := Xy4701.at h4698
  refine g_aload_n C dX10_findAll_10 rfl 0 rfl ?_
  refine g_iconst (v := 0) C dX10_findAll_11 (by decide) ?_
  refine g_putI C fi_X10_35 rfl (h4706).1 (h4706).2 dX10_findAll_12 ?_
  refine gpW (ks := [10]) (Iy4700.setI (h4706) (rgOk.of rfl (by decide))) (EK.setI (h4706).2 (by decide)) (fun Y4708 Iy4709 Xy4710 w4711 w4712 => ?_)
  have w4712 : (pI Y4708 a0 3).toInt = 0 := w4712
  have q4713 := w4711 4 (by decide)
  have q4714 := w4711 5 (by decide)
  have Xz4715 : EK [0, 10, 13] P Y4708 := Xz4705.tr (Xy4710.mono (by decide))
  have h4716 := Xy4710.at h4706
  have h4717 := Xy4710.at h4707
  refine g_iconst (v := 0) C dX10_findAll_15 (by decide) ?_
  refine g_istore_n (lv' := [(2, .int 0), (0, .ref a0), (1, .ref a1)]) C dX10_findAll_16 rfl (by decide) rfl ?_
  refine g_lv (lv' := [(0, .ref a0), (1, .ref a1), (2, .int 0)]) [1, 2, 0] rfl ?_
  exact J17 _ Y4708 0 (Nat.lt_succ_self _) Iy4709 Xz4715 (by decide) (by omega) (by omega)
