theorem dX12_mark_0 : decode cX12_mark 0 = .ok (.aload_n 0, 1) := by decide +kernel
theorem dX12_mark_1 : decode cX12_mark 1 = .ok (.iconst 0, 1) := by decide +kernel
theorem dX12_mark_2 : decode cX12_mark 2 = .ok (.putfield 1, 3) := by decide +kernel
theorem dX12_mark_5 : decode cX12_mark 5 = .ok (.iload_n 1, 1) := by decide +kernel
theorem dX12_mark_6 : decode cX12_mark 6 = .ok (.iconst 0, 1) := by decide +kernel
theorem dX12_mark_7 : decode cX12_mark 7 = .ok (.iconst 3, 1) := by decide +kernel
theorem dX12_mark_8 : decode cX12_mark 8 = .ok (.invokestatic 178, 3) := by decide +kernel
theorem dX12_mark_11 : decode cX12_mark 11 = .ok (.ifCond .eq 16, 3) := by decide +kernel
theorem dX12_mark_14 : decode cX12_mark 14 = .ok (.iload_n 2, 1) := by decide +kernel
theorem dX12_mark_15 : decode cX12_mark 15 = .ok (.ifCond .eq 14, 3) := by decide +kernel
theorem dX12_mark_18 : decode cX12_mark 18 = .ok (.aload_n 0, 1) := by decide +kernel
theorem dX12_mark_19 : decode cX12_mark 19 = .ok (.getfield 87, 3) := by decide +kernel
theorem dX12_mark_22 : decode cX12_mark 22 = .ok (.iload_n 1, 1) := by decide +kernel
theorem dX12_mark_23 : decode cX12_mark 23 = .ok (.baload, 1) := by decide +kernel
theorem dX12_mark_24 : decode cX12_mark 24 = .ok (.ifCond .ne 5, 3) := by decide +kernel
theorem dX12_mark_27 : decode cX12_mark 27 = .ok (.iconst 0, 1) := by decide +kernel
theorem dX12_mark_28 : decode cX12_mark 28 = .ok (.ireturn, 1) := by decide +kernel
theorem dX12_mark_29 : decode cX12_mark 29 = .ok (.iconst 0, 1) := by decide +kernel
theorem dX12_mark_30 : decode cX12_mark 30 = .ok (.istore_n 3, 1) := by decide +kernel
theorem dX12_mark_31 : decode cX12_mark 31 = .ok (.iload_n 3, 1) := by decide +kernel
theorem dX12_mark_32 : decode cX12_mark 32 = .ok (.iconst 4, 1) := by decide +kernel
theorem dX12_mark_33 : decode cX12_mark 33 = .ok (.if_icmp .ge 43, 3) := by decide +kernel
theorem dX12_mark_36 : decode cX12_mark 36 = .ok (.aload_n 0, 1) := by decide +kernel
theorem dX12_mark_37 : decode cX12_mark 37 = .ok (.iload_n 2, 1) := by decide +kernel
theorem dX12_mark_38 : decode cX12_mark 38 = .ok (.ifCond .eq 13, 3) := by decide +kernel
theorem dX12_mark_41 : decode cX12_mark 41 = .ok (.iconst 4, 1) := by decide +kernel
theorem dX12_mark_42 : decode cX12_mark 42 = .ok (.iload_n 1, 1) := by decide +kernel
theorem dX12_mark_43 : decode cX12_mark 43 = .ok (.iconst 1, 1) := by decide +kernel
theorem dX12_mark_44 : decode cX12_mark 44 = .ok (.iadd, 1) := by decide +kernel
theorem dX12_mark_45 : decode cX12_mark 45 = .ok (.imul, 1) := by decide +kernel
theorem dX12_mark_46 : decode cX12_mark 46 = .ok (.iload_n 3, 1) := by decide +kernel
theorem dX12_mark_47 : decode cX12_mark 47 = .ok (.iadd, 1) := by decide +kernel
theorem dX12_mark_48 : decode cX12_mark 48 = .ok (.goto 4, 3) := by decide +kernel
theorem dX12_mark_51 : decode cX12_mark 51 = .ok (.iload_n 3, 1) := by decide +kernel
theorem dX12_mark_52 : decode cX12_mark 52 = .ok (.iload_n 2, 1) := by decide +kernel
theorem dX12_mark_53 : decode cX12_mark 53 = .ok (.ifCond .eq 7, 3) := by decide +kernel
theorem dX12_mark_56 : decode cX12_mark 56 = .ok (.iload_n 3, 1) := by decide +kernel
theorem dX12_mark_57 : decode cX12_mark 57 = .ok (.goto 10, 3) := by decide +kernel
theorem dX12_mark_60 : decode cX12_mark 60 = .ok (.iconst 4, 1) := by decide +kernel
theorem dX12_mark_61 : decode cX12_mark 61 = .ok (.iload_n 1, 1) := by decide +kernel
theorem dX12_mark_62 : decode cX12_mark 62 = .ok (.iconst 1, 1) := by decide +kernel
theorem dX12_mark_63 : decode cX12_mark 63 = .ok (.iadd, 1) := by decide +kernel
theorem dX12_mark_64 : decode cX12_mark 64 = .ok (.imul, 1) := by decide +kernel
theorem dX12_mark_65 : decode cX12_mark 65 = .ok (.iload_n 3, 1) := by decide +kernel
theorem dX12_mark_66 : decode cX12_mark 66 = .ok (.iadd, 1) := by decide +kernel
theorem dX12_mark_67 : decode cX12_mark 67 = .ok (.invokevirtual 302, 3) := by decide +kernel
theorem dX12_mark_70 : decode cX12_mark 70 = .ok (.iinc 3 1, 3) := by decide +kernel
theorem dX12_mark_73 : decode cX12_mark 73 = .ok (.goto (-42), 3) := by decide +kernel
theorem dX12_mark_76 : decode cX12_mark 76 = .ok (.aload_n 0, 1) := by decide +kernel
theorem dX12_mark_77 : decode cX12_mark 77 = .ok (.getfield 87, 3) := by decide +kernel
theorem dX12_mark_80 : decode cX12_mark 80 = .ok (.iload_n 1, 1) := by decide +kernel
theorem dX12_mark_81 : decode cX12_mark 81 = .ok (.iconst 1, 1) := by decide +kernel
theorem dX12_mark_82 : decode cX12_mark 82 = .ok (.bastore, 1) := by decide +kernel
theorem dX12_mark_83 : decode cX12_mark 83 = .ok (.iconst 1, 1) := by decide +kernel
theorem dX12_mark_84 : decode cX12_mark 84 = .ok (.ireturn, 1) := by decide +kernel
set_option maxHeartbeats 4000000 in
set_option maxRecDepth 100000 in
theorem s_X12_mark {P : PP} {a0 : Nat} {a1 : Int32} {a2 : Int32} (I : IM P a0) (ha2 : 0 ≤ a2.toInt ∧ a2.toInt ≤ 1) (hW : MW P a0) : CtrI yX12_mark cX12_mark 4 (some Jvm.ClassFile.FieldType.boolean) ({ frames := 3, cells := 0, slots := 0, locals := 192 } : Room) 0 0 P [.ref a0, .int a1, .int a2] (fun r P2 => IM P2 a0 ∧ EM [0, 20, 21, 22, 23, 24, 25, 26] a0 P P2 ∧ MW P2 a0 ∧ (0 ≤ r.toInt ∧ r.toInt ≤ 1) ∧ (r.toInt = 0 ∨ (((0 : Int) ≤ a1.toInt ∧ a1.toInt ≤ (3 : Int))))) := by
  refine enI (lv := [(0, .ref a0), (1, .int a1), (2, .int a2)]) (by decide) (Nat.le_of_ble_eq_true rfl) rfl (fun E D cy C Ci0 ret => ?_)
  have ha0 := I.2.1
  have J31 : ∀ (n31 : Nat) (P31 : PP) (v31_3 : Int32), (4 - v31_3.toInt).toNat < n31 → (IM P31 a0) → (EM [0, 20, 21, 22, 23, 24, 25, 26] a0 P P31) → (MW P31 a0) → (0 ≤ a1.toInt ∧ a1.toInt ≤ 3) → (0 ≤ v31_3.toInt ∧ v31_3.toInt ≤ 4) → (0 ≤ (pI P31 a0 0).toInt ∧ (pI P31 a0 0).toInt ≤ 0) → G E ({ frames := 3, cells := 0, slots := 0, locals := 192 } : Room) D cy 4 P31 0 0 31 [(0, .ref a0), (1, .int a1), (2, .int a2), (3, .int v31_3)] [] := by
    intro n31
    induction n31 with
    | zero => intro P31 v31_3 hm31 I31 X31 W31 hv31_1 hv31_3 hq31_0; omega
    | succ n31 ih31 =>
      intro P31 v31_3 hm31 I31 X31 W31 hv31_1 hv31_3 hq31_0
      have h93260 := X31.at ha0
      have J67 : ∀ (v67_s0 : Int32) (v67_s1 : Int32), (0 ≤ a1.toInt ∧ a1.toInt ≤ 3) → (0 ≤ v31_3.toInt ∧ v31_3.toInt ≤ 3) → (0 ≤ v67_s0.toInt ∧ v67_s0.toInt ≤ 19) → (0 ≤ v67_s1.toInt ∧ v67_s1.toInt ≤ 19) → (0 ≤ (pI P31 a0 0).toInt ∧ (pI P31 a0 0).toInt ≤ 0) → (v67_s0.toInt ≠ v67_s1.toInt) → G E ({ frames := 3, cells := 0, slots := 0, locals := 192 } : Room) D cy 4 P31 0 0 67 [(0, .ref a0), (1, .int a1), (2, .int a2), (3, .int v31_3)] [.int v67_s0, .int v67_s1, .ref a0] := by
        intro v67_s0 v67_s1 hv67_1 hv67_3 hv67_s0 hv67_s1 hq67_0 rel67_0
        have h93261 := X31.at ha0
        refine g_callVV (rest := []) C mv_X12_302 [.int v67_s1, .int v67_s0] (s_X12_copies I31 (by omega) (by omega) W31 (by omega)) (h93261).1 (h93261).2 rfl rfl (by decide) (Nat.le_of_ble_eq_true rfl) (by decide) dX12_mark_67 (fun Y93263 h93264 => ?_)
        obtain ⟨Iy93265, Xy93266, W93267⟩ := h93264
        have q93268 := Xy93266.keepF 0 (by decide)
        have Xz93269 : EM [0, 20, 21, 22, 23, 24, 25, 26] a0 P Y93263 := EM.tr ha0 X31 (Xy93266.mono (by decide))
        have h93270 := Xy93266.at h93261
        refine s_iinc (lv0 := [(0, .ref a0), (1, .int a1), (2, .int a2)]) (m := 1) C dX12_mark_70 3 rfl (by decide) rfl (by decide) (by omega) (fun z93271 h93272 => ?_)
        have h93272 : z93271.toInt = v31_3.toInt + 1 := h93272
        refine g_goto C 31 dX12_mark_73 (by decide) ?_
        refine g_lv (lv' := [(0, .ref a0), (1, .int a1), (2, .int a2), (3, .int z93271)]) [1, 2, 3, 0] rfl ?_
        exact ih31 Y93263 z93271 (by omega) Iy93265 Xz93269 W93267 (by omega) (by omega) (by omega)
      have J52 : ∀ (v52_s0 : Int32), (0 ≤ a1.toInt ∧ a1.toInt ≤ 3) → (0 ≤ v31_3.toInt ∧ v31_3.toInt ≤ 3) → (0 ≤ v52_s0.toInt ∧ v52_s0.toInt ≤ 19) → (0 ≤ (pI P31 a0 0).toInt ∧ (pI P31 a0 0).toInt ≤ 0) → ((a2.toInt = 0 ∧ v52_s0.toInt = v31_3.toInt) ∨ (a2.toInt = 1 ∧ v52_s0.toInt = 4 * (a1.toInt + 1) + v31_3.toInt)) → G E ({ frames := 3, cells := 0, slots := 0, locals := 192 } : Room) D cy 4 P31 0 0 52 [(0, .ref a0), (1, .int a1), (2, .int a2), (3, .int v31_3)] [.int v52_s0, .ref a0] := by
        intro v52_s0 hv52_1 hv52_3 hv52_s0 hq52_0 rel52_0
        have h93273 := X31.at ha0
        refine g_iload_n C dX12_mark_52 rfl 2 rfl ?_
        refine b_if_eq C 60 dX12_mark_53 (by decide) (fun h93274 => ?_) (fun h93274 => ?_)
        · have h93274 : a2.toInt = 0 := congrArg Int32.toInt h93274
          refine g_iconst (v := 4) C dX12_mark_60 (by decide) ?_
          refine g_iload_n C dX12_mark_61 rfl 1 rfl ?_
          refine g_iconst (v := 1) C dX12_mark_62 (by decide) ?_
          refine s_iadd C dX12_mark_63 (by show -2147483648 ≤ a1.toInt + 1 ∧ a1.toInt + 1 ≤ 2147483647; omega) (fun z93275 h93276 => ?_)
          have h93276 : z93275.toInt = a1.toInt + 1 := h93276
          refine s_imul C dX12_mark_64 (by show -2147483648 ≤ 4 * z93275.toInt ∧ 4 * z93275.toInt ≤ 2147483647; omega) (fun z93277 h93278 => ?_)
          have h93278 : z93277.toInt = 4 * z93275.toInt := h93278
          refine g_iload_n C dX12_mark_65 rfl 3 rfl ?_
          refine s_iadd C dX12_mark_66 (by show -2147483648 ≤ z93277.toInt + v31_3.toInt ∧ z93277.toInt + v31_3.toInt ≤ 2147483647; omega) (fun z93279 h93280 => ?_)
          have h93280 : z93279.toInt = z93277.toInt + v31_3.toInt := h93280
          exact J67 z93279 v52_s0 (by omega) (by omega) (by omega) (by omega) (by omega) (by show z93279.toInt ≠ v52_s0.toInt; omega)
        · have h93274 : a2.toInt ≠ 0 := ti_ne h93274
          refine g_iload_n C dX12_mark_56 rfl 3 rfl ?_
          refine g_goto C 67 dX12_mark_57 (by decide) ?_
          exact J67 v31_3 v52_s0 (by omega) (by omega) (by omega) (by omega) (by omega) (by show v31_3.toInt ≠ v52_s0.toInt; omega)
      refine g_iload_n C dX12_mark_31 rfl 3 rfl ?_
      refine g_iconst (v := 4) C dX12_mark_32 (by decide) ?_
      refine b_icmp_ge C 76 dX12_mark_33 (by decide) (fun h93281 => ?_) (fun h93281 => ?_)
      · have h93281 : 4 ≤ v31_3.toInt := h93281
        refine g_aload_n C dX12_mark_76 rfl 0 rfl ?_
        obtain ⟨b93282, e93283, h93284⟩ := I31.fld (h93260) 26 15 4 rfl
        refine g_getR C fi_X12_87 rfl e93283 (h93260).1 (h93260).2 dX12_mark_77 ?_
        refine g_iload_n C dX12_mark_80 rfl 1 rfl ?_
        refine g_iconst (v := 1) C dX12_mark_81 (by decide) ?_
        refine g_zast (j := (a1.toInt.toNat)) C h93284.1 h93284.2.1 (ix_in h93284.2.2 (by omega)) (Or.inr rfl) dX12_mark_82 ?_
        refine gqW (ks := [26]) (I31.setA e93283 h93284 (by decide) (arOk.none rfl)) (EM.setA I31 e93283 rfl (by decide)) (fun Y93285 Iy93286 Xy93287 w93288  => ?_)
        have w93288 : (pI Y93285 b93282 (a1.toInt.toNat)).toInt = 1 := w93288
        have q93289 := Xy93287.keepF 0 (by decide)
        have W93290 := W31.keep I31 Xy93287 (by decide) (by decide) (by decide) (by decide)
        have Xz93291 : EM [0, 20, 21, 22, 23, 24, 25, 26] a0 P Y93285 := EM.tr ha0 X31 (Xy93287.mono (by decide))
        have e93292 := Xy93287.ref h93260 (by decide) e93283
        have h93293 := Xy93287.at h93260
        have h93294 := Xy93287.ar h93284
        refine g_iconst (v := 1) C dX12_mark_83 (by decide) ?_
        exact ret _ _ _ _ _ _ dX12_mark_84 rfl (by decide) (by decide) ⟨Iy93286, Xz93291, W93290, (by decide), Or.inr (by omega)⟩
      · have h93281 : v31_3.toInt < 4 := h93281
        refine g_aload_n C dX12_mark_36 rfl 0 rfl ?_
        refine g_iload_n C dX12_mark_37 rfl 2 rfl ?_
        refine b_if_eq C 51 dX12_mark_38 (by decide) (fun h93295 => ?_) (fun h93295 => ?_)
        · have h93295 : a2.toInt = 0 := congrArg Int32.toInt h93295
          refine g_iload_n C dX12_mark_51 rfl 3 rfl ?_
          exact J52 v31_3 (by omega) (by omega) (by omega) (by omega) (by show (a2.toInt = 0 ∧ v31_3.toInt = v31_3.toInt) ∨ (a2.toInt = 1 ∧ v31_3.toInt = 4 * (a1.toInt + 1) + v31_3.toInt); omega)
        · have h93295 : a2.toInt ≠ 0 := ti_ne h93295
          refine g_iconst (v := 4) C dX12_mark_41 (by decide) ?_
          refine g_iload_n C dX12_mark_42 rfl 1 rfl ?_
          refine g_iconst (v := 1) C dX12_mark_43 (by decide) ?_
          refine s_iadd C dX12_mark_44 (by show -2147483648 ≤ a1.toInt + 1 ∧ a1.toInt + 1 ≤ 2147483647; omega) (fun z93296 h93297 => ?_)
          have h93297 : z93296.toInt = a1.toInt + 1 := h93297
          refine s_imul C dX12_mark_45 (by show -2147483648 ≤ 4 * z93296.toInt ∧ 4 * z93296.toInt ≤ 2147483647; omega) (fun z93298 h93299 => ?_)
          have h93299 : z93298.toInt = 4 * z93296.toInt := h93299
          refine g_iload_n C dX12_mark_46 rfl 3 rfl ?_
          refine s_iadd C dX12_mark_47 (by show -2147483648 ≤ z93298.toInt + v31_3.toInt ∧ z93298.toInt + v31_3.toInt ≤ 2147483647; omega) (fun z93300 h93301 => ?_)
          have h93301 : z93300.toInt = z93298.toInt + v31_3.toInt := h93301
          refine g_goto C 52 dX12_mark_48 (by decide) ?_
          exact J52 z93300 (by omega) (by omega) (by omega) (by omega) (by show (a2.toInt = 0 ∧ z93300.toInt = v31_3.toInt) ∨ (a2.toInt = 1 ∧ z93300.toInt = 4 * (a1.toInt + 1) + v31_3.toInt); omega)
  have J29 : ∀ (P29 : PP), (IM P29 a0) → (EM [0, 20, 21, 22, 23, 24, 25, 26] a0 P P29) → (MW P29 a0) → (0 ≤ a1.toInt ∧ a1.toInt ≤ 3) → (0 ≤ (pI P29 a0 0).toInt ∧ (pI P29 a0 0).toInt ≤ 0) → G E ({ frames := 3, cells := 0, slots := 0, locals := 192 } : Room) D cy 4 P29 0 0 29 [(0, .ref a0), (1, .int a1), (2, .int a2)] [] := by
    intro P29 I29 X29 W29 hv29_1 hq29_0
    have h93302 := X29.at ha0
    refine g_iconst (v := 0) C dX12_mark_29 (by decide) ?_
    refine g_istore_n (lv' := [(3, .int 0), (0, .ref a0), (1, .int a1), (2, .int a2)]) C dX12_mark_30 rfl (by decide) rfl ?_
    refine g_lv (lv' := [(0, .ref a0), (1, .int a1), (2, .int a2), (3, .int 0)]) [1, 2, 3, 0] rfl ?_
    exact J31 _ P29 0 (Nat.lt_succ_self _) I29 X29 W29 (by omega) (by decide) (by omega)
  have J27 : ∀ (P27 : PP), (IM P27 a0) → (EM [0, 20, 21, 22, 23, 24, 25, 26] a0 P P27) → (MW P27 a0) → (0 ≤ (pI P27 a0 0).toInt ∧ (pI P27 a0 0).toInt ≤ 0) → G E ({ frames := 3, cells := 0, slots := 0, locals := 192 } : Room) D cy 4 P27 0 0 27 [] [] := by
    intro P27 I27 X27 W27 hq27_0
    have h93303 := X27.at ha0
    refine g_iconst (v := 0) C dX12_mark_27 (by decide) ?_
    exact ret _ _ _ _ _ _ dX12_mark_28 rfl (by decide) (by decide) ⟨I27, X27, W27, (by decide), Or.inl rfl⟩
  refine g_aload_n C dX12_mark_0 rfl 0 rfl ?_
  refine g_iconst (v := 0) C dX12_mark_1 (by decide) ?_
  refine g_putI C fi_X12_1 rfl (ha0).1 (ha0).2 dX12_mark_2 ?_
  refine gqW (ks := [0]) (I.setI (rgOk.of rfl (by decide))) (EM.setI I (by decide)) (fun Y93304 Iy93305 Xy93306 w93307  => ?_)
  have w93307 : (pI Y93304 a0 0).toInt = 0 := w93307
  have W93308 := hW.keep I Xy93306 (by decide) (by decide) (by decide) (by decide)
  have Xz93309 : EM [0, 20, 21, 22, 23, 24, 25, 26] a0 P Y93304 := Xy93306.mono (by decide)
  have h93310 := Xy93306.at ha0
  refine g_iload_n C dX12_mark_5 rfl 1 rfl ?_
  refine g_iconst (v := 0) C dX12_mark_6 (by decide) ?_
  refine g_iconst (v := 3) C dX12_mark_7 (by decide) ?_
  refine g_callSI (b := 0) (ci := 0) (rest := []) C ms_X12_178 [.int a1, .int 0, .int 3] (s_X12_within Iy93305.1) rfl rfl (by decide) (Nat.le_of_ble_eq_true rfl) (by decide) dX12_mark_8 (fun r93311 Y93312 h93313 => ?_)
  obtain ⟨rfl, h93313⟩ := h93313
  obtain ⟨h93313, hi93314⟩ := h93313
  have hi93314 : r93311.toInt = 0 ∨ (0 ≤ a1.toInt ∧ a1.toInt ≤ 3) := hi93314
  have h93313 : 0 ≤ r93311.toInt ∧ r93311.toInt ≤ 1 := h93313
  refine b_if_eq C 27 dX12_mark_11 (by decide) (fun h93315 => ?_) (fun h93315 => ?_)
  · have h93315 : r93311.toInt = 0 := congrArg Int32.toInt h93315
    clear hi93314
    refine g_lv (lv' := []) [] rfl ?_
    exact J27 Y93304 Iy93305 Xz93309 W93308 (by omega)
  · have h93315 : r93311.toInt ≠ 0 := ti_ne h93315
    replace hi93314 := hi93314.resolve_left (by omega)
    refine g_iload_n C dX12_mark_14 rfl 2 rfl ?_
    refine b_if_eq C 29 dX12_mark_15 (by decide) (fun h93316 => ?_) (fun h93316 => ?_)
    · have h93316 : a2.toInt = 0 := congrArg Int32.toInt h93316
      exact J29 Y93304 Iy93305 Xz93309 W93308 (by omega) (by omega)
    · have h93316 : a2.toInt ≠ 0 := ti_ne h93316
      refine g_aload_n C dX12_mark_18 rfl 0 rfl ?_
      obtain ⟨b93317, e93318, h93319⟩ := Iy93305.fld (h93310) 26 15 4 rfl
      refine g_getR C fi_X12_87 rfl e93318 (h93310).1 (h93310).2 dX12_mark_19 ?_
      refine g_iload_n C dX12_mark_22 rfl 1 rfl ?_
      refine g_zald (j := (a1.toInt.toNat)) C h93319.1 h93319.2.1 (ix_in h93319.2.2 (by omega)) dX12_mark_23 ?_
      have u93321 := ti_rng (pI Y93304 b93317 (a1.toInt.toNat))
      refine b_if_ne C 29 dX12_mark_24 (by decide) (fun h93320 => ?_) (fun h93320 => ?_)
      · have h93320 : (pI Y93304 b93317 (a1.toInt.toNat)).toInt ≠ 0 := ti_ne h93320
        exact J29 Y93304 Iy93305 Xz93309 W93308 (by omega) (by omega)
      · have h93320 : (pI Y93304 b93317 (a1.toInt.toNat)).toInt = 0 := congrArg Int32.toInt h93320
        refine g_lv (lv' := []) [] rfl ?_
        exact J27 Y93304 Iy93305 Xz93309 W93308 (by omega)
theorem dX12_nameless_0 : decode cX12_nameless 0 = .ok (.aload_n 0, 1) := by decide +kernel
theorem dX12_nameless_1 : decode cX12_nameless 1 = .ok (.iconst 0, 1) := by decide +kernel
theorem dX12_nameless_2 : decode cX12_nameless 2 = .ok (.putfield 1, 3) := by decide +kernel
theorem dX12_nameless_5 : decode cX12_nameless 5 = .ok (.iload_n 1, 1) := by decide +kernel
theorem dX12_nameless_6 : decode cX12_nameless 6 = .ok (.invokestatic 278, 3) := by decide +kernel
theorem dX12_nameless_9 : decode cX12_nameless 9 = .ok (.ifCond .eq 41, 3) := by decide +kernel
theorem dX12_nameless_12 : decode cX12_nameless 12 = .ok (.iload_n 2, 1) := by decide +kernel
theorem dX12_nameless_13 : decode cX12_nameless 13 = .ok (.invokestatic 258, 3) := by decide +kernel
theorem dX12_nameless_16 : decode cX12_nameless 16 = .ok (.ifCond .eq 34, 3) := by decide +kernel
theorem dX12_nameless_19 : decode cX12_nameless 19 = .ok (.iload_n 3, 1) := by decide +kernel
theorem dX12_nameless_20 : decode cX12_nameless 20 = .ok (.iconst 0, 1) := by decide +kernel
theorem dX12_nameless_21 : decode cX12_nameless 21 = .ok (.ldc 195, 2) := by decide +kernel
theorem dX12_nameless_23 : decode cX12_nameless 23 = .ok (.invokestatic 178, 3) := by decide +kernel
theorem dX12_nameless_26 : decode cX12_nameless 26 = .ok (.ifCond .eq 24, 3) := by decide +kernel
theorem dX12_nameless_29 : decode cX12_nameless 29 = .ok (.aload_n 0, 1) := by decide +kernel
theorem dX12_nameless_30 : decode cX12_nameless 30 = .ok (.getfield 69, 3) := by decide +kernel
theorem dX12_nameless_33 : decode cX12_nameless 33 = .ok (.iload_n 1, 1) := by decide +kernel
theorem dX12_nameless_34 : decode cX12_nameless 34 = .ok (.iaload, 1) := by decide +kernel
theorem dX12_nameless_35 : decode cX12_nameless 35 = .ok (.bipush 40, 2) := by decide +kernel
theorem dX12_nameless_37 : decode cX12_nameless 37 = .ok (.if_icmp .eq 13, 3) := by decide +kernel
theorem dX12_nameless_40 : decode cX12_nameless 40 = .ok (.aload_n 0, 1) := by decide +kernel
theorem dX12_nameless_41 : decode cX12_nameless 41 = .ok (.iload_n 1, 1) := by decide +kernel
theorem dX12_nameless_42 : decode cX12_nameless 42 = .ok (.invokevirtual 295, 3) := by decide +kernel
theorem dX12_nameless_45 : decode cX12_nameless 45 = .ok (.bipush 6, 2) := by decide +kernel
theorem dX12_nameless_47 : decode cX12_nameless 47 = .ok (.if_icmp .ne 5, 3) := by decide +kernel
theorem dX12_nameless_50 : decode cX12_nameless 50 = .ok (.iconst (-1), 1) := by decide +kernel
theorem dX12_nameless_51 : decode cX12_nameless 51 = .ok (.ireturn, 1) := by decide +kernel
theorem dX12_nameless_52 : decode cX12_nameless 52 = .ok (.aload_n 0, 1) := by decide +kernel
theorem dX12_nameless_53 : decode cX12_nameless 53 = .ok (.iload_n 1, 1) := by decide +kernel
theorem dX12_nameless_54 : decode cX12_nameless 54 = .ok (.iconst (-1), 1) := by decide +kernel
theorem dX12_nameless_55 : decode cX12_nameless 55 = .ok (.iload_n 2, 1) := by decide +kernel
theorem dX12_nameless_56 : decode cX12_nameless 56 = .ok (.iload_n 3, 1) := by decide +kernel
theorem dX12_nameless_57 : decode cX12_nameless 57 = .ok (.iconst 3, 1) := by decide +kernel
theorem dX12_nameless_58 : decode cX12_nameless 58 = .ok (.iconst 0, 1) := by decide +kernel
theorem dX12_nameless_59 : decode cX12_nameless 59 = .ok (.invokevirtual 284, 3) := by decide +kernel
theorem dX12_nameless_62 : decode cX12_nameless 62 = .ok (.ireturn, 1) := by decide +kernel
set_option maxHeartbeats 4000000 in
set_option maxRecDepth 100000 in
theorem s_X12_nameless {P : PP} {a0 : Nat} {a1 : Int32} {a2 : Int32} {a3 : Int32} (I : IM P a0) (hW : MW P a0) : CtrI yX12_nameless cX12_nameless 4 (some Jvm.ClassFile.FieldType.int) ({ frames := 3, cells := 0, slots := 0, locals := 192 } : Room) 0 0 P [.ref a0, .int a1, .int a2, .int a3] (fun r P2 => IM P2 a0 ∧ EM [0, 20, 21, 22, 23, 24, 25] a0 P P2 ∧ MW P2 a0 ∧ (-1 ≤ r.toInt ∧ r.toInt ≤ 39)) := by
  refine enI (lv := [(0, .ref a0), (1, .int a1), (2, .int a2), (3, .int a3)]) (by decide) (Nat.le_of_ble_eq_true rfl) rfl (fun E D cy C Ci0 ret => ?_)
  have ha0 := I.2.1
  have J50 : ∀ (P50 : PP), (IM P50 a0) → (EM [0, 20, 21, 22, 23, 24, 25] a0 P P50) → (MW P50 a0) → (0 ≤ (pI P50 a0 0).toInt ∧ (pI P50 a0 0).toInt ≤ 0) → G E ({ frames := 3, cells := 0, slots := 0, locals := 192 } : Room) D cy 4 P50 0 0 50 [] [] := by
    intro P50 I50 X50 W50 hq50_0
    have h93367 := X50.at ha0
    refine g_iconst (v := (-1)) C dX12_nameless_50 (by decide) ?_
    exact ret _ _ _ _ _ _ dX12_nameless_51 rfl (by decide) (by decide) ⟨I50, X50, W50, (by decide)⟩
  refine g_aload_n C dX12_nameless_0 rfl 0 rfl ?_
  refine g_iconst (v := 0) C dX12_nameless_1 (by decide) ?_
  refine g_putI C fi_X12_1 rfl (ha0).1 (ha0).2 dX12_nameless_2 ?_
  refine gqW (ks := [0]) (I.setI (rgOk.of rfl (by decide))) (EM.setI I (by decide)) (fun Y93368 Iy93369 Xy93370 w93371  => ?_)
  have w93371 : (pI Y93368 a0 0).toInt = 0 := w93371
  have W93372 := hW.keep I Xy93370 (by decide) (by decide) (by decide) (by decide)
  have Xz93373 : EM [0, 20, 21, 22, 23, 24, 25] a0 P Y93368 := Xy93370.mono (by decide)
  have h93374 := Xy93370.at ha0
  refine g_iload_n C dX12_nameless_5 rfl 1 rfl ?_
  refine g_callSI (b := 0) (ci := 0) (rest := []) C ms_X12_278 [.int a1] (s_X12_isQuarter Iy93369.1) rfl rfl (by decide) (Nat.le_of_ble_eq_true rfl) (by decide) dX12_nameless_6 (fun r93375 Y93376 h93377 => ?_)
  obtain ⟨rfl, h93377⟩ := h93377
  obtain ⟨h93377, hi93378⟩ := h93377
  have hi93378 : r93375.toInt = 0 ∨ (((0 : Int) ≤ a1.toInt ∧ a1.toInt ≤ (3 : Int))) := hi93378
  have h93377 : 0 ≤ r93375.toInt ∧ r93375.toInt ≤ 1 := h93377
  refine b_if_eq C 50 dX12_nameless_9 (by decide) (fun h93379 => ?_) (fun h93379 => ?_)
  · have h93379 : r93375.toInt = 0 := congrArg Int32.toInt h93379
    clear hi93378
    refine g_lv (lv' := []) [] rfl ?_
    exact J50 Y93368 Iy93369 Xz93373 W93372 (by omega)
  · have h93379 : r93375.toInt ≠ 0 := ti_ne h93379
    replace hi93378 := hi93378.resolve_left (by omega)
    refine g_iload_n C dX12_nameless_12 rfl 2 rfl ?_
    refine g_callSI (b := 0) (ci := 0) (rest := []) C ms_X12_258 [.int a2] (s_X12_isNumber Iy93369.1) rfl rfl (by decide) (Nat.le_of_ble_eq_true rfl) (by decide) dX12_nameless_13 (fun r93380 Y93381 h93382 => ?_)
    obtain ⟨rfl, h93382⟩ := h93382
    obtain ⟨h93382, hi93383⟩ := h93382
    have hi93383 : r93380.toInt = 0 ∨ (((0 : Int) ≤ a2.toInt ∧ a2.toInt ≤ (9999 : Int))) := hi93383
    have h93382 : 0 ≤ r93380.toInt ∧ r93380.toInt ≤ 1 := h93382
    refine b_if_eq C 50 dX12_nameless_16 (by decide) (fun h93384 => ?_) (fun h93384 => ?_)
    · have h93384 : r93380.toInt = 0 := congrArg Int32.toInt h93384
      clear hi93383
      refine g_lv (lv' := []) [] rfl ?_
      exact J50 Y93368 Iy93369 Xz93373 W93372 (by omega)
    · have h93384 : r93380.toInt ≠ 0 := ti_ne h93384
      replace hi93383 := hi93383.resolve_left (by omega)
      refine g_iload_n C dX12_nameless_19 rfl 3 rfl ?_
      refine g_iconst (v := 0) C dX12_nameless_20 (by decide) ?_
      refine g_ldc (v := 65535) C kc_X12_195 dX12_nameless_21 ?_
      refine g_callSI (b := 0) (ci := 0) (rest := []) C ms_X12_178 [.int a3, .int 0, .int 65535] (s_X12_within Iy93369.1) rfl rfl (by decide) (Nat.le_of_ble_eq_true rfl) (by decide) dX12_nameless_23 (fun r93385 Y93386 h93387 => ?_)
      obtain ⟨rfl, h93387⟩ := h93387
      obtain ⟨h93387, hi93388⟩ := h93387
      have hi93388 : r93385.toInt = 0 ∨ (0 ≤ a3.toInt ∧ a3.toInt ≤ 65535) := hi93388
      have h93387 : 0 ≤ r93385.toInt ∧ r93385.toInt ≤ 1 := h93387
      refine b_if_eq C 50 dX12_nameless_26 (by decide) (fun h93389 => ?_) (fun h93389 => ?_)
      · have h93389 : r93385.toInt = 0 := congrArg Int32.toInt h93389
        clear hi93388
        refine g_lv (lv' := []) [] rfl ?_
        exact J50 Y93368 Iy93369 Xz93373 W93372 (by omega)
      · have h93389 : r93385.toInt ≠ 0 := ti_ne h93389
        replace hi93388 := hi93388.resolve_left (by omega)
        refine g_aload_n C dX12_nameless_29 rfl 0 rfl ?_
        obtain ⟨b93390, e93391, h93392⟩ := Iy93369.fld (h93374) 20 13 20 rfl
        refine g_getR C fi_X12_69 rfl e93391 (h93374).1 (h93374).2 dX12_nameless_30 ?_
        refine g_iload_n C dX12_nameless_33 rfl 1 rfl ?_
        refine g_iald (j := (a1.toInt.toNat)) C h93392.1 h93392.2.1 (ix_in h93392.2.2 (by omega)) dX12_nameless_34 ?_
        have h93393 := Iy93369.arr e93391 rfl (a1.toInt.toNat)
        refine g_bipush (v := 40) C dX12_nameless_35 (by decide) ?_
        refine b_icmp_eq C 50 dX12_nameless_37 (by decide) (fun h93394 => ?_) (fun h93394 => ?_)
        · have h93394 : (pI Y93368 b93390 (a1.toInt.toNat)).toInt = 40 := congrArg Int32.toInt h93394
          refine g_lv (lv' := []) [] rfl ?_
          exact J50 Y93368 Iy93369 Xz93373 W93372 (by omega)
        · have h93394 : (pI Y93368 b93390 (a1.toInt.toNat)).toInt ≠ 40 := ti_ne h93394
          refine g_aload_n C dX12_nameless_40 rfl 0 rfl ?_
          refine g_iload_n C dX12_nameless_41 rfl 1 rfl ?_
          refine g_callVI (rest := []) C mv_X12_295 [.int a1] (s_X12_namelessIn Iy93369 (by omega) W93372) (h93374).1 (h93374).2 rfl rfl (by decide) (Nat.le_of_ble_eq_true rfl) (by decide) dX12_nameless_42 (fun r93395 Y93396 h93397 => ?_)
          obtain ⟨rfl, h93397⟩ := h93397
          have h93397 : True := h93397
          refine g_bipush (v := 6) C dX12_nameless_45 (by decide) ?_
          have u93399 := ti_rng r93395
          refine b_icmp_ne C 52 dX12_nameless_47 (by decide) (fun h93398 => ?_) (fun h93398 => ?_)
          · have h93398 : r93395.toInt ≠ 6 := ti_ne h93398
            refine g_aload_n C dX12_nameless_52 rfl 0 rfl ?_
            refine g_iload_n C dX12_nameless_53 rfl 1 rfl ?_
            refine g_iconst (v := (-1)) C dX12_nameless_54 (by decide) ?_
            refine g_iload_n C dX12_nameless_55 rfl 2 rfl ?_
            refine g_iload_n C dX12_nameless_56 rfl 3 rfl ?_
            refine g_iconst (v := 3) C dX12_nameless_57 (by decide) ?_
            refine g_iconst (v := 0) C dX12_nameless_58 (by decide) ?_
            refine g_callVI (rest := []) C mv_X12_284 [.int a1, .int (-1), .int a2, .int a3, .int 3, .int 0] (s_X12_lays Iy93369 (by omega) (by decide) (fun b9 e9 => by rw [e93391] at e9; cases e9; show 0 ≤ (pI Y93368 b93390 (a1.toInt.toNat)).toInt ∧ (pI Y93368 b93390 (a1.toInt.toNat)).toInt ≤ 39; omega) W93372 (fun _ _ h9 => absurd h9 (by decide))) (h93374).1 (h93374).2 rfl rfl (by decide) (Nat.le_of_ble_eq_true rfl) (by decide) dX12_nameless_59 (fun r93400 Y93401 h93402 => ?_)
            obtain ⟨Iy93403, Xy93404, W93405, p93406, h93402⟩ := h93402
            have p93406 := p93406 b93390 e93391
            have p93406 : (pI Y93401 b93390 (a1.toInt.toNat)).toInt = (pI Y93368 b93390 (a1.toInt.toNat)).toInt + 1 := p93406
            have q93407 := Xy93404.keepF 0 (by decide)
            have Xz93408 : EM [0, 20, 21, 22, 23, 24, 25] a0 P Y93401 := EM.tr ha0 Xz93373 (Xy93404.mono (by decide))
            have e93409 := Xy93404.ref h93374 (by decide) e93391
            have h93410 := Xy93404.at h93374
            have h93411 := Xy93404.ar h93392
            have h93402 : 0 ≤ r93400.toInt ∧ r93400.toInt ≤ 39 := h93402
            exact ret _ _ _ _ _ _ dX12_nameless_62 rfl (by decide) (by decide) ⟨Iy93403, Xz93408, W93405, (by omega)⟩
          · have h93398 : r93395.toInt = 6 := congrArg Int32.toInt h93398
            refine g_lv (lv' := []) [] rfl ?_
            exact J50 Y93368 Iy93369 Xz93373 W93372 (by omega)
theorem dX12_needs_0 : decode cX12_needs 0 = .ok (.aload_n 0, 1) := by decide +kernel
theorem dX12_needs_1 : decode cX12_needs 1 = .ok (.iconst 0, 1) := by decide +kernel
theorem dX12_needs_2 : decode cX12_needs 2 = .ok (.putfield 1, 3) := by decide +kernel
theorem dX12_needs_5 : decode cX12_needs 5 = .ok (.iload_n 1, 1) := by decide +kernel
theorem dX12_needs_6 : decode cX12_needs 6 = .ok (.invokestatic 278, 3) := by decide +kernel
theorem dX12_needs_9 : decode cX12_needs 9 = .ok (.ifCond .eq 11, 3) := by decide +kernel
theorem dX12_needs_12 : decode cX12_needs 12 = .ok (.aload_n 0, 1) := by decide +kernel
theorem dX12_needs_13 : decode cX12_needs 13 = .ok (.iload_n 2, 1) := by decide +kernel
theorem dX12_needs_14 : decode cX12_needs 14 = .ok (.invokevirtual 192, 3) := by decide +kernel
theorem dX12_needs_17 : decode cX12_needs 17 = .ok (.ifCond .ne 5, 3) := by decide +kernel
theorem dX12_needs_22 : decode cX12_needs 22 = .ok (.aload_n 0, 1) := by decide +kernel
theorem dX12_needs_23 : decode cX12_needs 23 = .ok (.iload_n 1, 1) := by decide +kernel
theorem dX12_needs_24 : decode cX12_needs 24 = .ok (.iload_n 2, 1) := by decide +kernel
theorem dX12_needs_25 : decode cX12_needs 25 = .ok (.invokevirtual 408, 3) := by decide +kernel
theorem dX12_needsOf_0 : decode cX12_needsOf 0 = .ok (.aload_n 0, 1) := by decide +kernel
theorem dX12_needsOf_1 : decode cX12_needsOf 1 = .ok (.iload_n 2, 1) := by decide +kernel
theorem dX12_needsOf_2 : decode cX12_needsOf 2 = .ok (.invokevirtual 312, 3) := by decide +kernel
theorem dX12_needsOf_5 : decode cX12_needsOf 5 = .ok (.iconst 0, 1) := by decide +kernel
theorem dX12_needsOf_6 : decode cX12_needsOf 6 = .ok (.istore_n 3, 1) := by decide +kernel
theorem dX12_needsOf_7 : decode cX12_needsOf 7 = .ok (.iload_n 3, 1) := by decide +kernel
theorem dX12_needsOf_8 : decode cX12_needsOf 8 = .ok (.bipush 60, 2) := by decide +kernel
theorem dX12_needsOf_10 : decode cX12_needsOf 10 = .ok (.if_icmp .gt 55, 3) := by decide +kernel
theorem dX12_needsOf_13 : decode cX12_needsOf 13 = .ok (.aload_n 0, 1) := by decide +kernel
theorem dX12_needsOf_14 : decode cX12_needsOf 14 = .ok (.invokevirtual 346, 3) := by decide +kernel
theorem dX12_needsOf_17 : decode cX12_needsOf 17 = .ok (.aload_n 0, 1) := by decide +kernel
theorem dX12_needsOf_18 : decode cX12_needsOf 18 = .ok (.iload_n 2, 1) := by decide +kernel
theorem dX12_needsOf_19 : decode cX12_needsOf 19 = .ok (.aload_n 0, 1) := by decide +kernel
theorem dX12_needsOf_20 : decode cX12_needsOf 20 = .ok (.invokevirtual 349, 3) := by decide +kernel
theorem dX12_needsOf_23 : decode cX12_needsOf 23 = .ok (.invokevirtual 371, 3) := by decide +kernel
theorem dX12_needsOf_26 : decode cX12_needsOf 26 = .ok (.ifCond .eq 5, 3) := by decide +kernel
theorem dX12_needsOf_29 : decode cX12_needsOf 29 = .ok (.iload_n 3, 1) := by decide +kernel
theorem dX12_needsOf_30 : decode cX12_needsOf 30 = .ok (.ireturn, 1) := by decide +kernel
theorem dX12_needsOf_31 : decode cX12_needsOf 31 = .ok (.iload_n 3, 1) := by decide +kernel
theorem dX12_needsOf_32 : decode cX12_needsOf 32 = .ok (.bipush 60, 2) := by decide +kernel
theorem dX12_needsOf_34 : decode cX12_needsOf 34 = .ok (.if_icmp .ge 25, 3) := by decide +kernel
theorem dX12_needsOf_37 : decode cX12_needsOf 37 = .ok (.aload_n 0, 1) := by decide +kernel
theorem dX12_needsOf_38 : decode cX12_needsOf 38 = .ok (.iload_n 1, 1) := by decide +kernel
theorem dX12_needsOf_39 : decode cX12_needsOf 39 = .ok (.iload_n 2, 1) := by decide +kernel
theorem dX12_needsOf_40 : decode cX12_needsOf 40 = .ok (.iload_n 3, 1) := by decide +kernel
theorem dX12_needsOf_41 : decode cX12_needsOf 41 = .ok (.invokevirtual 402, 3) := by decide +kernel
theorem dX12_needsOf_44 : decode cX12_needsOf 44 = .ok (.ifCond .eq 15, 3) := by decide +kernel
theorem dX12_needsOf_47 : decode cX12_needsOf 47 = .ok (.aload_n 0, 1) := by decide +kernel
theorem dX12_needsOf_48 : decode cX12_needsOf 48 = .ok (.aload_n 0, 1) := by decide +kernel
theorem dX12_needsOf_49 : decode cX12_needsOf 49 = .ok (.iload_n 2, 1) := by decide +kernel
theorem dX12_needsOf_50 : decode cX12_needsOf 50 = .ok (.iload_n 3, 1) := by decide +kernel
theorem dX12_needsOf_51 : decode cX12_needsOf 51 = .ok (.invokevirtual 261, 3) := by decide +kernel
theorem dX12_needsOf_54 : decode cX12_needsOf 54 = .ok (.iconst 0, 1) := by decide +kernel
theorem dX12_needsOf_55 : decode cX12_needsOf 55 = .ok (.iconst (-1), 1) := by decide +kernel
theorem dX12_needsOf_56 : decode cX12_needsOf 56 = .ok (.invokevirtual 308, 3) := by decide +kernel
theorem dX12_needsOf_59 : decode cX12_needsOf 59 = .ok (.iinc 3 1, 3) := by decide +kernel
theorem dX12_needsOf_62 : decode cX12_needsOf 62 = .ok (.goto (-55), 3) := by decide +kernel
theorem dX12_needsOf_65 : decode cX12_needsOf 65 = .ok (.bipush 61, 2) := by decide +kernel
theorem dX12_needsOf_67 : decode cX12_needsOf 67 = .ok (.ireturn, 1) := by decide +kernel
set_option maxHeartbeats 4000000 in
set_option maxRecDepth 100000 in
theorem s_X12_needsOf {P : PP} {a0 : Nat} {a1 : Int32} {a2 : Int32} (I : IM P a0) (ha1 : 0 ≤ a1.toInt ∧ a1.toInt ≤ 3) (ha2 : 0 ≤ a2.toInt ∧ a2.toInt ≤ 1) (hf0 : ∀ b, pR P a0 10 = some b → 1 ≤ (pI P b (a2.toInt.toNat)).toInt ∧ (pI P b (a2.toInt.toNat)).toInt ≤ 16) (hW : MW P a0) : CtrI yX12_needsOf cX12_needsOf 4 (some Jvm.ClassFile.FieldType.int) ({ frames := 4, cells := 0, slots := 0, locals := 256 } : Room) 0 0 P [.ref a0, .int a1, .int a2] (fun r P2 => IM P2 a0 ∧ EM [28, 29, 30, 31, 35, 36, 37, 38] a0 P P2 ∧ MW P2 a0 ∧ (0 ≤ r.toInt ∧ r.toInt ≤ 61)) := by
  refine enI (lv := [(0, .ref a0), (1, .int a1), (2, .int a2)]) (by decide) (Nat.le_of_ble_eq_true rfl) rfl (fun E D cy C Ci0 ret => ?_)
  have ha0 := I.2.1
  have J7 : ∀ (n7 : Nat) (P7 : PP) (v7_3 : Int32), (61 - v7_3.toInt).toNat < n7 → (IM P7 a0) → (EM [28, 29, 30, 31, 35, 36, 37, 38] a0 P P7) → (MW P7 a0) → (0 ≤ v7_3.toInt ∧ v7_3.toInt ≤ 61) → (∀ b, pR P7 a0 10 = some b → 1 ≤ (pI P7 b (a2.toInt.toNat)).toInt ∧ (pI P7 b (a2.toInt.toNat)).toInt ≤ 16) → ((pI P7 a0 28).toInt ≤ 4 + v7_3.toInt) → G E ({ frames := 4, cells := 0, slots := 0, locals := 256 } : Room) D cy 4 P7 0 0 7 [(0, .ref a0), (1, .int a1), (2, .int a2), (3, .int v7_3)] [] := by
    intro n7
    induction n7 with
    | zero => intro P7 v7_3 hm7 I7 X7 W7 hv7_3 hq7_0 rel7_0; omega
    | succ n7 ih7 =>
      intro P7 v7_3 hm7 I7 X7 W7 hv7_3 hq7_0 rel7_0
      have h94710 := X7.at ha0
      obtain ⟨b94711, e94712, h94713⟩ := I7.fld (h94710) 10 13 2 rfl
      have hq7_0 := hq7_0 b94711 e94712
      have h94714 := I7.rg h94710 28 rfl
      have J59 : ∀ (P59 : PP), (IM P59 a0) → (EM [28, 29, 30, 31, 35, 36, 37, 38] a0 P P59) → (MW P59 a0) → (0 ≤ v7_3.toInt ∧ v7_3.toInt ≤ 60) → (∀ b, pR P59 a0 10 = some b → 1 ≤ (pI P59 b (a2.toInt.toNat)).toInt ∧ (pI P59 b (a2.toInt.toNat)).toInt ≤ 16) → ((pI P59 a0 28).toInt ≤ 5 + v7_3.toInt) → G E ({ frames := 4, cells := 0, slots := 0, locals := 256 } : Room) D cy 4 P59 0 0 59 [(0, .ref a0), (1, .int a1), (2, .int a2), (3, .int v7_3)] [] := by
        intro P59 I59 X59 W59 hv59_3 hq59_0 rel59_0
        have h94715 := X59.at ha0
        obtain ⟨b94716, e94717, h94718⟩ := I59.fld (h94715) 10 13 2 rfl
        have hq59_0 := hq59_0 b94716 e94717
        have h94719 := I59.rg h94715 28 rfl
        refine s_iinc (lv0 := [(0, .ref a0), (1, .int a1), (2, .int a2)]) (m := 1) C dX12_needsOf_59 3 rfl (by decide) rfl (by decide) (by omega) (fun z94720 h94721 => ?_)
        have h94721 : z94720.toInt = v7_3.toInt + 1 := h94721
        refine g_goto C 7 dX12_needsOf_62 (by decide) ?_
        refine g_lv (lv' := [(0, .ref a0), (1, .int a1), (2, .int a2), (3, .int z94720)]) [1, 2, 3, 0] rfl ?_
        exact ih7 P59 z94720 (by omega) I59 X59 W59 (by omega) (fun b9 e9 => by rw [e94717] at e9; cases e9; omega) (by show (pI P59 a0 28).toInt ≤ 4 + z94720.toInt; omega)
      refine g_iload_n C dX12_needsOf_7 rfl 3 rfl ?_
      refine g_bipush (v := 60) C dX12_needsOf_8 (by decide) ?_
      refine b_icmp_gt C 65 dX12_needsOf_10 (by decide) (fun h94722 => ?_) (fun h94722 => ?_)
      · have h94722 : 60 < v7_3.toInt := h94722
        refine g_bipush (v := 61) C dX12_needsOf_65 (by decide) ?_
        exact ret _ _ _ _ _ _ dX12_needsOf_67 rfl (by decide) (by decide) ⟨I7, X7, W7, (by decide)⟩
      · have h94722 : v7_3.toInt ≤ 60 := h94722
        refine g_aload_n C dX12_needsOf_13 rfl 0 rfl ?_
        refine g_callVV (rest := []) C mv_X12_346 [] (s_X12_findSolved I7 W7) (h94710).1 (h94710).2 rfl rfl (by decide) (Nat.le_of_ble_eq_true rfl) (by decide) dX12_needsOf_14 (fun Y94724 h94725 => ?_)
        obtain ⟨Iy94726, Xy94727, W94728⟩ := h94725
        have q94729 := Xy94727.keepA e94712 (by decide) rfl (a2.toInt.toNat)
        have q94730 := Xy94727.keepF 28 (by decide)
        have Xz94731 : EM [28, 29, 30, 31, 35, 36, 37, 38] a0 P Y94724 := EM.tr ha0 X7 (Xy94727.mono (by decide))
        have e94732 := Xy94727.ref h94710 (by decide) e94712
        have h94733 := Xy94727.at h94710
        have h94734 := Xy94727.ar h94713
        refine g_aload_n C dX12_needsOf_17 rfl 0 rfl ?_
        refine g_iload_n C dX12_needsOf_18 rfl 2 rfl ?_
        refine g_aload_n C dX12_needsOf_19 rfl 0 rfl ?_
        refine g_callVI (rest := [.int a2, .ref a0]) C mv_X12_349 [] (s_X12_fixedSet Iy94726 W94728) (h94733).1 (h94733).2 rfl rfl (by decide) (Nat.le_of_ble_eq_true rfl) (by decide) dX12_needsOf_20 (fun r94735 Y94736 h94737 => ?_)
        obtain ⟨rfl, h94737⟩ := h94737
        have h94737 : True := h94737
        refine g_callVI (rest := []) C mv_X12_371 [.int a2, .int r94735] (s_X12_givesAll Iy94726 (by omega) W94728) (h94733).1 (h94733).2 rfl rfl (by decide) (Nat.le_of_ble_eq_true rfl) (by decide) dX12_needsOf_23 (fun r94738 Y94739 h94740 => ?_)
        obtain ⟨rfl, h94740⟩ := h94740
        have h94740 : 0 ≤ r94738.toInt ∧ r94738.toInt ≤ 1 := h94740
        refine b_if_eq C 31 dX12_needsOf_26 (by decide) (fun h94741 => ?_) (fun h94741 => ?_)
        · have h94741 : r94738.toInt = 0 := congrArg Int32.toInt h94741
          refine g_iload_n C dX12_needsOf_31 rfl 3 rfl ?_
          refine g_bipush (v := 60) C dX12_needsOf_32 (by decide) ?_
          refine b_icmp_ge C 59 dX12_needsOf_34 (by decide) (fun h94742 => ?_) (fun h94742 => ?_)
          · have h94742 : 60 ≤ v7_3.toInt := h94742
            exact J59 Y94724 Iy94726 Xz94731 W94728 (by omega) (fun b9 e9 => by rw [e94732] at e9; cases e9; omega) (by show (pI Y94724 a0 28).toInt ≤ 5 + v7_3.toInt; omega)
          · have h94742 : v7_3.toInt < 60 := h94742
            refine g_aload_n C dX12_needsOf_37 rfl 0 rfl ?_
            refine g_iload_n C dX12_needsOf_38 rfl 1 rfl ?_
            refine g_iload_n C dX12_needsOf_39 rfl 2 rfl ?_
            refine g_iload_n C dX12_needsOf_40 rfl 3 rfl ?_
            refine g_callVI (rest := []) C mv_X12_402 [.int a1, .int a2, .int v7_3] (s_X12_falls Iy94726 (by omega) W94728) (h94733).1 (h94733).2 rfl rfl (by decide) (Nat.le_of_ble_eq_true rfl) (by decide) dX12_needsOf_41 (fun r94743 Y94744 h94745 => ?_)
            obtain ⟨rfl, h94745⟩ := h94745
            have h94745 : 0 ≤ r94743.toInt ∧ r94743.toInt ≤ 1 := h94745
            refine b_if_eq C 59 dX12_needsOf_44 (by decide) (fun h94746 => ?_) (fun h94746 => ?_)
            · have h94746 : r94743.toInt = 0 := congrArg Int32.toInt h94746
              exact J59 Y94724 Iy94726 Xz94731 W94728 (by omega) (fun b9 e9 => by rw [e94732] at e9; cases e9; omega) (by show (pI Y94724 a0 28).toInt ≤ 5 + v7_3.toInt; omega)
            · have h94746 : r94743.toInt ≠ 0 := ti_ne h94746
              refine g_aload_n C dX12_needsOf_47 rfl 0 rfl ?_
              refine g_aload_n C dX12_needsOf_48 rfl 0 rfl ?_
              refine g_iload_n C dX12_needsOf_49 rfl 2 rfl ?_
              refine g_iload_n C dX12_needsOf_50 rfl 3 rfl ?_
              refine g_callVI (rest := [.ref a0]) C mv_X12_261 [.int a2, .int v7_3] (s_X12_setOf Iy94726 (by omega) (fun b9 e9 => by rw [e94732] at e9; cases e9; show 1 ≤ (pI Y94724 b94711 (a2.toInt.toNat)).toInt ∧ (pI Y94724 b94711 (a2.toInt.toNat)).toInt ≤ 16; omega) W94728) (h94733).1 (h94733).2 rfl rfl (by decide) (Nat.le_of_ble_eq_true rfl) (by decide) dX12_needsOf_51 (fun r94747 Y94748 h94749 => ?_)
              obtain ⟨Iy94750, Xy94751, W94752, h94749⟩ := h94749
              have q94753 := Xy94751.keepA e94732 (by decide) rfl (a2.toInt.toNat)
              have q94754 := Xy94751.keepF 28 (by decide)
              have Xz94755 : EM [28, 29, 30, 31, 35, 36, 37, 38] a0 P Y94748 := EM.tr ha0 Xz94731 (Xy94751.mono (by decide))
              have e94756 := Xy94751.ref h94733 (by decide) e94732
              have h94757 := Xy94751.at h94733
              have h94758 := Xy94751.ar h94734
              have h94749 : True := h94749
              refine g_iconst (v := 0) C dX12_needsOf_54 (by decide) ?_
              refine g_iconst (v := (-1)) C dX12_needsOf_55 (by decide) ?_
              refine g_callVV (rest := []) C mv_X12_308 [.int r94747, .int 0, .int (-1)] (s_X12_adds Iy94750 (by omega) W94752) (h94757).1 (h94757).2 rfl rfl (by decide) (Nat.le_of_ble_eq_true rfl) (by decide) dX12_needsOf_56 (fun Y94760 h94761 => ?_)
              obtain ⟨Iy94762, Xy94763, W94764, p94765⟩ := h94761
              have p94765 : (pI Y94760 a0 28).toInt = (pI Y94748 a0 28).toInt + 1 := p94765
              have q94766 := Xy94763.keepA e94756 (by decide) rfl (a2.toInt.toNat)
              have Xz94767 : EM [28, 29, 30, 31, 35, 36, 37, 38] a0 P Y94760 := EM.tr ha0 Xz94755 (Xy94763.mono (by decide))
              have e94768 := Xy94763.ref h94757 (by decide) e94756
              have h94769 := Xy94763.at h94757
              have h94770 := Xy94763.ar h94758
              have h94771 := Iy94762.rg h94769 28 rfl
              exact J59 Y94760 Iy94762 Xz94767 W94764 (by omega) (fun b9 e9 => by rw [e94768] at e9; cases e9; omega) (by show (pI Y94760 a0 28).toInt ≤ 5 + v7_3.toInt; omega)
        · have h94741 : r94738.toInt ≠ 0 := ti_ne h94741
          refine g_iload_n C dX12_needsOf_29 rfl 3 rfl ?_
          exact ret _ _ _ _ _ _ dX12_needsOf_30 rfl (by decide) (by decide) ⟨Iy94726, Xz94731, W94728, (by omega)⟩
  obtain ⟨b94772, e94773, h94774⟩ := I.fld (ha0) 10 13 2 rfl
  have hf0 := hf0 b94772 e94773
  refine g_aload_n C dX12_needsOf_0 rfl 0 rfl ?_
  refine g_iload_n C dX12_needsOf_1 rfl 2 rfl ?_
  refine g_callVV (rest := []) C mv_X12_312 [.int a2] (s_X12_begins I (by omega) hW) (ha0).1 (ha0).2 rfl rfl (by decide) (Nat.le_of_ble_eq_true rfl) (by decide) dX12_needsOf_2 (fun Y94776 h94777 => ?_)
  obtain ⟨Iy94778, Xy94779, W94780, p94781⟩ := h94777
  have p94781 : (pI Y94776 a0 28).toInt ≤ 4 := p94781
  have q94782 := Xy94779.keepA e94773 (by decide) rfl (a2.toInt.toNat)
  have Xz94783 : EM [28, 29, 30, 31, 35, 36, 37, 38] a0 P Y94776 := Xy94779.mono (by decide)
  have e94784 := Xy94779.ref ha0 (by decide) e94773
  have h94785 := Xy94779.at ha0
  have h94786 := Xy94779.ar h94774
  have h94787 := Iy94778.rg h94785 28 rfl
  refine g_iconst (v := 0) C dX12_needsOf_5 (by decide) ?_
  refine g_istore_n (lv' := [(3, .int 0), (0, .ref a0), (1, .int a1), (2, .int a2)]) C dX12_needsOf_6 rfl (by decide) rfl ?_
  refine g_lv (lv' := [(0, .ref a0), (1, .int a1), (2, .int a2), (3, .int 0)]) [1, 2, 3, 0] rfl ?_
  exact J7 _ Y94776 0 (Nat.lt_succ_self _) Iy94778 Xz94783 W94780 (by decide) (fun b9 e9 => by rw [e94784] at e9; cases e9; omega) (by show (pI Y94776 a0 28).toInt ≤ 4 + 0; omega)
theorem dX12_needs_20 : decode cX12_needs 20 = .ok (.iconst (-1), 1) := by decide +kernel
theorem dX12_needs_21 : decode cX12_needs 21 = .ok (.ireturn, 1) := by decide +kernel
theorem dX12_needs_28 : decode cX12_needs 28 = .ok (.istore_n 3, 1) := by decide +kernel
theorem dX12_needs_29 : decode cX12_needs 29 = .ok (.iload_n 3, 1) := by decide +kernel
theorem dX12_needs_30 : decode cX12_needs 30 = .ok (.bipush 60, 2) := by decide +kernel
theorem dX12_needs_32 : decode cX12_needs 32 = .ok (.if_icmp .le 7, 3) := by decide +kernel
theorem dX12_needs_35 : decode cX12_needs 35 = .ok (.iconst (-1), 1) := by decide +kernel
theorem dX12_needs_36 : decode cX12_needs 36 = .ok (.goto 4, 3) := by decide +kernel
theorem dX12_needs_39 : decode cX12_needs 39 = .ok (.iload_n 3, 1) := by decide +kernel
theorem dX12_needs_40 : decode cX12_needs 40 = .ok (.ireturn, 1) := by decide +kernel
set_option maxHeartbeats 4000000 in
set_option maxRecDepth 100000 in
theorem s_X12_needs {P : PP} {a0 : Nat} {a1 : Int32} {a2 : Int32} (I : IM P a0) (hW : MW P a0) : CtrI yX12_needs cX12_needs 4 (some Jvm.ClassFile.FieldType.int) ({ frames := 5, cells := 0, slots := 0, locals := 320 } : Room) 0 0 P [.ref a0, .int a1, .int a2] (fun r P2 => IM P2 a0 ∧ EM [0, 28, 29, 30, 31, 35, 36, 37, 38] a0 P P2 ∧ MW P2 a0 ∧ (-1 ≤ r.toInt ∧ r.toInt ≤ 60)) := by
  refine enI (lv := [(0, .ref a0), (1, .int a1), (2, .int a2)]) (by decide) (Nat.le_of_ble_eq_true rfl) rfl (fun E D cy C Ci0 ret => ?_)
  have ha0 := I.2.1
  have J20 : ∀ (P20 : PP), (IM P20 a0) → (EM [0, 28, 29, 30, 31, 35, 36, 37, 38] a0 P P20) → (MW P20 a0) → (0 ≤ (pI P20 a0 0).toInt ∧ (pI P20 a0 0).toInt ≤ 0) → G E ({ frames := 5, cells := 0, slots := 0, locals := 320 } : Room) D cy 4 P20 0 0 20 [] [] := by
    intro P20 I20 X20 W20 hq20_0
    have h94824 := X20.at ha0
    refine g_iconst (v := (-1)) C dX12_needs_20 (by decide) ?_
    exact ret _ _ _ _ _ _ dX12_needs_21 rfl (by decide) (by decide) ⟨I20, X20, W20, (by decide)⟩
  refine g_aload_n C dX12_needs_0 rfl 0 rfl ?_
  refine g_iconst (v := 0) C dX12_needs_1 (by decide) ?_
  refine g_putI C fi_X12_1 rfl (ha0).1 (ha0).2 dX12_needs_2 ?_
  refine gqW (ks := [0]) (I.setI (rgOk.of rfl (by decide))) (EM.setI I (by decide)) (fun Y94825 Iy94826 Xy94827 w94828  => ?_)
  have w94828 : (pI Y94825 a0 0).toInt = 0 := w94828
  have W94829 := hW.keep I Xy94827 (by decide) (by decide) (by decide) (by decide)
  have Xz94830 : EM [0, 28, 29, 30, 31, 35, 36, 37, 38] a0 P Y94825 := Xy94827.mono (by decide)
  have h94831 := Xy94827.at ha0
  refine g_iload_n C dX12_needs_5 rfl 1 rfl ?_
  refine g_callSI (b := 0) (ci := 0) (rest := []) C ms_X12_278 [.int a1] (s_X12_isQuarter Iy94826.1) rfl rfl (by decide) (Nat.le_of_ble_eq_true rfl) (by decide) dX12_needs_6 (fun r94832 Y94833 h94834 => ?_)
  obtain ⟨rfl, h94834⟩ := h94834
  obtain ⟨h94834, hi94835⟩ := h94834
  have hi94835 : r94832.toInt = 0 ∨ (((0 : Int) ≤ a1.toInt ∧ a1.toInt ≤ (3 : Int))) := hi94835
  have h94834 : 0 ≤ r94832.toInt ∧ r94832.toInt ≤ 1 := h94834
  refine b_if_eq C 20 dX12_needs_9 (by decide) (fun h94836 => ?_) (fun h94836 => ?_)
  · have h94836 : r94832.toInt = 0 := congrArg Int32.toInt h94836
    clear hi94835
    refine g_lv (lv' := []) [] rfl ?_
    exact J20 Y94825 Iy94826 Xz94830 W94829 (by omega)
  · have h94836 : r94832.toInt ≠ 0 := ti_ne h94836
    replace hi94835 := hi94835.resolve_left (by omega)
    refine g_aload_n C dX12_needs_12 rfl 0 rfl ?_
    refine g_iload_n C dX12_needs_13 rfl 2 rfl ?_
    refine g_callVI (rest := []) C mv_X12_192 [.int a2] (s_X12_isBook Iy94826 W94829) (h94831).1 (h94831).2 rfl rfl (by decide) (Nat.le_of_ble_eq_true rfl) (by decide) dX12_needs_14 (fun r94837 Y94838 h94839 => ?_)
    obtain ⟨rfl, h94839⟩ := h94839
    obtain ⟨h94839, hi94840, hi94841⟩ := h94839
    have hi94840 : r94837.toInt = 0 ∨ (((0 : Int) ≤ a2.toInt ∧ a2.toInt ≤ (1 : Int))) := hi94840
    have h94839 : 0 ≤ r94837.toInt ∧ r94837.toInt ≤ 1 := h94839
    refine b_if_ne C 22 dX12_needs_17 (by decide) (fun h94842 => ?_) (fun h94842 => ?_)
    · have h94842 : r94837.toInt ≠ 0 := ti_ne h94842
      replace hi94840 := hi94840.resolve_left (by omega)
      obtain ⟨b94843, e94844, h94845⟩ := Iy94826.fld (h94831) 10 13 2 rfl
      have hi94841 := (hi94841.resolve_left (by omega)) b94843 e94844
      have hi94841 : 0 < (pI Y94825 b94843 (a2.toInt.toNat)).toInt := hi94841
      have h94846 := Iy94826.arr e94844 rfl (a2.toInt.toNat)
      refine g_aload_n C dX12_needs_22 rfl 0 rfl ?_
      refine g_iload_n C dX12_needs_23 rfl 1 rfl ?_
      refine g_iload_n C dX12_needs_24 rfl 2 rfl ?_
      refine g_callVI (rest := []) C mv_X12_408 [.int a1, .int a2] (s_X12_needsOf Iy94826 (by omega) (by omega) (fun b9 e9 => by rw [e94844] at e9; cases e9; show 1 ≤ (pI Y94825 b94843 (a2.toInt.toNat)).toInt ∧ (pI Y94825 b94843 (a2.toInt.toNat)).toInt ≤ 16; omega) W94829) (h94831).1 (h94831).2 rfl rfl (by decide) (Nat.le_of_ble_eq_true rfl) (by decide) dX12_needs_25 (fun r94847 Y94848 h94849 => ?_)
      obtain ⟨Iy94850, Xy94851, W94852, h94849⟩ := h94849
      have q94853 := Xy94851.keepF 0 (by decide)
      have q94854 := Xy94851.keepA e94844 (by decide) rfl (a2.toInt.toNat)
      have Xz94855 : EM [0, 28, 29, 30, 31, 35, 36, 37, 38] a0 P Y94848 := EM.tr ha0 Xz94830 (Xy94851.mono (by decide))
      have e94856 := Xy94851.ref h94831 (by decide) e94844
      have h94857 := Xy94851.at h94831
      have h94858 := Xy94851.ar h94845
      have h94849 : 0 ≤ r94847.toInt ∧ r94847.toInt ≤ 61 := h94849
      refine g_istore_n (lv' := [(3, .int r94847), (0, .ref a0), (1, .int a1), (2, .int a2)]) C dX12_needs_28 rfl (by decide) rfl ?_
      refine g_iload_n C dX12_needs_29 rfl 0 rfl ?_
      refine g_bipush (v := 60) C dX12_needs_30 (by decide) ?_
      refine b_icmp_le C 39 dX12_needs_32 (by decide) (fun h94859 => ?_) (fun h94859 => ?_)
      · have h94859 : r94847.toInt ≤ 60 := h94859
        refine g_iload_n C dX12_needs_39 rfl 0 rfl ?_
        exact ret _ _ _ _ _ _ dX12_needs_40 rfl (by decide) (by decide) ⟨Iy94850, Xz94855, W94852, (by omega)⟩
      · have h94859 : 60 < r94847.toInt := h94859
        refine g_iconst (v := (-1)) C dX12_needs_35 (by decide) ?_
        refine g_goto C 40 dX12_needs_36 (by decide) ?_
        exact ret _ _ _ _ _ _ dX12_needs_40 rfl (by decide) (by decide) ⟨Iy94850, Xz94855, W94852, (by decide)⟩
    · have h94842 : r94837.toInt = 0 := congrArg Int32.toInt h94842
      clear hi94840
      refine g_lv (lv' := []) [] rfl ?_
      exact J20 Y94825 Iy94826 Xz94830 W94829 (by omega)
theorem dX12_page_0 : decode cX12_page 0 = .ok (.aload_n 0, 1) := by decide +kernel
theorem dX12_page_1 : decode cX12_page 1 = .ok (.iconst 0, 1) := by decide +kernel
theorem dX12_page_2 : decode cX12_page 2 = .ok (.putfield 1, 3) := by decide +kernel
theorem dX12_page_5 : decode cX12_page 5 = .ok (.aload_n 0, 1) := by decide +kernel
theorem dX12_page_6 : decode cX12_page 6 = .ok (.iload_n 1, 1) := by decide +kernel
theorem dX12_page_7 : decode cX12_page 7 = .ok (.invokevirtual 192, 3) := by decide +kernel
theorem dX12_page_10 : decode cX12_page 10 = .ok (.ifCond .eq 37, 3) := by decide +kernel
theorem dX12_page_13 : decode cX12_page 13 = .ok (.iload_n 2, 1) := by decide +kernel
theorem dX12_page_14 : decode cX12_page 14 = .ok (.iconst 0, 1) := by decide +kernel
theorem dX12_page_15 : decode cX12_page 15 = .ok (.aload_n 0, 1) := by decide +kernel
theorem dX12_page_16 : decode cX12_page 16 = .ok (.getfield 45, 3) := by decide +kernel
theorem dX12_page_19 : decode cX12_page 19 = .ok (.iload_n 1, 1) := by decide +kernel
theorem dX12_page_20 : decode cX12_page 20 = .ok (.iaload, 1) := by decide +kernel
theorem dX12_page_21 : decode cX12_page 21 = .ok (.iconst 1, 1) := by decide +kernel
theorem dX12_page_22 : decode cX12_page 22 = .ok (.isub, 1) := by decide +kernel
theorem dX12_page_23 : decode cX12_page 23 = .ok (.invokestatic 178, 3) := by decide +kernel
theorem dX12_page_26 : decode cX12_page 26 = .ok (.ifCond .eq 21, 3) := by decide +kernel
theorem dX12_page_29 : decode cX12_page 29 = .ok (.iload_n 3, 1) := by decide +kernel
theorem dX12_page_30 : decode cX12_page 30 = .ok (.iconst 0, 1) := by decide +kernel
theorem dX12_page_31 : decode cX12_page 31 = .ok (.ldc 195, 2) := by decide +kernel
theorem dX12_page_33 : decode cX12_page 33 = .ok (.invokestatic 178, 3) := by decide +kernel
theorem dX12_page_36 : decode cX12_page 36 = .ok (.ifCond .eq 11, 3) := by decide +kernel
theorem dX12_page_39 : decode cX12_page 39 = .ok (.aload_n 0, 1) := by decide +kernel
theorem dX12_page_40 : decode cX12_page 40 = .ok (.iload_n 1, 1) := by decide +kernel
theorem dX12_page_41 : decode cX12_page 41 = .ok (.invokevirtual 196, 3) := by decide +kernel
theorem dX12_page_44 : decode cX12_page 44 = .ok (.ifCond .eq 5, 3) := by decide +kernel
theorem dX12_page_47 : decode cX12_page 47 = .ok (.iconst 0, 1) := by decide +kernel
theorem dX12_page_48 : decode cX12_page 48 = .ok (.ireturn, 1) := by decide +kernel
theorem dX12_page_49 : decode cX12_page 49 = .ok (.aload_n 0, 1) := by decide +kernel
theorem dX12_page_50 : decode cX12_page 50 = .ok (.getfield 48, 3) := by decide +kernel
theorem dX12_page_53 : decode cX12_page 53 = .ok (.bipush 16, 2) := by decide +kernel
theorem dX12_page_55 : decode cX12_page 55 = .ok (.iload_n 1, 1) := by decide +kernel
theorem dX12_page_56 : decode cX12_page 56 = .ok (.imul, 1) := by decide +kernel
theorem dX12_page_57 : decode cX12_page 57 = .ok (.iload_n 2, 1) := by decide +kernel
theorem dX12_page_58 : decode cX12_page 58 = .ok (.iadd, 1) := by decide +kernel
theorem dX12_page_59 : decode cX12_page 59 = .ok (.iload_n 3, 1) := by decide +kernel
theorem dX12_page_60 : decode cX12_page 60 = .ok (.iastore, 1) := by decide +kernel
theorem dX12_page_61 : decode cX12_page 61 = .ok (.iconst 1, 1) := by decide +kernel
theorem dX12_page_62 : decode cX12_page 62 = .ok (.ireturn, 1) := by decide +kernel
set_option maxHeartbeats 4000000 in
set_option maxRecDepth 100000 in
theorem s_X12_page {P : PP} {a0 : Nat} {a1 : Int32} {a2 : Int32} {a3 : Int32} (I : IM P a0) (hW : MW P a0) : CtrI yX12_page cX12_page 4 (some Jvm.ClassFile.FieldType.boolean) ({ frames := 3, cells := 0, slots := 0, locals := 192 } : Room) 0 0 P [.ref a0, .int a1, .int a2, .int a3] (fun r P2 => IM P2 a0 ∧ EM [0, 11] a0 P P2 ∧ MW P2 a0 ∧ (0 ≤ r.toInt ∧ r.toInt ≤ 1) ∧ (r.toInt = 0 ∨ (((0 : Int) ≤ a1.toInt ∧ a1.toInt ≤ (1 : Int)) ∧ ((0 : Int) ≤ a2.toInt ∧ a2.toInt ≤ (15 : Int)) ∧ ((0 : Int) ≤ a3.toInt ∧ a3.toInt ≤ (65535 : Int))))) := by
  refine enI (lv := [(0, .ref a0), (1, .int a1), (2, .int a2), (3, .int a3)]) (by decide) (Nat.le_of_ble_eq_true rfl) rfl (fun E D cy C Ci0 ret => ?_)
  have ha0 := I.2.1
  have J47 : ∀ (P47 : PP), (IM P47 a0) → (EM [0, 11] a0 P P47) → (MW P47 a0) → (0 ≤ (pI P47 a0 0).toInt ∧ (pI P47 a0 0).toInt ≤ 0) → G E ({ frames := 3, cells := 0, slots := 0, locals := 192 } : Room) D cy 4 P47 0 0 47 [] [] := by
    intro P47 I47 X47 W47 hq47_0
    have h94914 := X47.at ha0
    refine g_iconst (v := 0) C dX12_page_47 (by decide) ?_
    exact ret _ _ _ _ _ _ dX12_page_48 rfl (by decide) (by decide) ⟨I47, X47, W47, (by decide), Or.inl rfl⟩
  refine g_aload_n C dX12_page_0 rfl 0 rfl ?_
  refine g_iconst (v := 0) C dX12_page_1 (by decide) ?_
  refine g_putI C fi_X12_1 rfl (ha0).1 (ha0).2 dX12_page_2 ?_
  refine gqW (ks := [0]) (I.setI (rgOk.of rfl (by decide))) (EM.setI I (by decide)) (fun Y94915 Iy94916 Xy94917 w94918  => ?_)
  have w94918 : (pI Y94915 a0 0).toInt = 0 := w94918
  have W94919 := hW.keep I Xy94917 (by decide) (by decide) (by decide) (by decide)
  have Xz94920 : EM [0, 11] a0 P Y94915 := Xy94917.mono (by decide)
  have h94921 := Xy94917.at ha0
  refine g_aload_n C dX12_page_5 rfl 0 rfl ?_
  refine g_iload_n C dX12_page_6 rfl 1 rfl ?_
  refine g_callVI (rest := []) C mv_X12_192 [.int a1] (s_X12_isBook Iy94916 W94919) (h94921).1 (h94921).2 rfl rfl (by decide) (Nat.le_of_ble_eq_true rfl) (by decide) dX12_page_7 (fun r94922 Y94923 h94924 => ?_)
  obtain ⟨rfl, h94924⟩ := h94924
  obtain ⟨h94924, hi94925, hi94926⟩ := h94924
  have hi94925 : r94922.toInt = 0 ∨ (((0 : Int) ≤ a1.toInt ∧ a1.toInt ≤ (1 : Int))) := hi94925
  have h94924 : 0 ≤ r94922.toInt ∧ r94922.toInt ≤ 1 := h94924
  refine b_if_eq C 47 dX12_page_10 (by decide) (fun h94927 => ?_) (fun h94927 => ?_)
  · have h94927 : r94922.toInt = 0 := congrArg Int32.toInt h94927
    clear hi94925
    refine g_lv (lv' := []) [] rfl ?_
    exact J47 Y94915 Iy94916 Xz94920 W94919 (by omega)
  · have h94927 : r94922.toInt ≠ 0 := ti_ne h94927
    replace hi94925 := hi94925.resolve_left (by omega)
    obtain ⟨b94928, e94929, h94930⟩ := Iy94916.fld (h94921) 10 13 2 rfl
    have hi94926 := (hi94926.resolve_left (by omega)) b94928 e94929
    have hi94926 : 0 < (pI Y94915 b94928 (a1.toInt.toNat)).toInt := hi94926
    have h94931 := Iy94916.arr e94929 rfl (a1.toInt.toNat)
    refine g_iload_n C dX12_page_13 rfl 2 rfl ?_
    refine g_iconst (v := 0) C dX12_page_14 (by decide) ?_
    refine g_aload_n C dX12_page_15 rfl 0 rfl ?_
    refine g_getR C fi_X12_45 rfl e94929 (h94921).1 (h94921).2 dX12_page_16 ?_
    refine g_iload_n C dX12_page_19 rfl 1 rfl ?_
    refine g_iald (j := (a1.toInt.toNat)) C h94930.1 h94930.2.1 (ix_in h94930.2.2 (by omega)) dX12_page_20 ?_
    refine g_iconst (v := 1) C dX12_page_21 (by decide) ?_
    refine s_isub C dX12_page_22 (by show -2147483648 ≤ (pI Y94915 b94928 (a1.toInt.toNat)).toInt - 1 ∧ (pI Y94915 b94928 (a1.toInt.toNat)).toInt - 1 ≤ 2147483647; omega) (fun z94932 h94933 => ?_)
    have h94933 : z94932.toInt = (pI Y94915 b94928 (a1.toInt.toNat)).toInt - 1 := h94933
    refine g_callSI (b := 0) (ci := 0) (rest := []) C ms_X12_178 [.int a2, .int 0, .int z94932] (s_X12_within Iy94916.1) rfl rfl (by decide) (Nat.le_of_ble_eq_true rfl) (by decide) dX12_page_23 (fun r94934 Y94935 h94936 => ?_)
    obtain ⟨rfl, h94936⟩ := h94936
    obtain ⟨h94936, hi94937⟩ := h94936
    have hi94937 : r94934.toInt = 0 ∨ (0 ≤ a2.toInt ∧ a2.toInt ≤ z94932.toInt) := hi94937
    have h94936 : 0 ≤ r94934.toInt ∧ r94934.toInt ≤ 1 := h94936
    refine b_if_eq C 47 dX12_page_26 (by decide) (fun h94938 => ?_) (fun h94938 => ?_)
    · have h94938 : r94934.toInt = 0 := congrArg Int32.toInt h94938
      clear hi94937
      refine g_lv (lv' := []) [] rfl ?_
      exact J47 Y94915 Iy94916 Xz94920 W94919 (by omega)
    · have h94938 : r94934.toInt ≠ 0 := ti_ne h94938
      replace hi94937 := hi94937.resolve_left (by omega)
      refine g_iload_n C dX12_page_29 rfl 3 rfl ?_
      refine g_iconst (v := 0) C dX12_page_30 (by decide) ?_
      refine g_ldc (v := 65535) C kc_X12_195 dX12_page_31 ?_
      refine g_callSI (b := 0) (ci := 0) (rest := []) C ms_X12_178 [.int a3, .int 0, .int 65535] (s_X12_within Iy94916.1) rfl rfl (by decide) (Nat.le_of_ble_eq_true rfl) (by decide) dX12_page_33 (fun r94939 Y94940 h94941 => ?_)
      obtain ⟨rfl, h94941⟩ := h94941
      obtain ⟨h94941, hi94942⟩ := h94941
      have hi94942 : r94939.toInt = 0 ∨ (0 ≤ a3.toInt ∧ a3.toInt ≤ 65535) := hi94942
      have h94941 : 0 ≤ r94939.toInt ∧ r94939.toInt ≤ 1 := h94941
      refine b_if_eq C 47 dX12_page_36 (by decide) (fun h94943 => ?_) (fun h94943 => ?_)
      · have h94943 : r94939.toInt = 0 := congrArg Int32.toInt h94943
        clear hi94942
        refine g_lv (lv' := []) [] rfl ?_
        exact J47 Y94915 Iy94916 Xz94920 W94919 (by omega)
      · have h94943 : r94939.toInt ≠ 0 := ti_ne h94943
        replace hi94942 := hi94942.resolve_left (by omega)
        refine g_aload_n C dX12_page_39 rfl 0 rfl ?_
        refine g_iload_n C dX12_page_40 rfl 1 rfl ?_
        refine g_callVI (rest := []) C mv_X12_196 [.int a1] (s_X12_isOut Iy94916 W94919) (h94921).1 (h94921).2 rfl rfl (by decide) (Nat.le_of_ble_eq_true rfl) (by decide) dX12_page_41 (fun r94944 Y94945 h94946 => ?_)
        obtain ⟨rfl, h94946⟩ := h94946
        have h94946 : 0 ≤ r94944.toInt ∧ r94944.toInt ≤ 1 := h94946
        refine b_if_eq C 49 dX12_page_44 (by decide) (fun h94947 => ?_) (fun h94947 => ?_)
        · have h94947 : r94944.toInt = 0 := congrArg Int32.toInt h94947
          refine g_aload_n C dX12_page_49 rfl 0 rfl ?_
          obtain ⟨b94948, e94949, h94950⟩ := Iy94916.fld (h94921) 11 13 32 rfl
          refine g_getR C fi_X12_48 rfl e94949 (h94921).1 (h94921).2 dX12_page_50 ?_
          refine g_bipush (v := 16) C dX12_page_53 (by decide) ?_
          refine g_iload_n C dX12_page_55 rfl 1 rfl ?_
          refine s_imul C dX12_page_56 (by show -2147483648 ≤ 16 * a1.toInt ∧ 16 * a1.toInt ≤ 2147483647; omega) (fun z94951 h94952 => ?_)
          have h94952 : z94951.toInt = 16 * a1.toInt := h94952
          refine g_iload_n C dX12_page_57 rfl 2 rfl ?_
          refine s_iadd C dX12_page_58 (by show -2147483648 ≤ z94951.toInt + a2.toInt ∧ z94951.toInt + a2.toInt ≤ 2147483647; omega) (fun z94953 h94954 => ?_)
          have h94954 : z94953.toInt = z94951.toInt + a2.toInt := h94954
          refine g_iload_n C dX12_page_59 rfl 3 rfl ?_
          refine g_iast (j := (z94953.toInt.toNat)) C h94950.1 h94950.2.1 (ix_in h94950.2.2 (by omega)) dX12_page_60 ?_
          refine gqW (ks := [11]) (Iy94916.setA e94949 h94950 (by decide) (arOk.none rfl)) (EM.setA Iy94916 e94949 rfl (by decide)) (fun Y94955 Iy94956 Xy94957 w94958  => ?_)
          have w94958 : (pI Y94955 b94948 (z94953.toInt.toNat)).toInt = a3.toInt := w94958
          have q94959 := Xy94957.keepF 0 (by decide)
          have q94960 := Xy94957.keepA e94929 (by decide) rfl (a1.toInt.toNat)
          have W94961 := W94919.keep Iy94916 Xy94957 (by decide) (by decide) (by decide) (by decide)
          have Xz94962 : EM [0, 11] a0 P Y94955 := EM.tr ha0 Xz94920 (Xy94957.mono (by decide))
          have e94963 := Xy94957.ref h94921 (by decide) e94929
          have e94964 := Xy94957.ref h94921 (by decide) e94949
          have h94965 := Xy94957.at h94921
          have h94966 := Xy94957.ar h94930
          have h94967 := Xy94957.ar h94950
          refine g_iconst (v := 1) C dX12_page_61 (by decide) ?_
          exact ret _ _ _ _ _ _ dX12_page_62 rfl (by decide) (by decide) ⟨Iy94956, Xz94962, W94961, (by decide), Or.inr (by omega)⟩
        · have h94947 : r94944.toInt ≠ 0 := ti_ne h94947
          refine g_lv (lv' := []) [] rfl ?_
          exact J47 Y94915 Iy94916 Xz94920 W94919 (by omega)
theorem dX12_paper_0 : decode cX12_paper 0 = .ok (.aload_n 0, 1) := by decide +kernel
theorem dX12_paper_1 : decode cX12_paper 1 = .ok (.aload_n 0, 1) := by decide +kernel
theorem dX12_paper_2 : decode cX12_paper 2 = .ok (.iload_n 1, 1) := by decide +kernel
theorem dX12_paper_3 : decode cX12_paper 3 = .ok (.iload_n 2, 1) := by decide +kernel
theorem dX12_paper_4 : decode cX12_paper 4 = .ok (.invokevirtual 298, 3) := by decide +kernel
theorem dX12_paper_7 : decode cX12_paper 7 = .ok (.ifCond .eq 16, 3) := by decide +kernel
theorem dX12_paper_10 : decode cX12_paper 10 = .ok (.iload_n 3, 1) := by decide +kernel
theorem dX12_paper_11 : decode cX12_paper 11 = .ok (.iconst 0, 1) := by decide +kernel
theorem dX12_paper_12 : decode cX12_paper 12 = .ok (.iconst 5, 1) := by decide +kernel
theorem dX12_paper_13 : decode cX12_paper 13 = .ok (.invokestatic 178, 3) := by decide +kernel
theorem dX12_paper_16 : decode cX12_paper 16 = .ok (.ifCond .eq 7, 3) := by decide +kernel
theorem dX12_paper_19 : decode cX12_paper 19 = .ok (.iconst 0, 1) := by decide +kernel
theorem dX12_paper_20 : decode cX12_paper 20 = .ok (.goto 4, 3) := by decide +kernel
theorem dX12_paper_23 : decode cX12_paper 23 = .ok (.iconst 1, 1) := by decide +kernel
theorem dX12_paper_24 : decode cX12_paper 24 = .ok (.putfield 1, 3) := by decide +kernel
theorem dX12_paper_27 : decode cX12_paper 27 = .ok (.aload_n 0, 1) := by decide +kernel
theorem dX12_paper_28 : decode cX12_paper 28 = .ok (.getfield 1, 3) := by decide +kernel
theorem dX12_paper_31 : decode cX12_paper 31 = .ok (.ifCond .le 5, 3) := by decide +kernel
theorem dX12_paper_36 : decode cX12_paper 36 = .ok (.bipush 40, 2) := by decide +kernel
theorem dX12_paper_38 : decode cX12_paper 38 = .ok (.iload_n 1, 1) := by decide +kernel
theorem dX12_paper_39 : decode cX12_paper 39 = .ok (.imul, 1) := by decide +kernel
theorem dX12_paper_40 : decode cX12_paper 40 = .ok (.iload_n 2, 1) := by decide +kernel
theorem dX12_paper_41 : decode cX12_paper 41 = .ok (.iadd, 1) := by decide +kernel
theorem dX12_paper_42 : decode cX12_paper 42 = .ok (.istore 4, 2) := by decide +kernel
theorem dX12_paper_44 : decode cX12_paper 44 = .ok (.iload_n 3, 1) := by decide +kernel
theorem dX12_paper_45 : decode cX12_paper 45 = .ok (.tableswitch 75 0 4 #[35, 43, 51, 59, 67], 35) := by decide +kernel
theorem dX12_paper_120 : decode cX12_paper 120 = .ok (.aload_n 0, 1) := by decide +kernel
theorem dX12_paper_121 : decode cX12_paper 121 = .ok (.getfield 75, 3) := by decide +kernel
theorem dX12_paper_124 : decode cX12_paper 124 = .ok (.iload 4, 2) := by decide +kernel
theorem dX12_paper_126 : decode cX12_paper 126 = .ok (.iaload, 1) := by decide +kernel
theorem dX12_paper_127 : decode cX12_paper 127 = .ok (.ifCond .ge 7, 3) := by decide +kernel
theorem dX12_paper_134 : decode cX12_paper 134 = .ok (.aload_n 0, 1) := by decide +kernel
theorem dX12_paper_135 : decode cX12_paper 135 = .ok (.iload_n 1, 1) := by decide +kernel
theorem dX12_paper_136 : decode cX12_paper 136 = .ok (.iload_n 2, 1) := by decide +kernel
theorem dX12_paper_137 : decode cX12_paper 137 = .ok (.invokevirtual 358, 3) := by decide +kernel
theorem dX12_unknownOf_0 : decode cX12_unknownOf 0 = .ok (.bipush 40, 2) := by decide +kernel
theorem dX12_unknownOf_2 : decode cX12_unknownOf 2 = .ok (.iload_n 1, 1) := by decide +kernel
theorem dX12_unknownOf_3 : decode cX12_unknownOf 3 = .ok (.imul, 1) := by decide +kernel
theorem dX12_unknownOf_4 : decode cX12_unknownOf 4 = .ok (.iload_n 2, 1) := by decide +kernel
theorem dX12_unknownOf_5 : decode cX12_unknownOf 5 = .ok (.iadd, 1) := by decide +kernel
theorem dX12_unknownOf_6 : decode cX12_unknownOf 6 = .ok (.istore_n 3, 1) := by decide +kernel
theorem dX12_unknownOf_7 : decode cX12_unknownOf 7 = .ok (.aload_n 0, 1) := by decide +kernel
theorem dX12_unknownOf_8 : decode cX12_unknownOf 8 = .ok (.getfield 75, 3) := by decide +kernel
theorem dX12_unknownOf_11 : decode cX12_unknownOf 11 = .ok (.iload_n 3, 1) := by decide +kernel
theorem dX12_unknownOf_12 : decode cX12_unknownOf 12 = .ok (.iaload, 1) := by decide +kernel
theorem dX12_unknownOf_13 : decode cX12_unknownOf 13 = .ok (.istore 4, 2) := by decide +kernel
theorem dX12_unknownOf_15 : decode cX12_unknownOf 15 = .ok (.aload_n 0, 1) := by decide +kernel
theorem dX12_unknownOf_16 : decode cX12_unknownOf 16 = .ok (.invokevirtual 336, 3) := by decide +kernel
theorem dX12_unknownOf_19 : decode cX12_unknownOf 19 = .ok (.aload_n 0, 1) := by decide +kernel
theorem dX12_unknownOf_20 : decode cX12_unknownOf 20 = .ok (.iload 4, 2) := by decide +kernel
theorem dX12_unknownOf_22 : decode cX12_unknownOf 22 = .ok (.aload_n 0, 1) := by decide +kernel
theorem dX12_unknownOf_23 : decode cX12_unknownOf 23 = .ok (.getfield 72, 3) := by decide +kernel
theorem dX12_unknownOf_26 : decode cX12_unknownOf 26 = .ok (.iload_n 3, 1) := by decide +kernel
theorem dX12_unknownOf_27 : decode cX12_unknownOf 27 = .ok (.iaload, 1) := by decide +kernel
theorem dX12_unknownOf_28 : decode cX12_unknownOf 28 = .ok (.invokevirtual 261, 3) := by decide +kernel
theorem dX12_unknownOf_31 : decode cX12_unknownOf 31 = .ok (.istore 5, 2) := by decide +kernel
theorem dX12_unknownOf_33 : decode cX12_unknownOf 33 = .ok (.iconst 0, 1) := by decide +kernel
theorem dX12_unknownOf_34 : decode cX12_unknownOf 34 = .ok (.istore 6, 2) := by decide +kernel
theorem dX12_unknownOf_36 : decode cX12_unknownOf 36 = .ok (.iconst 0, 1) := by decide +kernel
theorem dX12_unknownOf_37 : decode cX12_unknownOf 37 = .ok (.istore 7, 2) := by decide +kernel
theorem dX12_unknownOf_39 : decode cX12_unknownOf 39 = .ok (.iload 7, 2) := by decide +kernel
theorem dX12_unknownOf_41 : decode cX12_unknownOf 41 = .ok (.iconst 2, 1) := by decide +kernel
theorem dX12_unknownOf_42 : decode cX12_unknownOf 42 = .ok (.if_icmp .ge 57, 3) := by decide +kernel
theorem dX12_unknownOf_45 : decode cX12_unknownOf 45 = .ok (.aload_n 0, 1) := by decide +kernel
theorem dX12_unknownOf_46 : decode cX12_unknownOf 46 = .ok (.getfield 81, 3) := by decide +kernel
theorem dX12_unknownOf_49 : decode cX12_unknownOf 49 = .ok (.iload_n 3, 1) := by decide +kernel
theorem dX12_unknownOf_50 : decode cX12_unknownOf 50 = .ok (.iaload, 1) := by decide +kernel
theorem dX12_unknownOf_51 : decode cX12_unknownOf 51 = .ok (.iload 7, 2) := by decide +kernel
theorem dX12_unknownOf_53 : decode cX12_unknownOf 53 = .ok (.ishr, 1) := by decide +kernel
theorem dX12_unknownOf_54 : decode cX12_unknownOf 54 = .ok (.iconst 1, 1) := by decide +kernel
theorem dX12_unknownOf_55 : decode cX12_unknownOf 55 = .ok (.iand, 1) := by decide +kernel
theorem dX12_unknownOf_56 : decode cX12_unknownOf 56 = .ok (.iconst 1, 1) := by decide +kernel
theorem dX12_unknownOf_57 : decode cX12_unknownOf 57 = .ok (.if_icmp .ne 36, 3) := by decide +kernel
theorem dX12_unknownOf_60 : decode cX12_unknownOf 60 = .ok (.aload_n 0, 1) := by decide +kernel
theorem dX12_unknownOf_61 : decode cX12_unknownOf 61 = .ok (.iload_n 1, 1) := by decide +kernel
theorem dX12_unknownOf_62 : decode cX12_unknownOf 62 = .ok (.iload 4, 2) := by decide +kernel
theorem dX12_unknownOf_64 : decode cX12_unknownOf 64 = .ok (.iload 7, 2) := by decide +kernel
theorem dX12_unknownOf_66 : decode cX12_unknownOf 66 = .ok (.aload_n 0, 1) := by decide +kernel
theorem dX12_unknownOf_67 : decode cX12_unknownOf 67 = .ok (.getfield 69, 3) := by decide +kernel
theorem dX12_unknownOf_70 : decode cX12_unknownOf 70 = .ok (.iload_n 1, 1) := by decide +kernel
theorem dX12_unknownOf_71 : decode cX12_unknownOf 71 = .ok (.iaload, 1) := by decide +kernel
theorem dX12_unknownOf_72 : decode cX12_unknownOf 72 = .ok (.invokevirtual 339, 3) := by decide +kernel
theorem dX12_unknownOf_75 : decode cX12_unknownOf 75 = .ok (.aload_n 0, 1) := by decide +kernel
theorem dX12_unknownOf_76 : decode cX12_unknownOf 76 = .ok (.invokevirtual 343, 3) := by decide +kernel
theorem dX12_unknownOf_79 : decode cX12_unknownOf 79 = .ok (.iload 6, 2) := by decide +kernel
theorem dX12_unknownOf_81 : decode cX12_unknownOf 81 = .ok (.iload 5, 2) := by decide +kernel
theorem dX12_unknownOf_83 : decode cX12_unknownOf 83 = .ok (.aload_n 0, 1) := by decide +kernel
theorem dX12_unknownOf_84 : decode cX12_unknownOf 84 = .ok (.getfield 318, 3) := by decide +kernel
theorem dX12_unknownOf_87 : decode cX12_unknownOf 87 = .ok (.iconst (-1), 1) := by decide +kernel
theorem dX12_unknownOf_88 : decode cX12_unknownOf 88 = .ok (.ixor, 1) := by decide +kernel
theorem dX12_unknownOf_89 : decode cX12_unknownOf 89 = .ok (.iand, 1) := by decide +kernel
theorem dX12_unknownOf_90 : decode cX12_unknownOf 90 = .ok (.ior, 1) := by decide +kernel
theorem dX12_unknownOf_91 : decode cX12_unknownOf 91 = .ok (.istore 6, 2) := by decide +kernel
theorem dX12_unknownOf_93 : decode cX12_unknownOf 93 = .ok (.iinc 7 1, 3) := by decide +kernel
theorem dX12_unknownOf_96 : decode cX12_unknownOf 96 = .ok (.goto (-57), 3) := by decide +kernel
theorem dX12_unknownOf_99 : decode cX12_unknownOf 99 = .ok (.iload 6, 2) := by decide +kernel
theorem dX12_unknownOf_101 : decode cX12_unknownOf 101 = .ok (.invokestatic 264, 3) := by decide +kernel
theorem dX12_unknownOf_104 : decode cX12_unknownOf 104 = .ok (.ireturn, 1) := by decide +kernel
set_option maxHeartbeats 4000000 in
set_option maxRecDepth 100000 in
theorem s_X12_unknownOf {P : PP} {a0 : Nat} {a1 : Int32} {a2 : Int32} (I : IM P a0) (ha1 : 0 ≤ a1.toInt ∧ a1.toInt ≤ 3) (ha2 : 0 ≤ a2.toInt ∧ a2.toInt ≤ 39) (hW : MW P a0) (hb : ∀ b, pR P a0 22 = some b → 0 ≤ (pI P b (40 * a1.toInt + a2.toInt).toNat).toInt) (hk : okc P a0 (40 * a1.toInt + a2.toInt).toNat) : CtrI yX12_unknownOf cX12_unknownOf 8 (some Jvm.ClassFile.FieldType.int) ({ frames := 5, cells := 0, slots := 0, locals := 320 } : Room) 0 0 P [.ref a0, .int a1, .int a2] (fun r P2 => IM P2 a0 ∧ EM [28, 29, 30, 31, 32, 33, 34] a0 P P2 ∧ MW P2 a0 ∧ (0 ≤ r.toInt ∧ r.toInt ≤ 20)) := by
  refine enI (lv := [(0, .ref a0), (1, .int a1), (2, .int a2)]) (by decide) (Nat.le_of_ble_eq_true rfl) rfl (fun E D cy C Ci0 ret => ?_)
  have ha0 := I.2.1
  have J39 : ∀ (n39 : Nat) (P39 : PP) (v39_3 : Int32) (v39_4 : Int32) (v39_5 : Int32) (v39_6 : Int32) (v39_7 : Int32), (2 - v39_7.toInt).toNat < n39 → (IM P39 a0) → (EM [28, 29, 30, 31, 32, 33, 34] a0 P P39) → (MW P39 a0) → (0 ≤ v39_3.toInt ∧ v39_3.toInt ≤ 159) → (0 ≤ v39_4.toInt ∧ v39_4.toInt ≤ 1) → (0 ≤ v39_7.toInt ∧ v39_7.toInt ≤ 2) → (∀ b910, pR P39 a0 10 = some b910 → 0 < (pI P39 b910 (v39_4.toInt.toNat)).toInt) → G E ({ frames := 5, cells := 0, slots := 0, locals := 320 } : Room) D cy 8 P39 0 0 39 [(0, .ref a0), (1, .int a1), (3, .int v39_3), (4, .int v39_4), (5, .int v39_5), (6, .int v39_6), (7, .int v39_7)] [] := by
    intro n39
    induction n39 with
    | zero => intro P39 v39_3 v39_4 v39_5 v39_6 v39_7 hm39 I39 X39 W39 hv39_3 hv39_4 hv39_7 rel39_0; omega
    | succ n39 ih39 =>
      intro P39 v39_3 v39_4 v39_5 v39_6 v39_7 hm39 I39 X39 W39 hv39_3 hv39_4 hv39_7 rel39_0
      have h95249 := X39.at ha0
      obtain ⟨b95250, e95251, h95252⟩ := I39.fld (h95249) 10 13 2 rfl
      have rel39_0 := rel39_0 b95250 e95251
      have h95253 := I39.arr e95251 rfl (v39_4.toInt.toNat)
      have J93 : ∀ (P93 : PP) (v93_6 : Int32), (IM P93 a0) → (EM [28, 29, 30, 31, 32, 33, 34] a0 P P93) → (MW P93 a0) → (0 ≤ v39_7.toInt ∧ v39_7.toInt ≤ 1) → (∀ b910, pR P93 a0 10 = some b910 → 0 < (pI P93 b910 (v39_4.toInt.toNat)).toInt) → G E ({ frames := 5, cells := 0, slots := 0, locals := 320 } : Room) D cy 8 P93 0 0 93 [(0, .ref a0), (1, .int a1), (3, .int v39_3), (4, .int v39_4), (5, .int v39_5), (6, .int v93_6), (7, .int v39_7)] [] := by
        intro P93 v93_6 I93 X93 W93 hv93_7 rel93_0
        have h95254 := X93.at ha0
        obtain ⟨b95255, e95256, h95257⟩ := I93.fld (h95254) 10 13 2 rfl
        have rel93_0 := rel93_0 b95255 e95256
        have h95258 := I93.arr e95256 rfl (v39_4.toInt.toNat)
        refine s_iinc (lv0 := [(0, .ref a0), (1, .int a1), (3, .int v39_3), (4, .int v39_4), (5, .int v39_5), (6, .int v93_6)]) (m := 1) C dX12_unknownOf_93 6 rfl (by decide) rfl (by decide) (by omega) (fun z95259 h95260 => ?_)
        have h95260 : z95259.toInt = v39_7.toInt + 1 := h95260
        refine g_goto C 39 dX12_unknownOf_96 (by decide) ?_
        refine g_lv (lv' := [(0, .ref a0), (1, .int a1), (3, .int v39_3), (4, .int v39_4), (5, .int v39_5), (6, .int v93_6), (7, .int z95259)]) [1, 2, 3, 4, 5, 6, 0] rfl ?_
        exact ih39 P93 v39_3 v39_4 v39_5 v93_6 z95259 (by omega) I93 X93 W93 (by omega) (by omega) (by omega) (by intro b910 e910; rw [e95256] at e910; cases e910; show 0 < (pI P93 b95255 (v39_4.toInt.toNat)).toInt; omega)
      refine g_iload C dX12_unknownOf_39 6 rfl ?_
      refine g_iconst (v := 2) C dX12_unknownOf_41 (by decide) ?_
      refine b_icmp_ge C 99 dX12_unknownOf_42 (by decide) (fun h95261 => ?_) (fun h95261 => ?_)
      · have h95261 : 2 ≤ v39_7.toInt := h95261
        refine g_iload C dX12_unknownOf_99 5 rfl ?_
        refine g_callSI (b := 0) (ci := 0) (rest := []) C ms_X12_264 [.int v39_6] (s_X12_bits I39.1) rfl rfl (by decide) (Nat.le_of_ble_eq_true rfl) (by decide) dX12_unknownOf_101 (fun r95262 Y95263 h95264 => ?_)
        obtain ⟨rfl, h95264⟩ := h95264
        obtain ⟨h95264, hi95265⟩ := h95264
        have hi95265 : r95262.toInt = 0 ∨ v39_6.toInt ≠ 0 := hi95265
        have h95264 : 0 ≤ r95262.toInt ∧ r95262.toInt ≤ 20 := h95264
        exact ret _ _ _ _ _ _ dX12_unknownOf_104 rfl (by decide) (by decide) ⟨I39, X39, W39, (by omega)⟩
      · have h95261 : v39_7.toInt < 2 := h95261
        refine g_aload_n C dX12_unknownOf_45 rfl 0 rfl ?_
        obtain ⟨b95266, e95267, h95268⟩ := I39.fld (h95249) 24 13 800 rfl
        refine g_getR C fi_X12_81 rfl e95267 (h95249).1 (h95249).2 dX12_unknownOf_46 ?_
        refine g_iload_n C dX12_unknownOf_49 rfl 2 rfl ?_
        refine g_iald (j := (v39_3.toInt.toNat)) C h95268.1 h95268.2.1 (ix_in h95268.2.2 (by omega)) dX12_unknownOf_50 ?_
        refine g_iload C dX12_unknownOf_51 6 rfl ?_
        refine a_ishr C dX12_unknownOf_53 (fun z95269 => ?_)
        refine g_iconst (v := 1) C dX12_unknownOf_54 (by decide) ?_
        refine s_iand C dX12_unknownOf_55 (by show 0 ≤ 1; omega) (fun z95271 h95272 => ?_)
        have h95272 : 0 ≤ z95271.toInt ∧ z95271.toInt ≤ 1 := h95272
        refine g_iconst (v := 1) C dX12_unknownOf_56 (by decide) ?_
        refine b_icmp_ne C 93 dX12_unknownOf_57 (by decide) (fun h95273 => ?_) (fun h95273 => ?_)
        · have h95273 : z95271.toInt ≠ 1 := ti_ne h95273
          exact J93 P39 v39_6 I39 X39 W39 (by omega) (by intro b910 e910; rw [e95251] at e910; cases e910; show 0 < (pI P39 b95250 (v39_4.toInt.toNat)).toInt; omega)
        · have h95273 : z95271.toInt = 1 := congrArg Int32.toInt h95273
          refine g_aload_n C dX12_unknownOf_60 rfl 0 rfl ?_
          refine g_iload_n C dX12_unknownOf_61 rfl 1 rfl ?_
          refine g_iload C dX12_unknownOf_62 3 rfl ?_
          refine g_iload C dX12_unknownOf_64 6 rfl ?_
          refine g_aload_n C dX12_unknownOf_66 rfl 0 rfl ?_
          obtain ⟨b95274, e95275, h95276⟩ := I39.fld (h95249) 20 13 20 rfl
          refine g_getR C fi_X12_69 rfl e95275 (h95249).1 (h95249).2 dX12_unknownOf_67 ?_
          refine g_iload_n C dX12_unknownOf_70 rfl 1 rfl ?_
          refine g_iald (j := (a1.toInt.toNat)) C h95276.1 h95276.2.1 (ix_in h95276.2.2 (by omega)) dX12_unknownOf_71 ?_
          have h95277 := I39.arr e95275 rfl (a1.toInt.toNat)
          refine g_callVV (rest := []) C mv_X12_339 [.int a1, .int v39_4, .int v39_7, .int (pI P39 b95274 (a1.toInt.toNat))] (s_X12_gathers I39 (by omega) (by omega) (by omega) (fun b9 e9 => by rw [e95251] at e9; cases e9; show 1 ≤ (pI P39 b95250 (v39_4.toInt.toNat)).toInt ∧ (pI P39 b95250 (v39_4.toInt.toNat)).toInt ≤ 16; omega) W39) (h95249).1 (h95249).2 rfl rfl (by decide) (Nat.le_of_ble_eq_true rfl) (by decide) dX12_unknownOf_72 (fun Y95279 h95280 => ?_)
          obtain ⟨Iy95281, Xy95282, W95283, p95284, p95285⟩ := h95280
          have p95284 : (pI Y95279 a0 28).toInt ≤ 4 + (pI P39 b95274 (a1.toInt.toNat)).toInt := p95284
          have q95286 := Xy95282.keepA e95251 (by decide) rfl (v39_4.toInt.toNat)
          have q95287 := Xy95282.keepA e95275 (by decide) rfl (a1.toInt.toNat)
          have Xz95288 : EM [28, 29, 30, 31, 32, 33, 34] a0 P Y95279 := EM.tr ha0 X39 (Xy95282.mono (by decide))
          have e95289 := Xy95282.ref h95249 (by decide) e95251
          have e95290 := Xy95282.ref h95249 (by decide) e95275
          have h95291 := Xy95282.at h95249
          have h95292 := Xy95282.ar h95252
          have h95293 := Xy95282.ar h95276
          obtain ⟨b95294, e95295, h95296⟩ := Iy95281.fld (h95291) 22 13 800 rfl
          have p95285 := p95285 b95294 e95295
          rw [Xz95288.2.2.2 22 (by decide) rfl b95294 (EM.refB Xz95288 ha0 e95295)] at p95285
          have p95285 : (pI Y95279 a0 28).toInt ≤ 4 + kC (pI P b95294) (40 * a1.toInt).toNat v39_4.toInt ((pI P39 b95274 (a1.toInt.toNat)).toInt : Int).toNat := p95285
          have h95297 := Iy95281.rg h95291 28 rfl
          refine g_aload_n C dX12_unknownOf_75 rfl 0 rfl ?_
          refine g_callVV (rest := []) C mv_X12_343 [] (s_X12_findPeeled Iy95281 W95283) (h95291).1 (h95291).2 rfl rfl (by decide) (Nat.le_of_ble_eq_true rfl) (by decide) dX12_unknownOf_76 (fun Y95299 h95300 => ?_)
          obtain ⟨Iy95301, Xy95302, W95303⟩ := h95300
          have q95304 := Xy95302.keepA e95289 (by decide) rfl (v39_4.toInt.toNat)
          have q95305 := Xy95302.keepA e95290 (by decide) rfl (a1.toInt.toNat)
          have q95306 := Xy95302.keepF 28 (by decide)
          have Xz95307 : EM [28, 29, 30, 31, 32, 33, 34] a0 P Y95299 := EM.tr ha0 Xz95288 (Xy95302.mono (by decide))
          have e95308 := Xy95302.ref h95291 (by decide) e95289
          have e95309 := Xy95302.ref h95291 (by decide) e95290
          have h95310 := Xy95302.at h95291
          have h95311 := Xy95302.ar h95292
          have h95312 := Xy95302.ar h95293
          refine g_iload C dX12_unknownOf_79 5 rfl ?_
          refine g_iload C dX12_unknownOf_81 4 rfl ?_
          refine g_aload_n C dX12_unknownOf_83 rfl 0 rfl ?_
          refine g_getI C fi_X12_318 (by decide) (h95310).1 (h95310).2 dX12_unknownOf_84 ?_
          refine g_iconst (v := (-1)) C dX12_unknownOf_87 (by decide) ?_
          refine a_ixor C dX12_unknownOf_88 (fun z95313 => ?_)
          refine a_iand C dX12_unknownOf_89 (fun z95315 => ?_)
          refine a_ior C dX12_unknownOf_90 (fun z95317 => ?_)
          refine g_istore (lv' := [(6, .int z95317), (0, .ref a0), (1, .int a1), (3, .int v39_3), (4, .int v39_4), (5, .int v39_5), (7, .int v39_7)]) C dX12_unknownOf_91 (by decide) rfl ?_
          refine g_lv (lv' := [(0, .ref a0), (1, .int a1), (3, .int v39_3), (4, .int v39_4), (5, .int v39_5), (6, .int z95317), (7, .int v39_7)]) [1, 2, 3, 4, 5, 0, 6] rfl ?_
          exact J93 Y95299 z95317 Iy95301 Xz95307 W95303 (by omega) (by intro b910 e910; rw [e95308] at e910; cases e910; show 0 < (pI Y95299 b95250 (v39_4.toInt.toNat)).toInt; omega)
  refine g_bipush (v := 40) C dX12_unknownOf_0 (by decide) ?_
  refine g_iload_n C dX12_unknownOf_2 rfl 1 rfl ?_
  refine s_imul C dX12_unknownOf_3 (by show -2147483648 ≤ 40 * a1.toInt ∧ 40 * a1.toInt ≤ 2147483647; omega) (fun z95319 h95320 => ?_)
  have h95320 : z95319.toInt = 40 * a1.toInt := h95320
  refine g_iload_n C dX12_unknownOf_4 rfl 2 rfl ?_
  refine s_iadd C dX12_unknownOf_5 (by show -2147483648 ≤ z95319.toInt + a2.toInt ∧ z95319.toInt + a2.toInt ≤ 2147483647; omega) (fun z95321 h95322 => ?_)
  have h95322 : z95321.toInt = z95319.toInt + a2.toInt := h95322
  refine g_istore_n (lv' := [(3, .int z95321), (0, .ref a0), (1, .int a1), (2, .int a2)]) C dX12_unknownOf_6 rfl (by decide) rfl ?_
  refine g_aload_n C dX12_unknownOf_7 rfl 1 rfl ?_
  obtain ⟨b95323, e95324, h95325⟩ := I.fld (ha0) 22 13 800 rfl
  refine g_getR C fi_X12_75 rfl e95324 (ha0).1 (ha0).2 dX12_unknownOf_8 ?_
  refine g_iload_n C dX12_unknownOf_11 rfl 0 rfl ?_
  refine g_iald (j := (z95321.toInt.toNat)) C h95325.1 h95325.2.1 (ix_in h95325.2.2 (by omega)) dX12_unknownOf_12 ?_
  have h95326 := I.arr e95324 rfl (z95321.toInt.toNat)
  have hb := hb b95323 e95324
  rw [show (40 * a1.toInt + a2.toInt).toNat = z95321.toInt.toNat by omega] at hb
  refine g_topi (fun z95327 h95328 => ?_)
  have h95328 : z95327.toInt = (pI P b95323 (z95321.toInt.toNat)).toInt := congrArg Int32.toInt h95328
  refine g_istore (lv' := [(4, .int z95327), (3, .int z95321), (0, .ref a0), (1, .int a1), (2, .int a2)]) C dX12_unknownOf_13 (by decide) rfl ?_
  obtain ⟨b95329, e95330, h95331⟩ := I.fld (ha0) 10 13 2 rfl
  have ht := hk b95323 b95329 e95324 e95330 (by rw [show (40 * a1.toInt + a2.toInt).toNat = z95321.toInt.toNat by omega]; exact hb)
  rw [show (pI P b95323 (40 * a1.toInt + a2.toInt).toNat).toInt = z95327.toInt by rw [show (40 * a1.toInt + a2.toInt).toNat = z95321.toInt.toNat by omega]; omega] at ht
  have h95332 := I.arr e95330 rfl (z95327.toInt.toNat)
  refine g_aload_n C dX12_unknownOf_15 rfl 2 rfl ?_
  refine g_callVV (rest := []) C mv_X12_336 [] (s_X12_leavesNone I hW) (ha0).1 (ha0).2 rfl rfl (by decide) (Nat.le_of_ble_eq_true rfl) (by decide) dX12_unknownOf_16 (fun Y95334 h95335 => ?_)
  obtain ⟨Iy95336, Xy95337, W95338⟩ := h95335
  have q95339 := Xy95337.keepA e95324 (by decide) rfl (z95321.toInt.toNat)
  have q95340 := Xy95337.keepA e95330 (by decide) rfl (z95327.toInt.toNat)
  have Xz95341 : EM [28, 29, 30, 31, 32, 33, 34] a0 P Y95334 := Xy95337.mono (by decide)
  have e95342 := Xy95337.ref ha0 (by decide) e95324
  have e95343 := Xy95337.ref ha0 (by decide) e95330
  have h95344 := Xy95337.at ha0
  have h95345 := Xy95337.ar h95325
  have h95346 := Xy95337.ar h95331
  refine g_aload_n C dX12_unknownOf_19 rfl 2 rfl ?_
  refine g_iload C dX12_unknownOf_20 0 rfl ?_
  refine g_aload_n C dX12_unknownOf_22 rfl 2 rfl ?_
  obtain ⟨b95347, e95348, h95349⟩ := Iy95336.fld (h95344) 21 13 800 rfl
  refine g_getR C fi_X12_72 rfl e95348 (h95344).1 (h95344).2 dX12_unknownOf_23 ?_
  refine g_iload_n C dX12_unknownOf_26 rfl 1 rfl ?_
  refine g_iald (j := (z95321.toInt.toNat)) C h95349.1 h95349.2.1 (ix_in h95349.2.2 (by omega)) dX12_unknownOf_27 ?_
  refine g_callVI (rest := []) C mv_X12_261 [.int z95327, .int (pI Y95334 b95347 (z95321.toInt.toNat))] (s_X12_setOf Iy95336 (by omega) (fun b9 e9 => by rw [e95343] at e9; cases e9; show 1 ≤ (pI Y95334 b95329 (z95327.toInt.toNat)).toInt ∧ (pI Y95334 b95329 (z95327.toInt.toNat)).toInt ≤ 16; omega) W95338) (h95344).1 (h95344).2 rfl rfl (by decide) (Nat.le_of_ble_eq_true rfl) (by decide) dX12_unknownOf_28 (fun r95350 Y95351 h95352 => ?_)
  obtain ⟨Iy95353, Xy95354, W95355, h95352⟩ := h95352
  have q95356 := Xy95354.keepA e95342 (by decide) rfl (z95321.toInt.toNat)
  have q95357 := Xy95354.keepA e95343 (by decide) rfl (z95327.toInt.toNat)
  have Xz95358 : EM [28, 29, 30, 31, 32, 33, 34] a0 P Y95351 := EM.tr ha0 Xz95341 (Xy95354.mono (by decide))
  have e95359 := Xy95354.ref h95344 (by decide) e95342
  have e95360 := Xy95354.ref h95344 (by decide) e95343
  have h95361 := Xy95354.at h95344
  have h95362 := Xy95354.ar h95345
  have h95363 := Xy95354.ar h95346
  have h95352 : True := h95352
  refine g_istore (lv' := [(5, .int r95350), (4, .int z95327), (3, .int z95321), (0, .ref a0), (1, .int a1), (2, .int a2)]) C dX12_unknownOf_31 (by decide) rfl ?_
  refine g_iconst (v := 0) C dX12_unknownOf_33 (by decide) ?_
  refine g_istore (lv' := [(6, .int 0), (5, .int r95350), (4, .int z95327), (3, .int z95321), (0, .ref a0), (1, .int a1), (2, .int a2)]) C dX12_unknownOf_34 (by decide) rfl ?_
  refine g_iconst (v := 0) C dX12_unknownOf_36 (by decide) ?_
  refine g_istore (lv' := [(7, .int 0), (6, .int 0), (5, .int r95350), (4, .int z95327), (3, .int z95321), (0, .ref a0), (1, .int a1), (2, .int a2)]) C dX12_unknownOf_37 (by decide) rfl ?_
  refine g_lv (lv' := [(0, .ref a0), (1, .int a1), (3, .int z95321), (4, .int z95327), (5, .int r95350), (6, .int 0), (7, .int 0)]) [5, 6, 4, 3, 2, 1, 0] rfl ?_
  exact J39 _ Y95351 z95321 z95327 r95350 0 0 (Nat.lt_succ_self _) Iy95353 Xz95358 W95355 (by omega) (by omega) (by decide) (by intro b910 e910; rw [e95360] at e910; cases e910; show 0 < (pI Y95351 b95329 (z95327.toInt.toNat)).toInt; omega)
theorem dX12_paper_34 : decode cX12_paper 34 = .ok (.iconst 0, 1) := by decide +kernel
theorem dX12_paper_35 : decode cX12_paper 35 = .ok (.ireturn, 1) := by decide +kernel
theorem dX12_paper_80 : decode cX12_paper 80 = .ok (.aload_n 0, 1) := by decide +kernel
theorem dX12_paper_81 : decode cX12_paper 81 = .ok (.getfield 75, 3) := by decide +kernel
theorem dX12_paper_84 : decode cX12_paper 84 = .ok (.iload 4, 2) := by decide +kernel
theorem dX12_paper_86 : decode cX12_paper 86 = .ok (.iaload, 1) := by decide +kernel
theorem dX12_paper_87 : decode cX12_paper 87 = .ok (.ireturn, 1) := by decide +kernel
theorem dX12_paper_88 : decode cX12_paper 88 = .ok (.aload_n 0, 1) := by decide +kernel
theorem dX12_paper_89 : decode cX12_paper 89 = .ok (.getfield 72, 3) := by decide +kernel
theorem dX12_paper_92 : decode cX12_paper 92 = .ok (.iload 4, 2) := by decide +kernel
theorem dX12_paper_94 : decode cX12_paper 94 = .ok (.iaload, 1) := by decide +kernel
theorem dX12_paper_95 : decode cX12_paper 95 = .ok (.ireturn, 1) := by decide +kernel
theorem dX12_paper_96 : decode cX12_paper 96 = .ok (.aload_n 0, 1) := by decide +kernel
theorem dX12_paper_97 : decode cX12_paper 97 = .ok (.getfield 78, 3) := by decide +kernel
theorem dX12_paper_100 : decode cX12_paper 100 = .ok (.iload 4, 2) := by decide +kernel
theorem dX12_paper_102 : decode cX12_paper 102 = .ok (.iaload, 1) := by decide +kernel
theorem dX12_paper_103 : decode cX12_paper 103 = .ok (.ireturn, 1) := by decide +kernel
theorem dX12_paper_104 : decode cX12_paper 104 = .ok (.aload_n 0, 1) := by decide +kernel
theorem dX12_paper_105 : decode cX12_paper 105 = .ok (.getfield 81, 3) := by decide +kernel
theorem dX12_paper_108 : decode cX12_paper 108 = .ok (.iload 4, 2) := by decide +kernel
theorem dX12_paper_110 : decode cX12_paper 110 = .ok (.iaload, 1) := by decide +kernel
theorem dX12_paper_111 : decode cX12_paper 111 = .ok (.ireturn, 1) := by decide +kernel
theorem dX12_paper_112 : decode cX12_paper 112 = .ok (.aload_n 0, 1) := by decide +kernel
theorem dX12_paper_113 : decode cX12_paper 113 = .ok (.getfield 84, 3) := by decide +kernel
theorem dX12_paper_116 : decode cX12_paper 116 = .ok (.iload 4, 2) := by decide +kernel
theorem dX12_paper_118 : decode cX12_paper 118 = .ok (.iaload, 1) := by decide +kernel
theorem dX12_paper_119 : decode cX12_paper 119 = .ok (.ireturn, 1) := by decide +kernel
theorem dX12_paper_130 : decode cX12_paper 130 = .ok (.iconst (-1), 1) := by decide +kernel
theorem dX12_paper_131 : decode cX12_paper 131 = .ok (.goto 9, 3) := by decide +kernel
theorem dX12_paper_140 : decode cX12_paper 140 = .ok (.ireturn, 1) := by decide +kernel
set_option maxHeartbeats 4000000 in
set_option maxRecDepth 100000 in
theorem s_X12_paper {P : PP} {a0 : Nat} {a1 : Int32} {a2 : Int32} {a3 : Int32} (I : IM P a0) (hW : MW P a0) : CtrI yX12_paper cX12_paper 5 (some Jvm.ClassFile.FieldType.int) ({ frames := 6, cells := 0, slots := 0, locals := 384 } : Room) 0 0 P [.ref a0, .int a1, .int a2, .int a3] (fun r P2 => IM P2 a0 ∧ EM [0, 28, 29, 30, 31, 32, 33, 34] a0 P P2 ∧ MW P2 a0 ∧ (True)) := by
  refine enI (lv := [(0, .ref a0), (1, .int a1), (2, .int a2), (3, .int a3)]) (by decide) (Nat.le_of_ble_eq_true rfl) rfl (fun E D cy C Ci0 ret => ?_)
  have ha0 := I.2.1
  have J24 : ∀ (v24_s0 : Int32), (0 ≤ v24_s0.toInt ∧ v24_s0.toInt ≤ 1) → (∀ b920, pR P a0 20 = some b920 → v24_s0.toInt ≠ 0 ∨ (0 ≤ a1.toInt ∧ a1.toInt ≤ 3 ∧ 0 ≤ a2.toInt ∧ a2.toInt ≤ 39 ∧ a2.toInt < (pI P b920 (a1.toInt.toNat)).toInt)) → G E ({ frames := 6, cells := 0, slots := 0, locals := 384 } : Room) D cy 5 P 0 0 24 [(0, .ref a0), (1, .int a1), (2, .int a2), (3, .int a3)] [.int v24_s0, .ref a0] := by
    intro v24_s0 hv24_s0 rel24_0
    obtain ⟨b95436, e95437, h95438⟩ := I.fld (ha0) 20 13 20 rfl
    have rel24_0 := rel24_0 b95436 e95437
    have h95439 := I.arr e95437 rfl (a1.toInt.toNat)
    refine g_putI C fi_X12_1 rfl (ha0).1 (ha0).2 dX12_paper_24 ?_
    refine gqW (ks := [0]) (I.setI (rgOk.of rfl (by omega))) (EM.setI I (by decide)) (fun Y95440 Iy95441 Xy95442 w95443  => ?_)
    have w95443 : (pI Y95440 a0 0).toInt = v24_s0.toInt := w95443
    have q95444 := Xy95442.keepA e95437 (by decide) rfl (a1.toInt.toNat)
    have W95445 := hW.keep I Xy95442 (by decide) (by decide) (by decide) (by decide)
    have Xz95446 : EM [0, 28, 29, 30, 31, 32, 33, 34] a0 P Y95440 := Xy95442.mono (by decide)
    have e95447 := Xy95442.ref ha0 (by decide) e95437
    have h95448 := Xy95442.at ha0
    have h95449 := Xy95442.ar h95438
    refine g_aload_n C dX12_paper_27 rfl 0 rfl ?_
    refine g_getI C fi_X12_1 (by decide) (h95448).1 (h95448).2 dX12_paper_28 ?_
    refine b_if_le C 36 dX12_paper_31 (by decide) (fun h95450 => ?_) (fun h95450 => ?_)
    · have h95450 : (pI Y95440 a0 0).toInt ≤ 0 := h95450
      have hz36 : (0 ≤ a1.toInt ∧ a1.toInt ≤ 3) ∧ (0 ≤ a2.toInt ∧ a2.toInt ≤ 39) := by omega
      refine g_bipush (v := 40) C dX12_paper_36 (by decide) ?_
      refine g_iload_n C dX12_paper_38 rfl 1 rfl ?_
      refine s_imul C dX12_paper_39 (by show -2147483648 ≤ 40 * a1.toInt ∧ 40 * a1.toInt ≤ 2147483647; omega) (fun z95451 h95452 => ?_)
      have h95452 : z95451.toInt = 40 * a1.toInt := h95452
      refine g_iload_n C dX12_paper_40 rfl 2 rfl ?_
      refine s_iadd C dX12_paper_41 (by show -2147483648 ≤ z95451.toInt + a2.toInt ∧ z95451.toInt + a2.toInt ≤ 2147483647; omega) (fun z95453 h95454 => ?_)
      have h95454 : z95453.toInt = z95451.toInt + a2.toInt := h95454
      refine g_istore (lv' := [(4, .int z95453), (0, .ref a0), (1, .int a1), (2, .int a2), (3, .int a3)]) C dX12_paper_42 (by decide) rfl ?_
      refine g_iload_n C dX12_paper_44 rfl 4 rfl ?_
      by_cases h95455 : a3.toInt < 0 ∨ 4 < a3.toInt
      · refine g_tableOut C 120 dX12_paper_45 h95455 (by decide) ?_
        refine g_aload_n C dX12_paper_120 rfl 1 rfl ?_
        obtain ⟨b95457, e95458, h95459⟩ := Iy95441.fld (h95448) 22 13 800 rfl
        refine g_getR C fi_X12_75 rfl e95458 (h95448).1 (h95448).2 dX12_paper_121 ?_
        refine g_iload C dX12_paper_124 0 rfl ?_
        refine g_iald (j := (z95453.toInt.toNat)) C h95459.1 h95459.2.1 (ix_in h95459.2.2 (by omega)) dX12_paper_126 ?_
        have h95460 := Iy95441.arr e95458 rfl (z95453.toInt.toNat)
        refine b_if_ge C 134 dX12_paper_127 (by decide) (fun h95461 => ?_) (fun h95461 => ?_)
        · have h95461 : 0 ≤ (pI Y95440 b95457 (z95453.toInt.toNat)).toInt := h95461
          refine g_aload_n C dX12_paper_134 rfl 1 rfl ?_
          refine g_iload_n C dX12_paper_135 rfl 2 rfl ?_
          refine g_iload_n C dX12_paper_136 rfl 3 rfl ?_
          refine g_callVI (rest := []) C mv_X12_358 [.int a1, .int a2] (s_X12_unknownOf Iy95441 (by omega) (by omega) W95445 (fun b9 e9 => by rw [e95458] at e9; cases e9; rw [show (40 * a1.toInt + a2.toInt).toNat = z95453.toInt.toNat by omega]; omega) (by have q8 := W95445.2 (a1.toInt.toNat) (a2.toInt.toNat) (by omega) (by omega) (by rw [szf_at e95447]; omega); rw [show (40 * a1.toInt + a2.toInt).toNat = 40 * (a1.toInt.toNat) + (a2.toInt.toNat) by omega]; exact q8)) (h95448).1 (h95448).2 rfl rfl (by decide) (Nat.le_of_ble_eq_true rfl) (by decide) dX12_paper_137 (fun r95462 Y95463 h95464 => ?_)
          obtain ⟨Iy95465, Xy95466, W95467, h95464⟩ := h95464
          have q95468 := Xy95466.keepA e95447 (by decide) rfl (a1.toInt.toNat)
          have q95469 := Xy95466.keepF 0 (by decide)
          have q95470 := Xy95466.keepA e95458 (by decide) rfl (z95453.toInt.toNat)
          have Xz95471 : EM [0, 28, 29, 30, 31, 32, 33, 34] a0 P Y95463 := EM.tr ha0 Xz95446 (Xy95466.mono (by decide))
          have e95472 := Xy95466.ref h95448 (by decide) e95447
          have e95473 := Xy95466.ref h95448 (by decide) e95458
          have h95474 := Xy95466.at h95448
          have h95475 := Xy95466.ar h95449
          have h95476 := Xy95466.ar h95459
          have h95464 : 0 ≤ r95462.toInt ∧ r95462.toInt ≤ 20 := h95464
          exact ret _ _ _ _ _ _ dX12_paper_140 rfl (by decide) (by decide) ⟨Iy95465, Xz95471, W95467, trivial⟩
        · have h95461 : (pI Y95440 b95457 (z95453.toInt.toNat)).toInt < 0 := h95461
          refine g_iconst (v := (-1)) C dX12_paper_130 (by decide) ?_
          refine g_goto C 140 dX12_paper_131 (by decide) ?_
          exact ret _ _ _ _ _ _ dX12_paper_140 rfl (by decide) (by decide) ⟨Iy95441, Xz95446, W95445, trivial⟩
      · rcases (show a3.toInt = 0 ∨ a3.toInt = 1 ∨ a3.toInt = 2 ∨ a3.toInt = 3 ∨ a3.toInt = 4 by omega) with h95456 | h95456 | h95456 | h95456 | h95456
        · refine g_tableIn C 80 dX12_paper_45 (by omega) (by omega) (by rw [h95456]; rfl) (by decide) ?_
          refine g_aload_n C dX12_paper_80 rfl 1 rfl ?_
          obtain ⟨b95477, e95478, h95479⟩ := Iy95441.fld (h95448) 22 13 800 rfl
          refine g_getR C fi_X12_75 rfl e95478 (h95448).1 (h95448).2 dX12_paper_81 ?_
          refine g_iload C dX12_paper_84 0 rfl ?_
          refine g_iald (j := (z95453.toInt.toNat)) C h95479.1 h95479.2.1 (ix_in h95479.2.2 (by omega)) dX12_paper_86 ?_
          have h95480 := Iy95441.arr e95478 rfl (z95453.toInt.toNat)
          exact ret _ _ _ _ _ _ dX12_paper_87 rfl (by decide) (by decide) ⟨Iy95441, Xz95446, W95445, trivial⟩
        · refine g_tableIn C 88 dX12_paper_45 (by omega) (by omega) (by rw [h95456]; rfl) (by decide) ?_
          refine g_aload_n C dX12_paper_88 rfl 1 rfl ?_
          obtain ⟨b95481, e95482, h95483⟩ := Iy95441.fld (h95448) 21 13 800 rfl
          refine g_getR C fi_X12_72 rfl e95482 (h95448).1 (h95448).2 dX12_paper_89 ?_
          refine g_iload C dX12_paper_92 0 rfl ?_
          refine g_iald (j := (z95453.toInt.toNat)) C h95483.1 h95483.2.1 (ix_in h95483.2.2 (by omega)) dX12_paper_94 ?_
          exact ret _ _ _ _ _ _ dX12_paper_95 rfl (by decide) (by decide) ⟨Iy95441, Xz95446, W95445, trivial⟩
        · refine g_tableIn C 96 dX12_paper_45 (by omega) (by omega) (by rw [h95456]; rfl) (by decide) ?_
          refine g_aload_n C dX12_paper_96 rfl 1 rfl ?_
          obtain ⟨b95484, e95485, h95486⟩ := Iy95441.fld (h95448) 23 13 800 rfl
          refine g_getR C fi_X12_78 rfl e95485 (h95448).1 (h95448).2 dX12_paper_97 ?_
          refine g_iload C dX12_paper_100 0 rfl ?_
          refine g_iald (j := (z95453.toInt.toNat)) C h95486.1 h95486.2.1 (ix_in h95486.2.2 (by omega)) dX12_paper_102 ?_
          exact ret _ _ _ _ _ _ dX12_paper_103 rfl (by decide) (by decide) ⟨Iy95441, Xz95446, W95445, trivial⟩
        · refine g_tableIn C 104 dX12_paper_45 (by omega) (by omega) (by rw [h95456]; rfl) (by decide) ?_
          refine g_aload_n C dX12_paper_104 rfl 1 rfl ?_
          obtain ⟨b95487, e95488, h95489⟩ := Iy95441.fld (h95448) 24 13 800 rfl
          refine g_getR C fi_X12_81 rfl e95488 (h95448).1 (h95448).2 dX12_paper_105 ?_
          refine g_iload C dX12_paper_108 0 rfl ?_
          refine g_iald (j := (z95453.toInt.toNat)) C h95489.1 h95489.2.1 (ix_in h95489.2.2 (by omega)) dX12_paper_110 ?_
          exact ret _ _ _ _ _ _ dX12_paper_111 rfl (by decide) (by decide) ⟨Iy95441, Xz95446, W95445, trivial⟩
        · refine g_tableIn C 112 dX12_paper_45 (by omega) (by omega) (by rw [h95456]; rfl) (by decide) ?_
          refine g_aload_n C dX12_paper_112 rfl 1 rfl ?_
          obtain ⟨b95490, e95491, h95492⟩ := Iy95441.fld (h95448) 25 13 800 rfl
          refine g_getR C fi_X12_84 rfl e95491 (h95448).1 (h95448).2 dX12_paper_113 ?_
          refine g_iload C dX12_paper_116 0 rfl ?_
          refine g_iald (j := (z95453.toInt.toNat)) C h95492.1 h95492.2.1 (ix_in h95492.2.2 (by omega)) dX12_paper_118 ?_
          exact ret _ _ _ _ _ _ dX12_paper_119 rfl (by decide) (by decide) ⟨Iy95441, Xz95446, W95445, trivial⟩
    · have h95450 : 0 < (pI Y95440 a0 0).toInt := h95450
      refine g_iconst (v := 0) C dX12_paper_34 (by decide) ?_
      exact ret _ _ _ _ _ _ dX12_paper_35 rfl (by decide) (by decide) ⟨Iy95441, Xz95446, W95445, trivial⟩
  have J23 : G E ({ frames := 6, cells := 0, slots := 0, locals := 384 } : Room) D cy 5 P 0 0 23 [(0, .ref a0), (1, .int a1), (2, .int a2), (3, .int a3)] [.ref a0] := by
    refine g_iconst (v := 1) C dX12_paper_23 (by decide) ?_
    obtain ⟨b95493, e95494, h95495⟩ := I.fld (ha0) 20 13 20 rfl
    exact J24 1 (by decide) (by intro b920 e920; rw [e95494] at e920; cases e920; show 1 ≠ 0 ∨ (0 ≤ a1.toInt ∧ a1.toInt ≤ 3 ∧ 0 ≤ a2.toInt ∧ a2.toInt ≤ 39 ∧ a2.toInt < (pI P b95493 (a1.toInt.toNat)).toInt); omega)
  refine g_aload_n C dX12_paper_0 rfl 0 rfl ?_
  refine g_aload_n C dX12_paper_1 rfl 0 rfl ?_
  refine g_iload_n C dX12_paper_2 rfl 1 rfl ?_
  refine g_iload_n C dX12_paper_3 rfl 2 rfl ?_
  refine g_callVI (rest := [.ref a0]) C mv_X12_298 [.int a1, .int a2] (s_X12_isPaper I hW) (ha0).1 (ha0).2 rfl rfl (by decide) (Nat.le_of_ble_eq_true rfl) (by decide) dX12_paper_4 (fun r95496 Y95497 h95498 => ?_)
  obtain ⟨rfl, h95498⟩ := h95498
  obtain ⟨h95498, hi95499, hi95500⟩ := h95498
  have hi95499 : r95496.toInt = 0 ∨ (((0 : Int) ≤ a1.toInt ∧ a1.toInt ≤ (3 : Int)) ∧ ((0 : Int) ≤ a2.toInt ∧ a2.toInt ≤ (39 : Int))) := hi95499
  have h95498 : 0 ≤ r95496.toInt ∧ r95496.toInt ≤ 1 := h95498
  refine b_if_eq C 23 dX12_paper_7 (by decide) (fun h95501 => ?_) (fun h95501 => ?_)
  · have h95501 : r95496.toInt = 0 := congrArg Int32.toInt h95501
    clear hi95499
    exact J23 
  · have h95501 : r95496.toInt ≠ 0 := ti_ne h95501
    replace hi95499 := hi95499.resolve_left (by omega)
    obtain ⟨b95502, e95503, h95504⟩ := I.fld (ha0) 20 13 20 rfl
    have hi95500 := (hi95500.resolve_left (by omega)) b95502 e95503
    have hi95500 : a2.toInt < (pI P b95502 (a1.toInt.toNat)).toInt ∧ 0 ≤ a2.toInt := hi95500
    have h95505 := I.arr e95503 rfl (a1.toInt.toNat)
    refine g_iload_n C dX12_paper_10 rfl 3 rfl ?_
    refine g_iconst (v := 0) C dX12_paper_11 (by decide) ?_
    refine g_iconst (v := 5) C dX12_paper_12 (by decide) ?_
    refine g_callSI (b := 0) (ci := 0) (rest := [.ref a0]) C ms_X12_178 [.int a3, .int 0, .int 5] (s_X12_within I.1) rfl rfl (by decide) (Nat.le_of_ble_eq_true rfl) (by decide) dX12_paper_13 (fun r95506 Y95507 h95508 => ?_)
    obtain ⟨rfl, h95508⟩ := h95508
    obtain ⟨h95508, hi95509⟩ := h95508
    have hi95509 : r95506.toInt = 0 ∨ (0 ≤ a3.toInt ∧ a3.toInt ≤ 5) := hi95509
    have h95508 : 0 ≤ r95506.toInt ∧ r95506.toInt ≤ 1 := h95508
    refine b_if_eq C 23 dX12_paper_16 (by decide) (fun h95510 => ?_) (fun h95510 => ?_)
    · have h95510 : r95506.toInt = 0 := congrArg Int32.toInt h95510
      clear hi95509
      exact J23 
    · have h95510 : r95506.toInt ≠ 0 := ti_ne h95510
      replace hi95509 := hi95509.resolve_left (by omega)
      refine g_iconst (v := 0) C dX12_paper_19 (by decide) ?_
      refine g_goto C 24 dX12_paper_20 (by decide) ?_
      exact J24 0 (by decide) (by intro b920 e920; rw [e95503] at e920; cases e920; show 0 ≠ 0 ∨ (0 ≤ a1.toInt ∧ a1.toInt ≤ 3 ∧ 0 ≤ a2.toInt ∧ a2.toInt ≤ 39 ∧ a2.toInt < (pI P b95502 (a1.toInt.toNat)).toInt); omega)
theorem dX12_peels_0 : decode cX12_peels 0 = .ok (.aload_n 0, 1) := by decide +kernel
theorem dX12_peels_1 : decode cX12_peels 1 = .ok (.iconst 0, 1) := by decide +kernel
theorem dX12_peels_2 : decode cX12_peels 2 = .ok (.putfield 1, 3) := by decide +kernel
theorem dX12_peels_5 : decode cX12_peels 5 = .ok (.aload_n 0, 1) := by decide +kernel
theorem dX12_peels_6 : decode cX12_peels 6 = .ok (.iload_n 1, 1) := by decide +kernel
theorem dX12_peels_7 : decode cX12_peels 7 = .ok (.iload_n 2, 1) := by decide +kernel
theorem dX12_peels_8 : decode cX12_peels 8 = .ok (.iload_n 3, 1) := by decide +kernel
theorem dX12_peels_9 : decode cX12_peels 9 = .ok (.invokevirtual 333, 3) := by decide +kernel
theorem dX12_peels_12 : decode cX12_peels 12 = .ok (.ifCond .eq 13, 3) := by decide +kernel
theorem dX12_peels_15 : decode cX12_peels 15 = .ok (.iload 4, 2) := by decide +kernel
theorem dX12_peels_17 : decode cX12_peels 17 = .ok (.iconst 0, 1) := by decide +kernel
theorem dX12_peels_18 : decode cX12_peels 18 = .ok (.iconst 3, 1) := by decide +kernel
theorem dX12_peels_19 : decode cX12_peels 19 = .ok (.invokestatic 178, 3) := by decide +kernel
theorem dX12_peels_22 : decode cX12_peels 22 = .ok (.ifCond .ne 5, 3) := by decide +kernel
theorem dX12_peels_25 : decode cX12_peels 25 = .ok (.iconst (-1), 1) := by decide +kernel
theorem dX12_peels_26 : decode cX12_peels 26 = .ok (.ireturn, 1) := by decide +kernel
theorem dX12_peels_27 : decode cX12_peels 27 = .ok (.aload_n 0, 1) := by decide +kernel
theorem dX12_peels_28 : decode cX12_peels 28 = .ok (.invokevirtual 336, 3) := by decide +kernel
theorem dX12_peels_31 : decode cX12_peels 31 = .ok (.aload_n 0, 1) := by decide +kernel
theorem dX12_peels_32 : decode cX12_peels 32 = .ok (.iload_n 1, 1) := by decide +kernel
theorem dX12_peels_33 : decode cX12_peels 33 = .ok (.iload_n 2, 1) := by decide +kernel
theorem dX12_peels_34 : decode cX12_peels 34 = .ok (.iload_n 3, 1) := by decide +kernel
theorem dX12_peels_35 : decode cX12_peels 35 = .ok (.aload_n 0, 1) := by decide +kernel
theorem dX12_peels_36 : decode cX12_peels 36 = .ok (.getfield 69, 3) := by decide +kernel
theorem dX12_peels_39 : decode cX12_peels 39 = .ok (.iload_n 1, 1) := by decide +kernel
theorem dX12_peels_40 : decode cX12_peels 40 = .ok (.iaload, 1) := by decide +kernel
theorem dX12_peels_41 : decode cX12_peels 41 = .ok (.invokevirtual 339, 3) := by decide +kernel
theorem dX12_peels_44 : decode cX12_peels 44 = .ok (.aload_n 0, 1) := by decide +kernel
theorem dX12_peels_45 : decode cX12_peels 45 = .ok (.invokevirtual 343, 3) := by decide +kernel
theorem dX12_peels_48 : decode cX12_peels 48 = .ok (.iload 4, 2) := by decide +kernel
theorem dX12_peels_50 : decode cX12_peels 50 = .ok (.ifCond .ne 8, 3) := by decide +kernel
theorem dX12_peels_53 : decode cX12_peels 53 = .ok (.aload_n 0, 1) := by decide +kernel
theorem dX12_peels_54 : decode cX12_peels 54 = .ok (.getfield 318, 3) := by decide +kernel
theorem dX12_peels_57 : decode cX12_peels 57 = .ok (.ireturn, 1) := by decide +kernel
theorem dX12_peels_58 : decode cX12_peels 58 = .ok (.iconst 0, 1) := by decide +kernel
theorem dX12_peels_59 : decode cX12_peels 59 = .ok (.istore 5, 2) := by decide +kernel
theorem dX12_peels_61 : decode cX12_peels 61 = .ok (.iconst 0, 1) := by decide +kernel
theorem dX12_peels_62 : decode cX12_peels 62 = .ok (.istore 6, 2) := by decide +kernel
theorem dX12_peels_64 : decode cX12_peels 64 = .ok (.iload 6, 2) := by decide +kernel
theorem dX12_peels_66 : decode cX12_peels 66 = .ok (.aload_n 0, 1) := by decide +kernel
theorem dX12_peels_67 : decode cX12_peels 67 = .ok (.getfield 305, 3) := by decide +kernel
theorem dX12_peels_70 : decode cX12_peels 70 = .ok (.if_icmp .ge 96, 3) := by decide +kernel
theorem dX12_peels_73 : decode cX12_peels 73 = .ok (.aload_n 0, 1) := by decide +kernel
theorem dX12_peels_74 : decode cX12_peels 74 = .ok (.getfield 91, 3) := by decide +kernel
theorem dX12_peels_77 : decode cX12_peels 77 = .ok (.iload 6, 2) := by decide +kernel
theorem dX12_peels_79 : decode cX12_peels 79 = .ok (.iaload, 1) := by decide +kernel
theorem dX12_peels_80 : decode cX12_peels 80 = .ok (.aload_n 0, 1) := by decide +kernel
theorem dX12_peels_81 : decode cX12_peels 81 = .ok (.getfield 318, 3) := by decide +kernel
theorem dX12_peels_84 : decode cX12_peels 84 = .ok (.iconst (-1), 1) := by decide +kernel
theorem dX12_peels_85 : decode cX12_peels 85 = .ok (.ixor, 1) := by decide +kernel
theorem dX12_peels_86 : decode cX12_peels 86 = .ok (.iand, 1) := by decide +kernel
theorem dX12_peels_87 : decode cX12_peels 87 = .ok (.invokestatic 264, 3) := by decide +kernel
theorem dX12_peels_90 : decode cX12_peels 90 = .ok (.istore 7, 2) := by decide +kernel
theorem dX12_peels_92 : decode cX12_peels 92 = .ok (.iload 5, 2) := by decide +kernel
theorem dX12_peels_94 : decode cX12_peels 94 = .ok (.iload 4, 2) := by decide +kernel
theorem dX12_peels_96 : decode cX12_peels 96 = .ok (.iconst 1, 1) := by decide +kernel
theorem dX12_peels_97 : decode cX12_peels 97 = .ok (.if_icmp .ne 25, 3) := by decide +kernel
theorem dX12_peels_100 : decode cX12_peels 100 = .ok (.iload 7, 2) := by decide +kernel
theorem dX12_peels_102 : decode cX12_peels 102 = .ok (.ifCond .ne 16, 3) := by decide +kernel
theorem dX12_peels_105 : decode cX12_peels 105 = .ok (.aload_n 0, 1) := by decide +kernel
theorem dX12_peels_106 : decode cX12_peels 106 = .ok (.iload 6, 2) := by decide +kernel
theorem dX12_peels_108 : decode cX12_peels 108 = .ok (.invokevirtual 321, 3) := by decide +kernel
theorem dX12_peels_111 : decode cX12_peels 111 = .ok (.ifCond .eq 7, 3) := by decide +kernel
theorem dX12_peels_114 : decode cX12_peels 114 = .ok (.iconst 1, 1) := by decide +kernel
theorem dX12_peels_115 : decode cX12_peels 115 = .ok (.goto 42, 3) := by decide +kernel
theorem dX12_peels_118 : decode cX12_peels 118 = .ok (.iconst 0, 1) := by decide +kernel
theorem dX12_peels_119 : decode cX12_peels 119 = .ok (.goto 38, 3) := by decide +kernel
theorem dX12_peels_122 : decode cX12_peels 122 = .ok (.iload 4, 2) := by decide +kernel
theorem dX12_peels_124 : decode cX12_peels 124 = .ok (.iconst 2, 1) := by decide +kernel
theorem dX12_peels_125 : decode cX12_peels 125 = .ok (.if_icmp .ne 21, 3) := by decide +kernel
theorem dX12_peels_128 : decode cX12_peels 128 = .ok (.aload_n 0, 1) := by decide +kernel
theorem dX12_peels_129 : decode cX12_peels 129 = .ok (.getfield 91, 3) := by decide +kernel
theorem dX12_peels_132 : decode cX12_peels 132 = .ok (.iload 6, 2) := by decide +kernel
theorem dX12_peels_134 : decode cX12_peels 134 = .ok (.iaload, 1) := by decide +kernel
theorem dX12_peels_135 : decode cX12_peels 135 = .ok (.aload_n 0, 1) := by decide +kernel
theorem dX12_peels_136 : decode cX12_peels 136 = .ok (.getfield 318, 3) := by decide +kernel
theorem dX12_peels_139 : decode cX12_peels 139 = .ok (.iand, 1) := by decide +kernel
theorem dX12_peels_140 : decode cX12_peels 140 = .ok (.invokestatic 264, 3) := by decide +kernel
theorem dX12_peels_143 : decode cX12_peels 143 = .ok (.goto 14, 3) := by decide +kernel
theorem dX12_peels_146 : decode cX12_peels 146 = .ok (.iload 7, 2) := by decide +kernel
theorem dX12_peels_148 : decode cX12_peels 148 = .ok (.iconst 1, 1) := by decide +kernel
theorem dX12_peels_149 : decode cX12_peels 149 = .ok (.if_icmp .le 7, 3) := by decide +kernel
theorem dX12_peels_152 : decode cX12_peels 152 = .ok (.iconst 1, 1) := by decide +kernel
theorem dX12_peels_153 : decode cX12_peels 153 = .ok (.goto 4, 3) := by decide +kernel
theorem dX12_peels_156 : decode cX12_peels 156 = .ok (.iconst 0, 1) := by decide +kernel
theorem dX12_peels_157 : decode cX12_peels 157 = .ok (.iadd, 1) := by decide +kernel
theorem dX12_peels_158 : decode cX12_peels 158 = .ok (.istore 5, 2) := by decide +kernel
theorem dX12_peels_160 : decode cX12_peels 160 = .ok (.iinc 6 1, 3) := by decide +kernel
theorem dX12_peels_163 : decode cX12_peels 163 = .ok (.goto (-99), 3) := by decide +kernel
theorem dX12_peels_166 : decode cX12_peels 166 = .ok (.iload 4, 2) := by decide +kernel
theorem dX12_peels_168 : decode cX12_peels 168 = .ok (.iconst 2, 1) := by decide +kernel
theorem dX12_peels_169 : decode cX12_peels 169 = .ok (.if_icmp .ne 16, 3) := by decide +kernel
theorem dX12_peels_172 : decode cX12_peels 172 = .ok (.iload 5, 2) := by decide +kernel
theorem dX12_peels_174 : decode cX12_peels 174 = .ok (.aload_n 0, 1) := by decide +kernel
theorem dX12_peels_175 : decode cX12_peels 175 = .ok (.getfield 318, 3) := by decide +kernel
theorem dX12_peels_178 : decode cX12_peels 178 = .ok (.invokestatic 264, 3) := by decide +kernel
theorem dX12_peels_181 : decode cX12_peels 181 = .ok (.isub, 1) := by decide +kernel
theorem dX12_peels_182 : decode cX12_peels 182 = .ok (.goto 5, 3) := by decide +kernel
theorem dX12_peels_185 : decode cX12_peels 185 = .ok (.iload 5, 2) := by decide +kernel
theorem dX12_peels_187 : decode cX12_peels 187 = .ok (.ireturn, 1) := by decide +kernel
set_option maxHeartbeats 4000000 in
set_option maxRecDepth 100000 in
theorem s_X12_peels {P : PP} {a0 : Nat} {a1 : Int32} {a2 : Int32} {a3 : Int32} {a4 : Int32} (I : IM P a0) (hW : MW P a0) : CtrI yX12_peels cX12_peels 8 (some Jvm.ClassFile.FieldType.int) ({ frames := 5, cells := 0, slots := 0, locals := 320 } : Room) 0 0 P [.ref a0, .int a1, .int a2, .int a3, .int a4] (fun r P2 => IM P2 a0 ∧ EM [0, 28, 29, 30, 31, 32, 33, 34] a0 P P2 ∧ MW P2 a0 ∧ (True)) := by
  refine enI (lv := [(0, .ref a0), (1, .int a1), (2, .int a2), (3, .int a3), (4, .int a4)]) (by decide) (Nat.le_of_ble_eq_true rfl) rfl (fun E D cy C Ci0 ret => ?_)
  have ha0 := I.2.1
  have J64 : ∀ (n64 : Nat) (P64 : PP) (v64_5 : Int32) (v64_6 : Int32), (44 - v64_6.toInt).toNat < n64 → (IM P64 a0) → (EM [0, 28, 29, 30, 31, 32, 33, 34] a0 P P64) → (MW P64 a0) → (1 ≤ a4.toInt ∧ a4.toInt ≤ 3) → (0 ≤ v64_6.toInt ∧ v64_6.toInt ≤ 44) → (0 ≤ (pI P64 a0 0).toInt ∧ (pI P64 a0 0).toInt ≤ 0) → (0 ≤ (pI P64 a0 28).toInt ∧ (pI P64 a0 28).toInt ≤ 44) → (∀ b, pR P64 a0 10 = some b → 1 ≤ (pI P64 b (a2.toInt.toNat)).toInt ∧ (pI P64 b (a2.toInt.toNat)).toInt ≤ 16) → G E ({ frames := 5, cells := 0, slots := 0, locals := 320 } : Room) D cy 8 P64 0 0 64 [(0, .ref a0), (4, .int a4), (5, .int v64_5), (6, .int v64_6)] [] := by
    intro n64
    induction n64 with
    | zero => intro P64 v64_5 v64_6 hm64 I64 X64 W64 hv64_4 hv64_6 hq64_0 hq64_1 hq64_2; omega
    | succ n64 ih64 =>
      intro P64 v64_5 v64_6 hm64 I64 X64 W64 hv64_4 hv64_6 hq64_0 hq64_1 hq64_2
      have h96438 := X64.at ha0
      obtain ⟨b96439, e96440, h96441⟩ := I64.fld (h96438) 10 13 2 rfl
      have hq64_2 := hq64_2 b96439 e96440
      have J157 : ∀ (v157_s0 : Int32), (1 ≤ a4.toInt ∧ a4.toInt ≤ 3) → (0 ≤ v64_6.toInt ∧ v64_6.toInt ≤ 43) → (0 ≤ v157_s0.toInt ∧ v157_s0.toInt ≤ 20) → (0 ≤ (pI P64 a0 0).toInt ∧ (pI P64 a0 0).toInt ≤ 0) → (1 ≤ (pI P64 a0 28).toInt ∧ (pI P64 a0 28).toInt ≤ 44) → (∀ b, pR P64 a0 10 = some b → 1 ≤ (pI P64 b (a2.toInt.toNat)).toInt ∧ (pI P64 b (a2.toInt.toNat)).toInt ≤ 16) → G E ({ frames := 5, cells := 0, slots := 0, locals := 320 } : Room) D cy 8 P64 0 0 157 [(0, .ref a0), (4, .int a4), (6, .int v64_6)] [.int v157_s0, .int v64_5] := by
        intro v157_s0 hv157_4 hv157_6 hv157_s0 hq157_0 hq157_1 hq157_2
        have h96442 := X64.at ha0
        obtain ⟨b96443, e96444, h96445⟩ := I64.fld (h96442) 10 13 2 rfl
        have hq157_2 := hq157_2 b96443 e96444
        refine a_iadd C dX12_peels_157 (fun z96446 => ?_)
        refine g_istore (lv' := [(5, .int z96446), (0, .ref a0), (4, .int a4), (6, .int v64_6)]) C dX12_peels_158 (by decide) rfl ?_
        refine s_iinc (lv0 := [(5, .int z96446), (0, .ref a0), (4, .int a4)]) (m := 1) C dX12_peels_160 3 rfl (by decide) rfl (by decide) (by omega) (fun z96448 h96449 => ?_)
        have h96449 : z96448.toInt = v64_6.toInt + 1 := h96449
        refine g_goto C 64 dX12_peels_163 (by decide) ?_
        refine g_lv (lv' := [(0, .ref a0), (4, .int a4), (5, .int z96446), (6, .int z96448)]) [2, 3, 1, 0] rfl ?_
        exact ih64 P64 z96446 z96448 (by omega) I64 X64 W64 (by omega) (by omega) (by omega) (by omega) (fun b9 e9 => by rw [e96444] at e9; cases e9; omega)
      have J118 : (1 ≤ a4.toInt ∧ a4.toInt ≤ 1) → (0 ≤ v64_6.toInt ∧ v64_6.toInt ≤ 43) → (0 ≤ (pI P64 a0 0).toInt ∧ (pI P64 a0 0).toInt ≤ 0) → (1 ≤ (pI P64 a0 28).toInt ∧ (pI P64 a0 28).toInt ≤ 44) → (∀ b, pR P64 a0 10 = some b → 1 ≤ (pI P64 b (a2.toInt.toNat)).toInt ∧ (pI P64 b (a2.toInt.toNat)).toInt ≤ 16) → G E ({ frames := 5, cells := 0, slots := 0, locals := 320 } : Room) D cy 8 P64 0 0 118 [(0, .ref a0), (4, .int a4), (6, .int v64_6)] [.int v64_5] := by
        intro hv118_4 hv118_6 hq118_0 hq118_1 hq118_2
        have h96450 := X64.at ha0
        obtain ⟨b96451, e96452, h96453⟩ := I64.fld (h96450) 10 13 2 rfl
        have hq118_2 := hq118_2 b96451 e96452
        refine g_iconst (v := 0) C dX12_peels_118 (by decide) ?_
        refine g_goto C 157 dX12_peels_119 (by decide) ?_
        exact J157 0 (by omega) (by omega) (by decide) (by omega) (by omega) (fun b9 e9 => by rw [e96452] at e9; cases e9; omega)
      refine g_iload C dX12_peels_64 3 rfl ?_
      refine g_aload_n C dX12_peels_66 rfl 0 rfl ?_
      refine g_getI C fi_X12_305 (by decide) (h96438).1 (h96438).2 dX12_peels_67 ?_
      refine b_icmp_ge C 166 dX12_peels_70 (by decide) (fun h96454 => ?_) (fun h96454 => ?_)
      · have h96454 : (pI P64 a0 28).toInt ≤ v64_6.toInt := h96454
        refine g_iload C dX12_peels_166 1 rfl ?_
        refine g_iconst (v := 2) C dX12_peels_168 (by decide) ?_
        refine b_icmp_ne C 185 dX12_peels_169 (by decide) (fun h96455 => ?_) (fun h96455 => ?_)
        · have h96455 : a4.toInt ≠ 2 := ti_ne h96455
          refine g_iload C dX12_peels_185 2 rfl ?_
          exact ret _ _ _ _ _ _ dX12_peels_187 rfl (by decide) (by decide) ⟨I64, X64, W64, trivial⟩
        · have h96455 : a4.toInt = 2 := congrArg Int32.toInt h96455
          refine g_iload C dX12_peels_172 2 rfl ?_
          refine g_aload_n C dX12_peels_174 rfl 0 rfl ?_
          refine g_getI C fi_X12_318 (by decide) (h96438).1 (h96438).2 dX12_peels_175 ?_
          refine g_callSI (b := 0) (ci := 0) (rest := [.int v64_5]) C ms_X12_264 [.int (pI P64 a0 33)] (s_X12_bits I64.1) rfl rfl (by decide) (Nat.le_of_ble_eq_true rfl) (by decide) dX12_peels_178 (fun r96456 Y96457 h96458 => ?_)
          obtain ⟨rfl, h96458⟩ := h96458
          obtain ⟨h96458, hi96459⟩ := h96458
          have hi96459 : r96456.toInt = 0 ∨ (pI P64 a0 33).toInt ≠ 0 := hi96459
          have h96458 : 0 ≤ r96456.toInt ∧ r96456.toInt ≤ 20 := h96458
          refine a_isub C dX12_peels_181 (fun z96460 => ?_)
          refine g_goto C 187 dX12_peels_182 (by decide) ?_
          exact ret _ _ _ _ _ _ dX12_peels_187 rfl (by decide) (by decide) ⟨I64, X64, W64, trivial⟩
      · have h96454 : v64_6.toInt < (pI P64 a0 28).toInt := h96454
        refine g_aload_n C dX12_peels_73 rfl 0 rfl ?_
        obtain ⟨b96462, e96463, h96464⟩ := I64.fld (h96438) 29 13 64 rfl
        refine g_getR C fi_X12_91 rfl e96463 (h96438).1 (h96438).2 dX12_peels_74 ?_
        refine g_iload C dX12_peels_77 3 rfl ?_
        refine g_iald (j := (v64_6.toInt.toNat)) C h96464.1 h96464.2.1 (ix_in h96464.2.2 (by omega)) dX12_peels_79 ?_
        refine g_aload_n C dX12_peels_80 rfl 0 rfl ?_
        refine g_getI C fi_X12_318 (by decide) (h96438).1 (h96438).2 dX12_peels_81 ?_
        refine g_iconst (v := (-1)) C dX12_peels_84 (by decide) ?_
        refine a_ixor C dX12_peels_85 (fun z96465 => ?_)
        refine a_iand C dX12_peels_86 (fun z96467 => ?_)
        refine g_callSI (b := 0) (ci := 0) (rest := []) C ms_X12_264 [.int z96467] (s_X12_bits I64.1) rfl rfl (by decide) (Nat.le_of_ble_eq_true rfl) (by decide) dX12_peels_87 (fun r96469 Y96470 h96471 => ?_)
        obtain ⟨rfl, h96471⟩ := h96471
        obtain ⟨h96471, hi96472⟩ := h96471
        have hi96472 : r96469.toInt = 0 ∨ z96467.toInt ≠ 0 := hi96472
        have h96471 : 0 ≤ r96469.toInt ∧ r96469.toInt ≤ 20 := h96471
        refine g_istore (lv' := [(7, .int r96469), (0, .ref a0), (4, .int a4), (5, .int v64_5), (6, .int v64_6)]) C dX12_peels_90 (by decide) rfl ?_
        refine g_iload C dX12_peels_92 3 rfl ?_
        refine g_iload C dX12_peels_94 2 rfl ?_
        refine g_iconst (v := 1) C dX12_peels_96 (by decide) ?_
        refine b_icmp_ne C 122 dX12_peels_97 (by decide) (fun h96473 => ?_) (fun h96473 => ?_)
        · have h96473 : a4.toInt ≠ 1 := ti_ne h96473
          refine g_iload C dX12_peels_122 2 rfl ?_
          refine g_iconst (v := 2) C dX12_peels_124 (by decide) ?_
          refine b_icmp_ne C 146 dX12_peels_125 (by decide) (fun h96474 => ?_) (fun h96474 => ?_)
          · have h96474 : a4.toInt ≠ 2 := ti_ne h96474
            refine g_iload C dX12_peels_146 0 rfl ?_
            refine g_iconst (v := 1) C dX12_peels_148 (by decide) ?_
            refine b_icmp_le C 156 dX12_peels_149 (by decide) (fun h96475 => ?_) (fun h96475 => ?_)
            · have h96475 : r96469.toInt ≤ 1 := h96475
              refine g_iconst (v := 0) C dX12_peels_156 (by decide) ?_
              refine g_lv (lv' := [(0, .ref a0), (4, .int a4), (6, .int v64_6)]) [1, 2, 4] rfl ?_
              exact J157 0 (by omega) (by omega) (by decide) (by omega) (by omega) (fun b9 e9 => by rw [e96440] at e9; cases e9; omega)
            · have h96475 : 1 < r96469.toInt := h96475
              refine g_iconst (v := 1) C dX12_peels_152 (by decide) ?_
              refine g_goto C 157 dX12_peels_153 (by decide) ?_
              refine g_lv (lv' := [(0, .ref a0), (4, .int a4), (6, .int v64_6)]) [1, 2, 4] rfl ?_
              exact J157 1 (by omega) (by omega) (by decide) (by omega) (by omega) (fun b9 e9 => by rw [e96440] at e9; cases e9; omega)
          · have h96474 : a4.toInt = 2 := congrArg Int32.toInt h96474
            refine g_aload_n C dX12_peels_128 rfl 1 rfl ?_
            refine g_getR C fi_X12_91 rfl e96463 (h96438).1 (h96438).2 dX12_peels_129 ?_
            refine g_iload C dX12_peels_132 4 rfl ?_
            refine g_iald (j := (v64_6.toInt.toNat)) C h96464.1 h96464.2.1 (ix_in h96464.2.2 (by omega)) dX12_peels_134 ?_
            refine g_aload_n C dX12_peels_135 rfl 1 rfl ?_
            refine g_getI C fi_X12_318 (by decide) (h96438).1 (h96438).2 dX12_peels_136 ?_
            refine a_iand C dX12_peels_139 (fun z96476 => ?_)
            refine g_callSI (b := 0) (ci := 0) (rest := [.int v64_5]) C ms_X12_264 [.int z96476] (s_X12_bits I64.1) rfl rfl (by decide) (Nat.le_of_ble_eq_true rfl) (by decide) dX12_peels_140 (fun r96478 Y96479 h96480 => ?_)
            obtain ⟨rfl, h96480⟩ := h96480
            obtain ⟨h96480, hi96481⟩ := h96480
            have hi96481 : r96478.toInt = 0 ∨ z96476.toInt ≠ 0 := hi96481
            have h96480 : 0 ≤ r96478.toInt ∧ r96478.toInt ≤ 20 := h96480
            refine g_goto C 157 dX12_peels_143 (by decide) ?_
            refine g_lv (lv' := [(0, .ref a0), (4, .int a4), (6, .int v64_6)]) [1, 2, 4] rfl ?_
            exact J157 r96478 (by omega) (by omega) (by omega) (by omega) (by omega) (fun b9 e9 => by rw [e96440] at e9; cases e9; omega)
        · have h96473 : a4.toInt = 1 := congrArg Int32.toInt h96473
          refine g_iload C dX12_peels_100 0 rfl ?_
          refine b_if_ne C 118 dX12_peels_102 (by decide) (fun h96482 => ?_) (fun h96482 => ?_)
          · have h96482 : r96469.toInt ≠ 0 := ti_ne h96482
            refine g_lv (lv' := [(0, .ref a0), (4, .int a4), (6, .int v64_6)]) [1, 2, 4] rfl ?_
            exact J118 (by omega) (by omega) (by omega) (by omega) (fun b9 e9 => by rw [e96440] at e9; cases e9; omega)
          · have h96482 : r96469.toInt = 0 := congrArg Int32.toInt h96482
            refine g_aload_n C dX12_peels_105 rfl 1 rfl ?_
            refine g_iload C dX12_peels_106 4 rfl ?_
            refine g_callVI (rest := [.int v64_5]) C mv_X12_321 [.int v64_6] (s_X12_comesTo I64 (by omega) W64) (h96438).1 (h96438).2 rfl rfl (by decide) (Nat.le_of_ble_eq_true rfl) (by decide) dX12_peels_108 (fun r96483 Y96484 h96485 => ?_)
            obtain ⟨rfl, h96485⟩ := h96485
            have h96485 : True := h96485
            have u96487 := ti_rng r96483
            refine b_if_eq C 118 dX12_peels_111 (by decide) (fun h96486 => ?_) (fun h96486 => ?_)
            · have h96486 : r96483.toInt = 0 := congrArg Int32.toInt h96486
              refine g_lv (lv' := [(0, .ref a0), (4, .int a4), (6, .int v64_6)]) [1, 2, 4] rfl ?_
              exact J118 (by omega) (by omega) (by omega) (by omega) (fun b9 e9 => by rw [e96440] at e9; cases e9; omega)
            · have h96486 : r96483.toInt ≠ 0 := ti_ne h96486
              refine g_iconst (v := 1) C dX12_peels_114 (by decide) ?_
              refine g_goto C 157 dX12_peels_115 (by decide) ?_
              refine g_lv (lv' := [(0, .ref a0), (4, .int a4), (6, .int v64_6)]) [1, 2, 4] rfl ?_
              exact J157 1 (by omega) (by omega) (by decide) (by omega) (by omega) (fun b9 e9 => by rw [e96440] at e9; cases e9; omega)
  have J25 : ∀ (P25 : PP), (IM P25 a0) → (EM [0, 28, 29, 30, 31, 32, 33, 34] a0 P P25) → (MW P25 a0) → (0 ≤ (pI P25 a0 0).toInt ∧ (pI P25 a0 0).toInt ≤ 0) → G E ({ frames := 5, cells := 0, slots := 0, locals := 320 } : Room) D cy 8 P25 0 0 25 [] [] := by
    intro P25 I25 X25 W25 hq25_0
    have h96488 := X25.at ha0
    refine g_iconst (v := (-1)) C dX12_peels_25 (by decide) ?_
    exact ret _ _ _ _ _ _ dX12_peels_26 rfl (by decide) (by decide) ⟨I25, X25, W25, trivial⟩
  refine g_aload_n C dX12_peels_0 rfl 0 rfl ?_
  refine g_iconst (v := 0) C dX12_peels_1 (by decide) ?_
  refine g_putI C fi_X12_1 rfl (ha0).1 (ha0).2 dX12_peels_2 ?_
  refine gqW (ks := [0]) (I.setI (rgOk.of rfl (by decide))) (EM.setI I (by decide)) (fun Y96489 Iy96490 Xy96491 w96492  => ?_)
  have w96492 : (pI Y96489 a0 0).toInt = 0 := w96492
  have W96493 := hW.keep I Xy96491 (by decide) (by decide) (by decide) (by decide)
  have Xz96494 : EM [0, 28, 29, 30, 31, 32, 33, 34] a0 P Y96489 := Xy96491.mono (by decide)
  have h96495 := Xy96491.at ha0
  refine g_aload_n C dX12_peels_5 rfl 0 rfl ?_
  refine g_iload_n C dX12_peels_6 rfl 1 rfl ?_
  refine g_iload_n C dX12_peels_7 rfl 2 rfl ?_
  refine g_iload_n C dX12_peels_8 rfl 3 rfl ?_
  refine g_callVI (rest := []) C mv_X12_333 [.int a1, .int a2, .int a3] (s_X12_isAsked Iy96490 W96493) (h96495).1 (h96495).2 rfl rfl (by decide) (Nat.le_of_ble_eq_true rfl) (by decide) dX12_peels_9 (fun r96496 Y96497 h96498 => ?_)
  obtain ⟨rfl, h96498⟩ := h96498
  obtain ⟨h96498, hi96499, hi96500⟩ := h96498
  have hi96499 : r96496.toInt = 0 ∨ (((0 : Int) ≤ a1.toInt ∧ a1.toInt ≤ (3 : Int)) ∧ ((0 : Int) ≤ a2.toInt ∧ a2.toInt ≤ (1 : Int)) ∧ ((0 : Int) ≤ a3.toInt ∧ a3.toInt ≤ (1 : Int))) := hi96499
  have h96498 : 0 ≤ r96496.toInt ∧ r96496.toInt ≤ 1 := h96498
  refine b_if_eq C 25 dX12_peels_12 (by decide) (fun h96501 => ?_) (fun h96501 => ?_)
  · have h96501 : r96496.toInt = 0 := congrArg Int32.toInt h96501
    clear hi96499
    refine g_lv (lv' := []) [] rfl ?_
    exact J25 Y96489 Iy96490 Xz96494 W96493 (by omega)
  · have h96501 : r96496.toInt ≠ 0 := ti_ne h96501
    replace hi96499 := hi96499.resolve_left (by omega)
    obtain ⟨b96502, e96503, h96504⟩ := Iy96490.fld (h96495) 10 13 2 rfl
    have hi96500 := (hi96500.resolve_left (by omega)) b96502 e96503
    have hi96500 : 0 < (pI Y96489 b96502 (a2.toInt.toNat)).toInt := hi96500
    have h96505 := Iy96490.arr e96503 rfl (a2.toInt.toNat)
    refine g_iload C dX12_peels_15 4 rfl ?_
    refine g_iconst (v := 0) C dX12_peels_17 (by decide) ?_
    refine g_iconst (v := 3) C dX12_peels_18 (by decide) ?_
    refine g_callSI (b := 0) (ci := 0) (rest := []) C ms_X12_178 [.int a4, .int 0, .int 3] (s_X12_within Iy96490.1) rfl rfl (by decide) (Nat.le_of_ble_eq_true rfl) (by decide) dX12_peels_19 (fun r96506 Y96507 h96508 => ?_)
    obtain ⟨rfl, h96508⟩ := h96508
    obtain ⟨h96508, hi96509⟩ := h96508
    have hi96509 : r96506.toInt = 0 ∨ (0 ≤ a4.toInt ∧ a4.toInt ≤ 3) := hi96509
    have h96508 : 0 ≤ r96506.toInt ∧ r96506.toInt ≤ 1 := h96508
    refine b_if_ne C 27 dX12_peels_22 (by decide) (fun h96510 => ?_) (fun h96510 => ?_)
    · have h96510 : r96506.toInt ≠ 0 := ti_ne h96510
      replace hi96509 := hi96509.resolve_left (by omega)
      refine g_aload_n C dX12_peels_27 rfl 0 rfl ?_
      refine g_callVV (rest := []) C mv_X12_336 [] (s_X12_leavesNone Iy96490 W96493) (h96495).1 (h96495).2 rfl rfl (by decide) (Nat.le_of_ble_eq_true rfl) (by decide) dX12_peels_28 (fun Y96512 h96513 => ?_)
      obtain ⟨Iy96514, Xy96515, W96516⟩ := h96513
      have q96517 := Xy96515.keepF 0 (by decide)
      have q96518 := Xy96515.keepA e96503 (by decide) rfl (a2.toInt.toNat)
      have Xz96519 : EM [0, 28, 29, 30, 31, 32, 33, 34] a0 P Y96512 := EM.tr ha0 Xz96494 (Xy96515.mono (by decide))
      have e96520 := Xy96515.ref h96495 (by decide) e96503
      have h96521 := Xy96515.at h96495
      have h96522 := Xy96515.ar h96504
      refine g_aload_n C dX12_peels_31 rfl 0 rfl ?_
      refine g_iload_n C dX12_peels_32 rfl 1 rfl ?_
      refine g_iload_n C dX12_peels_33 rfl 2 rfl ?_
      refine g_iload_n C dX12_peels_34 rfl 3 rfl ?_
      refine g_aload_n C dX12_peels_35 rfl 0 rfl ?_
      obtain ⟨b96523, e96524, h96525⟩ := Iy96514.fld (h96521) 20 13 20 rfl
      refine g_getR C fi_X12_69 rfl e96524 (h96521).1 (h96521).2 dX12_peels_36 ?_
      refine g_iload_n C dX12_peels_39 rfl 1 rfl ?_
      refine g_iald (j := (a1.toInt.toNat)) C h96525.1 h96525.2.1 (ix_in h96525.2.2 (by omega)) dX12_peels_40 ?_
      have h96526 := Iy96514.arr e96524 rfl (a1.toInt.toNat)
      refine g_callVV (rest := []) C mv_X12_339 [.int a1, .int a2, .int a3, .int (pI Y96512 b96523 (a1.toInt.toNat))] (s_X12_gathers Iy96514 (by omega) (by omega) (by omega) (fun b9 e9 => by rw [e96520] at e9; cases e9; show 1 ≤ (pI Y96512 b96502 (a2.toInt.toNat)).toInt ∧ (pI Y96512 b96502 (a2.toInt.toNat)).toInt ≤ 16; omega) W96516) (h96521).1 (h96521).2 rfl rfl (by decide) (Nat.le_of_ble_eq_true rfl) (by decide) dX12_peels_41 (fun Y96528 h96529 => ?_)
      obtain ⟨Iy96530, Xy96531, W96532, p96533, p96534⟩ := h96529
      have p96533 : (pI Y96528 a0 28).toInt ≤ 4 + (pI Y96512 b96523 (a1.toInt.toNat)).toInt := p96533
      have q96535 := Xy96531.keepF 0 (by decide)
      have q96536 := Xy96531.keepA e96520 (by decide) rfl (a2.toInt.toNat)
      have q96537 := Xy96531.keepA e96524 (by decide) rfl (a1.toInt.toNat)
      have Xz96538 : EM [0, 28, 29, 30, 31, 32, 33, 34] a0 P Y96528 := EM.tr ha0 Xz96519 (Xy96531.mono (by decide))
      have e96539 := Xy96531.ref h96521 (by decide) e96520
      have e96540 := Xy96531.ref h96521 (by decide) e96524
      have h96541 := Xy96531.at h96521
      have h96542 := Xy96531.ar h96522
      have h96543 := Xy96531.ar h96525
      obtain ⟨b96544, e96545, h96546⟩ := Iy96530.fld (h96541) 22 13 800 rfl
      have p96534 := p96534 b96544 e96545
      rw [Xz96538.2.2.2 22 (by decide) rfl b96544 (EM.refB Xz96538 ha0 e96545)] at p96534
      have p96534 : (pI Y96528 a0 28).toInt ≤ 4 + kC (pI P b96544) (40 * a1.toInt).toNat a2.toInt ((pI Y96512 b96523 (a1.toInt.toNat)).toInt : Int).toNat := p96534
      have h96547 := Iy96530.rg h96541 28 rfl
      refine g_aload_n C dX12_peels_44 rfl 0 rfl ?_
      refine g_callVV (rest := []) C mv_X12_343 [] (s_X12_findPeeled Iy96530 W96532) (h96541).1 (h96541).2 rfl rfl (by decide) (Nat.le_of_ble_eq_true rfl) (by decide) dX12_peels_45 (fun Y96549 h96550 => ?_)
      obtain ⟨Iy96551, Xy96552, W96553⟩ := h96550
      have q96554 := Xy96552.keepF 0 (by decide)
      have q96555 := Xy96552.keepA e96539 (by decide) rfl (a2.toInt.toNat)
      have q96556 := Xy96552.keepA e96540 (by decide) rfl (a1.toInt.toNat)
      have q96557 := Xy96552.keepF 28 (by decide)
      have Xz96558 : EM [0, 28, 29, 30, 31, 32, 33, 34] a0 P Y96549 := EM.tr ha0 Xz96538 (Xy96552.mono (by decide))
      have e96559 := Xy96552.ref h96541 (by decide) e96539
      have e96560 := Xy96552.ref h96541 (by decide) e96540
      have h96561 := Xy96552.at h96541
      have h96562 := Xy96552.ar h96542
      have h96563 := Xy96552.ar h96543
      refine g_iload C dX12_peels_48 4 rfl ?_
      refine b_if_ne C 58 dX12_peels_50 (by decide) (fun h96564 => ?_) (fun h96564 => ?_)
      · have h96564 : a4.toInt ≠ 0 := ti_ne h96564
        refine g_iconst (v := 0) C dX12_peels_58 (by decide) ?_
        refine g_istore (lv' := [(5, .int 0), (0, .ref a0), (1, .int a1), (2, .int a2), (3, .int a3), (4, .int a4)]) C dX12_peels_59 (by decide) rfl ?_
        refine g_iconst (v := 0) C dX12_peels_61 (by decide) ?_
        refine g_istore (lv' := [(6, .int 0), (5, .int 0), (0, .ref a0), (1, .int a1), (2, .int a2), (3, .int a3), (4, .int a4)]) C dX12_peels_62 (by decide) rfl ?_
        refine g_lv (lv' := [(0, .ref a0), (4, .int a4), (5, .int 0), (6, .int 0)]) [2, 6, 1, 0] rfl ?_
        exact J64 _ Y96549 0 0 (Nat.lt_succ_self _) Iy96551 Xz96558 W96553 (by omega) (by decide) (by omega) (by omega) (fun b9 e9 => by rw [e96559] at e9; cases e9; omega)
      · have h96564 : a4.toInt = 0 := congrArg Int32.toInt h96564
        refine g_aload_n C dX12_peels_53 rfl 0 rfl ?_
        refine g_getI C fi_X12_318 (by decide) (h96561).1 (h96561).2 dX12_peels_54 ?_
        exact ret _ _ _ _ _ _ dX12_peels_57 rfl (by decide) (by decide) ⟨Iy96551, Xz96558, W96553, trivial⟩
    · have h96510 : r96506.toInt = 0 := congrArg Int32.toInt h96510
      clear hi96509
      refine g_lv (lv' := []) [] rfl ?_
      exact J25 Y96489 Iy96490 Xz96494 W96493 (by omega)
theorem dX12_quarter_0 : decode cX12_quarter 0 = .ok (.aload_n 0, 1) := by decide +kernel
theorem dX12_quarter_1 : decode cX12_quarter 1 = .ok (.iconst 0, 1) := by decide +kernel
theorem dX12_quarter_2 : decode cX12_quarter 2 = .ok (.putfield 1, 3) := by decide +kernel
theorem dX12_quarter_5 : decode cX12_quarter 5 = .ok (.iload_n 1, 1) := by decide +kernel
theorem dX12_quarter_6 : decode cX12_quarter 6 = .ok (.invokestatic 278, 3) := by decide +kernel
theorem dX12_quarter_9 : decode cX12_quarter 9 = .ok (.ifCond .eq 24, 3) := by decide +kernel
theorem dX12_quarter_12 : decode cX12_quarter 12 = .ok (.iload_n 2, 1) := by decide +kernel
theorem dX12_quarter_13 : decode cX12_quarter 13 = .ok (.iconst 0, 1) := by decide +kernel
theorem dX12_quarter_14 : decode cX12_quarter 14 = .ok (.bipush 100, 2) := by decide +kernel
theorem dX12_quarter_16 : decode cX12_quarter 16 = .ok (.invokestatic 178, 3) := by decide +kernel
theorem dX12_quarter_19 : decode cX12_quarter 19 = .ok (.ifCond .eq 14, 3) := by decide +kernel
theorem dX12_quarter_22 : decode cX12_quarter 22 = .ok (.iload_n 3, 1) := by decide +kernel
theorem dX12_quarter_23 : decode cX12_quarter 23 = .ok (.iconst 0, 1) := by decide +kernel
theorem dX12_quarter_24 : decode cX12_quarter 24 = .ok (.sipush 999, 3) := by decide +kernel
theorem dX12_quarter_27 : decode cX12_quarter 27 = .ok (.invokestatic 178, 3) := by decide +kernel
theorem dX12_quarter_30 : decode cX12_quarter 30 = .ok (.ifCond .ne 5, 3) := by decide +kernel
theorem dX12_quarter_33 : decode cX12_quarter 33 = .ok (.iconst 0, 1) := by decide +kernel
theorem dX12_quarter_34 : decode cX12_quarter 34 = .ok (.ireturn, 1) := by decide +kernel
theorem dX12_quarter_35 : decode cX12_quarter 35 = .ok (.aload_n 0, 1) := by decide +kernel
theorem dX12_quarter_36 : decode cX12_quarter 36 = .ok (.getfield 127, 3) := by decide +kernel
theorem dX12_quarter_39 : decode cX12_quarter 39 = .ok (.iload_n 1, 1) := by decide +kernel
theorem dX12_quarter_40 : decode cX12_quarter 40 = .ok (.iload_n 2, 1) := by decide +kernel
theorem dX12_quarter_41 : decode cX12_quarter 41 = .ok (.iastore, 1) := by decide +kernel
theorem dX12_quarter_42 : decode cX12_quarter 42 = .ok (.aload_n 0, 1) := by decide +kernel
theorem dX12_quarter_43 : decode cX12_quarter 43 = .ok (.getfield 130, 3) := by decide +kernel
theorem dX12_quarter_46 : decode cX12_quarter 46 = .ok (.iload_n 1, 1) := by decide +kernel
theorem dX12_quarter_47 : decode cX12_quarter 47 = .ok (.iload_n 3, 1) := by decide +kernel
theorem dX12_quarter_48 : decode cX12_quarter 48 = .ok (.iastore, 1) := by decide +kernel
theorem dX12_quarter_49 : decode cX12_quarter 49 = .ok (.iconst 1, 1) := by decide +kernel
theorem dX12_quarter_50 : decode cX12_quarter 50 = .ok (.ireturn, 1) := by decide +kernel
set_option maxHeartbeats 4000000 in
set_option maxRecDepth 100000 in
theorem s_X12_quarter {P : PP} {a0 : Nat} {a1 : Int32} {a2 : Int32} {a3 : Int32} (I : IM P a0) (hW : MW P a0) : CtrI yX12_quarter cX12_quarter 4 (some Jvm.ClassFile.FieldType.boolean) ({ frames := 3, cells := 0, slots := 0, locals := 192 } : Room) 0 0 P [.ref a0, .int a1, .int a2, .int a3] (fun r P2 => IM P2 a0 ∧ EM [0, 45, 46] a0 P P2 ∧ MW P2 a0 ∧ (0 ≤ r.toInt ∧ r.toInt ≤ 1) ∧ (r.toInt = 0 ∨ (((0 : Int) ≤ a1.toInt ∧ a1.toInt ≤ (3 : Int)) ∧ ((0 : Int) ≤ a2.toInt ∧ a2.toInt ≤ (100 : Int)) ∧ ((0 : Int) ≤ a3.toInt ∧ a3.toInt ≤ (999 : Int))))) := by
  refine enI (lv := [(0, .ref a0), (1, .int a1), (2, .int a2), (3, .int a3)]) (by decide) (Nat.le_of_ble_eq_true rfl) rfl (fun E D cy C Ci0 ret => ?_)
  have ha0 := I.2.1
  have J33 : ∀ (P33 : PP), (IM P33 a0) → (EM [0, 45, 46] a0 P P33) → (MW P33 a0) → (0 ≤ (pI P33 a0 0).toInt ∧ (pI P33 a0 0).toInt ≤ 0) → G E ({ frames := 3, cells := 0, slots := 0, locals := 192 } : Room) D cy 4 P33 0 0 33 [] [] := by
    intro P33 I33 X33 W33 hq33_0
    have h96617 := X33.at ha0
    refine g_iconst (v := 0) C dX12_quarter_33 (by decide) ?_
    exact ret _ _ _ _ _ _ dX12_quarter_34 rfl (by decide) (by decide) ⟨I33, X33, W33, (by decide), Or.inl rfl⟩
  refine g_aload_n C dX12_quarter_0 rfl 0 rfl ?_
  refine g_iconst (v := 0) C dX12_quarter_1 (by decide) ?_
  refine g_putI C fi_X12_1 rfl (ha0).1 (ha0).2 dX12_quarter_2 ?_
  refine gqW (ks := [0]) (I.setI (rgOk.of rfl (by decide))) (EM.setI I (by decide)) (fun Y96618 Iy96619 Xy96620 w96621  => ?_)
  have w96621 : (pI Y96618 a0 0).toInt = 0 := w96621
  have W96622 := hW.keep I Xy96620 (by decide) (by decide) (by decide) (by decide)
  have Xz96623 : EM [0, 45, 46] a0 P Y96618 := Xy96620.mono (by decide)
  have h96624 := Xy96620.at ha0
  refine g_iload_n C dX12_quarter_5 rfl 1 rfl ?_
  refine g_callSI (b := 0) (ci := 0) (rest := []) C ms_X12_278 [.int a1] (s_X12_isQuarter Iy96619.1) rfl rfl (by decide) (Nat.le_of_ble_eq_true rfl) (by decide) dX12_quarter_6 (fun r96625 Y96626 h96627 => ?_)
  obtain ⟨rfl, h96627⟩ := h96627
  obtain ⟨h96627, hi96628⟩ := h96627
  have hi96628 : r96625.toInt = 0 ∨ (((0 : Int) ≤ a1.toInt ∧ a1.toInt ≤ (3 : Int))) := hi96628
  have h96627 : 0 ≤ r96625.toInt ∧ r96625.toInt ≤ 1 := h96627
  refine b_if_eq C 33 dX12_quarter_9 (by decide) (fun h96629 => ?_) (fun h96629 => ?_)
  · have h96629 : r96625.toInt = 0 := congrArg Int32.toInt h96629
    clear hi96628
    refine g_lv (lv' := []) [] rfl ?_
    exact J33 Y96618 Iy96619 Xz96623 W96622 (by omega)
  · have h96629 : r96625.toInt ≠ 0 := ti_ne h96629
    replace hi96628 := hi96628.resolve_left (by omega)
    refine g_iload_n C dX12_quarter_12 rfl 2 rfl ?_
    refine g_iconst (v := 0) C dX12_quarter_13 (by decide) ?_
    refine g_bipush (v := 100) C dX12_quarter_14 (by decide) ?_
    refine g_callSI (b := 0) (ci := 0) (rest := []) C ms_X12_178 [.int a2, .int 0, .int 100] (s_X12_within Iy96619.1) rfl rfl (by decide) (Nat.le_of_ble_eq_true rfl) (by decide) dX12_quarter_16 (fun r96630 Y96631 h96632 => ?_)
    obtain ⟨rfl, h96632⟩ := h96632
    obtain ⟨h96632, hi96633⟩ := h96632
    have hi96633 : r96630.toInt = 0 ∨ (0 ≤ a2.toInt ∧ a2.toInt ≤ 100) := hi96633
    have h96632 : 0 ≤ r96630.toInt ∧ r96630.toInt ≤ 1 := h96632
    refine b_if_eq C 33 dX12_quarter_19 (by decide) (fun h96634 => ?_) (fun h96634 => ?_)
    · have h96634 : r96630.toInt = 0 := congrArg Int32.toInt h96634
      clear hi96633
      refine g_lv (lv' := []) [] rfl ?_
      exact J33 Y96618 Iy96619 Xz96623 W96622 (by omega)
    · have h96634 : r96630.toInt ≠ 0 := ti_ne h96634
      replace hi96633 := hi96633.resolve_left (by omega)
      refine g_iload_n C dX12_quarter_22 rfl 3 rfl ?_
      refine g_iconst (v := 0) C dX12_quarter_23 (by decide) ?_
      refine g_sipush (v := 999) C dX12_quarter_24 (by decide) ?_
      refine g_callSI (b := 0) (ci := 0) (rest := []) C ms_X12_178 [.int a3, .int 0, .int 999] (s_X12_within Iy96619.1) rfl rfl (by decide) (Nat.le_of_ble_eq_true rfl) (by decide) dX12_quarter_27 (fun r96635 Y96636 h96637 => ?_)
      obtain ⟨rfl, h96637⟩ := h96637
      obtain ⟨h96637, hi96638⟩ := h96637
      have hi96638 : r96635.toInt = 0 ∨ (0 ≤ a3.toInt ∧ a3.toInt ≤ 999) := hi96638
      have h96637 : 0 ≤ r96635.toInt ∧ r96635.toInt ≤ 1 := h96637
      refine b_if_ne C 35 dX12_quarter_30 (by decide) (fun h96639 => ?_) (fun h96639 => ?_)
      · have h96639 : r96635.toInt ≠ 0 := ti_ne h96639
        replace hi96638 := hi96638.resolve_left (by omega)
        refine g_aload_n C dX12_quarter_35 rfl 0 rfl ?_
        obtain ⟨b96640, e96641, h96642⟩ := Iy96619.fld (h96624) 45 13 4 rfl
        refine g_getR C fi_X12_127 rfl e96641 (h96624).1 (h96624).2 dX12_quarter_36 ?_
        refine g_iload_n C dX12_quarter_39 rfl 1 rfl ?_
        refine g_iload_n C dX12_quarter_40 rfl 2 rfl ?_
        refine g_iast (j := (a1.toInt.toNat)) C h96642.1 h96642.2.1 (ix_in h96642.2.2 (by omega)) dX12_quarter_41 ?_
        refine gqW (ks := [45]) (Iy96619.setA e96641 h96642 (by decide) (arOk.none rfl)) (EM.setA Iy96619 e96641 rfl (by decide)) (fun Y96643 Iy96644 Xy96645 w96646  => ?_)
        have w96646 : (pI Y96643 b96640 (a1.toInt.toNat)).toInt = a2.toInt := w96646
        have q96647 := Xy96645.keepF 0 (by decide)
        have W96648 := W96622.keep Iy96619 Xy96645 (by decide) (by decide) (by decide) (by decide)
        have Xz96649 : EM [0, 45, 46] a0 P Y96643 := EM.tr ha0 Xz96623 (Xy96645.mono (by decide))
        have e96650 := Xy96645.ref h96624 (by decide) e96641
        have h96651 := Xy96645.at h96624
        have h96652 := Xy96645.ar h96642
        refine g_aload_n C dX12_quarter_42 rfl 0 rfl ?_
        obtain ⟨b96653, e96654, h96655⟩ := Iy96644.fld (h96651) 46 13 4 rfl
        refine g_getR C fi_X12_130 rfl e96654 (h96651).1 (h96651).2 dX12_quarter_43 ?_
        refine g_iload_n C dX12_quarter_46 rfl 1 rfl ?_
        refine g_iload_n C dX12_quarter_47 rfl 3 rfl ?_
        refine g_iast (j := (a1.toInt.toNat)) C h96655.1 h96655.2.1 (ix_in h96655.2.2 (by omega)) dX12_quarter_48 ?_
        refine gqW (ks := [46]) (Iy96644.setA e96654 h96655 (by decide) (arOk.none rfl)) (EM.setA Iy96644 e96654 rfl (by decide)) (fun Y96656 Iy96657 Xy96658 w96659  => ?_)
        have w96659 : (pI Y96656 b96653 (a1.toInt.toNat)).toInt = a3.toInt := w96659
        have q96660 := Xy96658.keepF 0 (by decide)
        have q96661 := Xy96658.keepA e96650 (by decide) rfl (a1.toInt.toNat)
        have W96662 := W96648.keep Iy96644 Xy96658 (by decide) (by decide) (by decide) (by decide)
        have Xz96663 : EM [0, 45, 46] a0 P Y96656 := EM.tr ha0 Xz96649 (Xy96658.mono (by decide))
        have e96664 := Xy96658.ref h96651 (by decide) e96650
        have e96665 := Xy96658.ref h96651 (by decide) e96654
        have h96666 := Xy96658.at h96651
        have h96667 := Xy96658.ar h96652
        have h96668 := Xy96658.ar h96655
        refine g_iconst (v := 1) C dX12_quarter_49 (by decide) ?_
        exact ret _ _ _ _ _ _ dX12_quarter_50 rfl (by decide) (by decide) ⟨Iy96657, Xz96663, W96662, (by decide), Or.inr (by omega)⟩
      · have h96639 : r96635.toInt = 0 := congrArg Int32.toInt h96639
        clear hi96638
        refine g_lv (lv' := []) [] rfl ?_
        exact J33 Y96618 Iy96619 Xz96623 W96622 (by omega)
theorem dX12_read_0 : decode cX12_read 0 = .ok (.aload_n 0, 1) := by decide +kernel
theorem dX12_read_1 : decode cX12_read 1 = .ok (.iconst 0, 1) := by decide +kernel
theorem dX12_read_2 : decode cX12_read 2 = .ok (.putfield 1, 3) := by decide +kernel
theorem dX12_read_5 : decode cX12_read 5 = .ok (.iload_n 1, 1) := by decide +kernel
theorem dX12_read_6 : decode cX12_read 6 = .ok (.invokestatic 278, 3) := by decide +kernel
theorem dX12_read_9 : decode cX12_read 9 = .ok (.ifCond .eq 30, 3) := by decide +kernel
theorem dX12_read_12 : decode cX12_read 12 = .ok (.aload_n 0, 1) := by decide +kernel
theorem dX12_read_13 : decode cX12_read 13 = .ok (.iload_n 2, 1) := by decide +kernel
theorem dX12_read_14 : decode cX12_read 14 = .ok (.invokevirtual 192, 3) := by decide +kernel
theorem dX12_read_17 : decode cX12_read 17 = .ok (.ifCond .eq 22, 3) := by decide +kernel
theorem dX12_read_20 : decode cX12_read 20 = .ok (.aload_n 0, 1) := by decide +kernel
theorem dX12_read_21 : decode cX12_read 21 = .ok (.iload_n 2, 1) := by decide +kernel
theorem dX12_read_22 : decode cX12_read 22 = .ok (.iload_n 3, 1) := by decide +kernel
theorem dX12_read_23 : decode cX12_read 23 = .ok (.invokevirtual 352, 3) := by decide +kernel
theorem dX12_read_26 : decode cX12_read 26 = .ok (.ifCond .eq 13, 3) := by decide +kernel
theorem dX12_read_29 : decode cX12_read 29 = .ok (.iload 4, 2) := by decide +kernel
theorem dX12_read_31 : decode cX12_read 31 = .ok (.iconst 0, 1) := by decide +kernel
theorem dX12_read_32 : decode cX12_read 32 = .ok (.iconst 1, 1) := by decide +kernel
theorem dX12_read_33 : decode cX12_read 33 = .ok (.invokestatic 178, 3) := by decide +kernel
theorem dX12_read_36 : decode cX12_read 36 = .ok (.ifCond .ne 5, 3) := by decide +kernel
theorem dX12_read_41 : decode cX12_read 41 = .ok (.aload_n 0, 1) := by decide +kernel
theorem dX12_read_42 : decode cX12_read 42 = .ok (.invokevirtual 336, 3) := by decide +kernel
theorem dX12_read_45 : decode cX12_read 45 = .ok (.aload_n 0, 1) := by decide +kernel
theorem dX12_read_46 : decode cX12_read 46 = .ok (.iload_n 1, 1) := by decide +kernel
theorem dX12_read_47 : decode cX12_read 47 = .ok (.iload_n 2, 1) := by decide +kernel
theorem dX12_read_48 : decode cX12_read 48 = .ok (.iload_n 3, 1) := by decide +kernel
theorem dX12_read_49 : decode cX12_read 49 = .ok (.iload 4, 2) := by decide +kernel
theorem dX12_read_51 : decode cX12_read 51 = .ok (.aload_n 0, 1) := by decide +kernel
theorem dX12_read_52 : decode cX12_read 52 = .ok (.getfield 69, 3) := by decide +kernel
theorem dX12_read_55 : decode cX12_read 55 = .ok (.iload_n 1, 1) := by decide +kernel
theorem dX12_read_56 : decode cX12_read 56 = .ok (.iaload, 1) := by decide +kernel
theorem dX12_read_57 : decode cX12_read 57 = .ok (.invokevirtual 355, 3) := by decide +kernel
theorem dX12_readBy_0 : decode cX12_readBy 0 = .ok (.iconst 0, 1) := by decide +kernel
theorem dX12_readBy_1 : decode cX12_readBy 1 = .ok (.istore 6, 2) := by decide +kernel
theorem dX12_readBy_3 : decode cX12_readBy 3 = .ok (.iconst 0, 1) := by decide +kernel
theorem dX12_readBy_4 : decode cX12_readBy 4 = .ok (.istore 7, 2) := by decide +kernel
theorem dX12_readBy_6 : decode cX12_readBy 6 = .ok (.iload 7, 2) := by decide +kernel
theorem dX12_readBy_8 : decode cX12_readBy 8 = .ok (.iconst 2, 1) := by decide +kernel
theorem dX12_readBy_9 : decode cX12_readBy 9 = .ok (.if_icmp .ge 105, 3) := by decide +kernel
theorem dX12_readBy_12 : decode cX12_readBy 12 = .ok (.aload_n 0, 1) := by decide +kernel
theorem dX12_readBy_13 : decode cX12_readBy 13 = .ok (.iload_n 1, 1) := by decide +kernel
theorem dX12_readBy_14 : decode cX12_readBy 14 = .ok (.iload_n 2, 1) := by decide +kernel
theorem dX12_readBy_15 : decode cX12_readBy 15 = .ok (.iload 7, 2) := by decide +kernel
theorem dX12_readBy_17 : decode cX12_readBy 17 = .ok (.iload 5, 2) := by decide +kernel
theorem dX12_readBy_19 : decode cX12_readBy 19 = .ok (.invokevirtual 339, 3) := by decide +kernel
theorem dX12_readBy_22 : decode cX12_readBy 22 = .ok (.iload 4, 2) := by decide +kernel
theorem dX12_readBy_24 : decode cX12_readBy 24 = .ok (.ifCond .ne 10, 3) := by decide +kernel
theorem dX12_readBy_27 : decode cX12_readBy 27 = .ok (.aload_n 0, 1) := by decide +kernel
theorem dX12_readBy_28 : decode cX12_readBy 28 = .ok (.invokevirtual 343, 3) := by decide +kernel
theorem dX12_readBy_31 : decode cX12_readBy 31 = .ok (.goto 7, 3) := by decide +kernel
theorem dX12_readBy_34 : decode cX12_readBy 34 = .ok (.aload_n 0, 1) := by decide +kernel
theorem dX12_readBy_35 : decode cX12_readBy 35 = .ok (.invokevirtual 346, 3) := by decide +kernel
theorem dX12_readBy_38 : decode cX12_readBy 38 = .ok (.iload 4, 2) := by decide +kernel
theorem dX12_readBy_40 : decode cX12_readBy 40 = .ok (.ifCond .ne 23, 3) := by decide +kernel
theorem dX12_readBy_43 : decode cX12_readBy 43 = .ok (.aload_n 0, 1) := by decide +kernel
theorem dX12_readBy_44 : decode cX12_readBy 44 = .ok (.getfield 318, 3) := by decide +kernel
theorem dX12_readBy_47 : decode cX12_readBy 47 = .ok (.iload_n 3, 1) := by decide +kernel
theorem dX12_readBy_48 : decode cX12_readBy 48 = .ok (.ishr, 1) := by decide +kernel
theorem dX12_readBy_49 : decode cX12_readBy 49 = .ok (.iconst 1, 1) := by decide +kernel
theorem dX12_readBy_50 : decode cX12_readBy 50 = .ok (.iand, 1) := by decide +kernel
theorem dX12_readBy_51 : decode cX12_readBy 51 = .ok (.iconst 1, 1) := by decide +kernel
theorem dX12_readBy_52 : decode cX12_readBy 52 = .ok (.if_icmp .ne 7, 3) := by decide +kernel
theorem dX12_readBy_55 : decode cX12_readBy 55 = .ok (.iconst 1, 1) := by decide +kernel
theorem dX12_readBy_56 : decode cX12_readBy 56 = .ok (.goto 12, 3) := by decide +kernel
theorem dX12_readBy_59 : decode cX12_readBy 59 = .ok (.iconst 0, 1) := by decide +kernel
theorem dX12_readBy_60 : decode cX12_readBy 60 = .ok (.goto 8, 3) := by decide +kernel
theorem dX12_readBy_63 : decode cX12_readBy 63 = .ok (.aload_n 0, 1) := by decide +kernel
theorem dX12_readBy_64 : decode cX12_readBy 64 = .ok (.iload_n 3, 1) := by decide +kernel
theorem dX12_readBy_65 : decode cX12_readBy 65 = .ok (.invokevirtual 330, 3) := by decide +kernel
theorem dX12_readBy_68 : decode cX12_readBy 68 = .ok (.istore 8, 2) := by decide +kernel
theorem dX12_readBy_70 : decode cX12_readBy 70 = .ok (.iload 8, 2) := by decide +kernel
theorem dX12_readBy_72 : decode cX12_readBy 72 = .ok (.ifCond .ne 5, 3) := by decide +kernel
theorem dX12_readBy_75 : decode cX12_readBy 75 = .ok (.iconst (-1), 1) := by decide +kernel
theorem dX12_readBy_76 : decode cX12_readBy 76 = .ok (.ireturn, 1) := by decide +kernel
theorem dX12_readBy_77 : decode cX12_readBy 77 = .ok (.iload 6, 2) := by decide +kernel
theorem dX12_readBy_79 : decode cX12_readBy 79 = .ok (.iload 4, 2) := by decide +kernel
theorem dX12_readBy_81 : decode cX12_readBy 81 = .ok (.ifCond .ne 12, 3) := by decide +kernel
theorem dX12_readBy_84 : decode cX12_readBy 84 = .ok (.aload_n 0, 1) := by decide +kernel
theorem dX12_readBy_85 : decode cX12_readBy 85 = .ok (.getfield 103, 3) := by decide +kernel
theorem dX12_readBy_88 : decode cX12_readBy 88 = .ok (.iload_n 3, 1) := by decide +kernel
theorem dX12_readBy_89 : decode cX12_readBy 89 = .ok (.iaload, 1) := by decide +kernel
theorem dX12_readBy_90 : decode cX12_readBy 90 = .ok (.goto 9, 3) := by decide +kernel
theorem dX12_readBy_93 : decode cX12_readBy 93 = .ok (.aload_n 0, 1) := by decide +kernel
theorem dX12_readBy_94 : decode cX12_readBy 94 = .ok (.getfield 109, 3) := by decide +kernel
theorem dX12_readBy_97 : decode cX12_readBy 97 = .ok (.iload_n 3, 1) := by decide +kernel
theorem dX12_readBy_98 : decode cX12_readBy 98 = .ok (.iaload, 1) := by decide +kernel
theorem dX12_readBy_99 : decode cX12_readBy 99 = .ok (.bipush 8, 2) := by decide +kernel
theorem dX12_readBy_101 : decode cX12_readBy 101 = .ok (.iload 7, 2) := by decide +kernel
theorem dX12_readBy_103 : decode cX12_readBy 103 = .ok (.imul, 1) := by decide +kernel
theorem dX12_readBy_104 : decode cX12_readBy 104 = .ok (.ishl, 1) := by decide +kernel
theorem dX12_readBy_105 : decode cX12_readBy 105 = .ok (.iadd, 1) := by decide +kernel
theorem dX12_readBy_106 : decode cX12_readBy 106 = .ok (.istore 6, 2) := by decide +kernel
theorem dX12_readBy_108 : decode cX12_readBy 108 = .ok (.iinc 7 1, 3) := by decide +kernel
theorem dX12_readBy_111 : decode cX12_readBy 111 = .ok (.goto (-105), 3) := by decide +kernel
theorem dX12_readBy_114 : decode cX12_readBy 114 = .ok (.iload 6, 2) := by decide +kernel
theorem dX12_readBy_116 : decode cX12_readBy 116 = .ok (.ireturn, 1) := by decide +kernel
set_option maxHeartbeats 4000000 in
set_option maxRecDepth 100000 in
theorem s_X12_readBy {P : PP} {a0 : Nat} {a1 : Int32} {a2 : Int32} {a3 : Int32} {a4 : Int32} {a5 : Int32} (I : IM P a0) (ha1 : 0 ≤ a1.toInt ∧ a1.toInt ≤ 3) (ha2 : 0 ≤ a2.toInt ∧ a2.toInt ≤ 1) (ha3 : 0 ≤ a3.toInt ∧ a3.toInt ≤ 19) (ha5 : 0 ≤ a5.toInt ∧ a5.toInt ≤ 40) (hf0 : ∀ b, pR P a0 10 = some b → 1 ≤ (pI P b (a2.toInt.toNat)).toInt ∧ (pI P b (a2.toInt.toNat)).toInt ≤ 16) (hW : MW P a0) : CtrI yX12_readBy cX12_readBy 9 (some Jvm.ClassFile.FieldType.int) ({ frames := 5, cells := 0, slots := 0, locals := 320 } : Room) 0 0 P [.ref a0, .int a1, .int a2, .int a3, .int a4, .int a5] (fun r P2 => IM P2 a0 ∧ EM [28, 29, 30, 31, 33, 34, 35, 36, 37, 38] a0 P P2 ∧ MW P2 a0 ∧ (True)) := by
  refine enI (lv := [(0, .ref a0), (1, .int a1), (2, .int a2), (3, .int a3), (4, .int a4), (5, .int a5)]) (by decide) (Nat.le_of_ble_eq_true rfl) rfl (fun E D cy C Ci0 ret => ?_)
  have ha0 := I.2.1
  have J6 : ∀ (n6 : Nat) (P6 : PP) (v6_6 : Int32) (v6_7 : Int32), (2 - v6_7.toInt).toNat < n6 → (IM P6 a0) → (EM [28, 29, 30, 31, 33, 34, 35, 36, 37, 38] a0 P P6) → (MW P6 a0) → (0 ≤ v6_7.toInt ∧ v6_7.toInt ≤ 2) → (∀ b, pR P6 a0 10 = some b → 1 ≤ (pI P6 b (a2.toInt.toNat)).toInt ∧ (pI P6 b (a2.toInt.toNat)).toInt ≤ 16) → G E ({ frames := 5, cells := 0, slots := 0, locals := 320 } : Room) D cy 9 P6 0 0 6 [(0, .ref a0), (1, .int a1), (2, .int a2), (3, .int a3), (4, .int a4), (5, .int a5), (6, .int v6_6), (7, .int v6_7)] [] := by
    intro n6
    induction n6 with
    | zero => intro P6 v6_6 v6_7 hm6 I6 X6 W6 hv6_7 hq6_0; omega
    | succ n6 ih6 =>
      intro P6 v6_6 v6_7 hm6 I6 X6 W6 hv6_7 hq6_0
      have h96941 := X6.at ha0
      obtain ⟨b96942, e96943, h96944⟩ := I6.fld (h96941) 10 13 2 rfl
      have hq6_0 := hq6_0 b96942 e96943
      have J99 : ∀ (P99 : PP) (v99_s0 : Int32), (IM P99 a0) → (EM [28, 29, 30, 31, 33, 34, 35, 36, 37, 38] a0 P P99) → (MW P99 a0) → (0 ≤ v6_7.toInt ∧ v6_7.toInt ≤ 1) → (0 ≤ (pI P99 a0 28).toInt ∧ (pI P99 a0 28).toInt ≤ 44) → (∀ b, pR P99 a0 10 = some b → 1 ≤ (pI P99 b (a2.toInt.toNat)).toInt ∧ (pI P99 b (a2.toInt.toNat)).toInt ≤ 16) → G E ({ frames := 5, cells := 0, slots := 0, locals := 320 } : Room) D cy 9 P99 0 0 99 [(0, .ref a0), (1, .int a1), (2, .int a2), (3, .int a3), (4, .int a4), (5, .int a5), (7, .int v6_7)] [.int v99_s0, .int v6_6] := by
        intro P99 v99_s0 I99 X99 W99 hv99_7 hq99_0 hq99_1
        have h96945 := X99.at ha0
        obtain ⟨b96946, e96947, h96948⟩ := I99.fld (h96945) 10 13 2 rfl
        have hq99_1 := hq99_1 b96946 e96947
        refine g_bipush (v := 8) C dX12_readBy_99 (by decide) ?_
        refine g_iload C dX12_readBy_101 6 rfl ?_
        refine s_imul C dX12_readBy_103 (by show -2147483648 ≤ 8 * v6_7.toInt ∧ 8 * v6_7.toInt ≤ 2147483647; omega) (fun z96949 h96950 => ?_)
        have h96950 : z96949.toInt = 8 * v6_7.toInt := h96950
        refine a_ishl C dX12_readBy_104 (fun z96951 => ?_)
        refine a_iadd C dX12_readBy_105 (fun z96953 => ?_)
        refine g_istore (lv' := [(6, .int z96953), (0, .ref a0), (1, .int a1), (2, .int a2), (3, .int a3), (4, .int a4), (5, .int a5), (7, .int v6_7)]) C dX12_readBy_106 (by decide) rfl ?_
        refine s_iinc (lv0 := [(6, .int z96953), (0, .ref a0), (1, .int a1), (2, .int a2), (3, .int a3), (4, .int a4), (5, .int a5)]) (m := 1) C dX12_readBy_108 7 rfl (by decide) rfl (by decide) (by omega) (fun z96955 h96956 => ?_)
        have h96956 : z96955.toInt = v6_7.toInt + 1 := h96956
        refine g_goto C 6 dX12_readBy_111 (by decide) ?_
        refine g_lv (lv' := [(0, .ref a0), (1, .int a1), (2, .int a2), (3, .int a3), (4, .int a4), (5, .int a5), (6, .int z96953), (7, .int z96955)]) [2, 3, 4, 5, 6, 7, 1, 0] rfl ?_
        exact ih6 P99 z96953 z96955 (by omega) I99 X99 W99 (by omega) (fun b9 e9 => by rw [e96947] at e9; cases e9; omega)
      have J68 : ∀ (P68 : PP) (v68_s0 : Int32), (IM P68 a0) → (EM [28, 29, 30, 31, 33, 34, 35, 36, 37, 38] a0 P P68) → (MW P68 a0) → (0 ≤ v6_7.toInt ∧ v6_7.toInt ≤ 1) → (0 ≤ v68_s0.toInt ∧ v68_s0.toInt ≤ 1) → (0 ≤ (pI P68 a0 28).toInt ∧ (pI P68 a0 28).toInt ≤ 44) → (∀ b, pR P68 a0 10 = some b → 1 ≤ (pI P68 b (a2.toInt.toNat)).toInt ∧ (pI P68 b (a2.toInt.toNat)).toInt ≤ 16) → G E ({ frames := 5, cells := 0, slots := 0, locals := 320 } : Room) D cy 9 P68 0 0 68 [(0, .ref a0), (1, .int a1), (2, .int a2), (3, .int a3), (4, .int a4), (5, .int a5), (6, .int v6_6), (7, .int v6_7)] [.int v68_s0] := by
        intro P68 v68_s0 I68 X68 W68 hv68_7 hv68_s0 hq68_0 hq68_1
        have h96957 := X68.at ha0
        obtain ⟨b96958, e96959, h96960⟩ := I68.fld (h96957) 10 13 2 rfl
        have hq68_1 := hq68_1 b96958 e96959
        refine g_istore (lv' := [(8, .int v68_s0), (0, .ref a0), (1, .int a1), (2, .int a2), (3, .int a3), (4, .int a4), (5, .int a5), (6, .int v6_6), (7, .int v6_7)]) C dX12_readBy_68 (by decide) rfl ?_
        refine g_iload C dX12_readBy_70 0 rfl ?_
        refine b_if_ne C 77 dX12_readBy_72 (by decide) (fun h96961 => ?_) (fun h96961 => ?_)
        · have h96961 : v68_s0.toInt ≠ 0 := ti_ne h96961
          refine g_iload C dX12_readBy_77 7 rfl ?_
          refine g_iload C dX12_readBy_79 5 rfl ?_
          have u96963 := ti_rng a4
          refine b_if_ne C 93 dX12_readBy_81 (by decide) (fun h96962 => ?_) (fun h96962 => ?_)
          · have h96962 : a4.toInt ≠ 0 := ti_ne h96962
            refine g_aload_n C dX12_readBy_93 rfl 1 rfl ?_
            obtain ⟨b96964, e96965, h96966⟩ := I68.fld (h96957) 38 13 20 rfl
            refine g_getR C fi_X12_109 rfl e96965 (h96957).1 (h96957).2 dX12_readBy_94 ?_
            refine g_iload_n C dX12_readBy_97 rfl 4 rfl ?_
            refine g_iald (j := (a3.toInt.toNat)) C h96966.1 h96966.2.1 (ix_in h96966.2.2 (by omega)) dX12_readBy_98 ?_
            refine g_lv (lv' := [(0, .ref a0), (1, .int a1), (2, .int a2), (3, .int a3), (4, .int a4), (5, .int a5), (7, .int v6_7)]) [1, 2, 3, 4, 5, 6, 8] rfl ?_
            exact J99 P68 (pI P68 b96964 (a3.toInt.toNat)) I68 X68 W68 (by omega) (by omega) (fun b9 e9 => by rw [e96959] at e9; cases e9; omega)
          · have h96962 : a4.toInt = 0 := congrArg Int32.toInt h96962
            refine g_aload_n C dX12_readBy_84 rfl 1 rfl ?_
            obtain ⟨b96967, e96968, h96969⟩ := I68.fld (h96957) 34 13 20 rfl
            refine g_getR C fi_X12_103 rfl e96968 (h96957).1 (h96957).2 dX12_readBy_85 ?_
            refine g_iload_n C dX12_readBy_88 rfl 4 rfl ?_
            refine g_iald (j := (a3.toInt.toNat)) C h96969.1 h96969.2.1 (ix_in h96969.2.2 (by omega)) dX12_readBy_89 ?_
            refine g_goto C 99 dX12_readBy_90 (by decide) ?_
            refine g_lv (lv' := [(0, .ref a0), (1, .int a1), (2, .int a2), (3, .int a3), (4, .int a4), (5, .int a5), (7, .int v6_7)]) [1, 2, 3, 4, 5, 6, 8] rfl ?_
            exact J99 P68 (pI P68 b96967 (a3.toInt.toNat)) I68 X68 W68 (by omega) (by omega) (fun b9 e9 => by rw [e96959] at e9; cases e9; omega)
        · have h96961 : v68_s0.toInt = 0 := congrArg Int32.toInt h96961
          refine g_iconst (v := (-1)) C dX12_readBy_75 (by decide) ?_
          exact ret _ _ _ _ _ _ dX12_readBy_76 rfl (by decide) (by decide) ⟨I68, X68, W68, trivial⟩
      have J38 : ∀ (P38 : PP), (IM P38 a0) → (EM [28, 29, 30, 31, 33, 34, 35, 36, 37, 38] a0 P P38) → (MW P38 a0) → (0 ≤ v6_7.toInt ∧ v6_7.toInt ≤ 1) → (0 ≤ (pI P38 a0 28).toInt ∧ (pI P38 a0 28).toInt ≤ 44) → (∀ b, pR P38 a0 10 = some b → 1 ≤ (pI P38 b (a2.toInt.toNat)).toInt ∧ (pI P38 b (a2.toInt.toNat)).toInt ≤ 16) → G E ({ frames := 5, cells := 0, slots := 0, locals := 320 } : Room) D cy 9 P38 0 0 38 [(0, .ref a0), (1, .int a1), (2, .int a2), (3, .int a3), (4, .int a4), (5, .int a5), (6, .int v6_6), (7, .int v6_7)] [] := by
        intro P38 I38 X38 W38 hv38_7 hq38_0 hq38_1
        have h96970 := X38.at ha0
        obtain ⟨b96971, e96972, h96973⟩ := I38.fld (h96970) 10 13 2 rfl
        have hq38_1 := hq38_1 b96971 e96972
        refine g_iload C dX12_readBy_38 4 rfl ?_
        have u96975 := ti_rng a4
        refine b_if_ne C 63 dX12_readBy_40 (by decide) (fun h96974 => ?_) (fun h96974 => ?_)
        · have h96974 : a4.toInt ≠ 0 := ti_ne h96974
          refine g_aload_n C dX12_readBy_63 rfl 0 rfl ?_
          refine g_iload_n C dX12_readBy_64 rfl 3 rfl ?_
          refine g_callVI (rest := []) C mv_X12_330 [.int a3] (s_X12_isFixed I38 (by omega) W38) (h96970).1 (h96970).2 rfl rfl (by decide) (Nat.le_of_ble_eq_true rfl) (by decide) dX12_readBy_65 (fun r96976 Y96977 h96978 => ?_)
          obtain ⟨rfl, h96978⟩ := h96978
          have h96978 : 0 ≤ r96976.toInt ∧ r96976.toInt ≤ 1 := h96978
          exact J68 P38 r96976 I38 X38 W38 (by omega) (by omega) (by omega) (fun b9 e9 => by rw [e96972] at e9; cases e9; omega)
        · have h96974 : a4.toInt = 0 := congrArg Int32.toInt h96974
          refine g_aload_n C dX12_readBy_43 rfl 0 rfl ?_
          refine g_getI C fi_X12_318 (by decide) (h96970).1 (h96970).2 dX12_readBy_44 ?_
          refine g_iload_n C dX12_readBy_47 rfl 3 rfl ?_
          refine a_ishr C dX12_readBy_48 (fun z96979 => ?_)
          refine g_iconst (v := 1) C dX12_readBy_49 (by decide) ?_
          refine s_iand C dX12_readBy_50 (by show 0 ≤ 1; omega) (fun z96981 h96982 => ?_)
          have h96982 : 0 ≤ z96981.toInt ∧ z96981.toInt ≤ 1 := h96982
          refine g_iconst (v := 1) C dX12_readBy_51 (by decide) ?_
          refine b_icmp_ne C 59 dX12_readBy_52 (by decide) (fun h96983 => ?_) (fun h96983 => ?_)
          · have h96983 : z96981.toInt ≠ 1 := ti_ne h96983
            refine g_iconst (v := 0) C dX12_readBy_59 (by decide) ?_
            refine g_goto C 68 dX12_readBy_60 (by decide) ?_
            exact J68 P38 0 I38 X38 W38 (by omega) (by decide) (by omega) (fun b9 e9 => by rw [e96972] at e9; cases e9; omega)
          · have h96983 : z96981.toInt = 1 := congrArg Int32.toInt h96983
            refine g_iconst (v := 1) C dX12_readBy_55 (by decide) ?_
            refine g_goto C 68 dX12_readBy_56 (by decide) ?_
            exact J68 P38 1 I38 X38 W38 (by omega) (by decide) (by omega) (fun b9 e9 => by rw [e96972] at e9; cases e9; omega)
      refine g_iload C dX12_readBy_6 7 rfl ?_
      refine g_iconst (v := 2) C dX12_readBy_8 (by decide) ?_
      refine b_icmp_ge C 114 dX12_readBy_9 (by decide) (fun h96984 => ?_) (fun h96984 => ?_)
      · have h96984 : 2 ≤ v6_7.toInt := h96984
        refine g_iload C dX12_readBy_114 6 rfl ?_
        exact ret _ _ _ _ _ _ dX12_readBy_116 rfl (by decide) (by decide) ⟨I6, X6, W6, trivial⟩
      · have h96984 : v6_7.toInt < 2 := h96984
        refine g_aload_n C dX12_readBy_12 rfl 0 rfl ?_
        refine g_iload_n C dX12_readBy_13 rfl 1 rfl ?_
        refine g_iload_n C dX12_readBy_14 rfl 2 rfl ?_
        refine g_iload C dX12_readBy_15 7 rfl ?_
        refine g_iload C dX12_readBy_17 5 rfl ?_
        refine g_callVV (rest := []) C mv_X12_339 [.int a1, .int a2, .int v6_7, .int a5] (s_X12_gathers I6 (by omega) (by omega) (by omega) (fun b9 e9 => by rw [e96943] at e9; cases e9; show 1 ≤ (pI P6 b96942 (a2.toInt.toNat)).toInt ∧ (pI P6 b96942 (a2.toInt.toNat)).toInt ≤ 16; omega) W6) (h96941).1 (h96941).2 rfl rfl (by decide) (Nat.le_of_ble_eq_true rfl) (by decide) dX12_readBy_19 (fun Y96986 h96987 => ?_)
        obtain ⟨Iy96988, Xy96989, W96990, p96991, p96992⟩ := h96987
        have p96991 : (pI Y96986 a0 28).toInt ≤ 4 + a5.toInt := p96991
        have q96993 := Xy96989.keepA e96943 (by decide) rfl (a2.toInt.toNat)
        have Xz96994 : EM [28, 29, 30, 31, 33, 34, 35, 36, 37, 38] a0 P Y96986 := EM.tr ha0 X6 (Xy96989.mono (by decide))
        have e96995 := Xy96989.ref h96941 (by decide) e96943
        have h96996 := Xy96989.at h96941
        have h96997 := Xy96989.ar h96944
        obtain ⟨b96998, e96999, h97000⟩ := Iy96988.fld (h96996) 22 13 800 rfl
        have p96992 := p96992 b96998 e96999
        rw [Xz96994.2.2.2 22 (by decide) rfl b96998 (EM.refB Xz96994 ha0 e96999)] at p96992
        have p96992 : (pI Y96986 a0 28).toInt ≤ 4 + kC (pI P b96998) (40 * a1.toInt).toNat a2.toInt (a5.toInt : Int).toNat := p96992
        have h97001 := Iy96988.rg h96996 28 rfl
        refine g_iload C dX12_readBy_22 4 rfl ?_
        have u97003 := ti_rng a4
        refine b_if_ne C 34 dX12_readBy_24 (by decide) (fun h97002 => ?_) (fun h97002 => ?_)
        · have h97002 : a4.toInt ≠ 0 := ti_ne h97002
          refine g_aload_n C dX12_readBy_34 rfl 0 rfl ?_
          refine g_callVV (rest := []) C mv_X12_346 [] (s_X12_findSolved Iy96988 W96990) (h96996).1 (h96996).2 rfl rfl (by decide) (Nat.le_of_ble_eq_true rfl) (by decide) dX12_readBy_35 (fun Y97005 h97006 => ?_)
          obtain ⟨Iy97007, Xy97008, W97009⟩ := h97006
          have q97010 := Xy97008.keepA e96995 (by decide) rfl (a2.toInt.toNat)
          have q97011 := Xy97008.keepF 28 (by decide)
          have Xz97012 : EM [28, 29, 30, 31, 33, 34, 35, 36, 37, 38] a0 P Y97005 := EM.tr ha0 Xz96994 (Xy97008.mono (by decide))
          have e97013 := Xy97008.ref h96996 (by decide) e96995
          have h97014 := Xy97008.at h96996
          have h97015 := Xy97008.ar h96997
          exact J38 Y97005 Iy97007 Xz97012 W97009 (by omega) (by omega) (fun b9 e9 => by rw [e97013] at e9; cases e9; omega)
        · have h97002 : a4.toInt = 0 := congrArg Int32.toInt h97002
          refine g_aload_n C dX12_readBy_27 rfl 0 rfl ?_
          refine g_callVV (rest := []) C mv_X12_343 [] (s_X12_findPeeled Iy96988 W96990) (h96996).1 (h96996).2 rfl rfl (by decide) (Nat.le_of_ble_eq_true rfl) (by decide) dX12_readBy_28 (fun Y97017 h97018 => ?_)
          obtain ⟨Iy97019, Xy97020, W97021⟩ := h97018
          have q97022 := Xy97020.keepA e96995 (by decide) rfl (a2.toInt.toNat)
          have q97023 := Xy97020.keepF 28 (by decide)
          have Xz97024 : EM [28, 29, 30, 31, 33, 34, 35, 36, 37, 38] a0 P Y97017 := EM.tr ha0 Xz96994 (Xy97020.mono (by decide))
          have e97025 := Xy97020.ref h96996 (by decide) e96995
          have h97026 := Xy97020.at h96996
          have h97027 := Xy97020.ar h96997
          refine g_goto C 38 dX12_readBy_31 (by decide) ?_
          exact J38 Y97017 Iy97019 Xz97024 W97021 (by omega) (by omega) (fun b9 e9 => by rw [e97025] at e9; cases e9; omega)
  obtain ⟨b97028, e97029, h97030⟩ := I.fld (ha0) 10 13 2 rfl
  have hf0 := hf0 b97028 e97029
  refine g_iconst (v := 0) C dX12_readBy_0 (by decide) ?_
  refine g_istore (lv' := [(6, .int 0), (0, .ref a0), (1, .int a1), (2, .int a2), (3, .int a3), (4, .int a4), (5, .int a5)]) C dX12_readBy_1 (by decide) rfl ?_
  refine g_iconst (v := 0) C dX12_readBy_3 (by decide) ?_
  refine g_istore (lv' := [(7, .int 0), (6, .int 0), (0, .ref a0), (1, .int a1), (2, .int a2), (3, .int a3), (4, .int a4), (5, .int a5)]) C dX12_readBy_4 (by decide) rfl ?_
  refine g_lv (lv' := [(0, .ref a0), (1, .int a1), (2, .int a2), (3, .int a3), (4, .int a4), (5, .int a5), (6, .int 0), (7, .int 0)]) [2, 3, 4, 5, 6, 7, 1, 0] rfl ?_
  exact J6 _ P 0 0 (Nat.lt_succ_self _) I EM.rf hW (by decide) (fun b9 e9 => by rw [e97029] at e9; cases e9; omega)
theorem dX12_read_39 : decode cX12_read 39 = .ok (.iconst (-1), 1) := by decide +kernel
theorem dX12_read_40 : decode cX12_read 40 = .ok (.ireturn, 1) := by decide +kernel
theorem dX12_read_60 : decode cX12_read 60 = .ok (.ireturn, 1) := by decide +kernel
set_option maxHeartbeats 4000000 in
set_option maxRecDepth 100000 in
theorem s_X12_read {P : PP} {a0 : Nat} {a1 : Int32} {a2 : Int32} {a3 : Int32} {a4 : Int32} (I : IM P a0) (hW : MW P a0) : CtrI yX12_read cX12_read 5 (some Jvm.ClassFile.FieldType.int) ({ frames := 6, cells := 0, slots := 0, locals := 384 } : Room) 0 0 P [.ref a0, .int a1, .int a2, .int a3, .int a4] (fun r P2 => IM P2 a0 ∧ EM [0, 28, 29, 30, 31, 32, 33, 34, 35, 36, 37, 38] a0 P P2 ∧ MW P2 a0 ∧ (True)) := by
  refine enI (lv := [(0, .ref a0), (1, .int a1), (2, .int a2), (3, .int a3), (4, .int a4)]) (by decide) (Nat.le_of_ble_eq_true rfl) rfl (fun E D cy C Ci0 ret => ?_)
  have ha0 := I.2.1
  have J39 : ∀ (P39 : PP), (IM P39 a0) → (EM [0, 28, 29, 30, 31, 32, 33, 34, 35, 36, 37, 38] a0 P P39) → (MW P39 a0) → (0 ≤ (pI P39 a0 0).toInt ∧ (pI P39 a0 0).toInt ≤ 0) → G E ({ frames := 6, cells := 0, slots := 0, locals := 384 } : Room) D cy 5 P39 0 0 39 [] [] := by
    intro P39 I39 X39 W39 hq39_0
    have h97095 := X39.at ha0
    refine g_iconst (v := (-1)) C dX12_read_39 (by decide) ?_
    exact ret _ _ _ _ _ _ dX12_read_40 rfl (by decide) (by decide) ⟨I39, X39, W39, trivial⟩
  refine g_aload_n C dX12_read_0 rfl 0 rfl ?_
  refine g_iconst (v := 0) C dX12_read_1 (by decide) ?_
  refine g_putI C fi_X12_1 rfl (ha0).1 (ha0).2 dX12_read_2 ?_
  refine gqW (ks := [0]) (I.setI (rgOk.of rfl (by decide))) (EM.setI I (by decide)) (fun Y97096 Iy97097 Xy97098 w97099  => ?_)
  have w97099 : (pI Y97096 a0 0).toInt = 0 := w97099
  have W97100 := hW.keep I Xy97098 (by decide) (by decide) (by decide) (by decide)
  have Xz97101 : EM [0, 28, 29, 30, 31, 32, 33, 34, 35, 36, 37, 38] a0 P Y97096 := Xy97098.mono (by decide)
  have h97102 := Xy97098.at ha0
  refine g_iload_n C dX12_read_5 rfl 1 rfl ?_
  refine g_callSI (b := 0) (ci := 0) (rest := []) C ms_X12_278 [.int a1] (s_X12_isQuarter Iy97097.1) rfl rfl (by decide) (Nat.le_of_ble_eq_true rfl) (by decide) dX12_read_6 (fun r97103 Y97104 h97105 => ?_)
  obtain ⟨rfl, h97105⟩ := h97105
  obtain ⟨h97105, hi97106⟩ := h97105
  have hi97106 : r97103.toInt = 0 ∨ (((0 : Int) ≤ a1.toInt ∧ a1.toInt ≤ (3 : Int))) := hi97106
  have h97105 : 0 ≤ r97103.toInt ∧ r97103.toInt ≤ 1 := h97105
  refine b_if_eq C 39 dX12_read_9 (by decide) (fun h97107 => ?_) (fun h97107 => ?_)
  · have h97107 : r97103.toInt = 0 := congrArg Int32.toInt h97107
    clear hi97106
    refine g_lv (lv' := []) [] rfl ?_
    exact J39 Y97096 Iy97097 Xz97101 W97100 (by omega)
  · have h97107 : r97103.toInt ≠ 0 := ti_ne h97107
    replace hi97106 := hi97106.resolve_left (by omega)
    refine g_aload_n C dX12_read_12 rfl 0 rfl ?_
    refine g_iload_n C dX12_read_13 rfl 2 rfl ?_
    refine g_callVI (rest := []) C mv_X12_192 [.int a2] (s_X12_isBook Iy97097 W97100) (h97102).1 (h97102).2 rfl rfl (by decide) (Nat.le_of_ble_eq_true rfl) (by decide) dX12_read_14 (fun r97108 Y97109 h97110 => ?_)
    obtain ⟨rfl, h97110⟩ := h97110
    obtain ⟨h97110, hi97111, hi97112⟩ := h97110
    have hi97111 : r97108.toInt = 0 ∨ (((0 : Int) ≤ a2.toInt ∧ a2.toInt ≤ (1 : Int))) := hi97111
    have h97110 : 0 ≤ r97108.toInt ∧ r97108.toInt ≤ 1 := h97110
    refine b_if_eq C 39 dX12_read_17 (by decide) (fun h97113 => ?_) (fun h97113 => ?_)
    · have h97113 : r97108.toInt = 0 := congrArg Int32.toInt h97113
      clear hi97111
      refine g_lv (lv' := []) [] rfl ?_
      exact J39 Y97096 Iy97097 Xz97101 W97100 (by omega)
    · have h97113 : r97108.toInt ≠ 0 := ti_ne h97113
      replace hi97111 := hi97111.resolve_left (by omega)
      obtain ⟨b97114, e97115, h97116⟩ := Iy97097.fld (h97102) 10 13 2 rfl
      have hi97112 := (hi97112.resolve_left (by omega)) b97114 e97115
      have hi97112 : 0 < (pI Y97096 b97114 (a2.toInt.toNat)).toInt := hi97112
      have h97117 := Iy97097.arr e97115 rfl (a2.toInt.toNat)
      refine g_aload_n C dX12_read_20 rfl 0 rfl ?_
      refine g_iload_n C dX12_read_21 rfl 2 rfl ?_
      refine g_iload_n C dX12_read_22 rfl 3 rfl ?_
      refine g_callVI (rest := []) C mv_X12_352 [.int a2, .int a3] (s_X12_isPage Iy97097 (by omega) W97100) (h97102).1 (h97102).2 rfl rfl (by decide) (Nat.le_of_ble_eq_true rfl) (by decide) dX12_read_23 (fun r97118 Y97119 h97120 => ?_)
      obtain ⟨rfl, h97120⟩ := h97120
      obtain ⟨h97120, hi97121⟩ := h97120
      have hi97121 : r97118.toInt = 0 ∨ (((0 : Int) ≤ a3.toInt ∧ a3.toInt ≤ (19 : Int))) := hi97121
      have h97120 : 0 ≤ r97118.toInt ∧ r97118.toInt ≤ 1 := h97120
      refine b_if_eq C 39 dX12_read_26 (by decide) (fun h97122 => ?_) (fun h97122 => ?_)
      · have h97122 : r97118.toInt = 0 := congrArg Int32.toInt h97122
        clear hi97121
        refine g_lv (lv' := []) [] rfl ?_
        exact J39 Y97096 Iy97097 Xz97101 W97100 (by omega)
      · have h97122 : r97118.toInt ≠ 0 := ti_ne h97122
        replace hi97121 := hi97121.resolve_left (by omega)
        refine g_iload C dX12_read_29 4 rfl ?_
        refine g_iconst (v := 0) C dX12_read_31 (by decide) ?_
        refine g_iconst (v := 1) C dX12_read_32 (by decide) ?_
        refine g_callSI (b := 0) (ci := 0) (rest := []) C ms_X12_178 [.int a4, .int 0, .int 1] (s_X12_within Iy97097.1) rfl rfl (by decide) (Nat.le_of_ble_eq_true rfl) (by decide) dX12_read_33 (fun r97123 Y97124 h97125 => ?_)
        obtain ⟨rfl, h97125⟩ := h97125
        obtain ⟨h97125, hi97126⟩ := h97125
        have hi97126 : r97123.toInt = 0 ∨ (0 ≤ a4.toInt ∧ a4.toInt ≤ 1) := hi97126
        have h97125 : 0 ≤ r97123.toInt ∧ r97123.toInt ≤ 1 := h97125
        refine b_if_ne C 41 dX12_read_36 (by decide) (fun h97127 => ?_) (fun h97127 => ?_)
        · have h97127 : r97123.toInt ≠ 0 := ti_ne h97127
          replace hi97126 := hi97126.resolve_left (by omega)
          refine g_aload_n C dX12_read_41 rfl 0 rfl ?_
          refine g_callVV (rest := []) C mv_X12_336 [] (s_X12_leavesNone Iy97097 W97100) (h97102).1 (h97102).2 rfl rfl (by decide) (Nat.le_of_ble_eq_true rfl) (by decide) dX12_read_42 (fun Y97129 h97130 => ?_)
          obtain ⟨Iy97131, Xy97132, W97133⟩ := h97130
          have q97134 := Xy97132.keepF 0 (by decide)
          have q97135 := Xy97132.keepA e97115 (by decide) rfl (a2.toInt.toNat)
          have Xz97136 : EM [0, 28, 29, 30, 31, 32, 33, 34, 35, 36, 37, 38] a0 P Y97129 := EM.tr ha0 Xz97101 (Xy97132.mono (by decide))
          have e97137 := Xy97132.ref h97102 (by decide) e97115
          have h97138 := Xy97132.at h97102
          have h97139 := Xy97132.ar h97116
          refine g_aload_n C dX12_read_45 rfl 0 rfl ?_
          refine g_iload_n C dX12_read_46 rfl 1 rfl ?_
          refine g_iload_n C dX12_read_47 rfl 2 rfl ?_
          refine g_iload_n C dX12_read_48 rfl 3 rfl ?_
          refine g_iload C dX12_read_49 4 rfl ?_
          refine g_aload_n C dX12_read_51 rfl 0 rfl ?_
          obtain ⟨b97140, e97141, h97142⟩ := Iy97131.fld (h97138) 20 13 20 rfl
          refine g_getR C fi_X12_69 rfl e97141 (h97138).1 (h97138).2 dX12_read_52 ?_
          refine g_iload_n C dX12_read_55 rfl 1 rfl ?_
          refine g_iald (j := (a1.toInt.toNat)) C h97142.1 h97142.2.1 (ix_in h97142.2.2 (by omega)) dX12_read_56 ?_
          have h97143 := Iy97131.arr e97141 rfl (a1.toInt.toNat)
          refine g_callVI (rest := []) C mv_X12_355 [.int a1, .int a2, .int a3, .int a4, .int (pI Y97129 b97140 (a1.toInt.toNat))] (s_X12_readBy Iy97131 (by omega) (by omega) (by omega) (by omega) (fun b9 e9 => by rw [e97137] at e9; cases e9; show 1 ≤ (pI Y97129 b97114 (a2.toInt.toNat)).toInt ∧ (pI Y97129 b97114 (a2.toInt.toNat)).toInt ≤ 16; omega) W97133) (h97138).1 (h97138).2 rfl rfl (by decide) (Nat.le_of_ble_eq_true rfl) (by decide) dX12_read_57 (fun r97144 Y97145 h97146 => ?_)
          obtain ⟨Iy97147, Xy97148, W97149, h97146⟩ := h97146
          have q97150 := Xy97148.keepF 0 (by decide)
          have q97151 := Xy97148.keepA e97137 (by decide) rfl (a2.toInt.toNat)
          have q97152 := Xy97148.keepA e97141 (by decide) rfl (a1.toInt.toNat)
          have Xz97153 : EM [0, 28, 29, 30, 31, 32, 33, 34, 35, 36, 37, 38] a0 P Y97145 := EM.tr ha0 Xz97136 (Xy97148.mono (by decide))
          have e97154 := Xy97148.ref h97138 (by decide) e97137
          have e97155 := Xy97148.ref h97138 (by decide) e97141
          have h97156 := Xy97148.at h97138
          have h97157 := Xy97148.ar h97139
          have h97158 := Xy97148.ar h97142
          have h97146 : True := h97146
          exact ret _ _ _ _ _ _ dX12_read_60 rfl (by decide) (by decide) ⟨Iy97147, Xz97153, W97149, trivial⟩
        · have h97127 : r97123.toInt = 0 := congrArg Int32.toInt h97127
          clear hi97126
          refine g_lv (lv' := []) [] rfl ?_
          exact J39 Y97096 Iy97097 Xz97101 W97100 (by omega)
theorem dX12_right_0 : decode cX12_right 0 = .ok (.aload_n 0, 1) := by decide +kernel
theorem dX12_right_1 : decode cX12_right 1 = .ok (.iconst 0, 1) := by decide +kernel
theorem dX12_right_2 : decode cX12_right 2 = .ok (.putfield 1, 3) := by decide +kernel
theorem dX12_right_5 : decode cX12_right 5 = .ok (.aload_n 0, 1) := by decide +kernel
theorem dX12_right_6 : decode cX12_right 6 = .ok (.iload_n 1, 1) := by decide +kernel
theorem dX12_right_7 : decode cX12_right 7 = .ok (.iload_n 2, 1) := by decide +kernel
theorem dX12_right_8 : decode cX12_right 8 = .ok (.iload_n 3, 1) := by decide +kernel
theorem dX12_right_9 : decode cX12_right 9 = .ok (.invokevirtual 333, 3) := by decide +kernel
theorem dX12_right_12 : decode cX12_right 12 = .ok (.ifCond .eq 23, 3) := by decide +kernel
theorem dX12_right_15 : decode cX12_right 15 = .ok (.aload_n 0, 1) := by decide +kernel
theorem dX12_right_16 : decode cX12_right 16 = .ok (.iload_n 2, 1) := by decide +kernel
theorem dX12_right_17 : decode cX12_right 17 = .ok (.iload 4, 2) := by decide +kernel
theorem dX12_right_19 : decode cX12_right 19 = .ok (.invokevirtual 352, 3) := by decide +kernel
theorem dX12_right_22 : decode cX12_right 22 = .ok (.ifCond .eq 13, 3) := by decide +kernel
theorem dX12_right_25 : decode cX12_right 25 = .ok (.aload_n 0, 1) := by decide +kernel
theorem dX12_right_26 : decode cX12_right 26 = .ok (.iload_n 1, 1) := by decide +kernel
theorem dX12_right_27 : decode cX12_right 27 = .ok (.iload_n 2, 1) := by decide +kernel
theorem dX12_right_28 : decode cX12_right 28 = .ok (.iload_n 3, 1) := by decide +kernel
theorem dX12_right_29 : decode cX12_right 29 = .ok (.invokevirtual 364, 3) := by decide +kernel
theorem dX12_right_32 : decode cX12_right 32 = .ok (.ifCond .ne 5, 3) := by decide +kernel
theorem dX12_right_35 : decode cX12_right 35 = .ok (.iconst (-1), 1) := by decide +kernel
theorem dX12_right_36 : decode cX12_right 36 = .ok (.ireturn, 1) := by decide +kernel
theorem dX12_right_37 : decode cX12_right 37 = .ok (.iconst (-1), 1) := by decide +kernel
theorem dX12_right_38 : decode cX12_right 38 = .ok (.istore 5, 2) := by decide +kernel
theorem dX12_right_40 : decode cX12_right 40 = .ok (.iconst 0, 1) := by decide +kernel
theorem dX12_right_41 : decode cX12_right 41 = .ok (.istore 6, 2) := by decide +kernel
theorem dX12_right_43 : decode cX12_right 43 = .ok (.iload 6, 2) := by decide +kernel
theorem dX12_right_45 : decode cX12_right 45 = .ok (.aload_n 0, 1) := by decide +kernel
theorem dX12_right_46 : decode cX12_right 46 = .ok (.getfield 361, 3) := by decide +kernel
theorem dX12_right_49 : decode cX12_right 49 = .ok (.if_icmp .ge 80, 3) := by decide +kernel
theorem dX12_right_52 : decode cX12_right 52 = .ok (.aload_n 0, 1) := by decide +kernel
theorem dX12_right_53 : decode cX12_right 53 = .ok (.invokevirtual 336, 3) := by decide +kernel
theorem dX12_right_56 : decode cX12_right 56 = .ok (.aload_n 0, 1) := by decide +kernel
theorem dX12_right_57 : decode cX12_right 57 = .ok (.getfield 100, 3) := by decide +kernel
theorem dX12_right_60 : decode cX12_right 60 = .ok (.aload_n 0, 1) := by decide +kernel
theorem dX12_right_61 : decode cX12_right 61 = .ok (.getfield 112, 3) := by decide +kernel
theorem dX12_right_64 : decode cX12_right 64 = .ok (.iload 6, 2) := by decide +kernel
theorem dX12_right_66 : decode cX12_right 66 = .ok (.iaload, 1) := by decide +kernel
theorem dX12_right_67 : decode cX12_right 67 = .ok (.iconst 1, 1) := by decide +kernel
theorem dX12_right_68 : decode cX12_right 68 = .ok (.bastore, 1) := by decide +kernel
theorem dX12_right_69 : decode cX12_right 69 = .ok (.aload_n 0, 1) := by decide +kernel
theorem dX12_right_70 : decode cX12_right 70 = .ok (.iload_n 1, 1) := by decide +kernel
theorem dX12_right_71 : decode cX12_right 71 = .ok (.iload_n 2, 1) := by decide +kernel
theorem dX12_right_72 : decode cX12_right 72 = .ok (.iload_n 3, 1) := by decide +kernel
theorem dX12_right_73 : decode cX12_right 73 = .ok (.aload_n 0, 1) := by decide +kernel
theorem dX12_right_74 : decode cX12_right 74 = .ok (.getfield 69, 3) := by decide +kernel
theorem dX12_right_77 : decode cX12_right 77 = .ok (.iload_n 1, 1) := by decide +kernel
theorem dX12_right_78 : decode cX12_right 78 = .ok (.iaload, 1) := by decide +kernel
theorem dX12_right_79 : decode cX12_right 79 = .ok (.invokevirtual 339, 3) := by decide +kernel
theorem dX12_right_82 : decode cX12_right 82 = .ok (.aload_n 0, 1) := by decide +kernel
theorem dX12_right_83 : decode cX12_right 83 = .ok (.invokevirtual 346, 3) := by decide +kernel
theorem dX12_right_86 : decode cX12_right 86 = .ok (.aload_n 0, 1) := by decide +kernel
theorem dX12_right_87 : decode cX12_right 87 = .ok (.iload 4, 2) := by decide +kernel
theorem dX12_right_89 : decode cX12_right 89 = .ok (.invokevirtual 330, 3) := by decide +kernel
theorem dX12_right_92 : decode cX12_right 92 = .ok (.ifCond .eq 20, 3) := by decide +kernel
theorem dX12_right_95 : decode cX12_right 95 = .ok (.iload 5, 2) := by decide +kernel
theorem dX12_right_97 : decode cX12_right 97 = .ok (.ifCond .lt 17, 3) := by decide +kernel
theorem dX12_right_100 : decode cX12_right 100 = .ok (.iload 5, 2) := by decide +kernel
theorem dX12_right_102 : decode cX12_right 102 = .ok (.aload_n 0, 1) := by decide +kernel
theorem dX12_right_103 : decode cX12_right 103 = .ok (.getfield 109, 3) := by decide +kernel
theorem dX12_right_106 : decode cX12_right 106 = .ok (.iload 4, 2) := by decide +kernel
theorem dX12_right_108 : decode cX12_right 108 = .ok (.iaload, 1) := by decide +kernel
theorem dX12_right_109 : decode cX12_right 109 = .ok (.if_icmp .eq 5, 3) := by decide +kernel
theorem dX12_right_112 : decode cX12_right 112 = .ok (.iconst (-1), 1) := by decide +kernel
theorem dX12_right_113 : decode cX12_right 113 = .ok (.ireturn, 1) := by decide +kernel
theorem dX12_right_114 : decode cX12_right 114 = .ok (.aload_n 0, 1) := by decide +kernel
theorem dX12_right_115 : decode cX12_right 115 = .ok (.getfield 109, 3) := by decide +kernel
theorem dX12_right_118 : decode cX12_right 118 = .ok (.iload 4, 2) := by decide +kernel
theorem dX12_right_120 : decode cX12_right 120 = .ok (.iaload, 1) := by decide +kernel
theorem dX12_right_121 : decode cX12_right 121 = .ok (.istore 5, 2) := by decide +kernel
theorem dX12_right_123 : decode cX12_right 123 = .ok (.iinc 6 1, 3) := by decide +kernel
theorem dX12_right_126 : decode cX12_right 126 = .ok (.goto (-83), 3) := by decide +kernel
theorem dX12_right_129 : decode cX12_right 129 = .ok (.iload 5, 2) := by decide +kernel
theorem dX12_right_131 : decode cX12_right 131 = .ok (.ireturn, 1) := by decide +kernel
set_option maxHeartbeats 4000000 in
set_option maxRecDepth 100000 in
theorem s_X12_right {P : PP} {a0 : Nat} {a1 : Int32} {a2 : Int32} {a3 : Int32} {a4 : Int32} (I : IM P a0) (hW : MW P a0) : CtrI yX12_right cX12_right 7 (some Jvm.ClassFile.FieldType.int) ({ frames := 6, cells := 0, slots := 0, locals := 384 } : Room) 0 0 P [.ref a0, .int a1, .int a2, .int a3, .int a4] (fun r P2 => IM P2 a0 ∧ EM [0, 28, 29, 30, 31, 32, 35, 36, 37, 38, 39, 40] a0 P P2 ∧ MW P2 a0 ∧ (True)) := by
  refine enI (lv := [(0, .ref a0), (1, .int a1), (2, .int a2), (3, .int a3), (4, .int a4)]) (by decide) (Nat.le_of_ble_eq_true rfl) rfl (fun E D cy C Ci0 ret => ?_)
  have ha0 := I.2.1
  have J112 : ∀ (P112 : PP), (IM P112 a0) → (EM [0, 28, 29, 30, 31, 32, 35, 36, 37, 38, 39, 40] a0 P P112) → (MW P112 a0) → (0 ≤ (pI P112 a0 0).toInt ∧ (pI P112 a0 0).toInt ≤ 0) → (0 ≤ (pI P112 a0 28).toInt ∧ (pI P112 a0 28).toInt ≤ 44) → (1 ≤ (pI P112 a0 39).toInt ∧ (pI P112 a0 39).toInt ≤ 40) → (∀ b, pR P112 a0 10 = some b → 1 ≤ (pI P112 b (a2.toInt.toNat)).toInt ∧ (pI P112 b (a2.toInt.toNat)).toInt ≤ 16) → G E ({ frames := 6, cells := 0, slots := 0, locals := 384 } : Room) D cy 7 P112 0 0 112 [] [] := by
    intro P112 I112 X112 W112 hq112_0 hq112_1 hq112_2 hq112_3
    have h98887 := X112.at ha0
    obtain ⟨b98888, e98889, h98890⟩ := I112.fld (h98887) 10 13 2 rfl
    have hq112_3 := hq112_3 b98888 e98889
    refine g_iconst (v := (-1)) C dX12_right_112 (by decide) ?_
    exact ret _ _ _ _ _ _ dX12_right_113 rfl (by decide) (by decide) ⟨I112, X112, W112, trivial⟩
  have J43 : ∀ (n43 : Nat) (P43 : PP) (v43_5 : Int32) (v43_6 : Int32), (40 - v43_6.toInt).toNat < n43 → (IM P43 a0) → (EM [0, 28, 29, 30, 31, 32, 35, 36, 37, 38, 39, 40] a0 P P43) → (MW P43 a0) → (0 ≤ a1.toInt ∧ a1.toInt ≤ 3) → (0 ≤ a2.toInt ∧ a2.toInt ≤ 1) → (0 ≤ a3.toInt ∧ a3.toInt ≤ 1) → (0 ≤ a4.toInt ∧ a4.toInt ≤ 19) → (0 ≤ v43_6.toInt ∧ v43_6.toInt ≤ 40) → (0 ≤ (pI P43 a0 0).toInt ∧ (pI P43 a0 0).toInt ≤ 0) → (∀ b, pR P43 a0 10 = some b → 1 ≤ (pI P43 b (a2.toInt.toNat)).toInt ∧ (pI P43 b (a2.toInt.toNat)).toInt ≤ 16) → G E ({ frames := 6, cells := 0, slots := 0, locals := 384 } : Room) D cy 7 P43 0 0 43 [(0, .ref a0), (1, .int a1), (2, .int a2), (3, .int a3), (4, .int a4), (5, .int v43_5), (6, .int v43_6)] [] := by
    intro n43
    induction n43 with
    | zero => intro P43 v43_5 v43_6 hm43 I43 X43 W43 hv43_1 hv43_2 hv43_3 hv43_4 hv43_6 hq43_0 hq43_1; omega
    | succ n43 ih43 =>
      intro P43 v43_5 v43_6 hm43 I43 X43 W43 hv43_1 hv43_2 hv43_3 hv43_4 hv43_6 hq43_0 hq43_1
      have h98891 := X43.at ha0
      obtain ⟨b98892, e98893, h98894⟩ := I43.fld (h98891) 10 13 2 rfl
      have hq43_1 := hq43_1 b98892 e98893
      have J114 : ∀ (P114 : PP), (IM P114 a0) → (EM [0, 28, 29, 30, 31, 32, 35, 36, 37, 38, 39, 40] a0 P P114) → (MW P114 a0) → (0 ≤ a1.toInt ∧ a1.toInt ≤ 3) → (0 ≤ a2.toInt ∧ a2.toInt ≤ 1) → (0 ≤ a3.toInt ∧ a3.toInt ≤ 1) → (0 ≤ a4.toInt ∧ a4.toInt ≤ 19) → (0 ≤ v43_6.toInt ∧ v43_6.toInt ≤ 39) → (0 ≤ (pI P114 a0 0).toInt ∧ (pI P114 a0 0).toInt ≤ 0) → (0 ≤ (pI P114 a0 28).toInt ∧ (pI P114 a0 28).toInt ≤ 44) → (1 ≤ (pI P114 a0 39).toInt ∧ (pI P114 a0 39).toInt ≤ 40) → (∀ b, pR P114 a0 10 = some b → 1 ≤ (pI P114 b (a2.toInt.toNat)).toInt ∧ (pI P114 b (a2.toInt.toNat)).toInt ≤ 16) → G E ({ frames := 6, cells := 0, slots := 0, locals := 384 } : Room) D cy 7 P114 0 0 114 [(0, .ref a0), (1, .int a1), (2, .int a2), (3, .int a3), (4, .int a4), (6, .int v43_6)] [] := by
        intro P114 I114 X114 W114 hv114_1 hv114_2 hv114_3 hv114_4 hv114_6 hq114_0 hq114_1 hq114_2 hq114_3
        have h98895 := X114.at ha0
        obtain ⟨b98896, e98897, h98898⟩ := I114.fld (h98895) 10 13 2 rfl
        have hq114_3 := hq114_3 b98896 e98897
        refine g_aload_n C dX12_right_114 rfl 0 rfl ?_
        obtain ⟨b98899, e98900, h98901⟩ := I114.fld (h98895) 38 13 20 rfl
        refine g_getR C fi_X12_109 rfl e98900 (h98895).1 (h98895).2 dX12_right_115 ?_
        refine g_iload C dX12_right_118 4 rfl ?_
        refine g_iald (j := (a4.toInt.toNat)) C h98901.1 h98901.2.1 (ix_in h98901.2.2 (by omega)) dX12_right_120 ?_
        refine g_topi (fun z98902 h98903 => ?_)
        have h98903 : z98902.toInt = (pI P114 b98899 (a4.toInt.toNat)).toInt := congrArg Int32.toInt h98903
        refine g_istore (lv' := [(5, .int z98902), (0, .ref a0), (1, .int a1), (2, .int a2), (3, .int a3), (4, .int a4), (6, .int v43_6)]) C dX12_right_121 (by decide) rfl ?_
        refine s_iinc (lv0 := [(5, .int z98902), (0, .ref a0), (1, .int a1), (2, .int a2), (3, .int a3), (4, .int a4)]) (m := 1) C dX12_right_123 6 rfl (by decide) rfl (by decide) (by omega) (fun z98904 h98905 => ?_)
        have h98905 : z98904.toInt = v43_6.toInt + 1 := h98905
        refine g_goto C 43 dX12_right_126 (by decide) ?_
        refine g_lv (lv' := [(0, .ref a0), (1, .int a1), (2, .int a2), (3, .int a3), (4, .int a4), (5, .int z98902), (6, .int z98904)]) [2, 3, 4, 5, 6, 1, 0] rfl ?_
        exact ih43 P114 z98902 z98904 (by omega) I114 X114 W114 (by omega) (by omega) (by omega) (by omega) (by omega) (by omega) (fun b9 e9 => by rw [e98897] at e9; cases e9; omega)
      refine g_iload C dX12_right_43 6 rfl ?_
      refine g_aload_n C dX12_right_45 rfl 0 rfl ?_
      refine g_getI C fi_X12_361 (by decide) (h98891).1 (h98891).2 dX12_right_46 ?_
      have h98906 := I43.rg (h98891) 39 rfl
      refine b_icmp_ge C 129 dX12_right_49 (by decide) (fun h98907 => ?_) (fun h98907 => ?_)
      · have h98907 : (pI P43 a0 39).toInt ≤ v43_6.toInt := h98907
        refine g_iload C dX12_right_129 5 rfl ?_
        exact ret _ _ _ _ _ _ dX12_right_131 rfl (by decide) (by decide) ⟨I43, X43, W43, trivial⟩
      · have h98907 : v43_6.toInt < (pI P43 a0 39).toInt := h98907
        refine g_aload_n C dX12_right_52 rfl 0 rfl ?_
        refine g_callVV (rest := []) C mv_X12_336 [] (s_X12_leavesNone I43 W43) (h98891).1 (h98891).2 rfl rfl (by decide) (Nat.le_of_ble_eq_true rfl) (by decide) dX12_right_53 (fun Y98909 h98910 => ?_)
        obtain ⟨Iy98911, Xy98912, W98913⟩ := h98910
        have q98914 := Xy98912.keepF 0 (by decide)
        have q98915 := Xy98912.keepA e98893 (by decide) rfl (a2.toInt.toNat)
        have q98916 := Xy98912.keepF 39 (by decide)
        have Xz98917 : EM [0, 28, 29, 30, 31, 32, 35, 36, 37, 38, 39, 40] a0 P Y98909 := EM.tr ha0 X43 (Xy98912.mono (by decide))
        have e98918 := Xy98912.ref h98891 (by decide) e98893
        have h98919 := Xy98912.at h98891
        have h98920 := Xy98912.ar h98894
        refine g_aload_n C dX12_right_56 rfl 0 rfl ?_
        obtain ⟨b98921, e98922, h98923⟩ := Iy98911.fld (h98919) 32 15 40 rfl
        refine g_getR C fi_X12_100 rfl e98922 (h98919).1 (h98919).2 dX12_right_57 ?_
        refine g_aload_n C dX12_right_60 rfl 0 rfl ?_
        obtain ⟨b98924, e98925, h98926⟩ := Iy98911.fld (h98919) 40 13 40 rfl
        refine g_getR C fi_X12_112 rfl e98925 (h98919).1 (h98919).2 dX12_right_61 ?_
        refine g_iload C dX12_right_64 6 rfl ?_
        refine g_iald (j := (v43_6.toInt.toNat)) C h98926.1 h98926.2.1 (ix_in h98926.2.2 (by omega)) dX12_right_66 ?_
        have h98927 := Iy98911.arr e98925 rfl (v43_6.toInt.toNat)
        refine g_iconst (v := 1) C dX12_right_67 (by decide) ?_
        refine g_zast (j := ((pI Y98909 b98924 (v43_6.toInt.toNat)).toInt.toNat)) C h98923.1 h98923.2.1 (ix_in h98923.2.2 (by omega)) (Or.inr rfl) dX12_right_68 ?_
        refine gqW (ks := [32]) (Iy98911.setA e98922 h98923 (by decide) (arOk.none rfl)) (EM.setA Iy98911 e98922 rfl (by decide)) (fun Y98928 Iy98929 Xy98930 w98931  => ?_)
        have w98931 : (pI Y98928 b98921 ((pI Y98909 b98924 (v43_6.toInt.toNat)).toInt.toNat)).toInt = 1 := w98931
        have q98932 := Xy98930.keepF 0 (by decide)
        have q98933 := Xy98930.keepA e98918 (by decide) rfl (a2.toInt.toNat)
        have q98934 := Xy98930.keepF 39 (by decide)
        have q98935 := Xy98930.keepA e98925 (by decide) rfl (v43_6.toInt.toNat)
        have W98936 := W98913.keep Iy98911 Xy98930 (by decide) (by decide) (by decide) (by decide)
        have Xz98937 : EM [0, 28, 29, 30, 31, 32, 35, 36, 37, 38, 39, 40] a0 P Y98928 := EM.tr ha0 Xz98917 (Xy98930.mono (by decide))
        have e98938 := Xy98930.ref h98919 (by decide) e98918
        have e98939 := Xy98930.ref h98919 (by decide) e98925
        have h98940 := Xy98930.at h98919
        have h98941 := Xy98930.ar h98920
        have h98942 := Xy98930.ar h98926
        refine g_aload_n C dX12_right_69 rfl 0 rfl ?_
        refine g_iload_n C dX12_right_70 rfl 1 rfl ?_
        refine g_iload_n C dX12_right_71 rfl 2 rfl ?_
        refine g_iload_n C dX12_right_72 rfl 3 rfl ?_
        refine g_aload_n C dX12_right_73 rfl 0 rfl ?_
        obtain ⟨b98943, e98944, h98945⟩ := Iy98929.fld (h98940) 20 13 20 rfl
        refine g_getR C fi_X12_69 rfl e98944 (h98940).1 (h98940).2 dX12_right_74 ?_
        refine g_iload_n C dX12_right_77 rfl 1 rfl ?_
        refine g_iald (j := (a1.toInt.toNat)) C h98945.1 h98945.2.1 (ix_in h98945.2.2 (by omega)) dX12_right_78 ?_
        have h98946 := Iy98929.arr e98944 rfl (a1.toInt.toNat)
        refine g_callVV (rest := []) C mv_X12_339 [.int a1, .int a2, .int a3, .int (pI Y98928 b98943 (a1.toInt.toNat))] (s_X12_gathers Iy98929 (by omega) (by omega) (by omega) (fun b9 e9 => by rw [e98938] at e9; cases e9; show 1 ≤ (pI Y98928 b98892 (a2.toInt.toNat)).toInt ∧ (pI Y98928 b98892 (a2.toInt.toNat)).toInt ≤ 16; omega) W98936) (h98940).1 (h98940).2 rfl rfl (by decide) (Nat.le_of_ble_eq_true rfl) (by decide) dX12_right_79 (fun Y98948 h98949 => ?_)
        obtain ⟨Iy98950, Xy98951, W98952, p98953, p98954⟩ := h98949
        have p98953 : (pI Y98948 a0 28).toInt ≤ 4 + (pI Y98928 b98943 (a1.toInt.toNat)).toInt := p98953
        have q98955 := Xy98951.keepF 0 (by decide)
        have q98956 := Xy98951.keepA e98938 (by decide) rfl (a2.toInt.toNat)
        have q98957 := Xy98951.keepF 39 (by decide)
        have q98958 := Xy98951.keepA e98939 (by decide) rfl (v43_6.toInt.toNat)
        have q98959 := Xy98951.keepA e98944 (by decide) rfl (a1.toInt.toNat)
        have Xz98960 : EM [0, 28, 29, 30, 31, 32, 35, 36, 37, 38, 39, 40] a0 P Y98948 := EM.tr ha0 Xz98937 (Xy98951.mono (by decide))
        have e98961 := Xy98951.ref h98940 (by decide) e98938
        have e98962 := Xy98951.ref h98940 (by decide) e98939
        have e98963 := Xy98951.ref h98940 (by decide) e98944
        have h98964 := Xy98951.at h98940
        have h98965 := Xy98951.ar h98941
        have h98966 := Xy98951.ar h98942
        have h98967 := Xy98951.ar h98945
        obtain ⟨b98968, e98969, h98970⟩ := Iy98950.fld (h98964) 22 13 800 rfl
        have p98954 := p98954 b98968 e98969
        rw [Xz98960.2.2.2 22 (by decide) rfl b98968 (EM.refB Xz98960 ha0 e98969)] at p98954
        have p98954 : (pI Y98948 a0 28).toInt ≤ 4 + kC (pI P b98968) (40 * a1.toInt).toNat a2.toInt ((pI Y98928 b98943 (a1.toInt.toNat)).toInt : Int).toNat := p98954
        have h98971 := Iy98950.rg h98964 28 rfl
        refine g_aload_n C dX12_right_82 rfl 0 rfl ?_
        refine g_callVV (rest := []) C mv_X12_346 [] (s_X12_findSolved Iy98950 W98952) (h98964).1 (h98964).2 rfl rfl (by decide) (Nat.le_of_ble_eq_true rfl) (by decide) dX12_right_83 (fun Y98973 h98974 => ?_)
        obtain ⟨Iy98975, Xy98976, W98977⟩ := h98974
        have q98978 := Xy98976.keepF 0 (by decide)
        have q98979 := Xy98976.keepA e98961 (by decide) rfl (a2.toInt.toNat)
        have q98980 := Xy98976.keepF 39 (by decide)
        have q98981 := Xy98976.keepA e98962 (by decide) rfl (v43_6.toInt.toNat)
        have q98982 := Xy98976.keepA e98963 (by decide) rfl (a1.toInt.toNat)
        have q98983 := Xy98976.keepF 28 (by decide)
        have Xz98984 : EM [0, 28, 29, 30, 31, 32, 35, 36, 37, 38, 39, 40] a0 P Y98973 := EM.tr ha0 Xz98960 (Xy98976.mono (by decide))
        have e98985 := Xy98976.ref h98964 (by decide) e98961
        have e98986 := Xy98976.ref h98964 (by decide) e98962
        have e98987 := Xy98976.ref h98964 (by decide) e98963
        have h98988 := Xy98976.at h98964
        have h98989 := Xy98976.ar h98965
        have h98990 := Xy98976.ar h98966
        have h98991 := Xy98976.ar h98967
        refine g_aload_n C dX12_right_86 rfl 0 rfl ?_
        refine g_iload C dX12_right_87 4 rfl ?_
        refine g_callVI (rest := []) C mv_X12_330 [.int a4] (s_X12_isFixed Iy98975 (by omega) W98977) (h98988).1 (h98988).2 rfl rfl (by decide) (Nat.le_of_ble_eq_true rfl) (by decide) dX12_right_89 (fun r98992 Y98993 h98994 => ?_)
        obtain ⟨rfl, h98994⟩ := h98994
        have h98994 : 0 ≤ r98992.toInt ∧ r98992.toInt ≤ 1 := h98994
        refine b_if_eq C 112 dX12_right_92 (by decide) (fun h98995 => ?_) (fun h98995 => ?_)
        · have h98995 : r98992.toInt = 0 := congrArg Int32.toInt h98995
          refine g_lv (lv' := []) [] rfl ?_
          exact J112 Y98973 Iy98975 Xz98984 W98977 (by omega) (by omega) (by omega) (fun b9 e9 => by rw [e98985] at e9; cases e9; omega)
        · have h98995 : r98992.toInt ≠ 0 := ti_ne h98995
          refine g_iload C dX12_right_95 5 rfl ?_
          have u98997 := ti_rng v43_5
          refine b_if_lt C 114 dX12_right_97 (by decide) (fun h98996 => ?_) (fun h98996 => ?_)
          · have h98996 : v43_5.toInt < 0 := h98996
            refine g_lv (lv' := [(0, .ref a0), (1, .int a1), (2, .int a2), (3, .int a3), (4, .int a4), (6, .int v43_6)]) [0, 1, 2, 3, 4, 6] rfl ?_
            exact J114 Y98973 Iy98975 Xz98984 W98977 (by omega) (by omega) (by omega) (by omega) (by omega) (by omega) (by omega) (by omega) (fun b9 e9 => by rw [e98985] at e9; cases e9; omega)
          · have h98996 : 0 ≤ v43_5.toInt := h98996
            refine g_iload C dX12_right_100 5 rfl ?_
            refine g_aload_n C dX12_right_102 rfl 0 rfl ?_
            obtain ⟨b98998, e98999, h99000⟩ := Iy98975.fld (h98988) 38 13 20 rfl
            refine g_getR C fi_X12_109 rfl e98999 (h98988).1 (h98988).2 dX12_right_103 ?_
            refine g_iload C dX12_right_106 4 rfl ?_
            refine g_iald (j := (a4.toInt.toNat)) C h99000.1 h99000.2.1 (ix_in h99000.2.2 (by omega)) dX12_right_108 ?_
            have u99002 := ti_rng v43_5
            have u99003 := ti_rng (pI Y98973 b98998 (a4.toInt.toNat))
            refine b_icmp_eq C 114 dX12_right_109 (by decide) (fun h99001 => ?_) (fun h99001 => ?_)
            · have h99001 : v43_5.toInt = (pI Y98973 b98998 (a4.toInt.toNat)).toInt := congrArg Int32.toInt h99001
              refine g_lv (lv' := [(0, .ref a0), (1, .int a1), (2, .int a2), (3, .int a3), (4, .int a4), (6, .int v43_6)]) [0, 1, 2, 3, 4, 6] rfl ?_
              exact J114 Y98973 Iy98975 Xz98984 W98977 (by omega) (by omega) (by omega) (by omega) (by omega) (by omega) (by omega) (by omega) (fun b9 e9 => by rw [e98985] at e9; cases e9; omega)
            · have h99001 : v43_5.toInt ≠ (pI Y98973 b98998 (a4.toInt.toNat)).toInt := ti_ne h99001
              refine g_lv (lv' := []) [] rfl ?_
              exact J112 Y98973 Iy98975 Xz98984 W98977 (by omega) (by omega) (by omega) (fun b9 e9 => by rw [e98985] at e9; cases e9; omega)
  have J35 : ∀ (P35 : PP), (IM P35 a0) → (EM [0, 28, 29, 30, 31, 32, 35, 36, 37, 38, 39, 40] a0 P P35) → (MW P35 a0) → (0 ≤ (pI P35 a0 0).toInt ∧ (pI P35 a0 0).toInt ≤ 0) → G E ({ frames := 6, cells := 0, slots := 0, locals := 384 } : Room) D cy 7 P35 0 0 35 [] [] := by
    intro P35 I35 X35 W35 hq35_0
    have h99004 := X35.at ha0
    refine g_iconst (v := (-1)) C dX12_right_35 (by decide) ?_
    exact ret _ _ _ _ _ _ dX12_right_36 rfl (by decide) (by decide) ⟨I35, X35, W35, trivial⟩
  refine g_aload_n C dX12_right_0 rfl 0 rfl ?_
  refine g_iconst (v := 0) C dX12_right_1 (by decide) ?_
  refine g_putI C fi_X12_1 rfl (ha0).1 (ha0).2 dX12_right_2 ?_
  refine gqW (ks := [0]) (I.setI (rgOk.of rfl (by decide))) (EM.setI I (by decide)) (fun Y99005 Iy99006 Xy99007 w99008  => ?_)
  have w99008 : (pI Y99005 a0 0).toInt = 0 := w99008
  have W99009 := hW.keep I Xy99007 (by decide) (by decide) (by decide) (by decide)
  have Xz99010 : EM [0, 28, 29, 30, 31, 32, 35, 36, 37, 38, 39, 40] a0 P Y99005 := Xy99007.mono (by decide)
  have h99011 := Xy99007.at ha0
  refine g_aload_n C dX12_right_5 rfl 0 rfl ?_
  refine g_iload_n C dX12_right_6 rfl 1 rfl ?_
  refine g_iload_n C dX12_right_7 rfl 2 rfl ?_
  refine g_iload_n C dX12_right_8 rfl 3 rfl ?_
  refine g_callVI (rest := []) C mv_X12_333 [.int a1, .int a2, .int a3] (s_X12_isAsked Iy99006 W99009) (h99011).1 (h99011).2 rfl rfl (by decide) (Nat.le_of_ble_eq_true rfl) (by decide) dX12_right_9 (fun r99012 Y99013 h99014 => ?_)
  obtain ⟨rfl, h99014⟩ := h99014
  obtain ⟨h99014, hi99015, hi99016⟩ := h99014
  have hi99015 : r99012.toInt = 0 ∨ (((0 : Int) ≤ a1.toInt ∧ a1.toInt ≤ (3 : Int)) ∧ ((0 : Int) ≤ a2.toInt ∧ a2.toInt ≤ (1 : Int)) ∧ ((0 : Int) ≤ a3.toInt ∧ a3.toInt ≤ (1 : Int))) := hi99015
  have h99014 : 0 ≤ r99012.toInt ∧ r99012.toInt ≤ 1 := h99014
  refine b_if_eq C 35 dX12_right_12 (by decide) (fun h99017 => ?_) (fun h99017 => ?_)
  · have h99017 : r99012.toInt = 0 := congrArg Int32.toInt h99017
    clear hi99015
    refine g_lv (lv' := []) [] rfl ?_
    exact J35 Y99005 Iy99006 Xz99010 W99009 (by omega)
  · have h99017 : r99012.toInt ≠ 0 := ti_ne h99017
    replace hi99015 := hi99015.resolve_left (by omega)
    obtain ⟨b99018, e99019, h99020⟩ := Iy99006.fld (h99011) 10 13 2 rfl
    have hi99016 := (hi99016.resolve_left (by omega)) b99018 e99019
    have hi99016 : 0 < (pI Y99005 b99018 (a2.toInt.toNat)).toInt := hi99016
    have h99021 := Iy99006.arr e99019 rfl (a2.toInt.toNat)
    refine g_aload_n C dX12_right_15 rfl 0 rfl ?_
    refine g_iload_n C dX12_right_16 rfl 2 rfl ?_
    refine g_iload C dX12_right_17 4 rfl ?_
    refine g_callVI (rest := []) C mv_X12_352 [.int a2, .int a4] (s_X12_isPage Iy99006 (by omega) W99009) (h99011).1 (h99011).2 rfl rfl (by decide) (Nat.le_of_ble_eq_true rfl) (by decide) dX12_right_19 (fun r99022 Y99023 h99024 => ?_)
    obtain ⟨rfl, h99024⟩ := h99024
    obtain ⟨h99024, hi99025⟩ := h99024
    have hi99025 : r99022.toInt = 0 ∨ (((0 : Int) ≤ a4.toInt ∧ a4.toInt ≤ (19 : Int))) := hi99025
    have h99024 : 0 ≤ r99022.toInt ∧ r99022.toInt ≤ 1 := h99024
    refine b_if_eq C 35 dX12_right_22 (by decide) (fun h99026 => ?_) (fun h99026 => ?_)
    · have h99026 : r99022.toInt = 0 := congrArg Int32.toInt h99026
      clear hi99025
      refine g_lv (lv' := []) [] rfl ?_
      exact J35 Y99005 Iy99006 Xz99010 W99009 (by omega)
    · have h99026 : r99022.toInt ≠ 0 := ti_ne h99026
      replace hi99025 := hi99025.resolve_left (by omega)
      refine g_aload_n C dX12_right_25 rfl 0 rfl ?_
      refine g_iload_n C dX12_right_26 rfl 1 rfl ?_
      refine g_iload_n C dX12_right_27 rfl 2 rfl ?_
      refine g_iload_n C dX12_right_28 rfl 3 rfl ?_
      refine g_callVI (rest := []) C mv_X12_364 [.int a1, .int a2, .int a3] (s_X12_findSlipped Iy99006 (by omega) (by omega) (by omega) (fun b9 e9 => by rw [e99019] at e9; cases e9; show 1 ≤ (pI Y99005 b99018 (a2.toInt.toNat)).toInt ∧ (pI Y99005 b99018 (a2.toInt.toNat)).toInt ≤ 16; omega) W99009) (h99011).1 (h99011).2 rfl rfl (by decide) (Nat.le_of_ble_eq_true rfl) (by decide) dX12_right_29 (fun r99027 Y99028 h99029 => ?_)
      obtain ⟨Iy99030, Xy99031, W99032, h99029⟩ := h99029
      have q99033 := Xy99031.keepF 0 (by decide)
      have q99034 := Xy99031.keepA e99019 (by decide) rfl (a2.toInt.toNat)
      have Xz99035 : EM [0, 28, 29, 30, 31, 32, 35, 36, 37, 38, 39, 40] a0 P Y99028 := EM.tr ha0 Xz99010 (Xy99031.mono (by decide))
      have e99036 := Xy99031.ref h99011 (by decide) e99019
      have h99037 := Xy99031.at h99011
      have h99038 := Xy99031.ar h99020
      have h99029 : 0 ≤ r99027.toInt ∧ r99027.toInt ≤ 1 := h99029
      refine b_if_ne C 37 dX12_right_32 (by decide) (fun h99039 => ?_) (fun h99039 => ?_)
      · have h99039 : r99027.toInt ≠ 0 := ti_ne h99039
        refine g_iconst (v := (-1)) C dX12_right_37 (by decide) ?_
        refine g_istore (lv' := [(5, .int (-1)), (0, .ref a0), (1, .int a1), (2, .int a2), (3, .int a3), (4, .int a4)]) C dX12_right_38 (by decide) rfl ?_
        refine g_iconst (v := 0) C dX12_right_40 (by decide) ?_
        refine g_istore (lv' := [(6, .int 0), (5, .int (-1)), (0, .ref a0), (1, .int a1), (2, .int a2), (3, .int a3), (4, .int a4)]) C dX12_right_41 (by decide) rfl ?_
        refine g_lv (lv' := [(0, .ref a0), (1, .int a1), (2, .int a2), (3, .int a3), (4, .int a4), (5, .int (-1)), (6, .int 0)]) [2, 3, 4, 5, 6, 1, 0] rfl ?_
        exact J43 _ Y99028 (-1) 0 (Nat.lt_succ_self _) Iy99030 Xz99035 W99032 (by omega) (by omega) (by omega) (by omega) (by decide) (by omega) (fun b9 e9 => by rw [e99036] at e9; cases e9; omega)
      · have h99039 : r99027.toInt = 0 := congrArg Int32.toInt h99039
        refine g_lv (lv' := []) [] rfl ?_
        exact J35 Y99028 Iy99030 Xz99035 W99032 (by omega)
