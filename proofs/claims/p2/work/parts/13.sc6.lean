theorem dX11_mark_0 : decode cX11_mark 0 = .ok (.iload_n 1, 1) := by decide +kernel
theorem dX11_mark_1 : decode cX11_mark 1 = .ok (.ifCond .lt 21, 3) := by decide +kernel
theorem dX11_mark_4 : decode cX11_mark 4 = .ok (.iload_n 1, 1) := by decide +kernel
theorem dX11_mark_5 : decode cX11_mark 5 = .ok (.iconst 4, 1) := by decide +kernel
theorem dX11_mark_6 : decode cX11_mark 6 = .ok (.if_icmp .ge 16, 3) := by decide +kernel
theorem dX11_mark_9 : decode cX11_mark 9 = .ok (.iload_n 2, 1) := by decide +kernel
theorem dX11_mark_10 : decode cX11_mark 10 = .ok (.ifCond .eq 14, 3) := by decide +kernel
theorem dX11_mark_13 : decode cX11_mark 13 = .ok (.aload_n 0, 1) := by decide +kernel
theorem dX11_mark_14 : decode cX11_mark 14 = .ok (.getfield 24, 3) := by decide +kernel
theorem dX11_mark_17 : decode cX11_mark 17 = .ok (.iload_n 1, 1) := by decide +kernel
theorem dX11_mark_18 : decode cX11_mark 18 = .ok (.baload, 1) := by decide +kernel
theorem dX11_mark_19 : decode cX11_mark 19 = .ok (.ifCond .ne 5, 3) := by decide +kernel
theorem dX11_mark_22 : decode cX11_mark 22 = .ok (.iconst 0, 1) := by decide +kernel
theorem dX11_mark_23 : decode cX11_mark 23 = .ok (.ireturn, 1) := by decide +kernel
theorem dX11_mark_24 : decode cX11_mark 24 = .ok (.iconst 0, 1) := by decide +kernel
theorem dX11_mark_25 : decode cX11_mark 25 = .ok (.istore_n 3, 1) := by decide +kernel
theorem dX11_mark_26 : decode cX11_mark 26 = .ok (.iload_n 3, 1) := by decide +kernel
theorem dX11_mark_27 : decode cX11_mark 27 = .ok (.iconst 4, 1) := by decide +kernel
theorem dX11_mark_28 : decode cX11_mark 28 = .ok (.if_icmp .ge 50, 3) := by decide +kernel
theorem dX11_mark_31 : decode cX11_mark 31 = .ok (.aload_n 0, 1) := by decide +kernel
theorem dX11_mark_32 : decode cX11_mark 32 = .ok (.getfield 21, 3) := by decide +kernel
theorem dX11_mark_35 : decode cX11_mark 35 = .ok (.iload_n 1, 1) := by decide +kernel
theorem dX11_mark_36 : decode cX11_mark 36 = .ok (.iconst 4, 1) := by decide +kernel
theorem dX11_mark_37 : decode cX11_mark 37 = .ok (.imul, 1) := by decide +kernel
theorem dX11_mark_38 : decode cX11_mark 38 = .ok (.iload_n 3, 1) := by decide +kernel
theorem dX11_mark_39 : decode cX11_mark 39 = .ok (.iadd, 1) := by decide +kernel
theorem dX11_mark_40 : decode cX11_mark 40 = .ok (.aaload, 1) := by decide +kernel
theorem dX11_mark_41 : decode cX11_mark 41 = .ok (.astore 4, 2) := by decide +kernel
theorem dX11_mark_43 : decode cX11_mark 43 = .ok (.iload_n 2, 1) := by decide +kernel
theorem dX11_mark_44 : decode cX11_mark 44 = .ok (.ifCond .eq 17, 3) := by decide +kernel
theorem dX11_mark_61 : decode cX11_mark 61 = .ok (.aload 4, 2) := by decide +kernel
theorem dX11_mark_63 : decode cX11_mark 63 = .ok (.aload_n 0, 1) := by decide +kernel
theorem dX11_mark_64 : decode cX11_mark 64 = .ok (.getfield 17, 3) := by decide +kernel
theorem dX11_mark_67 : decode cX11_mark 67 = .ok (.iload_n 3, 1) := by decide +kernel
theorem dX11_mark_68 : decode cX11_mark 68 = .ok (.aaload, 1) := by decide +kernel
theorem dX11_mark_69 : decode cX11_mark 69 = .ok (.invokevirtual 345, 3) := by decide +kernel
theorem dX6_copy_0 : decode cX6_copy 0 = .ok (.iconst 0, 1) := by decide +kernel
theorem dX6_copy_1 : decode cX6_copy 1 = .ok (.istore_n 2, 1) := by decide +kernel
theorem dX6_copy_2 : decode cX6_copy 2 = .ok (.iload_n 2, 1) := by decide +kernel
theorem dX6_copy_3 : decode cX6_copy 3 = .ok (.aload_n 1, 1) := by decide +kernel
theorem dX6_copy_4 : decode cX6_copy 4 = .ok (.getfield 17, 3) := by decide +kernel
theorem dX6_copy_7 : decode cX6_copy 7 = .ok (.if_icmp .ge 21, 3) := by decide +kernel
theorem dX6_copy_10 : decode cX6_copy 10 = .ok (.aload_n 0, 1) := by decide +kernel
theorem dX6_copy_11 : decode cX6_copy 11 = .ok (.getfield 11, 3) := by decide +kernel
theorem dX6_copy_14 : decode cX6_copy 14 = .ok (.iload_n 2, 1) := by decide +kernel
theorem dX6_copy_15 : decode cX6_copy 15 = .ok (.aload_n 1, 1) := by decide +kernel
theorem dX6_copy_16 : decode cX6_copy 16 = .ok (.getfield 11, 3) := by decide +kernel
theorem dX6_copy_19 : decode cX6_copy 19 = .ok (.iload_n 2, 1) := by decide +kernel
theorem dX6_copy_20 : decode cX6_copy 20 = .ok (.aaload, 1) := by decide +kernel
theorem dX6_copy_21 : decode cX6_copy 21 = .ok (.aastore, 1) := by decide +kernel
theorem dX6_copy_22 : decode cX6_copy 22 = .ok (.iinc 2 1, 3) := by decide +kernel
theorem dX6_copy_25 : decode cX6_copy 25 = .ok (.goto (-23), 3) := by decide +kernel
theorem dX6_copy_28 : decode cX6_copy 28 = .ok (.aload_n 0, 1) := by decide +kernel
theorem dX6_copy_29 : decode cX6_copy 29 = .ok (.aload_n 1, 1) := by decide +kernel
theorem dX6_copy_30 : decode cX6_copy 30 = .ok (.getfield 17, 3) := by decide +kernel
theorem dX6_copy_33 : decode cX6_copy 33 = .ok (.putfield 17, 3) := by decide +kernel
theorem dX6_copy_36 : decode cX6_copy 36 = .ok (.return_, 1) := by decide +kernel
set_option maxHeartbeats 4000000 in
set_option maxRecDepth 100000 in
theorem s_X6_copy {P : PP} {a0 : Nat} {a1 : Nat} (I : IV P) (ha0 : At P a0 6) (ha1 : At P a1 6) : CtrV yX6_copy cX6_copy 3 none ({ frames := 1, cells := 0, slots := 0, locals := 64 } : Room) 0 0 P [.ref a0, .ref a1] (fun P2 => IV P2 ∧ EK [6] P P2) := by
  refine enV (lv := [(0, .ref a0), (1, .ref a1)]) (by decide) (Nat.le_of_ble_eq_true rfl) rfl (fun E D cy C Ci0 ret => ?_)
  have J2 : ∀ (n2 : Nat) (P2 : PP) (v2_2 : Int32), (40 - v2_2.toInt).toNat < n2 → (IV P2) → (EK [6] P P2) → (0 ≤ v2_2.toInt ∧ v2_2.toInt ≤ 40) → G E ({ frames := 1, cells := 0, slots := 0, locals := 64 } : Room) D cy 3 P2 0 0 2 [(0, .ref a0), (1, .ref a1), (2, .int v2_2)] [] := by
    intro n2
    induction n2 with
    | zero => intro P2 v2_2 hm2 I2 X2 hv2_2; omega
    | succ n2 ih2 =>
      intro P2 v2_2 hm2 I2 X2 hv2_2
      have h23191 := X2.at ha0
      have h23192 := X2.at ha1
      refine g_iload_n C dX6_copy_2 rfl 2 rfl ?_
      refine g_aload_n C dX6_copy_3 rfl 1 rfl ?_
      refine g_getI C fi_X6_17 (by decide) (h23192).1 (h23192).2 dX6_copy_4 ?_
      have h23193 := I2.rg (h23192) 1 rfl
      refine b_icmp_ge C 28 dX6_copy_7 (by decide) (fun h23194 => ?_) (fun h23194 => ?_)
      · have h23194 : (pI P2 a1 1).toInt ≤ v2_2.toInt := h23194
        refine g_aload_n C dX6_copy_28 rfl 0 rfl ?_
        refine g_aload_n C dX6_copy_29 rfl 1 rfl ?_
        refine g_getI C fi_X6_17 (by decide) (h23192).1 (h23192).2 dX6_copy_30 ?_
        refine g_putI C fi_X6_17 rfl (h23191).1 (h23191).2 dX6_copy_33 ?_
        refine gpW (ks := [6]) (I2.setI (h23191) (rgOk.of rfl (by omega))) (EK.setI (h23191).2 (by decide)) (fun Y23195 Iy23196 Xy23197 w23198 w23199 => ?_)
        have Xz23200 : EK [6] P Y23195 := X2.tr (Xy23197.mono (by decide))
        have h23201 := Xy23197.at h23191
        have h23202 := Xy23197.at h23192
        exact ret _ _ _ _ _ dX6_copy_36 (by decide) (by decide) ⟨Iy23196, Xz23200⟩
      · have h23194 : v2_2.toInt < (pI P2 a1 1).toInt := h23194
        refine g_aload_n C dX6_copy_10 rfl 0 rfl ?_
        obtain ⟨b23203, e23204, h23205⟩ := I2.fld (h23191) 0 20 40 rfl
        refine g_getR C fi_X6_11 rfl e23204 (h23191).1 (h23191).2 dX6_copy_11 ?_
        refine g_iload_n C dX6_copy_14 rfl 2 rfl ?_
        refine g_aload_n C dX6_copy_15 rfl 1 rfl ?_
        obtain ⟨b23206, e23207, h23208⟩ := I2.fld (h23192) 0 20 40 rfl
        refine g_getR C fi_X6_11 rfl e23207 (h23192).1 (h23192).2 dX6_copy_16 ?_
        refine g_iload_n C dX6_copy_19 rfl 2 rfl ?_
        refine g_aldQ (j := (v2_2.toInt.toNat)) C h23208.1 h23208.2.1 (by decide) (ix_in h23208.2.2 (by omega)) dX6_copy_20 ?_
        rcases I2.pap h23208 (v2_2.toInt.toNat) with e23210 | ⟨b23209, e23210, h23211⟩
        · rw [e23210]
          show G _ _ _ _ _ _ _ _ _ _ (.null :: _)
          refine g_astN (j := (v2_2.toInt.toNat)) C h23205.1 h23205.2.1 (by decide) (ix_in h23205.2.2 (by omega)) dX6_copy_21 ?_
          refine gp (ks := []) (I2.setP h23205 (fun _ z => by cases z)) (EK.setR h23205.2.1 (by decide)) (fun Y23212 Iy23213 Xy23214 => ?_)
          have q23215 := Xy23214.keep h23192 (by decide) 1
          have Xz23216 : EK [6] P Y23212 := X2.tr (Xy23214.mono (by decide))
          have h23217 := Xy23214.at h23191
          have h23218 := Xy23214.at h23192
          refine s_iinc (lv0 := [(0, .ref a0), (1, .ref a1)]) (m := 1) C dX6_copy_22 2 rfl (by decide) rfl (by decide) (by omega) (fun z23219 h23220 => ?_)
          have h23220 : z23219.toInt = v2_2.toInt + 1 := h23220
          refine g_goto C 2 dX6_copy_25 (by decide) ?_
          refine g_lv (lv' := [(0, .ref a0), (1, .ref a1), (2, .int z23219)]) [1, 2, 0] rfl ?_
          exact ih2 Y23212 z23219 (by omega) Iy23213 Xz23216 (by omega)
        · rw [e23210]
          show G _ _ _ _ _ _ _ _ _ _ (.ref b23209 :: _)
          refine g_astR (j := (v2_2.toInt.toNat)) C h23205.1 h23205.2.1 (by decide) (ix_in h23205.2.2 (by omega)) (h23211).1 (h23211).2 (by decide) rfl rfl dX6_copy_21 ?_
          refine gp (ks := []) (I2.setP h23205 (fun _ z => by cases z; exact h23211)) (EK.setR h23205.2.1 (by decide)) (fun Y23221 Iy23222 Xy23223 => ?_)
          have q23224 := Xy23223.keep h23192 (by decide) 1
          have Xz23225 : EK [6] P Y23221 := X2.tr (Xy23223.mono (by decide))
          have h23226 := Xy23223.at h23191
          have h23227 := Xy23223.at h23192
          refine s_iinc (lv0 := [(0, .ref a0), (1, .ref a1)]) (m := 1) C dX6_copy_22 2 rfl (by decide) rfl (by decide) (by omega) (fun z23228 h23229 => ?_)
          have h23229 : z23228.toInt = v2_2.toInt + 1 := h23229
          refine g_goto C 2 dX6_copy_25 (by decide) ?_
          refine g_lv (lv' := [(0, .ref a0), (1, .ref a1), (2, .int z23228)]) [1, 2, 0] rfl ?_
          exact ih2 Y23221 z23228 (by omega) Iy23222 Xz23225 (by omega)
  refine g_iconst (v := 0) C dX6_copy_0 (by decide) ?_
  refine g_istore_n (lv' := [(2, .int 0), (0, .ref a0), (1, .ref a1)]) C dX6_copy_1 rfl (by decide) rfl ?_
  refine g_lv (lv' := [(0, .ref a0), (1, .ref a1), (2, .int 0)]) [1, 2, 0] rfl ?_
  exact J2 _ P 0 (Nat.lt_succ_self _) I EK.rf (by decide)
theorem dX11_mark_47 : decode cX11_mark 47 = .ok (.aload_n 0, 1) := by decide +kernel
theorem dX11_mark_48 : decode cX11_mark 48 = .ok (.getfield 17, 3) := by decide +kernel
theorem dX11_mark_51 : decode cX11_mark 51 = .ok (.iload_n 3, 1) := by decide +kernel
theorem dX11_mark_52 : decode cX11_mark 52 = .ok (.aaload, 1) := by decide +kernel
theorem dX11_mark_53 : decode cX11_mark 53 = .ok (.aload 4, 2) := by decide +kernel
theorem dX11_mark_55 : decode cX11_mark 55 = .ok (.invokevirtual 345, 3) := by decide +kernel
theorem dX11_mark_58 : decode cX11_mark 58 = .ok (.goto 14, 3) := by decide +kernel
theorem dX11_mark_72 : decode cX11_mark 72 = .ok (.iinc 3 1, 3) := by decide +kernel
theorem dX11_mark_75 : decode cX11_mark 75 = .ok (.goto (-49), 3) := by decide +kernel
theorem dX11_mark_78 : decode cX11_mark 78 = .ok (.aload_n 0, 1) := by decide +kernel
theorem dX11_mark_79 : decode cX11_mark 79 = .ok (.getfield 24, 3) := by decide +kernel
theorem dX11_mark_82 : decode cX11_mark 82 = .ok (.iload_n 1, 1) := by decide +kernel
theorem dX11_mark_83 : decode cX11_mark 83 = .ok (.iconst 1, 1) := by decide +kernel
theorem dX11_mark_84 : decode cX11_mark 84 = .ok (.bastore, 1) := by decide +kernel
theorem dX11_mark_85 : decode cX11_mark 85 = .ok (.iconst 1, 1) := by decide +kernel
theorem dX11_mark_86 : decode cX11_mark 86 = .ok (.ireturn, 1) := by decide +kernel
set_option maxHeartbeats 4000000 in
set_option maxRecDepth 100000 in
theorem s_X11_mark {P : PP} {a0 : Nat} {a1 : Int32} {a2 : Int32} (I : IV P) (ha0 : At P a0 11) (ha2 : 0 ≤ a2.toInt ∧ a2.toInt ≤ 1) : CtrI yX11_mark cX11_mark 5 (some Jvm.ClassFile.FieldType.boolean) ({ frames := 2, cells := 0, slots := 0, locals := 128 } : Room) 0 0 P [.ref a0, .int a1, .int a2] (fun r P2 => IV P2 ∧ EK [6, 15] P P2 ∧ (0 ≤ r.toInt ∧ r.toInt ≤ 1) ∧ (r.toInt = 0 ∨ (((0 : Int) ≤ a1.toInt ∧ a1.toInt ≤ (3 : Int))))) := by
  refine enI (lv := [(0, .ref a0), (1, .int a1), (2, .int a2)]) (by decide) (Nat.le_of_ble_eq_true rfl) rfl (fun E D cy C Ci0 ret => ?_)
  have J26 : ∀ (n26 : Nat) (P26 : PP) (v26_3 : Int32), (4 - v26_3.toInt).toNat < n26 → (IV P26) → (EK [6, 15] P P26) → (0 ≤ a1.toInt ∧ a1.toInt ≤ 3) → (0 ≤ v26_3.toInt ∧ v26_3.toInt ≤ 4) → G E ({ frames := 2, cells := 0, slots := 0, locals := 128 } : Room) D cy 5 P26 0 0 26 [(0, .ref a0), (1, .int a1), (2, .int a2), (3, .int v26_3)] [] := by
    intro n26
    induction n26 with
    | zero => intro P26 v26_3 hm26 I26 X26 hv26_1 hv26_3; omega
    | succ n26 ih26 =>
      intro P26 v26_3 hm26 I26 X26 hv26_1 hv26_3
      have h23465 := X26.at ha0
      have J72 : ∀ (P72 : PP), (IV P72) → (EK [6, 15] P P72) → (0 ≤ a1.toInt ∧ a1.toInt ≤ 3) → (0 ≤ v26_3.toInt ∧ v26_3.toInt ≤ 3) → G E ({ frames := 2, cells := 0, slots := 0, locals := 128 } : Room) D cy 5 P72 0 0 72 [(0, .ref a0), (1, .int a1), (2, .int a2), (3, .int v26_3)] [] := by
        intro P72 I72 X72 hv72_1 hv72_3
        have h23466 := X72.at ha0
        refine s_iinc (lv0 := [(0, .ref a0), (1, .int a1), (2, .int a2)]) (m := 1) C dX11_mark_72 3 rfl (by decide) rfl (by decide) (by omega) (fun z23467 h23468 => ?_)
        have h23468 : z23467.toInt = v26_3.toInt + 1 := h23468
        refine g_goto C 26 dX11_mark_75 (by decide) ?_
        refine g_lv (lv' := [(0, .ref a0), (1, .int a1), (2, .int a2), (3, .int z23467)]) [1, 2, 3, 0] rfl ?_
        exact ih26 P72 z23467 (by omega) I72 X72 (by omega) (by omega)
      refine g_iload_n C dX11_mark_26 rfl 3 rfl ?_
      refine g_iconst (v := 4) C dX11_mark_27 (by decide) ?_
      refine b_icmp_ge C 78 dX11_mark_28 (by decide) (fun h23469 => ?_) (fun h23469 => ?_)
      · have h23469 : 4 ≤ v26_3.toInt := h23469
        refine g_aload_n C dX11_mark_78 rfl 0 rfl ?_
        obtain ⟨b23470, e23471, h23472⟩ := I26.fld (h23465) 3 15 4 rfl
        refine g_getR C fi_X11_24 rfl e23471 (h23465).1 (h23465).2 dX11_mark_79 ?_
        refine g_iload_n C dX11_mark_82 rfl 1 rfl ?_
        refine g_iconst (v := 1) C dX11_mark_83 (by decide) ?_
        refine g_zast (j := (a1.toInt.toNat)) C h23472.1 h23472.2.1 (ix_in h23472.2.2 (by omega)) (Or.inr rfl) dX11_mark_84 ?_
        refine gp (ks := [15]) (I26.setA h23472 (by decide)) (EK.setI h23472.2.1 (by decide)) (fun Y23473 Iy23474 Xy23475 => ?_)
        have Xz23476 : EK [6, 15] P Y23473 := X26.tr (Xy23475.mono (by decide))
        have h23477 := Xy23475.at h23465
        refine g_iconst (v := 1) C dX11_mark_85 (by decide) ?_
        exact ret _ _ _ _ _ _ dX11_mark_86 rfl (by decide) (by decide) ⟨Iy23474, Xz23476, (by decide), Or.inr (by omega)⟩
      · have h23469 : v26_3.toInt < 4 := h23469
        refine g_aload_n C dX11_mark_31 rfl 0 rfl ?_
        obtain ⟨b23478, e23479, h23480⟩ := I26.fld (h23465) 2 19 16 rfl
        refine g_getR C fi_X11_21 rfl e23479 (h23465).1 (h23465).2 dX11_mark_32 ?_
        refine g_iload_n C dX11_mark_35 rfl 1 rfl ?_
        refine g_iconst (v := 4) C dX11_mark_36 (by decide) ?_
        refine s_imul C dX11_mark_37 (by show -2147483648 ≤ a1.toInt * 4 ∧ a1.toInt * 4 ≤ 2147483647; omega) (fun z23481 h23482 => ?_)
        have h23482 : z23481.toInt = a1.toInt * 4 := h23482
        refine g_iload_n C dX11_mark_38 rfl 3 rfl ?_
        refine s_iadd C dX11_mark_39 (by show -2147483648 ≤ z23481.toInt + v26_3.toInt ∧ z23481.toInt + v26_3.toInt ≤ 2147483647; omega) (fun z23483 h23484 => ?_)
        have h23484 : z23483.toInt = z23481.toInt + v26_3.toInt := h23484
        obtain ⟨b23485, e23486, h23487⟩ := I26.elm h23480 (by decide) (z23483.toInt.toNat) (by omega)
        refine g_aldR C h23480.1 h23480.2.1 (by decide) (ix_in h23480.2.2 (by omega)) e23486 dX11_mark_40 ?_
        refine g_astore (lv' := [(4, .ref b23485), (0, .ref a0), (1, .int a1), (2, .int a2), (3, .int v26_3)]) C dX11_mark_41 (by decide) rfl ?_
        refine g_iload_n C dX11_mark_43 rfl 3 rfl ?_
        refine b_if_eq C 61 dX11_mark_44 (by decide) (fun h23488 => ?_) (fun h23488 => ?_)
        · have h23488 : a2.toInt = 0 := congrArg Int32.toInt h23488
          refine g_aload C dX11_mark_61 0 rfl ?_
          refine g_aload_n C dX11_mark_63 rfl 1 rfl ?_
          obtain ⟨b23489, e23490, h23491⟩ := I26.fld (h23465) 1 19 4 rfl
          refine g_getR C fi_X11_17 rfl e23490 (h23465).1 (h23465).2 dX11_mark_64 ?_
          refine g_iload_n C dX11_mark_67 rfl 4 rfl ?_
          obtain ⟨b23492, e23493, h23494⟩ := I26.elm h23491 (by decide) (v26_3.toInt.toNat) (by omega)
          refine g_aldR C h23491.1 h23491.2.1 (by decide) (ix_in h23491.2.2 (by omega)) e23493 dX11_mark_68 ?_
          refine g_callVV (rest := []) C mv_X11_345 [.ref b23492] (s_X6_copy I26 h23487 h23494) (h23487).1 (h23487).2 rfl rfl (by decide) (Nat.le_of_ble_eq_true rfl) (by decide) dX11_mark_69 (fun Y23496 h23497 => ?_)
          obtain ⟨Iy23498, Xy23499⟩ := h23497
          have Xz23500 : EK [6, 15] P Y23496 := X26.tr (Xy23499.mono (by decide))
          have h23501 := Xy23499.at h23465
          have h23502 := Xy23499.at h23487
          refine g_lv (lv' := [(0, .ref a0), (1, .int a1), (2, .int a2), (3, .int v26_3)]) [1, 2, 3, 4] rfl ?_
          exact J72 Y23496 Iy23498 Xz23500 (by omega) (by omega)
        · have h23488 : a2.toInt ≠ 0 := ti_ne h23488
          refine g_aload_n C dX11_mark_47 rfl 1 rfl ?_
          obtain ⟨b23503, e23504, h23505⟩ := I26.fld (h23465) 1 19 4 rfl
          refine g_getR C fi_X11_17 rfl e23504 (h23465).1 (h23465).2 dX11_mark_48 ?_
          refine g_iload_n C dX11_mark_51 rfl 4 rfl ?_
          obtain ⟨b23506, e23507, h23508⟩ := I26.elm h23505 (by decide) (v26_3.toInt.toNat) (by omega)
          refine g_aldR C h23505.1 h23505.2.1 (by decide) (ix_in h23505.2.2 (by omega)) e23507 dX11_mark_52 ?_
          refine g_aload C dX11_mark_53 0 rfl ?_
          refine g_callVV (rest := []) C mv_X11_345 [.ref b23485] (s_X6_copy I26 h23508 h23487) (h23508).1 (h23508).2 rfl rfl (by decide) (Nat.le_of_ble_eq_true rfl) (by decide) dX11_mark_55 (fun Y23510 h23511 => ?_)
          obtain ⟨Iy23512, Xy23513⟩ := h23511
          have Xz23514 : EK [6, 15] P Y23510 := X26.tr (Xy23513.mono (by decide))
          have h23515 := Xy23513.at h23465
          have h23516 := Xy23513.at h23487
          refine g_goto C 72 dX11_mark_58 (by decide) ?_
          refine g_lv (lv' := [(0, .ref a0), (1, .int a1), (2, .int a2), (3, .int v26_3)]) [1, 2, 3, 4] rfl ?_
          exact J72 Y23510 Iy23512 Xz23514 (by omega) (by omega)
  have J24 : (0 ≤ a1.toInt ∧ a1.toInt ≤ 3) → G E ({ frames := 2, cells := 0, slots := 0, locals := 128 } : Room) D cy 5 P 0 0 24 [(0, .ref a0), (1, .int a1), (2, .int a2)] [] := by
    intro hv24_1
    refine g_iconst (v := 0) C dX11_mark_24 (by decide) ?_
    refine g_istore_n (lv' := [(3, .int 0), (0, .ref a0), (1, .int a1), (2, .int a2)]) C dX11_mark_25 rfl (by decide) rfl ?_
    refine g_lv (lv' := [(0, .ref a0), (1, .int a1), (2, .int a2), (3, .int 0)]) [1, 2, 3, 0] rfl ?_
    exact J26 _ P 0 (Nat.lt_succ_self _) I EK.rf (by omega) (by decide)
  have J22 : G E ({ frames := 2, cells := 0, slots := 0, locals := 128 } : Room) D cy 5 P 0 0 22 [] [] := by
    refine g_iconst (v := 0) C dX11_mark_22 (by decide) ?_
    exact ret _ _ _ _ _ _ dX11_mark_23 rfl (by decide) (by decide) ⟨I, EK.rf, (by decide), Or.inl rfl⟩
  refine g_iload_n C dX11_mark_0 rfl 1 rfl ?_
  have u23518 := ti_rng a1
  refine b_if_lt C 22 dX11_mark_1 (by decide) (fun h23517 => ?_) (fun h23517 => ?_)
  · have h23517 : a1.toInt < 0 := h23517
    refine g_lv (lv' := []) [] rfl ?_
    exact J22 
  · have h23517 : 0 ≤ a1.toInt := h23517
    refine g_iload_n C dX11_mark_4 rfl 1 rfl ?_
    refine g_iconst (v := 4) C dX11_mark_5 (by decide) ?_
    have u23520 := ti_rng a1
    refine b_icmp_ge C 22 dX11_mark_6 (by decide) (fun h23519 => ?_) (fun h23519 => ?_)
    · have h23519 : 4 ≤ a1.toInt := h23519
      refine g_lv (lv' := []) [] rfl ?_
      exact J22 
    · have h23519 : a1.toInt < 4 := h23519
      refine g_iload_n C dX11_mark_9 rfl 2 rfl ?_
      refine b_if_eq C 24 dX11_mark_10 (by decide) (fun h23521 => ?_) (fun h23521 => ?_)
      · have h23521 : a2.toInt = 0 := congrArg Int32.toInt h23521
        exact J24 (by omega)
      · have h23521 : a2.toInt ≠ 0 := ti_ne h23521
        refine g_aload_n C dX11_mark_13 rfl 0 rfl ?_
        obtain ⟨b23522, e23523, h23524⟩ := I.fld (ha0) 3 15 4 rfl
        refine g_getR C fi_X11_24 rfl e23523 (ha0).1 (ha0).2 dX11_mark_14 ?_
        refine g_iload_n C dX11_mark_17 rfl 1 rfl ?_
        refine g_zald (j := (a1.toInt.toNat)) C h23524.1 h23524.2.1 (ix_in h23524.2.2 (by omega)) dX11_mark_18 ?_
        refine g_topi (fun z23525 _ => ?_)
        have u23527 := ti_rng z23525
        refine b_if_ne C 24 dX11_mark_19 (by decide) (fun h23526 => ?_) (fun h23526 => ?_)
        · have h23526 : z23525.toInt ≠ 0 := ti_ne h23526
          exact J24 (by omega)
        · have h23526 : z23525.toInt = 0 := congrArg Int32.toInt h23526
          refine g_lv (lv' := []) [] rfl ?_
          exact J22 
theorem dX11_nameless_0 : decode cX11_nameless 0 = .ok (.iload_n 1, 1) := by decide +kernel
theorem dX11_nameless_1 : decode cX11_nameless 1 = .ok (.invokestatic 158, 3) := by decide +kernel
theorem dX11_nameless_4 : decode cX11_nameless 4 = .ok (.ifCond .eq 20, 3) := by decide +kernel
theorem dX11_nameless_7 : decode cX11_nameless 7 = .ok (.iload_n 2, 1) := by decide +kernel
theorem dX11_nameless_8 : decode cX11_nameless 8 = .ok (.invokestatic 173, 3) := by decide +kernel
theorem dX11_nameless_11 : decode cX11_nameless 11 = .ok (.ifCond .eq 13, 3) := by decide +kernel
theorem dX11_nameless_14 : decode cX11_nameless 14 = .ok (.iload_n 3, 1) := by decide +kernel
theorem dX11_nameless_15 : decode cX11_nameless 15 = .ok (.ifCond .lt 9, 3) := by decide +kernel
theorem dX11_nameless_18 : decode cX11_nameless 18 = .ok (.iload_n 3, 1) := by decide +kernel
theorem dX11_nameless_19 : decode cX11_nameless 19 = .ok (.ldc 104, 2) := by decide +kernel
theorem dX11_nameless_21 : decode cX11_nameless 21 = .ok (.if_icmp .le 5, 3) := by decide +kernel
theorem dX11_nameless_24 : decode cX11_nameless 24 = .ok (.iconst (-1), 1) := by decide +kernel
theorem dX11_nameless_25 : decode cX11_nameless 25 = .ok (.ireturn, 1) := by decide +kernel
theorem dX11_nameless_26 : decode cX11_nameless 26 = .ok (.aload_n 0, 1) := by decide +kernel
theorem dX11_nameless_27 : decode cX11_nameless 27 = .ok (.getfield 11, 3) := by decide +kernel
theorem dX11_nameless_30 : decode cX11_nameless 30 = .ok (.iconst 0, 1) := by decide +kernel
theorem dX11_nameless_31 : decode cX11_nameless 31 = .ok (.aaload, 1) := by decide +kernel
theorem dX11_nameless_32 : decode cX11_nameless 32 = .ok (.getfield 176, 3) := by decide +kernel
theorem dX11_nameless_35 : decode cX11_nameless 35 = .ok (.ifCond .eq 16, 3) := by decide +kernel
theorem dX11_nameless_38 : decode cX11_nameless 38 = .ok (.aload_n 0, 1) := by decide +kernel
theorem dX11_nameless_39 : decode cX11_nameless 39 = .ok (.getfield 11, 3) := by decide +kernel
theorem dX11_nameless_42 : decode cX11_nameless 42 = .ok (.iconst 0, 1) := by decide +kernel
theorem dX11_nameless_43 : decode cX11_nameless 43 = .ok (.aaload, 1) := by decide +kernel
theorem dX11_nameless_44 : decode cX11_nameless 44 = .ok (.iload_n 2, 1) := by decide +kernel
theorem dX11_nameless_45 : decode cX11_nameless 45 = .ok (.invokevirtual 140, 3) := by decide +kernel
theorem dX11_nameless_48 : decode cX11_nameless 48 = .ok (.goto 4, 3) := by decide +kernel
theorem dX11_nameless_51 : decode cX11_nameless 51 = .ok (.iconst 0, 1) := by decide +kernel
theorem dX11_nameless_52 : decode cX11_nameless 52 = .ok (.istore 4, 2) := by decide +kernel
theorem dX11_nameless_54 : decode cX11_nameless 54 = .ok (.aload_n 0, 1) := by decide +kernel
theorem dX11_nameless_55 : decode cX11_nameless 55 = .ok (.getfield 11, 3) := by decide +kernel
theorem dX11_nameless_58 : decode cX11_nameless 58 = .ok (.iconst 1, 1) := by decide +kernel
theorem dX11_nameless_59 : decode cX11_nameless 59 = .ok (.aaload, 1) := by decide +kernel
theorem dX11_nameless_60 : decode cX11_nameless 60 = .ok (.getfield 176, 3) := by decide +kernel
theorem dX11_nameless_63 : decode cX11_nameless 63 = .ok (.ifCond .eq 16, 3) := by decide +kernel
theorem dX11_nameless_66 : decode cX11_nameless 66 = .ok (.aload_n 0, 1) := by decide +kernel
theorem dX11_nameless_67 : decode cX11_nameless 67 = .ok (.getfield 11, 3) := by decide +kernel
theorem dX11_nameless_70 : decode cX11_nameless 70 = .ok (.iconst 1, 1) := by decide +kernel
theorem dX11_nameless_71 : decode cX11_nameless 71 = .ok (.aaload, 1) := by decide +kernel
theorem dX11_nameless_72 : decode cX11_nameless 72 = .ok (.iload_n 2, 1) := by decide +kernel
theorem dX11_nameless_73 : decode cX11_nameless 73 = .ok (.invokevirtual 140, 3) := by decide +kernel
theorem dX11_nameless_76 : decode cX11_nameless 76 = .ok (.goto 4, 3) := by decide +kernel
theorem dX11_nameless_79 : decode cX11_nameless 79 = .ok (.iconst 0, 1) := by decide +kernel
theorem dX11_nameless_80 : decode cX11_nameless 80 = .ok (.istore 5, 2) := by decide +kernel
theorem dX11_nameless_82 : decode cX11_nameless 82 = .ok (.aload_n 0, 1) := by decide +kernel
theorem dX11_nameless_83 : decode cX11_nameless 83 = .ok (.getfield 17, 3) := by decide +kernel
theorem dX11_nameless_86 : decode cX11_nameless 86 = .ok (.iload_n 1, 1) := by decide +kernel
theorem dX11_nameless_87 : decode cX11_nameless 87 = .ok (.aaload, 1) := by decide +kernel
theorem dX11_nameless_88 : decode cX11_nameless 88 = .ok (.new 180, 3) := by decide +kernel
theorem dX11_nameless_91 : decode cX11_nameless 91 = .ok (.dup, 1) := by decide +kernel
theorem dX11_nameless_92 : decode cX11_nameless 92 = .ok (.iconst (-1), 1) := by decide +kernel
theorem dX11_nameless_93 : decode cX11_nameless 93 = .ok (.iload_n 2, 1) := by decide +kernel
theorem dX11_nameless_94 : decode cX11_nameless 94 = .ok (.iload_n 3, 1) := by decide +kernel
theorem dX11_nameless_95 : decode cX11_nameless 95 = .ok (.iconst 3, 1) := by decide +kernel
theorem dX11_nameless_96 : decode cX11_nameless 96 = .ok (.iconst 0, 1) := by decide +kernel
theorem dX11_nameless_97 : decode cX11_nameless 97 = .ok (.iload 4, 2) := by decide +kernel
theorem dX11_nameless_99 : decode cX11_nameless 99 = .ok (.iload 5, 2) := by decide +kernel
theorem dX11_nameless_101 : decode cX11_nameless 101 = .ok (.invokespecial 182, 3) := by decide +kernel
theorem dX11_nameless_104 : decode cX11_nameless 104 = .ok (.invokevirtual 165, 3) := by decide +kernel
theorem dX11_nameless_107 : decode cX11_nameless 107 = .ok (.ireturn, 1) := by decide +kernel
set_option maxHeartbeats 4000000 in
set_option maxRecDepth 100000 in
theorem s_X11_nameless {P : PP} {a0 : Nat} {a1 : Int32} {a2 : Int32} {a3 : Int32} (I : IV P) (ha0 : At P a0 11) : CtrI yX11_nameless cX11_nameless 6 (some Jvm.ClassFile.FieldType.int) ({ frames := 5, cells := 1, slots := 7, locals := 320 } : Room) 1 7 P [.ref a0, .int a1, .int a2, .int a3] (fun r P2 => IV P2 ∧ EK [1, 6, 7, 13] P P2 ∧ (-1 ≤ r.toInt ∧ r.toInt ≤ 39)) := by
  refine enI (lv := [(0, .ref a0), (1, .int a1), (2, .int a2), (3, .int a3)]) (by decide) (Nat.le_of_ble_eq_true rfl) rfl (fun E D cy C Ci0 ret => ?_)
  have J80 : ∀ (P80 : PP) (v80_4 : Int32) (v80_s0 : Int32), (IV P80) → (EK [1, 6, 7, 13] P P80) → (0 ≤ a1.toInt ∧ a1.toInt ≤ 3) → (0 ≤ a2.toInt ∧ a2.toInt ≤ 9999) → (0 ≤ a3.toInt ∧ a3.toInt ≤ 65535) → G E ({ frames := 5, cells := 1, slots := 7, locals := 320 } : Room) D cy 6 P80 0 0 80 [(0, .ref a0), (1, .int a1), (2, .int a2), (3, .int a3), (4, .int v80_4)] [.int v80_s0] := by
    intro P80 v80_4 v80_s0 I80 X80 hv80_1 hv80_2 hv80_3
    have h23611 := X80.at ha0
    refine g_istore (lv' := [(5, .int v80_s0), (0, .ref a0), (1, .int a1), (2, .int a2), (3, .int a3), (4, .int v80_4)]) C dX11_nameless_80 (by decide) rfl ?_
    refine g_aload_n C dX11_nameless_82 rfl 1 rfl ?_
    obtain ⟨b23612, e23613, h23614⟩ := I80.fld (h23611) 1 19 4 rfl
    refine g_getR C fi_X11_17 rfl e23613 (h23611).1 (h23611).2 dX11_nameless_83 ?_
    refine g_iload_n C dX11_nameless_86 rfl 2 rfl ?_
    obtain ⟨b23615, e23616, h23617⟩ := I80.elm h23614 (by decide) (a1.toInt.toNat) (by omega)
    refine g_aldR C h23614.1 h23614.2.1 (by decide) (ix_in h23614.2.2 (by omega)) e23616 dX11_nameless_87 ?_
    refine g_new C ni_X11_180 (by decide) (by decide) dX11_nameless_88 (fun q23618 h23619 => ?_)
    have h23620 := At.new (P := P80) (q := q23618) (kd := 7) (n := 0)
    obtain ⟨Y23621, eY23621⟩ : ∃ Z : PP, Z = pNw P80 q23618 7 0 := ⟨_, rfl⟩
    rw [← eY23621] at h23620 ⊢
    have Iy23622 : IV Y23621 := by rw [eY23621]; exact I80.newP h23619
    have Xy23623 : EK [] P80 Y23621 := by rw [eY23621]; exact EK.new h23619
    clear eY23621
    have Xz23624 : EK [1, 6, 7, 13] P Y23621 := X80.tr (Xy23623.mono (by decide))
    have h23625 := Xy23623.at h23611
    have h23626 := Xy23623.at h23617
    refine g_dup C dX11_nameless_91 rfl ?_
    refine g_iconst (v := (-1)) C dX11_nameless_92 (by decide) ?_
    refine g_iload_n C dX11_nameless_93 rfl 3 rfl ?_
    refine g_iload_n C dX11_nameless_94 rfl 4 rfl ?_
    refine g_iconst (v := 3) C dX11_nameless_95 (by decide) ?_
    refine g_iconst (v := 0) C dX11_nameless_96 (by decide) ?_
    refine g_iload C dX11_nameless_97 5 rfl ?_
    refine g_iload C dX11_nameless_99 0 rfl ?_
    refine g_callCV (ci := 0) (ret := none) (rest := [.ref q23618, .ref b23615]) C mi_X11_182 [.int (-1), .int a2, .int a3, .int 3, .int 0, .int v80_4, .int v80_s0] (s_X7_init Iy23622 h23620 (by decide)) rfl rfl (by decide) (Nat.le_of_ble_eq_true rfl) (by decide) dX11_nameless_101 (fun Y23628 h23629 => ?_)
    obtain ⟨Iy23630, Xy23631⟩ := h23629
    have Xz23632 : EK [1, 6, 7, 13] P Y23628 := Xz23624.tr (Xy23631.mono (by decide))
    have h23633 := Xy23631.at h23625
    have h23634 := Xy23631.at h23626
    have h23635 := Xy23631.at h23620
    refine g_callVI (rest := []) C mv_X11_165 [.ref q23618] (s_X6_put Iy23630 h23634 h23635) (h23634).1 (h23634).2 rfl rfl (by decide) (Nat.le_of_ble_eq_true rfl) (by decide) dX11_nameless_104 (fun r23636 Y23637 h23638 => ?_)
    obtain ⟨Iy23639, Xy23640, h23638⟩ := h23638
    have Xz23641 : EK [1, 6, 7, 13] P Y23637 := Xz23632.tr (Xy23640.mono (by decide))
    have h23642 := Xy23640.at h23633
    have h23638 : -1 ≤ r23636.toInt ∧ r23636.toInt ≤ 39 := h23638
    exact ret _ _ _ _ _ _ dX11_nameless_107 rfl (by decide) (by decide) ⟨Iy23639, Xz23641, (by omega)⟩
  have J52 : ∀ (P52 : PP) (v52_s0 : Int32), (IV P52) → (EK [1, 6, 7, 13] P P52) → (0 ≤ a1.toInt ∧ a1.toInt ≤ 3) → (0 ≤ a2.toInt ∧ a2.toInt ≤ 9999) → (0 ≤ a3.toInt ∧ a3.toInt ≤ 65535) → G E ({ frames := 5, cells := 1, slots := 7, locals := 320 } : Room) D cy 6 P52 0 0 52 [(0, .ref a0), (1, .int a1), (2, .int a2), (3, .int a3)] [.int v52_s0] := by
    intro P52 v52_s0 I52 X52 hv52_1 hv52_2 hv52_3
    have h23643 := X52.at ha0
    refine g_istore (lv' := [(4, .int v52_s0), (0, .ref a0), (1, .int a1), (2, .int a2), (3, .int a3)]) C dX11_nameless_52 (by decide) rfl ?_
    refine g_aload_n C dX11_nameless_54 rfl 1 rfl ?_
    obtain ⟨b23644, e23645, h23646⟩ := I52.fld (h23643) 0 17 2 rfl
    refine g_getR C fi_X11_11 rfl e23645 (h23643).1 (h23643).2 dX11_nameless_55 ?_
    refine g_iconst (v := 1) C dX11_nameless_58 (by decide) ?_
    obtain ⟨b23647, e23648, h23649⟩ := I52.elm h23646 (by decide) 1 (by decide)
    refine g_aldR C h23646.1 h23646.2.1 (by decide) (IX.litn (j := 1) h23646.2.2 rfl (by decide) (by decide)) e23648 dX11_nameless_59 ?_
    refine g_getI C fi_X11_176 (by decide) (h23649).1 (h23649).2 dX11_nameless_60 ?_
    have h23650 := I52.rg (h23649) 4 rfl
    refine b_if_eq C 79 dX11_nameless_63 (by decide) (fun h23651 => ?_) (fun h23651 => ?_)
    · have h23651 : (pI P52 b23647 4).toInt = 0 := congrArg Int32.toInt h23651
      refine g_iconst (v := 0) C dX11_nameless_79 (by decide) ?_
      refine g_lv (lv' := [(0, .ref a0), (1, .int a1), (2, .int a2), (3, .int a3), (4, .int v52_s0)]) [1, 2, 3, 4, 0] rfl ?_
      exact J80 P52 v52_s0 0 I52 X52 (by omega) (by omega) (by omega)
    · have h23651 : (pI P52 b23647 4).toInt ≠ 0 := ti_ne h23651
      refine g_aload_n C dX11_nameless_66 rfl 1 rfl ?_
      refine g_getR C fi_X11_11 rfl e23645 (h23643).1 (h23643).2 dX11_nameless_67 ?_
      refine g_iconst (v := 1) C dX11_nameless_70 (by decide) ?_
      obtain ⟨b23652, e23653, h23654⟩ := I52.elm h23646 (by decide) 1 (by decide)
      refine g_aldR C h23646.1 h23646.2.1 (by decide) (IX.litn (j := 1) h23646.2.2 rfl (by decide) (by decide)) e23653 dX11_nameless_71 ?_
      refine g_iload_n C dX11_nameless_72 rfl 3 rfl ?_
      refine g_callVI (rest := []) C mv_X11_140 [.int a2] (s_X1_pagesOf I52 h23654) (h23654).1 (h23654).2 rfl rfl (by decide) (Nat.le_of_ble_eq_true rfl) (by decide) dX11_nameless_73 (fun r23655 Y23656 h23657 => ?_)
      obtain ⟨Iy23658, Xy23659, h23657⟩ := h23657
      have Xz23660 : EK [1, 6, 7, 13] P Y23656 := X52.tr (Xy23659.mono (by decide))
      have h23661 := Xy23659.at h23643
      have h23657 : True := h23657
      refine g_goto C 80 dX11_nameless_76 (by decide) ?_
      refine g_lv (lv' := [(0, .ref a0), (1, .int a1), (2, .int a2), (3, .int a3), (4, .int v52_s0)]) [1, 2, 3, 4, 0] rfl ?_
      exact J80 Y23656 v52_s0 r23655 Iy23658 Xz23660 (by omega) (by omega) (by omega)
  have J24 : G E ({ frames := 5, cells := 1, slots := 7, locals := 320 } : Room) D cy 6 P 0 0 24 [] [] := by
    refine g_iconst (v := (-1)) C dX11_nameless_24 (by decide) ?_
    exact ret _ _ _ _ _ _ dX11_nameless_25 rfl (by decide) (by decide) ⟨I, EK.rf, (by decide)⟩
  refine g_iload_n C dX11_nameless_0 rfl 1 rfl ?_
  refine g_callSI (b := 0) (ci := 0) (rest := []) C ms_X11_158 [.int a1] (s_X11_isQuarter I) rfl rfl (by decide) (Nat.le_of_ble_eq_true rfl) (by decide) dX11_nameless_1 (fun r23662 Y23663 h23664 => ?_)
  obtain ⟨rfl, h23664⟩ := h23664
  obtain ⟨h23664, hi23665⟩ := h23664
  have hi23665 : r23662.toInt = 0 ∨ (((0 : Int) ≤ a1.toInt ∧ a1.toInt ≤ (3 : Int))) := hi23665
  have h23664 : 0 ≤ r23662.toInt ∧ r23662.toInt ≤ 1 := h23664
  refine b_if_eq C 24 dX11_nameless_4 (by decide) (fun h23666 => ?_) (fun h23666 => ?_)
  · have h23666 : r23662.toInt = 0 := congrArg Int32.toInt h23666
    clear hi23665
    refine g_lv (lv' := []) [] rfl ?_
    exact J24 
  · have h23666 : r23662.toInt ≠ 0 := ti_ne h23666
    replace hi23665 := hi23665.resolve_left (by omega)
    refine g_iload_n C dX11_nameless_7 rfl 2 rfl ?_
    refine g_callSI (b := 0) (ci := 0) (rest := []) C ms_X11_173 [.int a2] (s_X11_isNumber I) rfl rfl (by decide) (Nat.le_of_ble_eq_true rfl) (by decide) dX11_nameless_8 (fun r23667 Y23668 h23669 => ?_)
    obtain ⟨rfl, h23669⟩ := h23669
    obtain ⟨h23669, hi23670⟩ := h23669
    have hi23670 : r23667.toInt = 0 ∨ (((0 : Int) ≤ a2.toInt ∧ a2.toInt ≤ (9999 : Int))) := hi23670
    have h23669 : 0 ≤ r23667.toInt ∧ r23667.toInt ≤ 1 := h23669
    refine b_if_eq C 24 dX11_nameless_11 (by decide) (fun h23671 => ?_) (fun h23671 => ?_)
    · have h23671 : r23667.toInt = 0 := congrArg Int32.toInt h23671
      clear hi23670
      refine g_lv (lv' := []) [] rfl ?_
      exact J24 
    · have h23671 : r23667.toInt ≠ 0 := ti_ne h23671
      replace hi23670 := hi23670.resolve_left (by omega)
      refine g_iload_n C dX11_nameless_14 rfl 3 rfl ?_
      have u23673 := ti_rng a3
      refine b_if_lt C 24 dX11_nameless_15 (by decide) (fun h23672 => ?_) (fun h23672 => ?_)
      · have h23672 : a3.toInt < 0 := h23672
        refine g_lv (lv' := []) [] rfl ?_
        exact J24 
      · have h23672 : 0 ≤ a3.toInt := h23672
        refine g_iload_n C dX11_nameless_18 rfl 3 rfl ?_
        refine g_ldc (v := 65535) C kc_X11_104 dX11_nameless_19 ?_
        have u23675 := ti_rng a3
        refine b_icmp_le C 26 dX11_nameless_21 (by decide) (fun h23674 => ?_) (fun h23674 => ?_)
        · have h23674 : a3.toInt ≤ 65535 := h23674
          refine g_aload_n C dX11_nameless_26 rfl 0 rfl ?_
          obtain ⟨b23676, e23677, h23678⟩ := I.fld (ha0) 0 17 2 rfl
          refine g_getR C fi_X11_11 rfl e23677 (ha0).1 (ha0).2 dX11_nameless_27 ?_
          refine g_iconst (v := 0) C dX11_nameless_30 (by decide) ?_
          obtain ⟨b23679, e23680, h23681⟩ := I.elm h23678 (by decide) 0 (by decide)
          refine g_aldR C h23678.1 h23678.2.1 (by decide) (IX.litn (j := 0) h23678.2.2 rfl (by decide) (by decide)) e23680 dX11_nameless_31 ?_
          refine g_getI C fi_X11_176 (by decide) (h23681).1 (h23681).2 dX11_nameless_32 ?_
          have h23682 := I.rg (h23681) 4 rfl
          refine b_if_eq C 51 dX11_nameless_35 (by decide) (fun h23683 => ?_) (fun h23683 => ?_)
          · have h23683 : (pI P b23679 4).toInt = 0 := congrArg Int32.toInt h23683
            refine g_iconst (v := 0) C dX11_nameless_51 (by decide) ?_
            exact J52 P 0 I EK.rf (by omega) (by omega) (by omega)
          · have h23683 : (pI P b23679 4).toInt ≠ 0 := ti_ne h23683
            refine g_aload_n C dX11_nameless_38 rfl 0 rfl ?_
            refine g_getR C fi_X11_11 rfl e23677 (ha0).1 (ha0).2 dX11_nameless_39 ?_
            refine g_iconst (v := 0) C dX11_nameless_42 (by decide) ?_
            obtain ⟨b23684, e23685, h23686⟩ := I.elm h23678 (by decide) 0 (by decide)
            refine g_aldR C h23678.1 h23678.2.1 (by decide) (IX.litn (j := 0) h23678.2.2 rfl (by decide) (by decide)) e23685 dX11_nameless_43 ?_
            refine g_iload_n C dX11_nameless_44 rfl 2 rfl ?_
            refine g_callVI (rest := []) C mv_X11_140 [.int a2] (s_X1_pagesOf I h23686) (h23686).1 (h23686).2 rfl rfl (by decide) (Nat.le_of_ble_eq_true rfl) (by decide) dX11_nameless_45 (fun r23687 Y23688 h23689 => ?_)
            obtain ⟨Iy23690, Xy23691, h23689⟩ := h23689
            have Xz23692 : EK [1, 6, 7, 13] P Y23688 := Xy23691.mono (by decide)
            have h23693 := Xy23691.at ha0
            have h23689 : True := h23689
            refine g_goto C 52 dX11_nameless_48 (by decide) ?_
            exact J52 Y23688 r23687 Iy23690 Xz23692 (by omega) (by omega) (by omega)
        · have h23674 : 65535 < a3.toInt := h23674
          refine g_lv (lv' := []) [] rfl ?_
          exact J24 
theorem dX11_neededIn_0 : decode cX11_neededIn 0 = .ok (.aload_n 0, 1) := by decide +kernel
theorem dX11_neededIn_1 : decode cX11_neededIn 1 = .ok (.getfield 53, 3) := by decide +kernel
theorem dX11_neededIn_4 : decode cX11_neededIn 4 = .ok (.iconst 0, 1) := by decide +kernel
theorem dX11_neededIn_5 : decode cX11_neededIn 5 = .ok (.aaload, 1) := by decide +kernel
theorem dX11_neededIn_6 : decode cX11_neededIn 6 = .ok (.astore_n 3, 1) := by decide +kernel
theorem dX11_neededIn_7 : decode cX11_neededIn 7 = .ok (.aload_n 0, 1) := by decide +kernel
theorem dX11_neededIn_8 : decode cX11_neededIn 8 = .ok (.getfield 47, 3) := by decide +kernel
theorem dX11_neededIn_11 : decode cX11_neededIn 11 = .ok (.iconst 0, 1) := by decide +kernel
theorem dX11_neededIn_12 : decode cX11_neededIn 12 = .ok (.aaload, 1) := by decide +kernel
theorem dX11_neededIn_13 : decode cX11_neededIn 13 = .ok (.aload_n 2, 1) := by decide +kernel
theorem dX11_neededIn_14 : decode cX11_neededIn 14 = .ok (.invokevirtual 371, 3) := by decide +kernel
theorem dX11_neededIn_17 : decode cX11_neededIn 17 = .ok (.aload_n 3, 1) := by decide +kernel
theorem dX11_neededIn_18 : decode cX11_neededIn 18 = .ok (.aload_n 0, 1) := by decide +kernel
theorem dX11_neededIn_19 : decode cX11_neededIn 19 = .ok (.getfield 47, 3) := by decide +kernel
theorem dX11_neededIn_22 : decode cX11_neededIn 22 = .ok (.iconst 0, 1) := by decide +kernel
theorem dX11_neededIn_23 : decode cX11_neededIn 23 = .ok (.aaload, 1) := by decide +kernel
theorem dX11_neededIn_24 : decode cX11_neededIn 24 = .ok (.iconst (-1), 1) := by decide +kernel
theorem dX11_neededIn_25 : decode cX11_neededIn 25 = .ok (.invokevirtual 236, 3) := by decide +kernel
theorem dX11_neededIn_28 : decode cX11_neededIn 28 = .ok (.aload_n 2, 1) := by decide +kernel
theorem dX11_neededIn_29 : decode cX11_neededIn 29 = .ok (.invokevirtual 233, 3) := by decide +kernel
theorem dX11_neededIn_32 : decode cX11_neededIn 32 = .ok (.istore 4, 2) := by decide +kernel
theorem dX11_neededIn_34 : decode cX11_neededIn 34 = .ok (.iconst 0, 1) := by decide +kernel
theorem dX11_neededIn_35 : decode cX11_neededIn 35 = .ok (.istore 5, 2) := by decide +kernel
theorem dX11_neededIn_37 : decode cX11_neededIn 37 = .ok (.iload 5, 2) := by decide +kernel
theorem dX11_neededIn_39 : decode cX11_neededIn 39 = .ok (.bipush 60, 2) := by decide +kernel
theorem dX11_neededIn_41 : decode cX11_neededIn 41 = .ok (.if_icmp .ge 42, 3) := by decide +kernel
theorem dX11_neededIn_44 : decode cX11_neededIn 44 = .ok (.aload_n 3, 1) := by decide +kernel
theorem dX11_neededIn_45 : decode cX11_neededIn 45 = .ok (.getfield 246, 3) := by decide +kernel
theorem dX11_neededIn_48 : decode cX11_neededIn 48 = .ok (.iload 4, 2) := by decide +kernel
theorem dX11_neededIn_50 : decode cX11_neededIn 50 = .ok (.if_icmp .lt 6, 3) := by decide +kernel
theorem dX11_neededIn_53 : decode cX11_neededIn 53 = .ok (.iload 5, 2) := by decide +kernel
theorem dX11_neededIn_55 : decode cX11_neededIn 55 = .ok (.ireturn, 1) := by decide +kernel
theorem dX11_neededIn_56 : decode cX11_neededIn 56 = .ok (.aload_n 0, 1) := by decide +kernel
theorem dX11_neededIn_57 : decode cX11_neededIn 57 = .ok (.aload_n 2, 1) := by decide +kernel
theorem dX11_neededIn_58 : decode cX11_neededIn 58 = .ok (.iload 5, 2) := by decide +kernel
theorem dX11_neededIn_60 : decode cX11_neededIn 60 = .ok (.iload_n 1, 1) := by decide +kernel
theorem dX11_neededIn_61 : decode cX11_neededIn 61 = .ok (.invokevirtual 397, 3) := by decide +kernel
theorem dX11_neededIn_64 : decode cX11_neededIn 64 = .ok (.ifCond .eq 13, 3) := by decide +kernel
theorem dX11_neededIn_67 : decode cX11_neededIn 67 = .ok (.aload_n 3, 1) := by decide +kernel
theorem dX11_neededIn_68 : decode cX11_neededIn 68 = .ok (.aload_n 2, 1) := by decide +kernel
theorem dX11_neededIn_69 : decode cX11_neededIn 69 = .ok (.iload 5, 2) := by decide +kernel
theorem dX11_neededIn_71 : decode cX11_neededIn 71 = .ok (.invokevirtual 140, 3) := by decide +kernel
theorem dX11_neededIn_74 : decode cX11_neededIn 74 = .ok (.invokevirtual 392, 3) := by decide +kernel
theorem dX11_neededIn_77 : decode cX11_neededIn 77 = .ok (.iinc 5 1, 3) := by decide +kernel
theorem dX11_neededIn_80 : decode cX11_neededIn 80 = .ok (.goto (-43), 3) := by decide +kernel
theorem dX11_neededIn_83 : decode cX11_neededIn 83 = .ok (.aload_n 3, 1) := by decide +kernel
theorem dX11_neededIn_84 : decode cX11_neededIn 84 = .ok (.getfield 246, 3) := by decide +kernel
theorem dX11_neededIn_87 : decode cX11_neededIn 87 = .ok (.iload 4, 2) := by decide +kernel
theorem dX11_neededIn_89 : decode cX11_neededIn 89 = .ok (.if_icmp .lt 8, 3) := by decide +kernel
theorem dX11_neededIn_92 : decode cX11_neededIn 92 = .ok (.bipush 60, 2) := by decide +kernel
theorem dX11_neededIn_94 : decode cX11_neededIn 94 = .ok (.goto 4, 3) := by decide +kernel
theorem dX11_neededIn_97 : decode cX11_neededIn 97 = .ok (.iconst (-1), 1) := by decide +kernel
theorem dX11_neededIn_98 : decode cX11_neededIn 98 = .ok (.ireturn, 1) := by decide +kernel
set_option maxHeartbeats 4000000 in
set_option maxRecDepth 100000 in
theorem s_X11_neededIn {P : PP} {a0 : Nat} {a1 : Int32} {a2 : Nat} (I : IV P) (ha0 : At P a0 11) (ha1 : 0 ≤ a1.toInt ∧ a1.toInt ≤ 3) (ha2 : At P a2 1) : CtrI yX11_neededIn cX11_neededIn 6 (some Jvm.ClassFile.FieldType.int) ({ frames := 5, cells := 0, slots := 0, locals := 320 } : Room) 0 0 P [.ref a0, .int a1, .ref a2] (fun r P2 => IV P2 ∧ EK [0, 1, 5, 13] P P2 ∧ (-1 ≤ r.toInt ∧ r.toInt ≤ 60)) := by
  refine enI (lv := [(0, .ref a0), (1, .int a1), (2, .ref a2)]) (by decide) (Nat.le_of_ble_eq_true rfl) rfl (fun E D cy C Ci0 ret => ?_)
  have J37 : ∀ (n37 : Nat) (P37 : PP) (b37_3 : Nat) (v37_4 : Int32) (v37_5 : Int32), (60 - v37_5.toInt).toNat < n37 → (IV P37) → (EK [0, 1, 5, 13] P P37) → (At P37 b37_3 0) → (0 ≤ v37_4.toInt ∧ v37_4.toInt ≤ 20) → (0 ≤ v37_5.toInt ∧ v37_5.toInt ≤ 60) → G E ({ frames := 5, cells := 0, slots := 0, locals := 320 } : Room) D cy 6 P37 0 0 37 [(0, .ref a0), (1, .int a1), (2, .ref a2), (3, .ref b37_3), (4, .int v37_4), (5, .int v37_5)] [] := by
    intro n37
    induction n37 with
    | zero => intro P37 b37_3 v37_4 v37_5 hm37 I37 X37 hb37_3 hv37_4 hv37_5; omega
    | succ n37 ih37 =>
      intro P37 b37_3 v37_4 v37_5 hm37 I37 X37 hb37_3 hv37_4 hv37_5
      have h24375 := X37.at ha0
      have h24376 := X37.at ha2
      have J77 : ∀ (P77 : PP) (b77_3 : Nat), (IV P77) → (EK [0, 1, 5, 13] P P77) → (At P77 b77_3 0) → (1 ≤ v37_4.toInt ∧ v37_4.toInt ≤ 20) → (0 ≤ v37_5.toInt ∧ v37_5.toInt ≤ 59) → G E ({ frames := 5, cells := 0, slots := 0, locals := 320 } : Room) D cy 6 P77 0 0 77 [(0, .ref a0), (1, .int a1), (2, .ref a2), (3, .ref b77_3), (4, .int v37_4), (5, .int v37_5)] [] := by
        intro P77 b77_3 I77 X77 hb77_3 hv77_4 hv77_5
        have h24377 := X77.at ha0
        have h24378 := X77.at ha2
        refine s_iinc (lv0 := [(0, .ref a0), (1, .int a1), (2, .ref a2), (3, .ref b77_3), (4, .int v37_4)]) (m := 1) C dX11_neededIn_77 5 rfl (by decide) rfl (by decide) (by omega) (fun z24379 h24380 => ?_)
        have h24380 : z24379.toInt = v37_5.toInt + 1 := h24380
        refine g_goto C 37 dX11_neededIn_80 (by decide) ?_
        refine g_lv (lv' := [(0, .ref a0), (1, .int a1), (2, .ref a2), (3, .ref b77_3), (4, .int v37_4), (5, .int z24379)]) [1, 2, 3, 4, 5, 0] rfl ?_
        exact ih37 P77 b77_3 v37_4 z24379 (by omega) I77 X77 hb77_3 (by omega) (by omega)
      refine g_iload C dX11_neededIn_37 5 rfl ?_
      refine g_bipush (v := 60) C dX11_neededIn_39 (by decide) ?_
      refine b_icmp_ge C 83 dX11_neededIn_41 (by decide) (fun h24381 => ?_) (fun h24381 => ?_)
      · have h24381 : 60 ≤ v37_5.toInt := h24381
        refine g_aload_n C dX11_neededIn_83 rfl 3 rfl ?_
        refine g_getI C fi_X11_246 (by decide) (hb37_3).1 (hb37_3).2 dX11_neededIn_84 ?_
        have h24382 := I37.rg (hb37_3) 2 rfl
        refine g_iload C dX11_neededIn_87 4 rfl ?_
        refine b_icmp_lt C 97 dX11_neededIn_89 (by decide) (fun h24383 => ?_) (fun h24383 => ?_)
        · have h24383 : (pI P37 b37_3 2).toInt < v37_4.toInt := h24383
          refine g_iconst (v := (-1)) C dX11_neededIn_97 (by decide) ?_
          exact ret _ _ _ _ _ _ dX11_neededIn_98 rfl (by decide) (by decide) ⟨I37, X37, (by decide)⟩
        · have h24383 : v37_4.toInt ≤ (pI P37 b37_3 2).toInt := h24383
          refine g_bipush (v := 60) C dX11_neededIn_92 (by decide) ?_
          refine g_goto C 98 dX11_neededIn_94 (by decide) ?_
          exact ret _ _ _ _ _ _ dX11_neededIn_98 rfl (by decide) (by decide) ⟨I37, X37, (by decide)⟩
      · have h24381 : v37_5.toInt < 60 := h24381
        refine g_aload_n C dX11_neededIn_44 rfl 3 rfl ?_
        refine g_getI C fi_X11_246 (by decide) (hb37_3).1 (hb37_3).2 dX11_neededIn_45 ?_
        have h24384 := I37.rg (hb37_3) 2 rfl
        refine g_iload C dX11_neededIn_48 4 rfl ?_
        refine b_icmp_lt C 56 dX11_neededIn_50 (by decide) (fun h24385 => ?_) (fun h24385 => ?_)
        · have h24385 : (pI P37 b37_3 2).toInt < v37_4.toInt := h24385
          refine g_aload_n C dX11_neededIn_56 rfl 0 rfl ?_
          refine g_aload_n C dX11_neededIn_57 rfl 2 rfl ?_
          refine g_iload C dX11_neededIn_58 5 rfl ?_
          refine g_iload_n C dX11_neededIn_60 rfl 1 rfl ?_
          refine g_callVI (rest := []) C mv_X11_397 [.ref a2, .int v37_5, .int a1] (s_X11_falls I37 h24375 h24376 (by omega)) (h24375).1 (h24375).2 rfl rfl (by decide) (Nat.le_of_ble_eq_true rfl) (by decide) dX11_neededIn_61 (fun r24386 Y24387 h24388 => ?_)
          obtain ⟨rfl, h24388⟩ := h24388
          have h24388 : 0 ≤ r24386.toInt ∧ r24386.toInt ≤ 1 := h24388
          refine b_if_eq C 77 dX11_neededIn_64 (by decide) (fun h24389 => ?_) (fun h24389 => ?_)
          · have h24389 : r24386.toInt = 0 := congrArg Int32.toInt h24389
            exact J77 P37 b37_3 I37 X37 hb37_3 (by omega) (by omega)
          · have h24389 : r24386.toInt ≠ 0 := ti_ne h24389
            refine g_aload_n C dX11_neededIn_67 rfl 3 rfl ?_
            refine g_aload_n C dX11_neededIn_68 rfl 2 rfl ?_
            refine g_iload C dX11_neededIn_69 5 rfl ?_
            refine g_callVI (rest := [.ref b37_3]) C mv_X11_140 [.int v37_5] (s_X1_pagesOf I37 h24376) (h24376).1 (h24376).2 rfl rfl (by decide) (Nat.le_of_ble_eq_true rfl) (by decide) dX11_neededIn_71 (fun r24390 Y24391 h24392 => ?_)
            obtain ⟨Iy24393, Xy24394, h24392⟩ := h24392
            have q24395 := Xy24394.keep hb37_3 (by decide) 2
            have Xz24396 : EK [0, 1, 5, 13] P Y24391 := X37.tr (Xy24394.mono (by decide))
            have h24397 := Xy24394.at h24375
            have h24398 := Xy24394.at h24376
            have h24399 := Xy24394.at hb37_3
            have h24392 : True := h24392
            refine g_callVV (rest := []) C mv_X11_392 [.int r24390] (s_X0_add Iy24393 h24399) (h24399).1 (h24399).2 rfl rfl (by decide) (Nat.le_of_ble_eq_true rfl) (by decide) dX11_neededIn_74 (fun Y24401 h24402 => ?_)
            obtain ⟨Iy24403, Xy24404⟩ := h24402
            have Xz24405 : EK [0, 1, 5, 13] P Y24401 := Xz24396.tr (Xy24404.mono (by decide))
            have h24406 := Xy24404.at h24397
            have h24407 := Xy24404.at h24398
            have h24408 := Xy24404.at h24399
            exact J77 Y24401 b37_3 Iy24403 Xz24405 h24408 (by omega) (by omega)
        · have h24385 : v37_4.toInt ≤ (pI P37 b37_3 2).toInt := h24385
          refine g_iload C dX11_neededIn_53 5 rfl ?_
          exact ret _ _ _ _ _ _ dX11_neededIn_55 rfl (by decide) (by decide) ⟨I37, X37, (by omega)⟩
  refine g_aload_n C dX11_neededIn_0 rfl 0 rfl ?_
  obtain ⟨b24409, e24410, h24411⟩ := I.fld (ha0) 9 16 2 rfl
  refine g_getR C fi_X11_53 rfl e24410 (ha0).1 (ha0).2 dX11_neededIn_1 ?_
  refine g_iconst (v := 0) C dX11_neededIn_4 (by decide) ?_
  obtain ⟨b24412, e24413, h24414⟩ := I.elm h24411 (by decide) 0 (by decide)
  refine g_aldR C h24411.1 h24411.2.1 (by decide) (IX.litn (j := 0) h24411.2.2 rfl (by decide) (by decide)) e24413 dX11_neededIn_5 ?_
  refine g_astore_n (lv' := [(3, .ref b24412), (0, .ref a0), (1, .int a1), (2, .ref a2)]) C dX11_neededIn_6 rfl (by decide) rfl ?_
  refine g_aload_n C dX11_neededIn_7 rfl 1 rfl ?_
  obtain ⟨b24415, e24416, h24417⟩ := I.fld (ha0) 8 18 2 rfl
  refine g_getR C fi_X11_47 rfl e24416 (ha0).1 (ha0).2 dX11_neededIn_8 ?_
  refine g_iconst (v := 0) C dX11_neededIn_11 (by decide) ?_
  obtain ⟨b24418, e24419, h24420⟩ := I.elm h24417 (by decide) 0 (by decide)
  refine g_aldR C h24417.1 h24417.2.1 (by decide) (IX.litn (j := 0) h24417.2.2 rfl (by decide) (by decide)) e24419 dX11_neededIn_12 ?_
  refine g_aload_n C dX11_neededIn_13 rfl 3 rfl ?_
  refine g_callVV (rest := []) C mv_X11_371 [.ref a2] (s_X5_startWith I h24420 ha2) (h24420).1 (h24420).2 rfl rfl (by decide) (Nat.le_of_ble_eq_true rfl) (by decide) dX11_neededIn_14 (fun Y24422 h24423 => ?_)
  obtain ⟨Iy24424, Xy24425⟩ := h24423
  have Xz24426 : EK [0, 1, 5, 13] P Y24422 := Xy24425.mono (by decide)
  have h24427 := Xy24425.at ha0
  have h24428 := Xy24425.at ha2
  have h24429 := Xy24425.at h24414
  refine g_aload_n C dX11_neededIn_17 rfl 0 rfl ?_
  refine g_aload_n C dX11_neededIn_18 rfl 1 rfl ?_
  obtain ⟨b24430, e24431, h24432⟩ := Iy24424.fld (h24427) 8 18 2 rfl
  refine g_getR C fi_X11_47 rfl e24431 (h24427).1 (h24427).2 dX11_neededIn_19 ?_
  refine g_iconst (v := 0) C dX11_neededIn_22 (by decide) ?_
  obtain ⟨b24433, e24434, h24435⟩ := Iy24424.elm h24432 (by decide) 0 (by decide)
  refine g_aldR C h24432.1 h24432.2.1 (by decide) (IX.litn (j := 0) h24432.2.2 rfl (by decide) (by decide)) e24434 dX11_neededIn_23 ?_
  refine g_iconst (v := (-1)) C dX11_neededIn_24 (by decide) ?_
  refine g_callVV (rest := []) C mv_X11_236 [.ref b24433, .int (-1)] (s_X0_take Iy24424 h24429 h24435) (h24429).1 (h24429).2 rfl rfl (by decide) (Nat.le_of_ble_eq_true rfl) (by decide) dX11_neededIn_25 (fun Y24437 h24438 => ?_)
  obtain ⟨Iy24439, Xy24440⟩ := h24438
  have Xz24441 : EK [0, 1, 5, 13] P Y24437 := Xz24426.tr (Xy24440.mono (by decide))
  have h24442 := Xy24440.at h24427
  have h24443 := Xy24440.at h24428
  have h24444 := Xy24440.at h24429
  refine g_aload_n C dX11_neededIn_28 rfl 3 rfl ?_
  refine g_callVI (rest := []) C mv_X11_233 [] (s_X1_all Iy24439 h24443) (h24443).1 (h24443).2 rfl rfl (by decide) (Nat.le_of_ble_eq_true rfl) (by decide) dX11_neededIn_29 (fun r24445 Y24446 h24447 => ?_)
  obtain ⟨rfl, h24447⟩ := h24447
  have h24447 : 0 ≤ r24445.toInt ∧ r24445.toInt ≤ 20 := h24447
  refine g_istore (lv' := [(4, .int r24445), (3, .ref b24412), (0, .ref a0), (1, .int a1), (2, .ref a2)]) C dX11_neededIn_32 (by decide) rfl ?_
  refine g_iconst (v := 0) C dX11_neededIn_34 (by decide) ?_
  refine g_istore (lv' := [(5, .int 0), (4, .int r24445), (3, .ref b24412), (0, .ref a0), (1, .int a1), (2, .ref a2)]) C dX11_neededIn_35 (by decide) rfl ?_
  refine g_lv (lv' := [(0, .ref a0), (1, .int a1), (2, .ref a2), (3, .ref b24412), (4, .int r24445), (5, .int 0)]) [3, 4, 5, 2, 1, 0] rfl ?_
  exact J37 _ Y24437 b24412 r24445 0 (Nat.lt_succ_self _) Iy24439 Xz24441 h24444 (by omega) (by decide)
theorem dX11_needs_0 : decode cX11_needs 0 = .ok (.iload_n 1, 1) := by decide +kernel
theorem dX11_needs_1 : decode cX11_needs 1 = .ok (.invokestatic 158, 3) := by decide +kernel
theorem dX11_needs_4 : decode cX11_needs 4 = .ok (.ifCond .eq 11, 3) := by decide +kernel
theorem dX11_needs_7 : decode cX11_needs 7 = .ok (.aload_n 0, 1) := by decide +kernel
theorem dX11_needs_8 : decode cX11_needs 8 = .ok (.iload_n 2, 1) := by decide +kernel
theorem dX11_needs_9 : decode cX11_needs 9 = .ok (.invokevirtual 97, 3) := by decide +kernel
theorem dX11_needs_12 : decode cX11_needs 12 = .ok (.ifCond .ne 5, 3) := by decide +kernel
theorem dX11_needs_15 : decode cX11_needs 15 = .ok (.iconst (-1), 1) := by decide +kernel
theorem dX11_needs_16 : decode cX11_needs 16 = .ok (.ireturn, 1) := by decide +kernel
theorem dX11_needs_17 : decode cX11_needs 17 = .ok (.aload_n 0, 1) := by decide +kernel
theorem dX11_needs_18 : decode cX11_needs 18 = .ok (.iload_n 1, 1) := by decide +kernel
theorem dX11_needs_19 : decode cX11_needs 19 = .ok (.aload_n 0, 1) := by decide +kernel
theorem dX11_needs_20 : decode cX11_needs 20 = .ok (.getfield 11, 3) := by decide +kernel
theorem dX11_needs_23 : decode cX11_needs 23 = .ok (.iload_n 2, 1) := by decide +kernel
theorem dX11_needs_24 : decode cX11_needs 24 = .ok (.aaload, 1) := by decide +kernel
theorem dX11_needs_25 : decode cX11_needs 25 = .ok (.invokevirtual 326, 3) := by decide +kernel
theorem dX11_needs_28 : decode cX11_needs 28 = .ok (.ireturn, 1) := by decide +kernel
set_option maxHeartbeats 4000000 in
set_option maxRecDepth 100000 in
theorem s_X11_needs {P : PP} {a0 : Nat} {a1 : Int32} {a2 : Int32} (I : IV P) (ha0 : At P a0 11) : CtrI yX11_needs cX11_needs 3 (some Jvm.ClassFile.FieldType.int) ({ frames := 6, cells := 0, slots := 0, locals := 384 } : Room) 0 0 P [.ref a0, .int a1, .int a2] (fun r P2 => IV P2 ∧ EK [0, 1, 5, 13] P P2 ∧ (-1 ≤ r.toInt ∧ r.toInt ≤ 60)) := by
  refine enI (lv := [(0, .ref a0), (1, .int a1), (2, .int a2)]) (by decide) (Nat.le_of_ble_eq_true rfl) rfl (fun E D cy C Ci0 ret => ?_)
  have J15 : G E ({ frames := 6, cells := 0, slots := 0, locals := 384 } : Room) D cy 3 P 0 0 15 [] [] := by
    refine g_iconst (v := (-1)) C dX11_needs_15 (by decide) ?_
    exact ret _ _ _ _ _ _ dX11_needs_16 rfl (by decide) (by decide) ⟨I, EK.rf, (by decide)⟩
  refine g_iload_n C dX11_needs_0 rfl 1 rfl ?_
  refine g_callSI (b := 0) (ci := 0) (rest := []) C ms_X11_158 [.int a1] (s_X11_isQuarter I) rfl rfl (by decide) (Nat.le_of_ble_eq_true rfl) (by decide) dX11_needs_1 (fun r24471 Y24472 h24473 => ?_)
  obtain ⟨rfl, h24473⟩ := h24473
  obtain ⟨h24473, hi24474⟩ := h24473
  have hi24474 : r24471.toInt = 0 ∨ (((0 : Int) ≤ a1.toInt ∧ a1.toInt ≤ (3 : Int))) := hi24474
  have h24473 : 0 ≤ r24471.toInt ∧ r24471.toInt ≤ 1 := h24473
  refine b_if_eq C 15 dX11_needs_4 (by decide) (fun h24475 => ?_) (fun h24475 => ?_)
  · have h24475 : r24471.toInt = 0 := congrArg Int32.toInt h24475
    clear hi24474
    refine g_lv (lv' := []) [] rfl ?_
    exact J15 
  · have h24475 : r24471.toInt ≠ 0 := ti_ne h24475
    replace hi24474 := hi24474.resolve_left (by omega)
    refine g_aload_n C dX11_needs_7 rfl 0 rfl ?_
    refine g_iload_n C dX11_needs_8 rfl 2 rfl ?_
    refine g_callVI (rest := []) C mv_X11_97 [.int a2] (s_X11_isTold I ha0) (ha0).1 (ha0).2 rfl rfl (by decide) (Nat.le_of_ble_eq_true rfl) (by decide) dX11_needs_9 (fun r24476 Y24477 h24478 => ?_)
    obtain ⟨rfl, h24478⟩ := h24478
    obtain ⟨h24478, hi24479⟩ := h24478
    have hi24479 : r24476.toInt = 0 ∨ (((0 : Int) ≤ a2.toInt ∧ a2.toInt ≤ (1 : Int))) := hi24479
    have h24478 : 0 ≤ r24476.toInt ∧ r24476.toInt ≤ 1 := h24478
    refine b_if_ne C 17 dX11_needs_12 (by decide) (fun h24480 => ?_) (fun h24480 => ?_)
    · have h24480 : r24476.toInt ≠ 0 := ti_ne h24480
      replace hi24479 := hi24479.resolve_left (by omega)
      refine g_aload_n C dX11_needs_17 rfl 0 rfl ?_
      refine g_iload_n C dX11_needs_18 rfl 1 rfl ?_
      refine g_aload_n C dX11_needs_19 rfl 0 rfl ?_
      obtain ⟨b24481, e24482, h24483⟩ := I.fld (ha0) 0 17 2 rfl
      refine g_getR C fi_X11_11 rfl e24482 (ha0).1 (ha0).2 dX11_needs_20 ?_
      refine g_iload_n C dX11_needs_23 rfl 2 rfl ?_
      obtain ⟨b24484, e24485, h24486⟩ := I.elm h24483 (by decide) (a2.toInt.toNat) (by omega)
      refine g_aldR C h24483.1 h24483.2.1 (by decide) (ix_in h24483.2.2 (by omega)) e24485 dX11_needs_24 ?_
      refine g_callVI (rest := []) C mv_X11_326 [.int a1, .ref b24484] (s_X11_neededIn I ha0 (by omega) h24486) (ha0).1 (ha0).2 rfl rfl (by decide) (Nat.le_of_ble_eq_true rfl) (by decide) dX11_needs_25 (fun r24487 Y24488 h24489 => ?_)
      obtain ⟨Iy24490, Xy24491, h24489⟩ := h24489
      have Xz24492 : EK [0, 1, 5, 13] P Y24488 := Xy24491.mono (by decide)
      have h24493 := Xy24491.at ha0
      have h24489 : -1 ≤ r24487.toInt ∧ r24487.toInt ≤ 60 := h24489
      exact ret _ _ _ _ _ _ dX11_needs_28 rfl (by decide) (by decide) ⟨Iy24490, Xz24492, (by omega)⟩
    · have h24480 : r24476.toInt = 0 := congrArg Int32.toInt h24480
      clear hi24479
      refine g_lv (lv' := []) [] rfl ?_
      exact J15 
theorem dX11_page_0 : decode cX11_page 0 = .ok (.aload_n 0, 1) := by decide +kernel
theorem dX11_page_1 : decode cX11_page 1 = .ok (.iload_n 1, 1) := by decide +kernel
theorem dX11_page_2 : decode cX11_page 2 = .ok (.invokevirtual 97, 3) := by decide +kernel
theorem dX11_page_5 : decode cX11_page 5 = .ok (.ifCond .eq 20, 3) := by decide +kernel
theorem dX11_page_8 : decode cX11_page 8 = .ok (.iload_n 2, 1) := by decide +kernel
theorem dX11_page_9 : decode cX11_page 9 = .ok (.ifCond .lt 16, 3) := by decide +kernel
theorem dX11_page_12 : decode cX11_page 12 = .ok (.iload_n 2, 1) := by decide +kernel
theorem dX11_page_13 : decode cX11_page 13 = .ok (.aload_n 0, 1) := by decide +kernel
theorem dX11_page_14 : decode cX11_page 14 = .ok (.getfield 11, 3) := by decide +kernel
theorem dX11_page_17 : decode cX11_page 17 = .ok (.iload_n 1, 1) := by decide +kernel
theorem dX11_page_18 : decode cX11_page 18 = .ok (.aaload, 1) := by decide +kernel
theorem dX11_page_19 : decode cX11_page 19 = .ok (.getfield 100, 3) := by decide +kernel
theorem dX11_page_22 : decode cX11_page 22 = .ok (.if_icmp .lt 5, 3) := by decide +kernel
theorem dX11_page_25 : decode cX11_page 25 = .ok (.iconst 0, 1) := by decide +kernel
theorem dX11_page_26 : decode cX11_page 26 = .ok (.ireturn, 1) := by decide +kernel
theorem dX11_page_27 : decode cX11_page 27 = .ok (.iload_n 3, 1) := by decide +kernel
theorem dX11_page_28 : decode cX11_page 28 = .ok (.ifCond .lt 17, 3) := by decide +kernel
theorem dX11_page_31 : decode cX11_page 31 = .ok (.iload_n 3, 1) := by decide +kernel
theorem dX11_page_32 : decode cX11_page 32 = .ok (.ldc 104, 2) := by decide +kernel
theorem dX11_page_34 : decode cX11_page 34 = .ok (.if_icmp .gt 11, 3) := by decide +kernel
theorem dX11_page_37 : decode cX11_page 37 = .ok (.aload_n 0, 1) := by decide +kernel
theorem dX11_page_38 : decode cX11_page 38 = .ok (.iload_n 1, 1) := by decide +kernel
theorem dX11_page_39 : decode cX11_page 39 = .ok (.invokevirtual 105, 3) := by decide +kernel
theorem dX11_page_42 : decode cX11_page 42 = .ok (.ifCond .eq 5, 3) := by decide +kernel
theorem dX11_page_45 : decode cX11_page 45 = .ok (.iconst 0, 1) := by decide +kernel
theorem dX11_page_46 : decode cX11_page 46 = .ok (.ireturn, 1) := by decide +kernel
theorem dX11_page_47 : decode cX11_page 47 = .ok (.aload_n 0, 1) := by decide +kernel
theorem dX11_page_48 : decode cX11_page 48 = .ok (.getfield 11, 3) := by decide +kernel
theorem dX11_page_51 : decode cX11_page 51 = .ok (.iload_n 1, 1) := by decide +kernel
theorem dX11_page_52 : decode cX11_page 52 = .ok (.aaload, 1) := by decide +kernel
theorem dX11_page_53 : decode cX11_page 53 = .ok (.getfield 108, 3) := by decide +kernel
theorem dX11_page_56 : decode cX11_page 56 = .ok (.iload_n 2, 1) := by decide +kernel
theorem dX11_page_57 : decode cX11_page 57 = .ok (.iload_n 3, 1) := by decide +kernel
theorem dX11_page_58 : decode cX11_page 58 = .ok (.iastore, 1) := by decide +kernel
theorem dX11_page_59 : decode cX11_page 59 = .ok (.iconst 1, 1) := by decide +kernel
theorem dX11_page_60 : decode cX11_page 60 = .ok (.ireturn, 1) := by decide +kernel
set_option maxHeartbeats 4000000 in
set_option maxRecDepth 100000 in
theorem s_X11_page {P : PP} {a0 : Nat} {a1 : Int32} {a2 : Int32} {a3 : Int32} (I : IV P) (ha0 : At P a0 11) : CtrI yX11_page cX11_page 4 (some Jvm.ClassFile.FieldType.boolean) ({ frames := 4, cells := 0, slots := 0, locals := 256 } : Room) 0 0 P [.ref a0, .int a1, .int a2, .int a3] (fun r P2 => IV P2 ∧ EK [13] P P2 ∧ (0 ≤ r.toInt ∧ r.toInt ≤ 1) ∧ (r.toInt = 0 ∨ (((0 : Int) ≤ a1.toInt ∧ a1.toInt ≤ (1 : Int)) ∧ ((0 : Int) ≤ a2.toInt ∧ a2.toInt ≤ (15 : Int)) ∧ ((0 : Int) ≤ a3.toInt ∧ a3.toInt ≤ (65535 : Int))))) := by
  refine enI (lv := [(0, .ref a0), (1, .int a1), (2, .int a2), (3, .int a3)]) (by decide) (Nat.le_of_ble_eq_true rfl) rfl (fun E D cy C Ci0 ret => ?_)
  have J45 : G E ({ frames := 4, cells := 0, slots := 0, locals := 256 } : Room) D cy 4 P 0 0 45 [] [] := by
    refine g_iconst (v := 0) C dX11_page_45 (by decide) ?_
    exact ret _ _ _ _ _ _ dX11_page_46 rfl (by decide) (by decide) ⟨I, EK.rf, (by decide), Or.inl rfl⟩
  have J25 : G E ({ frames := 4, cells := 0, slots := 0, locals := 256 } : Room) D cy 4 P 0 0 25 [] [] := by
    refine g_iconst (v := 0) C dX11_page_25 (by decide) ?_
    exact ret _ _ _ _ _ _ dX11_page_26 rfl (by decide) (by decide) ⟨I, EK.rf, (by decide), Or.inl rfl⟩
  refine g_aload_n C dX11_page_0 rfl 0 rfl ?_
  refine g_iload_n C dX11_page_1 rfl 1 rfl ?_
  refine g_callVI (rest := []) C mv_X11_97 [.int a1] (s_X11_isTold I ha0) (ha0).1 (ha0).2 rfl rfl (by decide) (Nat.le_of_ble_eq_true rfl) (by decide) dX11_page_2 (fun r24530 Y24531 h24532 => ?_)
  obtain ⟨rfl, h24532⟩ := h24532
  obtain ⟨h24532, hi24533⟩ := h24532
  have hi24533 : r24530.toInt = 0 ∨ (((0 : Int) ≤ a1.toInt ∧ a1.toInt ≤ (1 : Int))) := hi24533
  have h24532 : 0 ≤ r24530.toInt ∧ r24530.toInt ≤ 1 := h24532
  refine b_if_eq C 25 dX11_page_5 (by decide) (fun h24534 => ?_) (fun h24534 => ?_)
  · have h24534 : r24530.toInt = 0 := congrArg Int32.toInt h24534
    clear hi24533
    refine g_lv (lv' := []) [] rfl ?_
    exact J25 
  · have h24534 : r24530.toInt ≠ 0 := ti_ne h24534
    replace hi24533 := hi24533.resolve_left (by omega)
    refine g_iload_n C dX11_page_8 rfl 2 rfl ?_
    have u24536 := ti_rng a2
    refine b_if_lt C 25 dX11_page_9 (by decide) (fun h24535 => ?_) (fun h24535 => ?_)
    · have h24535 : a2.toInt < 0 := h24535
      refine g_lv (lv' := []) [] rfl ?_
      exact J25 
    · have h24535 : 0 ≤ a2.toInt := h24535
      refine g_iload_n C dX11_page_12 rfl 2 rfl ?_
      refine g_aload_n C dX11_page_13 rfl 0 rfl ?_
      obtain ⟨b24537, e24538, h24539⟩ := I.fld (ha0) 0 17 2 rfl
      refine g_getR C fi_X11_11 rfl e24538 (ha0).1 (ha0).2 dX11_page_14 ?_
      refine g_iload_n C dX11_page_17 rfl 1 rfl ?_
      obtain ⟨b24540, e24541, h24542⟩ := I.elm h24539 (by decide) (a1.toInt.toNat) (by omega)
      refine g_aldR C h24539.1 h24539.2.1 (by decide) (ix_in h24539.2.2 (by omega)) e24541 dX11_page_18 ?_
      refine g_getI C fi_X11_100 (by decide) (h24542).1 (h24542).2 dX11_page_19 ?_
      have h24543 := I.rg (h24542) 5 rfl
      have u24545 := ti_rng a2
      refine b_icmp_lt C 27 dX11_page_22 (by decide) (fun h24544 => ?_) (fun h24544 => ?_)
      · have h24544 : a2.toInt < (pI P b24540 5).toInt := h24544
        refine g_iload_n C dX11_page_27 rfl 3 rfl ?_
        have u24547 := ti_rng a3
        refine b_if_lt C 45 dX11_page_28 (by decide) (fun h24546 => ?_) (fun h24546 => ?_)
        · have h24546 : a3.toInt < 0 := h24546
          refine g_lv (lv' := []) [] rfl ?_
          exact J45 
        · have h24546 : 0 ≤ a3.toInt := h24546
          refine g_iload_n C dX11_page_31 rfl 3 rfl ?_
          refine g_ldc (v := 65535) C kc_X11_104 dX11_page_32 ?_
          have u24549 := ti_rng a3
          refine b_icmp_gt C 45 dX11_page_34 (by decide) (fun h24548 => ?_) (fun h24548 => ?_)
          · have h24548 : 65535 < a3.toInt := h24548
            refine g_lv (lv' := []) [] rfl ?_
            exact J45 
          · have h24548 : a3.toInt ≤ 65535 := h24548
            refine g_aload_n C dX11_page_37 rfl 0 rfl ?_
            refine g_iload_n C dX11_page_38 rfl 1 rfl ?_
            refine g_callVI (rest := []) C mv_X11_105 [.int a1] (s_X11_isTouched I ha0) (ha0).1 (ha0).2 rfl rfl (by decide) (Nat.le_of_ble_eq_true rfl) (by decide) dX11_page_39 (fun r24550 Y24551 h24552 => ?_)
            obtain ⟨rfl, h24552⟩ := h24552
            have h24552 : 0 ≤ r24550.toInt ∧ r24550.toInt ≤ 1 := h24552
            refine b_if_eq C 47 dX11_page_42 (by decide) (fun h24553 => ?_) (fun h24553 => ?_)
            · have h24553 : r24550.toInt = 0 := congrArg Int32.toInt h24553
              refine g_aload_n C dX11_page_47 rfl 0 rfl ?_
              refine g_getR C fi_X11_11 rfl e24538 (ha0).1 (ha0).2 dX11_page_48 ?_
              refine g_iload_n C dX11_page_51 rfl 1 rfl ?_
              obtain ⟨b24554, e24555, h24556⟩ := I.elm h24539 (by decide) (a1.toInt.toNat) (by omega)
              refine g_aldR C h24539.1 h24539.2.1 (by decide) (ix_in h24539.2.2 (by omega)) e24555 dX11_page_52 ?_
              obtain ⟨b24557, e24558, h24559⟩ := I.fld (h24556) 1 13 16 rfl
              refine g_getR C fi_X11_108 rfl e24558 (h24556).1 (h24556).2 dX11_page_53 ?_
              refine g_iload_n C dX11_page_56 rfl 2 rfl ?_
              refine g_iload_n C dX11_page_57 rfl 3 rfl ?_
              refine g_iast (j := (a2.toInt.toNat)) C h24559.1 h24559.2.1 (ix_in h24559.2.2 (by omega)) dX11_page_58 ?_
              refine gp (ks := [13]) (I.setA h24559 (by decide)) (EK.setI h24559.2.1 (by decide)) (fun Y24560 Iy24561 Xy24562 => ?_)
              have q24563 := Xy24562.keep h24542 (by decide) 5
              have Xz24564 : EK [13] P Y24560 := Xy24562.mono (by decide)
              have h24565 := Xy24562.at ha0
              refine g_iconst (v := 1) C dX11_page_59 (by decide) ?_
              exact ret _ _ _ _ _ _ dX11_page_60 rfl (by decide) (by decide) ⟨Iy24561, Xz24564, (by decide), Or.inr (by omega)⟩
            · have h24553 : r24550.toInt ≠ 0 := ti_ne h24553
              refine g_lv (lv' := []) [] rfl ?_
              exact J45 
      · have h24544 : (pI P b24540 5).toInt ≤ a2.toInt := h24544
        refine g_lv (lv' := []) [] rfl ?_
        exact J25 
theorem dX11_paper_0 : decode cX11_paper 0 = .ok (.aload_n 0, 1) := by decide +kernel
theorem dX11_paper_1 : decode cX11_paper 1 = .ok (.iload_n 1, 1) := by decide +kernel
theorem dX11_paper_2 : decode cX11_paper 2 = .ok (.iload_n 2, 1) := by decide +kernel
theorem dX11_paper_3 : decode cX11_paper 3 = .ok (.invokevirtual 185, 3) := by decide +kernel
theorem dX11_paper_6 : decode cX11_paper 6 = .ok (.astore 4, 2) := by decide +kernel
theorem dX11_paper_8 : decode cX11_paper 8 = .ok (.aload 4, 2) := by decide +kernel
theorem dX11_paper_10 : decode cX11_paper 10 = .ok (.ifnonnull 11, 3) := by decide +kernel
theorem dX11_paper_13 : decode cX11_paper 13 = .ok (.new 188, 3) := by decide +kernel
theorem dX11_peels_0 : decode cX11_peels 0 = .ok (.iload_n 1, 1) := by decide +kernel
theorem dX11_peels_1 : decode cX11_peels 1 = .ok (.invokestatic 158, 3) := by decide +kernel
theorem dX11_peels_4 : decode cX11_peels 4 = .ok (.ifCond .eq 18, 3) := by decide +kernel
theorem dX11_peels_7 : decode cX11_peels 7 = .ok (.aload_n 0, 1) := by decide +kernel
theorem dX11_peels_8 : decode cX11_peels 8 = .ok (.iload_n 2, 1) := by decide +kernel
theorem dX11_peels_9 : decode cX11_peels 9 = .ok (.invokevirtual 97, 3) := by decide +kernel
theorem dX11_peels_12 : decode cX11_peels 12 = .ok (.ifCond .eq 10, 3) := by decide +kernel
theorem dX11_peels_15 : decode cX11_peels 15 = .ok (.iload_n 3, 1) := by decide +kernel
theorem dX11_peels_16 : decode cX11_peels 16 = .ok (.invokestatic 213, 3) := by decide +kernel
theorem dX11_peels_19 : decode cX11_peels 19 = .ok (.ifCond .ne 5, 3) := by decide +kernel
theorem dX11_peels_24 : decode cX11_peels 24 = .ok (.aload_n 0, 1) := by decide +kernel
theorem dX11_peels_25 : decode cX11_peels 25 = .ok (.iload_n 1, 1) := by decide +kernel
theorem dX11_peels_26 : decode cX11_peels 26 = .ok (.iload_n 2, 1) := by decide +kernel
theorem dX11_peels_27 : decode cX11_peels 27 = .ok (.iload_n 3, 1) := by decide +kernel
theorem dX11_peels_28 : decode cX11_peels 28 = .ok (.invokevirtual 216, 3) := by decide +kernel
theorem dX11_peels_31 : decode cX11_peels 31 = .ok (.astore 5, 2) := by decide +kernel
theorem dX11_peels_33 : decode cX11_peels 33 = .ok (.aload 5, 2) := by decide +kernel
theorem dX11_peels_35 : decode cX11_peels 35 = .ok (.invokevirtual 220, 3) := by decide +kernel
theorem dX5_peel_0 : decode cX5_peel 0 = .ok (.iconst 0, 1) := by decide +kernel
theorem dX5_peel_1 : decode cX5_peel 1 = .ok (.istore_n 1, 1) := by decide +kernel
theorem dX5_peel_2 : decode cX5_peel 2 = .ok (.iconst 0, 1) := by decide +kernel
theorem dX5_peel_3 : decode cX5_peel 3 = .ok (.istore_n 2, 1) := by decide +kernel
theorem dX5_peel_4 : decode cX5_peel 4 = .ok (.iload_n 2, 1) := by decide +kernel
theorem dX5_peel_5 : decode cX5_peel 5 = .ok (.bipush 20, 2) := by decide +kernel
theorem dX5_peel_7 : decode cX5_peel 7 = .ok (.if_icmp .gt 62, 3) := by decide +kernel
theorem dX5_peel_10 : decode cX5_peel 10 = .ok (.aload_n 0, 1) := by decide +kernel
theorem dX5_peel_11 : decode cX5_peel 11 = .ok (.iload_n 1, 1) := by decide +kernel
theorem dX5_peel_12 : decode cX5_peel 12 = .ok (.invokevirtual 58, 3) := by decide +kernel
theorem dX5_firstWithOneUnknown_0 : decode cX5_firstWithOneUnknown 0 = .ok (.iconst 0, 1) := by decide +kernel
theorem dX5_firstWithOneUnknown_1 : decode cX5_firstWithOneUnknown 1 = .ok (.istore_n 2, 1) := by decide +kernel
theorem dX5_firstWithOneUnknown_2 : decode cX5_firstWithOneUnknown 2 = .ok (.iload_n 2, 1) := by decide +kernel
theorem dX5_firstWithOneUnknown_3 : decode cX5_firstWithOneUnknown 3 = .ok (.aload_n 0, 1) := by decide +kernel
theorem dX5_firstWithOneUnknown_4 : decode cX5_firstWithOneUnknown 4 = .ok (.getfield 25, 3) := by decide +kernel
theorem dX5_firstWithOneUnknown_7 : decode cX5_firstWithOneUnknown 7 = .ok (.if_icmp .ge 30, 3) := by decide +kernel
theorem dX5_firstWithOneUnknown_10 : decode cX5_firstWithOneUnknown 10 = .ok (.aload_n 0, 1) := by decide +kernel
theorem dX5_firstWithOneUnknown_11 : decode cX5_firstWithOneUnknown 11 = .ok (.iload_n 2, 1) := by decide +kernel
theorem dX5_firstWithOneUnknown_12 : decode cX5_firstWithOneUnknown 12 = .ok (.iload_n 1, 1) := by decide +kernel
theorem dX5_firstWithOneUnknown_13 : decode cX5_firstWithOneUnknown 13 = .ok (.invokevirtual 54, 3) := by decide +kernel
theorem dX5_firstWithOneUnknown_16 : decode cX5_firstWithOneUnknown 16 = .ok (.istore_n 3, 1) := by decide +kernel
theorem dX5_firstWithOneUnknown_17 : decode cX5_firstWithOneUnknown 17 = .ok (.iload_n 3, 1) := by decide +kernel
theorem dX5_firstWithOneUnknown_18 : decode cX5_firstWithOneUnknown 18 = .ok (.ifCond .eq 13, 3) := by decide +kernel
theorem dX5_firstWithOneUnknown_21 : decode cX5_firstWithOneUnknown 21 = .ok (.iload_n 3, 1) := by decide +kernel
theorem dX5_firstWithOneUnknown_22 : decode cX5_firstWithOneUnknown 22 = .ok (.iload_n 3, 1) := by decide +kernel
theorem dX5_firstWithOneUnknown_23 : decode cX5_firstWithOneUnknown 23 = .ok (.iconst 1, 1) := by decide +kernel
theorem dX5_firstWithOneUnknown_24 : decode cX5_firstWithOneUnknown 24 = .ok (.isub, 1) := by decide +kernel
theorem dX5_firstWithOneUnknown_25 : decode cX5_firstWithOneUnknown 25 = .ok (.iand, 1) := by decide +kernel
theorem dX5_firstWithOneUnknown_26 : decode cX5_firstWithOneUnknown 26 = .ok (.ifCond .ne 5, 3) := by decide +kernel
theorem dX5_firstWithOneUnknown_29 : decode cX5_firstWithOneUnknown 29 = .ok (.iload_n 2, 1) := by decide +kernel
theorem dX5_firstWithOneUnknown_30 : decode cX5_firstWithOneUnknown 30 = .ok (.ireturn, 1) := by decide +kernel
theorem dX5_firstWithOneUnknown_31 : decode cX5_firstWithOneUnknown 31 = .ok (.iinc 2 1, 3) := by decide +kernel
theorem dX5_firstWithOneUnknown_34 : decode cX5_firstWithOneUnknown 34 = .ok (.goto (-32), 3) := by decide +kernel
theorem dX5_firstWithOneUnknown_37 : decode cX5_firstWithOneUnknown 37 = .ok (.iconst (-1), 1) := by decide +kernel
theorem dX5_firstWithOneUnknown_38 : decode cX5_firstWithOneUnknown 38 = .ok (.ireturn, 1) := by decide +kernel
set_option maxHeartbeats 4000000 in
set_option maxRecDepth 100000 in
theorem s_X5_firstWithOneUnknown {P : PP} {a0 : Nat} {a1 : Int32} (I : IV P) (ha0 : At P a0 5) : CtrI yX5_firstWithOneUnknown cX5_firstWithOneUnknown 4 (some Jvm.ClassFile.FieldType.int) ({ frames := 2, cells := 0, slots := 0, locals := 128 } : Room) 0 0 P [.ref a0, .int a1] (fun r P2 => P = P2 ∧ (-1 ≤ r.toInt ∧ r.toInt ≤ 43)) := by
  refine enI (lv := [(0, .ref a0), (1, .int a1)]) (by decide) (Nat.le_of_ble_eq_true rfl) rfl (fun E D cy C Ci0 ret => ?_)
  have J2 : ∀ (n2 : Nat) (v2_2 : Int32), (44 - v2_2.toInt).toNat < n2 → (0 ≤ v2_2.toInt ∧ v2_2.toInt ≤ 44) → G E ({ frames := 2, cells := 0, slots := 0, locals := 128 } : Room) D cy 4 P 0 0 2 [(0, .ref a0), (1, .int a1), (2, .int v2_2)] [] := by
    intro n2
    induction n2 with
    | zero => intro v2_2 hm2 hv2_2; omega
    | succ n2 ih2 =>
      intro v2_2 hm2 hv2_2
      have J31 : (0 ≤ v2_2.toInt ∧ v2_2.toInt ≤ 43) → (1 ≤ (pI P a0 4).toInt ∧ (pI P a0 4).toInt ≤ 44) → G E ({ frames := 2, cells := 0, slots := 0, locals := 128 } : Room) D cy 4 P 0 0 31 [(0, .ref a0), (1, .int a1), (2, .int v2_2)] [] := by
        intro hv31_2 hq31_0
        refine s_iinc (lv0 := [(0, .ref a0), (1, .int a1)]) (m := 1) C dX5_firstWithOneUnknown_31 2 rfl (by decide) rfl (by decide) (by omega) (fun z24851 h24852 => ?_)
        have h24852 : z24851.toInt = v2_2.toInt + 1 := h24852
        refine g_goto C 2 dX5_firstWithOneUnknown_34 (by decide) ?_
        refine g_lv (lv' := [(0, .ref a0), (1, .int a1), (2, .int z24851)]) [1, 2, 0] rfl ?_
        exact ih2 z24851 (by omega) (by omega)
      refine g_iload_n C dX5_firstWithOneUnknown_2 rfl 2 rfl ?_
      refine g_aload_n C dX5_firstWithOneUnknown_3 rfl 0 rfl ?_
      refine g_getI C fi_X5_25 (by decide) (ha0).1 (ha0).2 dX5_firstWithOneUnknown_4 ?_
      have h24853 := I.rg (ha0) 4 rfl
      refine b_icmp_ge C 37 dX5_firstWithOneUnknown_7 (by decide) (fun h24854 => ?_) (fun h24854 => ?_)
      · have h24854 : (pI P a0 4).toInt ≤ v2_2.toInt := h24854
        refine g_iconst (v := (-1)) C dX5_firstWithOneUnknown_37 (by decide) ?_
        exact ret _ _ _ _ _ _ dX5_firstWithOneUnknown_38 rfl (by decide) (by decide) ⟨rfl, (by decide)⟩
      · have h24854 : v2_2.toInt < (pI P a0 4).toInt := h24854
        refine g_aload_n C dX5_firstWithOneUnknown_10 rfl 0 rfl ?_
        refine g_iload_n C dX5_firstWithOneUnknown_11 rfl 2 rfl ?_
        refine g_iload_n C dX5_firstWithOneUnknown_12 rfl 1 rfl ?_
        refine g_callVI (rest := []) C mv_X5_54 [.int v2_2, .int a1] (s_X5_unknownOf I ha0 (by omega)) (ha0).1 (ha0).2 rfl rfl (by decide) (Nat.le_of_ble_eq_true rfl) (by decide) dX5_firstWithOneUnknown_13 (fun r24855 Y24856 h24857 => ?_)
        obtain ⟨rfl, h24857⟩ := h24857
        have h24857 : True := h24857
        refine g_istore_n (lv' := [(3, .int r24855), (0, .ref a0), (1, .int a1), (2, .int v2_2)]) C dX5_firstWithOneUnknown_16 rfl (by decide) rfl ?_
        refine g_iload_n C dX5_firstWithOneUnknown_17 rfl 0 rfl ?_
        have u24859 := ti_rng r24855
        refine b_if_eq C 31 dX5_firstWithOneUnknown_18 (by decide) (fun h24858 => ?_) (fun h24858 => ?_)
        · have h24858 : r24855.toInt = 0 := congrArg Int32.toInt h24858
          refine g_lv (lv' := [(0, .ref a0), (1, .int a1), (2, .int v2_2)]) [1, 2, 3] rfl ?_
          exact J31 (by omega) (by omega)
        · have h24858 : r24855.toInt ≠ 0 := ti_ne h24858
          refine g_iload_n C dX5_firstWithOneUnknown_21 rfl 0 rfl ?_
          refine g_iload_n C dX5_firstWithOneUnknown_22 rfl 0 rfl ?_
          refine g_iconst (v := 1) C dX5_firstWithOneUnknown_23 (by decide) ?_
          refine a_isub C dX5_firstWithOneUnknown_24 (fun z24860 => ?_)
          refine a_iand C dX5_firstWithOneUnknown_25 (fun z24862 => ?_)
          have u24865 := ti_rng z24862
          refine b_if_ne C 31 dX5_firstWithOneUnknown_26 (by decide) (fun h24864 => ?_) (fun h24864 => ?_)
          · have h24864 : z24862.toInt ≠ 0 := ti_ne h24864
            refine g_lv (lv' := [(0, .ref a0), (1, .int a1), (2, .int v2_2)]) [1, 2, 3] rfl ?_
            exact J31 (by omega) (by omega)
          · have h24864 : z24862.toInt = 0 := congrArg Int32.toInt h24864
            refine g_iload_n C dX5_firstWithOneUnknown_29 rfl 3 rfl ?_
            exact ret _ _ _ _ _ _ dX5_firstWithOneUnknown_30 rfl (by decide) (by decide) ⟨rfl, (by omega)⟩
  refine g_iconst (v := 0) C dX5_firstWithOneUnknown_0 (by decide) ?_
  refine g_istore_n (lv' := [(2, .int 0), (0, .ref a0), (1, .int a1)]) C dX5_firstWithOneUnknown_1 rfl (by decide) rfl ?_
  refine g_lv (lv' := [(0, .ref a0), (1, .int a1), (2, .int 0)]) [1, 2, 0] rfl ?_
  exact J2 _ 0 (Nat.lt_succ_self _) (by decide)
theorem dX5_peel_15 : decode cX5_peel 15 = .ok (.istore_n 3, 1) := by decide +kernel
theorem dX5_peel_16 : decode cX5_peel 16 = .ok (.iload_n 3, 1) := by decide +kernel
theorem dX5_peel_17 : decode cX5_peel 17 = .ok (.iconst (-1), 1) := by decide +kernel
theorem dX5_peel_18 : decode cX5_peel 18 = .ok (.if_icmp .ne 5, 3) := by decide +kernel
theorem dX5_peel_23 : decode cX5_peel 23 = .ok (.aload_n 0, 1) := by decide +kernel
theorem dX5_peel_24 : decode cX5_peel 24 = .ok (.iload_n 3, 1) := by decide +kernel
theorem dX5_peel_25 : decode cX5_peel 25 = .ok (.iload_n 1, 1) := by decide +kernel
theorem dX5_peel_26 : decode cX5_peel 26 = .ok (.invokevirtual 54, 3) := by decide +kernel
theorem dX5_peel_29 : decode cX5_peel 29 = .ok (.istore 4, 2) := by decide +kernel
theorem dX5_peel_31 : decode cX5_peel 31 = .ok (.iload 4, 2) := by decide +kernel
theorem dX5_peel_33 : decode cX5_peel 33 = .ok (.invokestatic 62, 3) := by decide +kernel
theorem dX5_peel_36 : decode cX5_peel 36 = .ok (.istore 5, 2) := by decide +kernel
theorem dX5_peel_38 : decode cX5_peel 38 = .ok (.iload 5, 2) := by decide +kernel
theorem dX5_peel_40 : decode cX5_peel 40 = .ok (.bipush 20, 2) := by decide +kernel
theorem dX5_peel_42 : decode cX5_peel 42 = .ok (.if_icmp .ge 16, 3) := by decide +kernel
theorem dX5_peel_45 : decode cX5_peel 45 = .ok (.aload_n 0, 1) := by decide +kernel
theorem dX5_peel_46 : decode cX5_peel 46 = .ok (.getfield 18, 3) := by decide +kernel
theorem dX5_peel_49 : decode cX5_peel 49 = .ok (.iload 5, 2) := by decide +kernel
theorem dX5_peel_51 : decode cX5_peel 51 = .ok (.aload_n 0, 1) := by decide +kernel
theorem dX5_peel_52 : decode cX5_peel 52 = .ok (.iload_n 3, 1) := by decide +kernel
theorem dX5_peel_53 : decode cX5_peel 53 = .ok (.iload_n 1, 1) := by decide +kernel
theorem dX5_peel_54 : decode cX5_peel 54 = .ok (.invokevirtual 65, 3) := by decide +kernel
theorem dX5_restOf_0 : decode cX5_restOf 0 = .ok (.aload_n 0, 1) := by decide +kernel
theorem dX5_restOf_1 : decode cX5_restOf 1 = .ok (.getfield 9, 3) := by decide +kernel
theorem dX5_restOf_4 : decode cX5_restOf 4 = .ok (.iload_n 1, 1) := by decide +kernel
theorem dX5_restOf_5 : decode cX5_restOf 5 = .ok (.iaload, 1) := by decide +kernel
theorem dX5_restOf_6 : decode cX5_restOf 6 = .ok (.bipush 20, 2) := by decide +kernel
theorem dX5_restOf_8 : decode cX5_restOf 8 = .ok (.iushr, 1) := by decide +kernel
theorem dX5_restOf_9 : decode cX5_restOf 9 = .ok (.istore_n 3, 1) := by decide +kernel
theorem dX5_restOf_10 : decode cX5_restOf 10 = .ok (.aload_n 0, 1) := by decide +kernel
theorem dX5_restOf_11 : decode cX5_restOf 11 = .ok (.getfield 9, 3) := by decide +kernel
theorem dX5_restOf_14 : decode cX5_restOf 14 = .ok (.iload_n 1, 1) := by decide +kernel
theorem dX5_restOf_15 : decode cX5_restOf 15 = .ok (.iaload, 1) := by decide +kernel
theorem dX5_restOf_16 : decode cX5_restOf 16 = .ok (.ldc 53, 2) := by decide +kernel
theorem dX5_restOf_18 : decode cX5_restOf 18 = .ok (.iand, 1) := by decide +kernel
theorem dX5_restOf_19 : decode cX5_restOf 19 = .ok (.iload_n 2, 1) := by decide +kernel
theorem dX5_restOf_20 : decode cX5_restOf 20 = .ok (.iand, 1) := by decide +kernel
theorem dX5_restOf_21 : decode cX5_restOf 21 = .ok (.istore 4, 2) := by decide +kernel
theorem dX5_restOf_23 : decode cX5_restOf 23 = .ok (.iconst 0, 1) := by decide +kernel
theorem dX5_restOf_24 : decode cX5_restOf 24 = .ok (.istore 5, 2) := by decide +kernel
theorem dX5_restOf_26 : decode cX5_restOf 26 = .ok (.iload 5, 2) := by decide +kernel
theorem dX5_restOf_28 : decode cX5_restOf 28 = .ok (.bipush 20, 2) := by decide +kernel
theorem dX5_restOf_30 : decode cX5_restOf 30 = .ok (.if_icmp .ge 29, 3) := by decide +kernel
theorem dX5_restOf_33 : decode cX5_restOf 33 = .ok (.iload 4, 2) := by decide +kernel
theorem dX5_restOf_35 : decode cX5_restOf 35 = .ok (.iload 5, 2) := by decide +kernel
theorem dX5_restOf_37 : decode cX5_restOf 37 = .ok (.ishr, 1) := by decide +kernel
theorem dX5_restOf_38 : decode cX5_restOf 38 = .ok (.iconst 1, 1) := by decide +kernel
theorem dX5_restOf_39 : decode cX5_restOf 39 = .ok (.iand, 1) := by decide +kernel
theorem dX5_restOf_40 : decode cX5_restOf 40 = .ok (.ifCond .eq 13, 3) := by decide +kernel
theorem dX5_restOf_43 : decode cX5_restOf 43 = .ok (.iload_n 3, 1) := by decide +kernel
theorem dX5_restOf_44 : decode cX5_restOf 44 = .ok (.aload_n 0, 1) := by decide +kernel
theorem dX5_restOf_45 : decode cX5_restOf 45 = .ok (.getfield 18, 3) := by decide +kernel
theorem dX5_restOf_48 : decode cX5_restOf 48 = .ok (.iload 5, 2) := by decide +kernel
theorem dX5_restOf_50 : decode cX5_restOf 50 = .ok (.iaload, 1) := by decide +kernel
theorem dX5_restOf_51 : decode cX5_restOf 51 = .ok (.ixor, 1) := by decide +kernel
theorem dX5_restOf_52 : decode cX5_restOf 52 = .ok (.istore_n 3, 1) := by decide +kernel
theorem dX5_restOf_53 : decode cX5_restOf 53 = .ok (.iinc 5 1, 3) := by decide +kernel
theorem dX5_restOf_56 : decode cX5_restOf 56 = .ok (.goto (-30), 3) := by decide +kernel
theorem dX5_restOf_59 : decode cX5_restOf 59 = .ok (.iload_n 3, 1) := by decide +kernel
theorem dX5_restOf_60 : decode cX5_restOf 60 = .ok (.ireturn, 1) := by decide +kernel
set_option maxHeartbeats 4000000 in
set_option maxRecDepth 100000 in
theorem s_X5_restOf {P : PP} {a0 : Nat} {a1 : Int32} {a2 : Int32} (I : IV P) (ha0 : At P a0 5) (ha1 : 0 ≤ a1.toInt ∧ a1.toInt ≤ 43) : CtrI yX5_restOf cX5_restOf 6 (some Jvm.ClassFile.FieldType.int) ({ frames := 1, cells := 0, slots := 0, locals := 64 } : Room) 0 0 P [.ref a0, .int a1, .int a2] (fun r P2 => P = P2 ∧ (True)) := by
  refine enI (lv := [(0, .ref a0), (1, .int a1), (2, .int a2)]) (by decide) (Nat.le_of_ble_eq_true rfl) rfl (fun E D cy C Ci0 ret => ?_)
  have J26 : ∀ (n26 : Nat) (v26_3 : Int32) (v26_4 : Int32) (v26_5 : Int32), (20 - v26_5.toInt).toNat < n26 → (0 ≤ v26_5.toInt ∧ v26_5.toInt ≤ 20) → G E ({ frames := 1, cells := 0, slots := 0, locals := 64 } : Room) D cy 6 P 0 0 26 [(0, .ref a0), (3, .int v26_3), (4, .int v26_4), (5, .int v26_5)] [] := by
    intro n26
    induction n26 with
    | zero => intro v26_3 v26_4 v26_5 hm26 hv26_5; omega
    | succ n26 ih26 =>
      intro v26_3 v26_4 v26_5 hm26 hv26_5
      have J53 : ∀ (v53_3 : Int32), (0 ≤ v26_5.toInt ∧ v26_5.toInt ≤ 19) → G E ({ frames := 1, cells := 0, slots := 0, locals := 64 } : Room) D cy 6 P 0 0 53 [(0, .ref a0), (3, .int v53_3), (4, .int v26_4), (5, .int v26_5)] [] := by
        intro v53_3 hv53_5
        refine s_iinc (lv0 := [(0, .ref a0), (3, .int v53_3), (4, .int v26_4)]) (m := 1) C dX5_restOf_53 3 rfl (by decide) rfl (by decide) (by omega) (fun z25074 h25075 => ?_)
        have h25075 : z25074.toInt = v26_5.toInt + 1 := h25075
        refine g_goto C 26 dX5_restOf_56 (by decide) ?_
        refine g_lv (lv' := [(0, .ref a0), (3, .int v53_3), (4, .int v26_4), (5, .int z25074)]) [1, 2, 3, 0] rfl ?_
        exact ih26 v53_3 v26_4 z25074 (by omega) (by omega)
      refine g_iload C dX5_restOf_26 3 rfl ?_
      refine g_bipush (v := 20) C dX5_restOf_28 (by decide) ?_
      refine b_icmp_ge C 59 dX5_restOf_30 (by decide) (fun h25076 => ?_) (fun h25076 => ?_)
      · have h25076 : 20 ≤ v26_5.toInt := h25076
        refine g_iload_n C dX5_restOf_59 rfl 1 rfl ?_
        exact ret _ _ _ _ _ _ dX5_restOf_60 rfl (by decide) (by decide) ⟨rfl, trivial⟩
      · have h25076 : v26_5.toInt < 20 := h25076
        refine g_iload C dX5_restOf_33 2 rfl ?_
        refine g_iload C dX5_restOf_35 3 rfl ?_
        refine a_ishr C dX5_restOf_37 (fun z25077 => ?_)
        refine g_iconst (v := 1) C dX5_restOf_38 (by decide) ?_
        refine s_iand C dX5_restOf_39 (by show 0 ≤ 1; omega) (fun z25079 h25080 => ?_)
        have h25080 : 0 ≤ z25079.toInt ∧ z25079.toInt ≤ 1 := h25080
        refine b_if_eq C 53 dX5_restOf_40 (by decide) (fun h25081 => ?_) (fun h25081 => ?_)
        · have h25081 : z25079.toInt = 0 := congrArg Int32.toInt h25081
          exact J53 v26_3 (by omega)
        · have h25081 : z25079.toInt ≠ 0 := ti_ne h25081
          refine g_iload_n C dX5_restOf_43 rfl 1 rfl ?_
          refine g_aload_n C dX5_restOf_44 rfl 0 rfl ?_
          obtain ⟨b25082, e25083, h25084⟩ := I.fld (ha0) 2 13 20 rfl
          refine g_getR C fi_X5_18 rfl e25083 (ha0).1 (ha0).2 dX5_restOf_45 ?_
          refine g_iload C dX5_restOf_48 3 rfl ?_
          refine g_iald (j := (v26_5.toInt.toNat)) C h25084.1 h25084.2.1 (ix_in h25084.2.2 (by omega)) dX5_restOf_50 ?_
          refine g_topi (fun z25085 _ => ?_)
          refine a_ixor C dX5_restOf_51 (fun z25086 => ?_)
          refine g_istore_n (lv' := [(3, .int z25086), (0, .ref a0), (4, .int v26_4), (5, .int v26_5)]) C dX5_restOf_52 rfl (by decide) rfl ?_
          refine g_lv (lv' := [(0, .ref a0), (3, .int z25086), (4, .int v26_4), (5, .int v26_5)]) [1, 0, 2, 3] rfl ?_
          exact J53 z25086 (by omega)
  refine g_aload_n C dX5_restOf_0 rfl 0 rfl ?_
  obtain ⟨b25088, e25089, h25090⟩ := I.fld (ha0) 0 13 44 rfl
  refine g_getR C fi_X5_9 rfl e25089 (ha0).1 (ha0).2 dX5_restOf_1 ?_
  refine g_iload_n C dX5_restOf_4 rfl 1 rfl ?_
  refine g_iald (j := (a1.toInt.toNat)) C h25090.1 h25090.2.1 (ix_in h25090.2.2 (by omega)) dX5_restOf_5 ?_
  refine g_topi (fun z25091 _ => ?_)
  refine g_bipush (v := 20) C dX5_restOf_6 (by decide) ?_
  refine a_iushr C dX5_restOf_8 (fun z25092 => ?_)
  refine g_istore_n (lv' := [(3, .int z25092), (0, .ref a0), (1, .int a1), (2, .int a2)]) C dX5_restOf_9 rfl (by decide) rfl ?_
  refine g_aload_n C dX5_restOf_10 rfl 1 rfl ?_
  refine g_getR C fi_X5_9 rfl e25089 (ha0).1 (ha0).2 dX5_restOf_11 ?_
  refine g_iload_n C dX5_restOf_14 rfl 2 rfl ?_
  refine g_iald (j := (a1.toInt.toNat)) C h25090.1 h25090.2.1 (ix_in h25090.2.2 (by omega)) dX5_restOf_15 ?_
  refine g_topi (fun z25094 _ => ?_)
  refine g_ldc (v := 1048575) C kc_X5_53 dX5_restOf_16 ?_
  refine s_iand C dX5_restOf_18 (by show 0 ≤ 1048575; omega) (fun z25095 h25096 => ?_)
  have h25096 : 0 ≤ z25095.toInt ∧ z25095.toInt ≤ 1048575 := h25096
  refine g_iload_n C dX5_restOf_19 rfl 3 rfl ?_
  refine a_iand C dX5_restOf_20 (fun z25097 => ?_)
  refine g_istore (lv' := [(4, .int z25097), (3, .int z25092), (0, .ref a0), (1, .int a1), (2, .int a2)]) C dX5_restOf_21 (by decide) rfl ?_
  refine g_iconst (v := 0) C dX5_restOf_23 (by decide) ?_
  refine g_istore (lv' := [(5, .int 0), (4, .int z25097), (3, .int z25092), (0, .ref a0), (1, .int a1), (2, .int a2)]) C dX5_restOf_24 (by decide) rfl ?_
  refine g_lv (lv' := [(0, .ref a0), (3, .int z25092), (4, .int z25097), (5, .int 0)]) [3, 2, 1, 0] rfl ?_
  exact J26 _ z25092 z25097 0 (Nat.lt_succ_self _) (by decide)
theorem dX5_peel_21 : decode cX5_peel 21 = .ok (.iload_n 1, 1) := by decide +kernel
theorem dX5_peel_22 : decode cX5_peel 22 = .ok (.ireturn, 1) := by decide +kernel
theorem dX5_peel_57 : decode cX5_peel 57 = .ok (.iastore, 1) := by decide +kernel
theorem dX5_peel_58 : decode cX5_peel 58 = .ok (.iload_n 1, 1) := by decide +kernel
theorem dX5_peel_59 : decode cX5_peel 59 = .ok (.iload 4, 2) := by decide +kernel
theorem dX5_peel_61 : decode cX5_peel 61 = .ok (.ior, 1) := by decide +kernel
theorem dX5_peel_62 : decode cX5_peel 62 = .ok (.istore_n 1, 1) := by decide +kernel
theorem dX5_peel_63 : decode cX5_peel 63 = .ok (.iinc 2 1, 3) := by decide +kernel
theorem dX5_peel_66 : decode cX5_peel 66 = .ok (.goto (-62), 3) := by decide +kernel
theorem dX5_peel_69 : decode cX5_peel 69 = .ok (.iload_n 1, 1) := by decide +kernel
theorem dX5_peel_70 : decode cX5_peel 70 = .ok (.ireturn, 1) := by decide +kernel
set_option maxHeartbeats 4000000 in
set_option maxRecDepth 100000 in
theorem s_X5_peel {P : PP} {a0 : Nat} (I : IV P) (ha0 : At P a0 5) : CtrI yX5_peel cX5_peel 6 (some Jvm.ClassFile.FieldType.int) ({ frames := 3, cells := 0, slots := 0, locals := 192 } : Room) 0 0 P [.ref a0] (fun r P2 => IV P2 ∧ EK [13] P P2 ∧ (True)) := by
  refine enI (lv := [(0, .ref a0)]) (by decide) (Nat.le_of_ble_eq_true rfl) rfl (fun E D cy C Ci0 ret => ?_)
  have J4 : ∀ (n4 : Nat) (P4 : PP) (v4_1 : Int32) (v4_2 : Int32), (21 - v4_2.toInt).toNat < n4 → (IV P4) → (EK [13] P P4) → (0 ≤ v4_2.toInt ∧ v4_2.toInt ≤ 21) → G E ({ frames := 3, cells := 0, slots := 0, locals := 192 } : Room) D cy 6 P4 0 0 4 [(0, .ref a0), (1, .int v4_1), (2, .int v4_2)] [] := by
    intro n4
    induction n4 with
    | zero => intro P4 v4_1 v4_2 hm4 I4 X4 hv4_2; omega
    | succ n4 ih4 =>
      intro P4 v4_1 v4_2 hm4 I4 X4 hv4_2
      have h25499 := X4.at ha0
      have J58 : ∀ (P58 : PP) (v58_4 : Int32), (IV P58) → (EK [13] P P58) → (0 ≤ v4_2.toInt ∧ v4_2.toInt ≤ 20) → G E ({ frames := 3, cells := 0, slots := 0, locals := 192 } : Room) D cy 6 P58 0 0 58 [(0, .ref a0), (1, .int v4_1), (2, .int v4_2), (4, .int v58_4)] [] := by
        intro P58 v58_4 I58 X58 hv58_2
        have h25500 := X58.at ha0
        refine g_iload_n C dX5_peel_58 rfl 1 rfl ?_
        refine g_iload C dX5_peel_59 3 rfl ?_
        refine a_ior C dX5_peel_61 (fun z25501 => ?_)
        refine g_istore_n (lv' := [(1, .int z25501), (0, .ref a0), (2, .int v4_2), (4, .int v58_4)]) C dX5_peel_62 rfl (by decide) rfl ?_
        refine s_iinc (lv0 := [(1, .int z25501), (0, .ref a0), (4, .int v58_4)]) (m := 1) C dX5_peel_63 2 rfl (by decide) rfl (by decide) (by omega) (fun z25503 h25504 => ?_)
        have h25504 : z25503.toInt = v4_2.toInt + 1 := h25504
        refine g_goto C 4 dX5_peel_66 (by decide) ?_
        refine g_lv (lv' := [(0, .ref a0), (1, .int z25501), (2, .int z25503)]) [2, 1, 0] rfl ?_
        exact ih4 P58 z25501 z25503 (by omega) I58 X58 (by omega)
      refine g_iload_n C dX5_peel_4 rfl 2 rfl ?_
      refine g_bipush (v := 20) C dX5_peel_5 (by decide) ?_
      refine b_icmp_gt C 69 dX5_peel_7 (by decide) (fun h25505 => ?_) (fun h25505 => ?_)
      · have h25505 : 20 < v4_2.toInt := h25505
        refine g_iload_n C dX5_peel_69 rfl 1 rfl ?_
        exact ret _ _ _ _ _ _ dX5_peel_70 rfl (by decide) (by decide) ⟨I4, X4, trivial⟩
      · have h25505 : v4_2.toInt ≤ 20 := h25505
        refine g_aload_n C dX5_peel_10 rfl 0 rfl ?_
        refine g_iload_n C dX5_peel_11 rfl 1 rfl ?_
        refine g_callVI (rest := []) C mv_X5_58 [.int v4_1] (s_X5_firstWithOneUnknown I4 h25499) (h25499).1 (h25499).2 rfl rfl (by decide) (Nat.le_of_ble_eq_true rfl) (by decide) dX5_peel_12 (fun r25506 Y25507 h25508 => ?_)
        obtain ⟨rfl, h25508⟩ := h25508
        have h25508 : -1 ≤ r25506.toInt ∧ r25506.toInt ≤ 43 := h25508
        refine g_istore_n (lv' := [(3, .int r25506), (0, .ref a0), (1, .int v4_1), (2, .int v4_2)]) C dX5_peel_15 rfl (by decide) rfl ?_
        refine g_iload_n C dX5_peel_16 rfl 0 rfl ?_
        refine g_iconst (v := (-1)) C dX5_peel_17 (by decide) ?_
        refine b_icmp_ne C 23 dX5_peel_18 (by decide) (fun h25509 => ?_) (fun h25509 => ?_)
        · have h25509 : r25506.toInt ≠ (-1) := ti_ne h25509
          refine g_aload_n C dX5_peel_23 rfl 1 rfl ?_
          refine g_iload_n C dX5_peel_24 rfl 0 rfl ?_
          refine g_iload_n C dX5_peel_25 rfl 2 rfl ?_
          refine g_callVI (rest := []) C mv_X5_54 [.int r25506, .int v4_1] (s_X5_unknownOf I4 h25499 (by omega)) (h25499).1 (h25499).2 rfl rfl (by decide) (Nat.le_of_ble_eq_true rfl) (by decide) dX5_peel_26 (fun r25510 Y25511 h25512 => ?_)
          obtain ⟨rfl, h25512⟩ := h25512
          have h25512 : True := h25512
          refine g_istore (lv' := [(4, .int r25510), (3, .int r25506), (0, .ref a0), (1, .int v4_1), (2, .int v4_2)]) C dX5_peel_29 (by decide) rfl ?_
          refine g_iload C dX5_peel_31 0 rfl ?_
          refine g_callSNI (b := 0) (ci := 0) (rest := []) C mz_X5_62 [.int r25510] (s_X11_lowestPlace I4) rfl rfl (by decide) (Nat.le_of_ble_eq_true rfl) (by decide) dX5_peel_33 (fun r25513 Y25514 h25515 => ?_)
          obtain ⟨rfl, h25515⟩ := h25515
          have h25515 : 0 ≤ r25513.toInt ∧ r25513.toInt ≤ 63 := h25515
          refine g_istore (lv' := [(5, .int r25513), (4, .int r25510), (3, .int r25506), (0, .ref a0), (1, .int v4_1), (2, .int v4_2)]) C dX5_peel_36 (by decide) rfl ?_
          refine g_iload C dX5_peel_38 0 rfl ?_
          refine g_bipush (v := 20) C dX5_peel_40 (by decide) ?_
          refine b_icmp_ge C 58 dX5_peel_42 (by decide) (fun h25516 => ?_) (fun h25516 => ?_)
          · have h25516 : 20 ≤ r25513.toInt := h25516
            refine g_lv (lv' := [(0, .ref a0), (1, .int v4_1), (2, .int v4_2), (4, .int r25510)]) [3, 4, 5, 1] rfl ?_
            exact J58 P4 r25510 I4 X4 (by omega)
          · have h25516 : r25513.toInt < 20 := h25516
            refine g_aload_n C dX5_peel_45 rfl 3 rfl ?_
            obtain ⟨b25517, e25518, h25519⟩ := I4.fld (h25499) 2 13 20 rfl
            refine g_getR C fi_X5_18 rfl e25518 (h25499).1 (h25499).2 dX5_peel_46 ?_
            refine g_iload C dX5_peel_49 0 rfl ?_
            refine g_aload_n C dX5_peel_51 rfl 3 rfl ?_
            refine g_iload_n C dX5_peel_52 rfl 2 rfl ?_
            refine g_iload_n C dX5_peel_53 rfl 4 rfl ?_
            refine g_callVI (rest := [.int r25513, .ref b25517]) C mv_X5_65 [.int r25506, .int v4_1] (s_X5_restOf I4 h25499 (by omega)) (h25499).1 (h25499).2 rfl rfl (by decide) (Nat.le_of_ble_eq_true rfl) (by decide) dX5_peel_54 (fun r25520 Y25521 h25522 => ?_)
            obtain ⟨rfl, h25522⟩ := h25522
            have h25522 : True := h25522
            refine g_iast (j := (r25513.toInt.toNat)) C h25519.1 h25519.2.1 (ix_in h25519.2.2 (by omega)) dX5_peel_57 ?_
            refine gp (ks := [13]) (I4.setA h25519 (by decide)) (EK.setI h25519.2.1 (by decide)) (fun Y25523 Iy25524 Xy25525 => ?_)
            have Xz25526 : EK [13] P Y25523 := X4.tr (Xy25525.mono (by decide))
            have h25527 := Xy25525.at h25499
            refine g_lv (lv' := [(0, .ref a0), (1, .int v4_1), (2, .int v4_2), (4, .int r25510)]) [3, 4, 5, 1] rfl ?_
            exact J58 Y25523 r25510 Iy25524 Xz25526 (by omega)
        · have h25509 : r25506.toInt = (-1) := congrArg Int32.toInt h25509
          refine g_iload_n C dX5_peel_21 rfl 2 rfl ?_
          exact ret _ _ _ _ _ _ dX5_peel_22 rfl (by decide) (by decide) ⟨I4, X4, trivial⟩
  refine g_iconst (v := 0) C dX5_peel_0 (by decide) ?_
  refine g_istore_n (lv' := [(1, .int 0), (0, .ref a0)]) C dX5_peel_1 rfl (by decide) rfl ?_
  refine g_iconst (v := 0) C dX5_peel_2 (by decide) ?_
  refine g_istore_n (lv' := [(2, .int 0), (1, .int 0), (0, .ref a0)]) C dX5_peel_3 rfl (by decide) rfl ?_
  refine g_lv (lv' := [(0, .ref a0), (1, .int 0), (2, .int 0)]) [2, 1, 0] rfl ?_
  exact J4 _ P 0 0 (Nat.lt_succ_self _) I EK.rf (by decide)
theorem dX11_peels_38 : decode cX11_peels 38 = .ok (.istore 6, 2) := by decide +kernel
theorem dX11_peels_40 : decode cX11_peels 40 = .ok (.iload 4, 2) := by decide +kernel
theorem dX11_peels_42 : decode cX11_peels 42 = .ok (.tableswitch 57 0 3 #[30, 33, 41, 49], 30) := by decide +kernel
theorem dX11_peels_72 : decode cX11_peels 72 = .ok (.iload 6, 2) := by decide +kernel
theorem dX11_peels_74 : decode cX11_peels 74 = .ok (.ireturn, 1) := by decide +kernel
theorem dX11_peels_75 : decode cX11_peels 75 = .ok (.aload 5, 2) := by decide +kernel
theorem dX11_peels_77 : decode cX11_peels 77 = .ok (.iload 6, 2) := by decide +kernel
theorem dX11_peels_79 : decode cX11_peels 79 = .ok (.invokevirtual 224, 3) := by decide +kernel
theorem dX11_peels_99 : decode cX11_peels 99 = .ok (.iconst (-1), 1) := by decide +kernel
theorem dX11_peels_100 : decode cX11_peels 100 = .ok (.ireturn, 1) := by decide +kernel
theorem dX5_quarrels_0 : decode cX5_quarrels 0 = .ok (.iconst 0, 1) := by decide +kernel
theorem dX5_quarrels_1 : decode cX5_quarrels 1 = .ok (.istore_n 2, 1) := by decide +kernel
theorem dX5_quarrels_2 : decode cX5_quarrels 2 = .ok (.iconst 0, 1) := by decide +kernel
theorem dX5_quarrels_3 : decode cX5_quarrels 3 = .ok (.istore_n 3, 1) := by decide +kernel
theorem dX5_quarrels_4 : decode cX5_quarrels 4 = .ok (.iload_n 3, 1) := by decide +kernel
theorem dX5_quarrels_5 : decode cX5_quarrels 5 = .ok (.aload_n 0, 1) := by decide +kernel
theorem dX5_quarrels_6 : decode cX5_quarrels 6 = .ok (.getfield 25, 3) := by decide +kernel
theorem dX5_quarrels_9 : decode cX5_quarrels 9 = .ok (.if_icmp .ge 30, 3) := by decide +kernel
theorem dX5_quarrels_12 : decode cX5_quarrels 12 = .ok (.aload_n 0, 1) := by decide +kernel
theorem dX5_quarrels_13 : decode cX5_quarrels 13 = .ok (.iload_n 3, 1) := by decide +kernel
theorem dX5_quarrels_14 : decode cX5_quarrels 14 = .ok (.iload_n 1, 1) := by decide +kernel
theorem dX5_quarrels_15 : decode cX5_quarrels 15 = .ok (.invokevirtual 54, 3) := by decide +kernel
theorem dX5_quarrels_18 : decode cX5_quarrels 18 = .ok (.ifCond .ne 15, 3) := by decide +kernel
theorem dX5_quarrels_21 : decode cX5_quarrels 21 = .ok (.aload_n 0, 1) := by decide +kernel
theorem dX5_quarrels_22 : decode cX5_quarrels 22 = .ok (.iload_n 3, 1) := by decide +kernel
theorem dX5_quarrels_23 : decode cX5_quarrels 23 = .ok (.iload_n 1, 1) := by decide +kernel
theorem dX5_quarrels_24 : decode cX5_quarrels 24 = .ok (.invokevirtual 65, 3) := by decide +kernel
theorem dX5_quarrels_27 : decode cX5_quarrels 27 = .ok (.ifCond .eq 6, 3) := by decide +kernel
theorem dX5_quarrels_30 : decode cX5_quarrels 30 = .ok (.iinc 2 1, 3) := by decide +kernel
theorem dX5_quarrels_33 : decode cX5_quarrels 33 = .ok (.iinc 3 1, 3) := by decide +kernel
theorem dX5_quarrels_36 : decode cX5_quarrels 36 = .ok (.goto (-32), 3) := by decide +kernel
theorem dX5_quarrels_39 : decode cX5_quarrels 39 = .ok (.iload_n 2, 1) := by decide +kernel
theorem dX5_quarrels_40 : decode cX5_quarrels 40 = .ok (.ireturn, 1) := by decide +kernel
set_option maxHeartbeats 4000000 in
set_option maxRecDepth 100000 in
theorem s_X5_quarrels {P : PP} {a0 : Nat} {a1 : Int32} (I : IV P) (ha0 : At P a0 5) : CtrI yX5_quarrels cX5_quarrels 4 (some Jvm.ClassFile.FieldType.int) ({ frames := 2, cells := 0, slots := 0, locals := 128 } : Room) 0 0 P [.ref a0, .int a1] (fun r P2 => P = P2 ∧ (True)) := by
  refine enI (lv := [(0, .ref a0), (1, .int a1)]) (by decide) (Nat.le_of_ble_eq_true rfl) rfl (fun E D cy C Ci0 ret => ?_)
  have J4 : ∀ (n4 : Nat) (v4_2 : Int32) (v4_3 : Int32), (44 - v4_3.toInt).toNat < n4 → (0 ≤ v4_3.toInt ∧ v4_3.toInt ≤ 44) → G E ({ frames := 2, cells := 0, slots := 0, locals := 128 } : Room) D cy 4 P 0 0 4 [(0, .ref a0), (1, .int a1), (2, .int v4_2), (3, .int v4_3)] [] := by
    intro n4
    induction n4 with
    | zero => intro v4_2 v4_3 hm4 hv4_3; omega
    | succ n4 ih4 =>
      intro v4_2 v4_3 hm4 hv4_3
      have J33 : ∀ (v33_2 : Int32), (0 ≤ v4_3.toInt ∧ v4_3.toInt ≤ 43) → (1 ≤ (pI P a0 4).toInt ∧ (pI P a0 4).toInt ≤ 44) → G E ({ frames := 2, cells := 0, slots := 0, locals := 128 } : Room) D cy 4 P 0 0 33 [(0, .ref a0), (1, .int a1), (2, .int v33_2), (3, .int v4_3)] [] := by
        intro v33_2 hv33_3 hq33_0
        refine s_iinc (lv0 := [(0, .ref a0), (1, .int a1), (2, .int v33_2)]) (m := 1) C dX5_quarrels_33 3 rfl (by decide) rfl (by decide) (by omega) (fun z26088 h26089 => ?_)
        have h26089 : z26088.toInt = v4_3.toInt + 1 := h26089
        refine g_goto C 4 dX5_quarrels_36 (by decide) ?_
        refine g_lv (lv' := [(0, .ref a0), (1, .int a1), (2, .int v33_2), (3, .int z26088)]) [1, 2, 3, 0] rfl ?_
        exact ih4 v33_2 z26088 (by omega) (by omega)
      refine g_iload_n C dX5_quarrels_4 rfl 3 rfl ?_
      refine g_aload_n C dX5_quarrels_5 rfl 0 rfl ?_
      refine g_getI C fi_X5_25 (by decide) (ha0).1 (ha0).2 dX5_quarrels_6 ?_
      have h26090 := I.rg (ha0) 4 rfl
      refine b_icmp_ge C 39 dX5_quarrels_9 (by decide) (fun h26091 => ?_) (fun h26091 => ?_)
      · have h26091 : (pI P a0 4).toInt ≤ v4_3.toInt := h26091
        refine g_iload_n C dX5_quarrels_39 rfl 2 rfl ?_
        exact ret _ _ _ _ _ _ dX5_quarrels_40 rfl (by decide) (by decide) ⟨rfl, trivial⟩
      · have h26091 : v4_3.toInt < (pI P a0 4).toInt := h26091
        refine g_aload_n C dX5_quarrels_12 rfl 0 rfl ?_
        refine g_iload_n C dX5_quarrels_13 rfl 3 rfl ?_
        refine g_iload_n C dX5_quarrels_14 rfl 1 rfl ?_
        refine g_callVI (rest := []) C mv_X5_54 [.int v4_3, .int a1] (s_X5_unknownOf I ha0 (by omega)) (ha0).1 (ha0).2 rfl rfl (by decide) (Nat.le_of_ble_eq_true rfl) (by decide) dX5_quarrels_15 (fun r26092 Y26093 h26094 => ?_)
        obtain ⟨rfl, h26094⟩ := h26094
        have h26094 : True := h26094
        have u26096 := ti_rng r26092
        refine b_if_ne C 33 dX5_quarrels_18 (by decide) (fun h26095 => ?_) (fun h26095 => ?_)
        · have h26095 : r26092.toInt ≠ 0 := ti_ne h26095
          exact J33 v4_2 (by omega) (by omega)
        · have h26095 : r26092.toInt = 0 := congrArg Int32.toInt h26095
          refine g_aload_n C dX5_quarrels_21 rfl 0 rfl ?_
          refine g_iload_n C dX5_quarrels_22 rfl 3 rfl ?_
          refine g_iload_n C dX5_quarrels_23 rfl 1 rfl ?_
          refine g_callVI (rest := []) C mv_X5_65 [.int v4_3, .int a1] (s_X5_restOf I ha0 (by omega)) (ha0).1 (ha0).2 rfl rfl (by decide) (Nat.le_of_ble_eq_true rfl) (by decide) dX5_quarrels_24 (fun r26097 Y26098 h26099 => ?_)
          obtain ⟨rfl, h26099⟩ := h26099
          have h26099 : True := h26099
          have u26101 := ti_rng r26097
          refine b_if_eq C 33 dX5_quarrels_27 (by decide) (fun h26100 => ?_) (fun h26100 => ?_)
          · have h26100 : r26097.toInt = 0 := congrArg Int32.toInt h26100
            exact J33 v4_2 (by omega) (by omega)
          · have h26100 : r26097.toInt ≠ 0 := ti_ne h26100
            refine a_iinc (lv0 := [(0, .ref a0), (1, .int a1), (3, .int v4_3)]) C dX5_quarrels_30 2 rfl (by decide) rfl (fun z26102 => ?_)
            refine g_lv (lv' := [(0, .ref a0), (1, .int a1), (2, .int z26102), (3, .int v4_3)]) [1, 2, 0, 3] rfl ?_
            exact J33 z26102 (by omega) (by omega)
  refine g_iconst (v := 0) C dX5_quarrels_0 (by decide) ?_
  refine g_istore_n (lv' := [(2, .int 0), (0, .ref a0), (1, .int a1)]) C dX5_quarrels_1 rfl (by decide) rfl ?_
  refine g_iconst (v := 0) C dX5_quarrels_2 (by decide) ?_
  refine g_istore_n (lv' := [(3, .int 0), (2, .int 0), (0, .ref a0), (1, .int a1)]) C dX5_quarrels_3 rfl (by decide) rfl ?_
  refine g_lv (lv' := [(0, .ref a0), (1, .int a1), (2, .int 0), (3, .int 0)]) [2, 3, 1, 0] rfl ?_
  exact J4 _ 0 0 (Nat.lt_succ_self _) (by decide)
theorem dX11_peels_82 : decode cX11_peels 82 = .ok (.ireturn, 1) := by decide +kernel
theorem dX11_peels_83 : decode cX11_peels 83 = .ok (.aload 5, 2) := by decide +kernel
theorem dX11_peels_85 : decode cX11_peels 85 = .ok (.iload 6, 2) := by decide +kernel
theorem dX11_peels_87 : decode cX11_peels 87 = .ok (.invokevirtual 227, 3) := by decide +kernel
theorem dX5_work_0 : decode cX5_work 0 = .ok (.iload_n 1, 1) := by decide +kernel
theorem dX5_work_1 : decode cX5_work 1 = .ok (.invokestatic 68, 3) := by decide +kernel
theorem dX5_work_4 : decode cX5_work 4 = .ok (.ineg, 1) := by decide +kernel
theorem dX5_work_5 : decode cX5_work 5 = .ok (.istore_n 2, 1) := by decide +kernel
theorem dX5_work_6 : decode cX5_work 6 = .ok (.iconst 0, 1) := by decide +kernel
theorem dX5_work_7 : decode cX5_work 7 = .ok (.istore_n 3, 1) := by decide +kernel
theorem dX5_work_8 : decode cX5_work 8 = .ok (.iload_n 3, 1) := by decide +kernel
theorem dX5_work_9 : decode cX5_work 9 = .ok (.aload_n 0, 1) := by decide +kernel
theorem dX5_work_10 : decode cX5_work 10 = .ok (.getfield 25, 3) := by decide +kernel
theorem dX5_work_13 : decode cX5_work 13 = .ok (.if_icmp .ge 26, 3) := by decide +kernel
theorem dX5_work_16 : decode cX5_work 16 = .ok (.iload_n 2, 1) := by decide +kernel
theorem dX5_work_17 : decode cX5_work 17 = .ok (.aload_n 0, 1) := by decide +kernel
theorem dX5_work_18 : decode cX5_work 18 = .ok (.getfield 9, 3) := by decide +kernel
theorem dX5_work_21 : decode cX5_work 21 = .ok (.iload_n 3, 1) := by decide +kernel
theorem dX5_work_22 : decode cX5_work 22 = .ok (.iaload, 1) := by decide +kernel
theorem dX5_work_23 : decode cX5_work 23 = .ok (.ldc 53, 2) := by decide +kernel
theorem dX5_work_25 : decode cX5_work 25 = .ok (.iand, 1) := by decide +kernel
theorem dX5_work_26 : decode cX5_work 26 = .ok (.iload_n 1, 1) := by decide +kernel
theorem dX5_work_27 : decode cX5_work 27 = .ok (.iand, 1) := by decide +kernel
theorem dX5_work_28 : decode cX5_work 28 = .ok (.invokestatic 68, 3) := by decide +kernel
theorem dX5_work_31 : decode cX5_work 31 = .ok (.iadd, 1) := by decide +kernel
theorem dX5_work_32 : decode cX5_work 32 = .ok (.istore_n 2, 1) := by decide +kernel
theorem dX5_work_33 : decode cX5_work 33 = .ok (.iinc 3 1, 3) := by decide +kernel
theorem dX5_work_36 : decode cX5_work 36 = .ok (.goto (-28), 3) := by decide +kernel
theorem dX5_work_39 : decode cX5_work 39 = .ok (.iload_n 2, 1) := by decide +kernel
theorem dX5_work_40 : decode cX5_work 40 = .ok (.ireturn, 1) := by decide +kernel
set_option maxHeartbeats 4000000 in
set_option maxRecDepth 100000 in
theorem s_X5_work {P : PP} {a0 : Nat} {a1 : Int32} (I : IV P) (ha0 : At P a0 5) : CtrI yX5_work cX5_work 4 (some Jvm.ClassFile.FieldType.int) ({ frames := 2, cells := 0, slots := 0, locals := 128 } : Room) 0 0 P [.ref a0, .int a1] (fun r P2 => P = P2 ∧ (True)) := by
  refine enI (lv := [(0, .ref a0), (1, .int a1)]) (by decide) (Nat.le_of_ble_eq_true rfl) rfl (fun E D cy C Ci0 ret => ?_)
  have J8 : ∀ (n8 : Nat) (v8_2 : Int32) (v8_3 : Int32), (44 - v8_3.toInt).toNat < n8 → (0 ≤ v8_3.toInt ∧ v8_3.toInt ≤ 44) → G E ({ frames := 2, cells := 0, slots := 0, locals := 128 } : Room) D cy 4 P 0 0 8 [(0, .ref a0), (1, .int a1), (2, .int v8_2), (3, .int v8_3)] [] := by
    intro n8
    induction n8 with
    | zero => intro v8_2 v8_3 hm8 hv8_3; omega
    | succ n8 ih8 =>
      intro v8_2 v8_3 hm8 hv8_3
      refine g_iload_n C dX5_work_8 rfl 3 rfl ?_
      refine g_aload_n C dX5_work_9 rfl 0 rfl ?_
      refine g_getI C fi_X5_25 (by decide) (ha0).1 (ha0).2 dX5_work_10 ?_
      have h26434 := I.rg (ha0) 4 rfl
      refine b_icmp_ge C 39 dX5_work_13 (by decide) (fun h26435 => ?_) (fun h26435 => ?_)
      · have h26435 : (pI P a0 4).toInt ≤ v8_3.toInt := h26435
        refine g_iload_n C dX5_work_39 rfl 2 rfl ?_
        exact ret _ _ _ _ _ _ dX5_work_40 rfl (by decide) (by decide) ⟨rfl, trivial⟩
      · have h26435 : v8_3.toInt < (pI P a0 4).toInt := h26435
        refine g_iload_n C dX5_work_16 rfl 2 rfl ?_
        refine g_aload_n C dX5_work_17 rfl 0 rfl ?_
        obtain ⟨b26436, e26437, h26438⟩ := I.fld (ha0) 0 13 44 rfl
        refine g_getR C fi_X5_9 rfl e26437 (ha0).1 (ha0).2 dX5_work_18 ?_
        refine g_iload_n C dX5_work_21 rfl 3 rfl ?_
        refine g_iald (j := (v8_3.toInt.toNat)) C h26438.1 h26438.2.1 (ix_in h26438.2.2 (by omega)) dX5_work_22 ?_
        refine g_topi (fun z26439 _ => ?_)
        refine g_ldc (v := 1048575) C kc_X5_53 dX5_work_23 ?_
        refine s_iand C dX5_work_25 (by show 0 ≤ 1048575; omega) (fun z26440 h26441 => ?_)
        have h26441 : 0 ≤ z26440.toInt ∧ z26440.toInt ≤ 1048575 := h26441
        refine g_iload_n C dX5_work_26 rfl 1 rfl ?_
        refine a_iand C dX5_work_27 (fun z26442 => ?_)
        refine g_callSI (b := 0) (ci := 0) (rest := [.int v8_2]) C ms_X5_68 [.int z26442] (s_J6_bitCount_0f7a4 I) rfl rfl (by decide) (Nat.le_of_ble_eq_true rfl) (by decide) dX5_work_28 (fun r26444 Y26445 h26446 => ?_)
        obtain ⟨rfl, h26446⟩ := h26446
        have h26446 : 0 ≤ r26444.toInt ∧ r26444.toInt ≤ 63 := h26446
        refine a_iadd C dX5_work_31 (fun z26447 => ?_)
        refine g_istore_n (lv' := [(2, .int z26447), (0, .ref a0), (1, .int a1), (3, .int v8_3)]) C dX5_work_32 rfl (by decide) rfl ?_
        refine s_iinc (lv0 := [(2, .int z26447), (0, .ref a0), (1, .int a1)]) (m := 1) C dX5_work_33 3 rfl (by decide) rfl (by decide) (by omega) (fun z26449 h26450 => ?_)
        have h26450 : z26449.toInt = v8_3.toInt + 1 := h26450
        refine g_goto C 8 dX5_work_36 (by decide) ?_
        refine g_lv (lv' := [(0, .ref a0), (1, .int a1), (2, .int z26447), (3, .int z26449)]) [2, 3, 1, 0] rfl ?_
        exact ih8 z26447 z26449 (by omega) (by omega)
  refine g_iload_n C dX5_work_0 rfl 1 rfl ?_
  refine g_callSI (b := 0) (ci := 0) (rest := []) C ms_X5_68 [.int a1] (s_J6_bitCount_0f7a4 I) rfl rfl (by decide) (Nat.le_of_ble_eq_true rfl) (by decide) dX5_work_1 (fun r26451 Y26452 h26453 => ?_)
  obtain ⟨rfl, h26453⟩ := h26453
  have h26453 : 0 ≤ r26451.toInt ∧ r26451.toInt ≤ 63 := h26453
  refine a_ineg C dX5_work_4 (fun z26454 => ?_)
  refine g_istore_n (lv' := [(2, .int z26454), (0, .ref a0), (1, .int a1)]) C dX5_work_5 rfl (by decide) rfl ?_
  refine g_iconst (v := 0) C dX5_work_6 (by decide) ?_
  refine g_istore_n (lv' := [(3, .int 0), (2, .int z26454), (0, .ref a0), (1, .int a1)]) C dX5_work_7 rfl (by decide) rfl ?_
  refine g_lv (lv' := [(0, .ref a0), (1, .int a1), (2, .int z26454), (3, .int 0)]) [2, 3, 1, 0] rfl ?_
  exact J8 _ z26454 0 (Nat.lt_succ_self _) (by decide)
theorem dX11_peels_90 : decode cX11_peels 90 = .ok (.ireturn, 1) := by decide +kernel
theorem dX11_peels_91 : decode cX11_peels 91 = .ok (.aload 5, 2) := by decide +kernel
theorem dX11_peels_93 : decode cX11_peels 93 = .ok (.iload 6, 2) := by decide +kernel
theorem dX11_peels_95 : decode cX11_peels 95 = .ok (.invokevirtual 230, 3) := by decide +kernel
theorem dX5_left_0 : decode cX5_left 0 = .ok (.iconst 0, 1) := by decide +kernel
theorem dX5_left_1 : decode cX5_left 1 = .ok (.istore_n 2, 1) := by decide +kernel
theorem dX5_left_2 : decode cX5_left 2 = .ok (.iconst 0, 1) := by decide +kernel
theorem dX5_left_3 : decode cX5_left 3 = .ok (.istore_n 3, 1) := by decide +kernel
theorem dX5_left_4 : decode cX5_left 4 = .ok (.iload_n 3, 1) := by decide +kernel
theorem dX5_left_5 : decode cX5_left 5 = .ok (.aload_n 0, 1) := by decide +kernel
theorem dX5_left_6 : decode cX5_left 6 = .ok (.getfield 25, 3) := by decide +kernel
theorem dX5_left_9 : decode cX5_left 9 = .ok (.if_icmp .ge 30, 3) := by decide +kernel
theorem dX5_left_12 : decode cX5_left 12 = .ok (.aload_n 0, 1) := by decide +kernel
theorem dX5_left_13 : decode cX5_left 13 = .ok (.iload_n 3, 1) := by decide +kernel
theorem dX5_left_14 : decode cX5_left 14 = .ok (.iload_n 1, 1) := by decide +kernel
theorem dX5_left_15 : decode cX5_left 15 = .ok (.invokevirtual 54, 3) := by decide +kernel
theorem dX5_left_18 : decode cX5_left 18 = .ok (.istore 4, 2) := by decide +kernel
theorem dX5_left_20 : decode cX5_left 20 = .ok (.iload 4, 2) := by decide +kernel
theorem dX5_left_22 : decode cX5_left 22 = .ok (.iload 4, 2) := by decide +kernel
theorem dX5_left_24 : decode cX5_left 24 = .ok (.iconst 1, 1) := by decide +kernel
theorem dX5_left_25 : decode cX5_left 25 = .ok (.isub, 1) := by decide +kernel
theorem dX5_left_26 : decode cX5_left 26 = .ok (.iand, 1) := by decide +kernel
theorem dX5_left_27 : decode cX5_left 27 = .ok (.ifCond .eq 6, 3) := by decide +kernel
theorem dX5_left_30 : decode cX5_left 30 = .ok (.iinc 2 1, 3) := by decide +kernel
theorem dX5_left_33 : decode cX5_left 33 = .ok (.iinc 3 1, 3) := by decide +kernel
theorem dX5_left_36 : decode cX5_left 36 = .ok (.goto (-32), 3) := by decide +kernel
theorem dX5_left_39 : decode cX5_left 39 = .ok (.iload_n 2, 1) := by decide +kernel
theorem dX5_left_40 : decode cX5_left 40 = .ok (.ireturn, 1) := by decide +kernel
set_option maxHeartbeats 4000000 in
set_option maxRecDepth 100000 in
theorem s_X5_left {P : PP} {a0 : Nat} {a1 : Int32} (I : IV P) (ha0 : At P a0 5) : CtrI yX5_left cX5_left 5 (some Jvm.ClassFile.FieldType.int) ({ frames := 2, cells := 0, slots := 0, locals := 128 } : Room) 0 0 P [.ref a0, .int a1] (fun r P2 => P = P2 ∧ (True)) := by
  refine enI (lv := [(0, .ref a0), (1, .int a1)]) (by decide) (Nat.le_of_ble_eq_true rfl) rfl (fun E D cy C Ci0 ret => ?_)
  have J4 : ∀ (n4 : Nat) (v4_2 : Int32) (v4_3 : Int32), (44 - v4_3.toInt).toNat < n4 → (0 ≤ v4_3.toInt ∧ v4_3.toInt ≤ 44) → G E ({ frames := 2, cells := 0, slots := 0, locals := 128 } : Room) D cy 5 P 0 0 4 [(0, .ref a0), (1, .int a1), (2, .int v4_2), (3, .int v4_3)] [] := by
    intro n4
    induction n4 with
    | zero => intro v4_2 v4_3 hm4 hv4_3; omega
    | succ n4 ih4 =>
      intro v4_2 v4_3 hm4 hv4_3
      have J33 : ∀ (v33_2 : Int32), (0 ≤ v4_3.toInt ∧ v4_3.toInt ≤ 43) → (1 ≤ (pI P a0 4).toInt ∧ (pI P a0 4).toInt ≤ 44) → G E ({ frames := 2, cells := 0, slots := 0, locals := 128 } : Room) D cy 5 P 0 0 33 [(0, .ref a0), (1, .int a1), (2, .int v33_2), (3, .int v4_3)] [] := by
        intro v33_2 hv33_3 hq33_0
        refine s_iinc (lv0 := [(0, .ref a0), (1, .int a1), (2, .int v33_2)]) (m := 1) C dX5_left_33 3 rfl (by decide) rfl (by decide) (by omega) (fun z26988 h26989 => ?_)
        have h26989 : z26988.toInt = v4_3.toInt + 1 := h26989
        refine g_goto C 4 dX5_left_36 (by decide) ?_
        refine g_lv (lv' := [(0, .ref a0), (1, .int a1), (2, .int v33_2), (3, .int z26988)]) [1, 2, 3, 0] rfl ?_
        exact ih4 v33_2 z26988 (by omega) (by omega)
      refine g_iload_n C dX5_left_4 rfl 3 rfl ?_
      refine g_aload_n C dX5_left_5 rfl 0 rfl ?_
      refine g_getI C fi_X5_25 (by decide) (ha0).1 (ha0).2 dX5_left_6 ?_
      have h26990 := I.rg (ha0) 4 rfl
      refine b_icmp_ge C 39 dX5_left_9 (by decide) (fun h26991 => ?_) (fun h26991 => ?_)
      · have h26991 : (pI P a0 4).toInt ≤ v4_3.toInt := h26991
        refine g_iload_n C dX5_left_39 rfl 2 rfl ?_
        exact ret _ _ _ _ _ _ dX5_left_40 rfl (by decide) (by decide) ⟨rfl, trivial⟩
      · have h26991 : v4_3.toInt < (pI P a0 4).toInt := h26991
        refine g_aload_n C dX5_left_12 rfl 0 rfl ?_
        refine g_iload_n C dX5_left_13 rfl 3 rfl ?_
        refine g_iload_n C dX5_left_14 rfl 1 rfl ?_
        refine g_callVI (rest := []) C mv_X5_54 [.int v4_3, .int a1] (s_X5_unknownOf I ha0 (by omega)) (ha0).1 (ha0).2 rfl rfl (by decide) (Nat.le_of_ble_eq_true rfl) (by decide) dX5_left_15 (fun r26992 Y26993 h26994 => ?_)
        obtain ⟨rfl, h26994⟩ := h26994
        have h26994 : True := h26994
        refine g_istore (lv' := [(4, .int r26992), (0, .ref a0), (1, .int a1), (2, .int v4_2), (3, .int v4_3)]) C dX5_left_18 (by decide) rfl ?_
        refine g_iload C dX5_left_20 0 rfl ?_
        refine g_iload C dX5_left_22 0 rfl ?_
        refine g_iconst (v := 1) C dX5_left_24 (by decide) ?_
        refine a_isub C dX5_left_25 (fun z26995 => ?_)
        refine a_iand C dX5_left_26 (fun z26997 => ?_)
        have u27000 := ti_rng z26997
        refine b_if_eq C 33 dX5_left_27 (by decide) (fun h26999 => ?_) (fun h26999 => ?_)
        · have h26999 : z26997.toInt = 0 := congrArg Int32.toInt h26999
          refine g_lv (lv' := [(0, .ref a0), (1, .int a1), (2, .int v4_2), (3, .int v4_3)]) [1, 2, 3, 4] rfl ?_
          exact J33 v4_2 (by omega) (by omega)
        · have h26999 : z26997.toInt ≠ 0 := ti_ne h26999
          refine a_iinc (lv0 := [(4, .int r26992), (0, .ref a0), (1, .int a1), (3, .int v4_3)]) C dX5_left_30 3 rfl (by decide) rfl (fun z27001 => ?_)
          refine g_lv (lv' := [(0, .ref a0), (1, .int a1), (2, .int z27001), (3, .int v4_3)]) [2, 3, 0, 4] rfl ?_
          exact J33 z27001 (by omega) (by omega)
  refine g_iconst (v := 0) C dX5_left_0 (by decide) ?_
  refine g_istore_n (lv' := [(2, .int 0), (0, .ref a0), (1, .int a1)]) C dX5_left_1 rfl (by decide) rfl ?_
  refine g_iconst (v := 0) C dX5_left_2 (by decide) ?_
  refine g_istore_n (lv' := [(3, .int 0), (2, .int 0), (0, .ref a0), (1, .int a1)]) C dX5_left_3 rfl (by decide) rfl ?_
  refine g_lv (lv' := [(0, .ref a0), (1, .int a1), (2, .int 0), (3, .int 0)]) [2, 3, 1, 0] rfl ?_
  exact J4 _ 0 0 (Nat.lt_succ_self _) (by decide)
theorem dX11_peels_22 : decode cX11_peels 22 = .ok (.iconst (-1), 1) := by decide +kernel
theorem dX11_peels_23 : decode cX11_peels 23 = .ok (.ireturn, 1) := by decide +kernel
theorem dX11_peels_98 : decode cX11_peels 98 = .ok (.ireturn, 1) := by decide +kernel
set_option maxHeartbeats 4000000 in
set_option maxRecDepth 100000 in
theorem s_X11_peels {P : PP} {a0 : Nat} {a1 : Int32} {a2 : Int32} {a3 : Int32} {a4 : Int32} (I : IV P) (ha0 : At P a0 11) : CtrI yX11_peels cX11_peels 7 (some Jvm.ClassFile.FieldType.int) ({ frames := 4, cells := 0, slots := 0, locals := 256 } : Room) 0 0 P [.ref a0, .int a1, .int a2, .int a3, .int a4] (fun r P2 => IV P2 ∧ EK [5, 13] P P2 ∧ (True)) := by
  refine enI (lv := [(0, .ref a0), (1, .int a1), (2, .int a2), (3, .int a3), (4, .int a4)]) (by decide) (Nat.le_of_ble_eq_true rfl) rfl (fun E D cy C Ci0 ret => ?_)
  have J22 : G E ({ frames := 4, cells := 0, slots := 0, locals := 256 } : Room) D cy 7 P 0 0 22 [] [] := by
    refine g_iconst (v := (-1)) C dX11_peels_22 (by decide) ?_
    exact ret _ _ _ _ _ _ dX11_peels_23 rfl (by decide) (by decide) ⟨I, EK.rf, trivial⟩
  refine g_iload_n C dX11_peels_0 rfl 1 rfl ?_
  refine g_callSI (b := 0) (ci := 0) (rest := []) C ms_X11_158 [.int a1] (s_X11_isQuarter I) rfl rfl (by decide) (Nat.le_of_ble_eq_true rfl) (by decide) dX11_peels_1 (fun r27046 Y27047 h27048 => ?_)
  obtain ⟨rfl, h27048⟩ := h27048
  obtain ⟨h27048, hi27049⟩ := h27048
  have hi27049 : r27046.toInt = 0 ∨ (((0 : Int) ≤ a1.toInt ∧ a1.toInt ≤ (3 : Int))) := hi27049
  have h27048 : 0 ≤ r27046.toInt ∧ r27046.toInt ≤ 1 := h27048
  refine b_if_eq C 22 dX11_peels_4 (by decide) (fun h27050 => ?_) (fun h27050 => ?_)
  · have h27050 : r27046.toInt = 0 := congrArg Int32.toInt h27050
    clear hi27049
    refine g_lv (lv' := []) [] rfl ?_
    exact J22 
  · have h27050 : r27046.toInt ≠ 0 := ti_ne h27050
    replace hi27049 := hi27049.resolve_left (by omega)
    refine g_aload_n C dX11_peels_7 rfl 0 rfl ?_
    refine g_iload_n C dX11_peels_8 rfl 2 rfl ?_
    refine g_callVI (rest := []) C mv_X11_97 [.int a2] (s_X11_isTold I ha0) (ha0).1 (ha0).2 rfl rfl (by decide) (Nat.le_of_ble_eq_true rfl) (by decide) dX11_peels_9 (fun r27051 Y27052 h27053 => ?_)
    obtain ⟨rfl, h27053⟩ := h27053
    obtain ⟨h27053, hi27054⟩ := h27053
    have hi27054 : r27051.toInt = 0 ∨ (((0 : Int) ≤ a2.toInt ∧ a2.toInt ≤ (1 : Int))) := hi27054
    have h27053 : 0 ≤ r27051.toInt ∧ r27051.toInt ≤ 1 := h27053
    refine b_if_eq C 22 dX11_peels_12 (by decide) (fun h27055 => ?_) (fun h27055 => ?_)
    · have h27055 : r27051.toInt = 0 := congrArg Int32.toInt h27055
      clear hi27054
      refine g_lv (lv' := []) [] rfl ?_
      exact J22 
    · have h27055 : r27051.toInt ≠ 0 := ti_ne h27055
      replace hi27054 := hi27054.resolve_left (by omega)
      refine g_iload_n C dX11_peels_15 rfl 3 rfl ?_
      refine g_callSI (b := 0) (ci := 0) (rest := []) C ms_X11_213 [.int a3] (s_X11_isOctet I) rfl rfl (by decide) (Nat.le_of_ble_eq_true rfl) (by decide) dX11_peels_16 (fun r27056 Y27057 h27058 => ?_)
      obtain ⟨rfl, h27058⟩ := h27058
      obtain ⟨h27058, hi27059⟩ := h27058
      have hi27059 : r27056.toInt = 0 ∨ (((0 : Int) ≤ a3.toInt ∧ a3.toInt ≤ (1 : Int))) := hi27059
      have h27058 : 0 ≤ r27056.toInt ∧ r27056.toInt ≤ 1 := h27058
      refine b_if_ne C 24 dX11_peels_19 (by decide) (fun h27060 => ?_) (fun h27060 => ?_)
      · have h27060 : r27056.toInt ≠ 0 := ti_ne h27060
        replace hi27059 := hi27059.resolve_left (by omega)
        refine g_aload_n C dX11_peels_24 rfl 0 rfl ?_
        refine g_iload_n C dX11_peels_25 rfl 1 rfl ?_
        refine g_iload_n C dX11_peels_26 rfl 2 rfl ?_
        refine g_iload_n C dX11_peels_27 rfl 3 rfl ?_
        refine g_callVQ (rest := []) C mv_X11_216 [.int a1, .int a2, .int a3] (s_X11_gather I ha0 (by omega) (by omega) (by omega)) (ha0).1 (ha0).2 rfl rfl (by decide) (Nat.le_of_ble_eq_true rfl) (by decide) dX11_peels_28 (fun r27061 Y27062 h27063 => ?_)
        obtain ⟨Iy27064, Xy27065, h27063⟩ := h27063
        have Xz27066 : EK [5, 13] P Y27062 := Xy27065.mono (by decide)
        have h27067 := Xy27065.at ha0
        obtain ⟨b27069, rfl, h27063⟩ := h27063
        show G _ _ _ _ _ _ _ _ _ _ (.ref b27069 :: _)
        refine g_astore (lv' := [(5, .ref b27069), (0, .ref a0), (1, .int a1), (2, .int a2), (3, .int a3), (4, .int a4)]) C dX11_peels_31 (by decide) rfl ?_
        refine g_aload C dX11_peels_33 0 rfl ?_
        refine g_callVI (rest := []) C mv_X11_220 [] (s_X5_peel Iy27064 h27063) (h27063).1 (h27063).2 rfl rfl (by decide) (Nat.le_of_ble_eq_true rfl) (by decide) dX11_peels_35 (fun r27070 Y27071 h27072 => ?_)
        obtain ⟨Iy27073, Xy27074, h27072⟩ := h27072
        have Xz27075 : EK [5, 13] P Y27071 := Xz27066.tr (Xy27074.mono (by decide))
        have h27076 := Xy27074.at h27067
        have h27077 := Xy27074.at h27063
        have h27072 : True := h27072
        refine g_istore (lv' := [(6, .int r27070), (5, .ref b27069), (0, .ref a0), (1, .int a1), (2, .int a2), (3, .int a3), (4, .int a4)]) C dX11_peels_38 (by decide) rfl ?_
        refine g_iload C dX11_peels_40 6 rfl ?_
        by_cases h27078 : a4.toInt < 0 ∨ 3 < a4.toInt
        · refine g_tableOut C 99 dX11_peels_42 h27078 (by decide) ?_
          refine g_iconst (v := (-1)) C dX11_peels_99 (by decide) ?_
          exact ret _ _ _ _ _ _ dX11_peels_100 rfl (by decide) (by decide) ⟨Iy27073, Xz27075, trivial⟩
        · rcases (show a4.toInt = 0 ∨ a4.toInt = 1 ∨ a4.toInt = 2 ∨ a4.toInt = 3 by omega) with h27079 | h27079 | h27079 | h27079
          · refine g_tableIn C 72 dX11_peels_42 (by omega) (by omega) (by rw [h27079]; rfl) (by decide) ?_
            refine g_iload C dX11_peels_72 0 rfl ?_
            exact ret _ _ _ _ _ _ dX11_peels_74 rfl (by decide) (by decide) ⟨Iy27073, Xz27075, trivial⟩
          · refine g_tableIn C 75 dX11_peels_42 (by omega) (by omega) (by rw [h27079]; rfl) (by decide) ?_
            refine g_aload C dX11_peels_75 1 rfl ?_
            refine g_iload C dX11_peels_77 0 rfl ?_
            refine g_callVI (rest := []) C mv_X11_224 [.int r27070] (s_X5_quarrels Iy27073 h27077) (h27077).1 (h27077).2 rfl rfl (by decide) (Nat.le_of_ble_eq_true rfl) (by decide) dX11_peels_79 (fun r27080 Y27081 h27082 => ?_)
            obtain ⟨rfl, h27082⟩ := h27082
            have h27082 : True := h27082
            exact ret _ _ _ _ _ _ dX11_peels_82 rfl (by decide) (by decide) ⟨Iy27073, Xz27075, trivial⟩
          · refine g_tableIn C 83 dX11_peels_42 (by omega) (by omega) (by rw [h27079]; rfl) (by decide) ?_
            refine g_aload C dX11_peels_83 1 rfl ?_
            refine g_iload C dX11_peels_85 0 rfl ?_
            refine g_callVI (rest := []) C mv_X11_227 [.int r27070] (s_X5_work Iy27073 h27077) (h27077).1 (h27077).2 rfl rfl (by decide) (Nat.le_of_ble_eq_true rfl) (by decide) dX11_peels_87 (fun r27083 Y27084 h27085 => ?_)
            obtain ⟨rfl, h27085⟩ := h27085
            have h27085 : True := h27085
            exact ret _ _ _ _ _ _ dX11_peels_90 rfl (by decide) (by decide) ⟨Iy27073, Xz27075, trivial⟩
          · refine g_tableIn C 91 dX11_peels_42 (by omega) (by omega) (by rw [h27079]; rfl) (by decide) ?_
            refine g_aload C dX11_peels_91 1 rfl ?_
            refine g_iload C dX11_peels_93 0 rfl ?_
            refine g_callVI (rest := []) C mv_X11_230 [.int r27070] (s_X5_left Iy27073 h27077) (h27077).1 (h27077).2 rfl rfl (by decide) (Nat.le_of_ble_eq_true rfl) (by decide) dX11_peels_95 (fun r27086 Y27087 h27088 => ?_)
            obtain ⟨rfl, h27088⟩ := h27088
            have h27088 : True := h27088
            exact ret _ _ _ _ _ _ dX11_peels_98 rfl (by decide) (by decide) ⟨Iy27073, Xz27075, trivial⟩
      · have h27060 : r27056.toInt = 0 := congrArg Int32.toInt h27060
        clear hi27059
        refine g_lv (lv' := []) [] rfl ?_
        exact J22 
theorem dX11_quarter_0 : decode cX11_quarter 0 = .ok (.iload_n 1, 1) := by decide +kernel
theorem dX11_quarter_1 : decode cX11_quarter 1 = .ok (.invokestatic 158, 3) := by decide +kernel
theorem dX11_quarter_4 : decode cX11_quarter 4 = .ok (.ifCond .eq 24, 3) := by decide +kernel
theorem dX11_quarter_7 : decode cX11_quarter 7 = .ok (.iload_n 2, 1) := by decide +kernel
theorem dX11_quarter_8 : decode cX11_quarter 8 = .ok (.ifCond .lt 20, 3) := by decide +kernel
theorem dX11_quarter_11 : decode cX11_quarter 11 = .ok (.iload_n 2, 1) := by decide +kernel
theorem dX11_quarter_12 : decode cX11_quarter 12 = .ok (.bipush 100, 2) := by decide +kernel
theorem dX11_quarter_14 : decode cX11_quarter 14 = .ok (.if_icmp .gt 14, 3) := by decide +kernel
theorem dX11_quarter_17 : decode cX11_quarter 17 = .ok (.iload_n 3, 1) := by decide +kernel
theorem dX11_quarter_18 : decode cX11_quarter 18 = .ok (.ifCond .lt 10, 3) := by decide +kernel
theorem dX11_quarter_21 : decode cX11_quarter 21 = .ok (.iload_n 3, 1) := by decide +kernel
theorem dX11_quarter_22 : decode cX11_quarter 22 = .ok (.sipush 999, 3) := by decide +kernel
theorem dX11_quarter_25 : decode cX11_quarter 25 = .ok (.if_icmp .le 5, 3) := by decide +kernel
theorem dX11_quarter_28 : decode cX11_quarter 28 = .ok (.iconst 0, 1) := by decide +kernel
theorem dX11_quarter_29 : decode cX11_quarter 29 = .ok (.ireturn, 1) := by decide +kernel
theorem dX11_quarter_30 : decode cX11_quarter 30 = .ok (.aload_n 0, 1) := by decide +kernel
theorem dX11_quarter_31 : decode cX11_quarter 31 = .ok (.getfield 28, 3) := by decide +kernel
theorem dX11_quarter_34 : decode cX11_quarter 34 = .ok (.iload_n 1, 1) := by decide +kernel
theorem dX11_quarter_35 : decode cX11_quarter 35 = .ok (.iload_n 2, 1) := by decide +kernel
theorem dX11_quarter_36 : decode cX11_quarter 36 = .ok (.iastore, 1) := by decide +kernel
theorem dX11_quarter_37 : decode cX11_quarter 37 = .ok (.aload_n 0, 1) := by decide +kernel
theorem dX11_quarter_38 : decode cX11_quarter 38 = .ok (.getfield 32, 3) := by decide +kernel
theorem dX11_quarter_41 : decode cX11_quarter 41 = .ok (.iload_n 1, 1) := by decide +kernel
theorem dX11_quarter_42 : decode cX11_quarter 42 = .ok (.iload_n 3, 1) := by decide +kernel
theorem dX11_quarter_43 : decode cX11_quarter 43 = .ok (.iastore, 1) := by decide +kernel
theorem dX11_quarter_44 : decode cX11_quarter 44 = .ok (.iconst 1, 1) := by decide +kernel
theorem dX11_quarter_45 : decode cX11_quarter 45 = .ok (.ireturn, 1) := by decide +kernel
set_option maxHeartbeats 4000000 in
set_option maxRecDepth 100000 in
theorem s_X11_quarter {P : PP} {a0 : Nat} {a1 : Int32} {a2 : Int32} {a3 : Int32} (I : IV P) (ha0 : At P a0 11) : CtrI yX11_quarter cX11_quarter 4 (some Jvm.ClassFile.FieldType.boolean) ({ frames := 2, cells := 0, slots := 0, locals := 128 } : Room) 0 0 P [.ref a0, .int a1, .int a2, .int a3] (fun r P2 => IV P2 ∧ EK [13] P P2 ∧ (0 ≤ r.toInt ∧ r.toInt ≤ 1) ∧ (r.toInt = 0 ∨ (((0 : Int) ≤ a1.toInt ∧ a1.toInt ≤ (3 : Int)) ∧ ((0 : Int) ≤ a2.toInt ∧ a2.toInt ≤ (100 : Int)) ∧ ((0 : Int) ≤ a3.toInt ∧ a3.toInt ≤ (999 : Int))))) := by
  refine enI (lv := [(0, .ref a0), (1, .int a1), (2, .int a2), (3, .int a3)]) (by decide) (Nat.le_of_ble_eq_true rfl) rfl (fun E D cy C Ci0 ret => ?_)
  have J28 : G E ({ frames := 2, cells := 0, slots := 0, locals := 128 } : Room) D cy 4 P 0 0 28 [] [] := by
    refine g_iconst (v := 0) C dX11_quarter_28 (by decide) ?_
    exact ret _ _ _ _ _ _ dX11_quarter_29 rfl (by decide) (by decide) ⟨I, EK.rf, (by decide), Or.inl rfl⟩
  refine g_iload_n C dX11_quarter_0 rfl 1 rfl ?_
  refine g_callSI (b := 0) (ci := 0) (rest := []) C ms_X11_158 [.int a1] (s_X11_isQuarter I) rfl rfl (by decide) (Nat.le_of_ble_eq_true rfl) (by decide) dX11_quarter_1 (fun r27118 Y27119 h27120 => ?_)
  obtain ⟨rfl, h27120⟩ := h27120
  obtain ⟨h27120, hi27121⟩ := h27120
  have hi27121 : r27118.toInt = 0 ∨ (((0 : Int) ≤ a1.toInt ∧ a1.toInt ≤ (3 : Int))) := hi27121
  have h27120 : 0 ≤ r27118.toInt ∧ r27118.toInt ≤ 1 := h27120
  refine b_if_eq C 28 dX11_quarter_4 (by decide) (fun h27122 => ?_) (fun h27122 => ?_)
  · have h27122 : r27118.toInt = 0 := congrArg Int32.toInt h27122
    clear hi27121
    refine g_lv (lv' := []) [] rfl ?_
    exact J28 
  · have h27122 : r27118.toInt ≠ 0 := ti_ne h27122
    replace hi27121 := hi27121.resolve_left (by omega)
    refine g_iload_n C dX11_quarter_7 rfl 2 rfl ?_
    have u27124 := ti_rng a2
    refine b_if_lt C 28 dX11_quarter_8 (by decide) (fun h27123 => ?_) (fun h27123 => ?_)
    · have h27123 : a2.toInt < 0 := h27123
      refine g_lv (lv' := []) [] rfl ?_
      exact J28 
    · have h27123 : 0 ≤ a2.toInt := h27123
      refine g_iload_n C dX11_quarter_11 rfl 2 rfl ?_
      refine g_bipush (v := 100) C dX11_quarter_12 (by decide) ?_
      have u27126 := ti_rng a2
      refine b_icmp_gt C 28 dX11_quarter_14 (by decide) (fun h27125 => ?_) (fun h27125 => ?_)
      · have h27125 : 100 < a2.toInt := h27125
        refine g_lv (lv' := []) [] rfl ?_
        exact J28 
      · have h27125 : a2.toInt ≤ 100 := h27125
        refine g_iload_n C dX11_quarter_17 rfl 3 rfl ?_
        have u27128 := ti_rng a3
        refine b_if_lt C 28 dX11_quarter_18 (by decide) (fun h27127 => ?_) (fun h27127 => ?_)
        · have h27127 : a3.toInt < 0 := h27127
          refine g_lv (lv' := []) [] rfl ?_
          exact J28 
        · have h27127 : 0 ≤ a3.toInt := h27127
          refine g_iload_n C dX11_quarter_21 rfl 3 rfl ?_
          refine g_sipush (v := 999) C dX11_quarter_22 (by decide) ?_
          have u27130 := ti_rng a3
          refine b_icmp_le C 30 dX11_quarter_25 (by decide) (fun h27129 => ?_) (fun h27129 => ?_)
          · have h27129 : a3.toInt ≤ 999 := h27129
            refine g_aload_n C dX11_quarter_30 rfl 0 rfl ?_
            obtain ⟨b27131, e27132, h27133⟩ := I.fld (ha0) 4 13 4 rfl
            refine g_getR C fi_X11_28 rfl e27132 (ha0).1 (ha0).2 dX11_quarter_31 ?_
            refine g_iload_n C dX11_quarter_34 rfl 1 rfl ?_
            refine g_iload_n C dX11_quarter_35 rfl 2 rfl ?_
            refine g_iast (j := (a1.toInt.toNat)) C h27133.1 h27133.2.1 (ix_in h27133.2.2 (by omega)) dX11_quarter_36 ?_
            refine gp (ks := [13]) (I.setA h27133 (by decide)) (EK.setI h27133.2.1 (by decide)) (fun Y27134 Iy27135 Xy27136 => ?_)
            have Xz27137 : EK [13] P Y27134 := Xy27136.mono (by decide)
            have h27138 := Xy27136.at ha0
            refine g_aload_n C dX11_quarter_37 rfl 0 rfl ?_
            obtain ⟨b27139, e27140, h27141⟩ := Iy27135.fld (h27138) 5 13 4 rfl
            refine g_getR C fi_X11_32 rfl e27140 (h27138).1 (h27138).2 dX11_quarter_38 ?_
            refine g_iload_n C dX11_quarter_41 rfl 1 rfl ?_
            refine g_iload_n C dX11_quarter_42 rfl 3 rfl ?_
            refine g_iast (j := (a1.toInt.toNat)) C h27141.1 h27141.2.1 (ix_in h27141.2.2 (by omega)) dX11_quarter_43 ?_
            refine gp (ks := [13]) (Iy27135.setA h27141 (by decide)) (EK.setI h27141.2.1 (by decide)) (fun Y27142 Iy27143 Xy27144 => ?_)
            have Xz27145 : EK [13] P Y27142 := Xz27137.tr (Xy27144.mono (by decide))
            have h27146 := Xy27144.at h27138
            refine g_iconst (v := 1) C dX11_quarter_44 (by decide) ?_
            exact ret _ _ _ _ _ _ dX11_quarter_45 rfl (by decide) (by decide) ⟨Iy27143, Xz27145, (by decide), Or.inr (by omega)⟩
          · have h27129 : 999 < a3.toInt := h27129
            refine g_lv (lv' := []) [] rfl ?_
            exact J28 
theorem dX11_read_0 : decode cX11_read 0 = .ok (.iload_n 1, 1) := by decide +kernel
theorem dX11_read_1 : decode cX11_read 1 = .ok (.invokestatic 158, 3) := by decide +kernel
theorem dX11_read_4 : decode cX11_read 4 = .ok (.ifCond .eq 20, 3) := by decide +kernel
theorem dX11_read_7 : decode cX11_read 7 = .ok (.aload_n 0, 1) := by decide +kernel
theorem dX11_read_8 : decode cX11_read 8 = .ok (.iload_n 2, 1) := by decide +kernel
theorem dX11_read_9 : decode cX11_read 9 = .ok (.iload_n 3, 1) := by decide +kernel
theorem dX11_read_10 : decode cX11_read 10 = .ok (.invokevirtual 155, 3) := by decide +kernel
theorem dX11_read_13 : decode cX11_read 13 = .ok (.ifCond .eq 11, 3) := by decide +kernel
theorem dX11_read_16 : decode cX11_read 16 = .ok (.iload 4, 2) := by decide +kernel
theorem dX11_read_18 : decode cX11_read 18 = .ok (.invokestatic 249, 3) := by decide +kernel
theorem dX11_read_21 : decode cX11_read 21 = .ok (.ifCond .ne 5, 3) := by decide +kernel
theorem dX11_read_26 : decode cX11_read 26 = .ok (.aload_n 0, 1) := by decide +kernel
theorem dX11_read_27 : decode cX11_read 27 = .ok (.iload_n 1, 1) := by decide +kernel
theorem dX11_read_28 : decode cX11_read 28 = .ok (.iload_n 2, 1) := by decide +kernel
theorem dX11_read_29 : decode cX11_read 29 = .ok (.iconst 0, 1) := by decide +kernel
theorem dX11_read_30 : decode cX11_read 30 = .ok (.iload_n 3, 1) := by decide +kernel
theorem dX11_read_31 : decode cX11_read 31 = .ok (.iload 4, 2) := by decide +kernel
theorem dX11_read_33 : decode cX11_read 33 = .ok (.invokevirtual 252, 3) := by decide +kernel
theorem dX11_readOctet_0 : decode cX11_readOctet 0 = .ok (.aload_n 0, 1) := by decide +kernel
theorem dX11_readOctet_1 : decode cX11_readOctet 1 = .ok (.iload_n 1, 1) := by decide +kernel
theorem dX11_readOctet_2 : decode cX11_readOctet 2 = .ok (.iload_n 2, 1) := by decide +kernel
theorem dX11_readOctet_3 : decode cX11_readOctet 3 = .ok (.iload_n 3, 1) := by decide +kernel
theorem dX11_readOctet_4 : decode cX11_readOctet 4 = .ok (.invokevirtual 216, 3) := by decide +kernel
theorem dX11_readOctet_7 : decode cX11_readOctet 7 = .ok (.astore 6, 2) := by decide +kernel
theorem dX11_readOctet_9 : decode cX11_readOctet 9 = .ok (.iload 5, 2) := by decide +kernel
theorem dX11_readOctet_11 : decode cX11_readOctet 11 = .ok (.ifCond .ne 33, 3) := by decide +kernel
theorem dX11_readOctet_14 : decode cX11_readOctet 14 = .ok (.aload 6, 2) := by decide +kernel
theorem dX11_readOctet_16 : decode cX11_readOctet 16 = .ok (.invokevirtual 220, 3) := by decide +kernel
theorem dX11_readOctet_19 : decode cX11_readOctet 19 = .ok (.istore 7, 2) := by decide +kernel
theorem dX11_readOctet_21 : decode cX11_readOctet 21 = .ok (.iload 7, 2) := by decide +kernel
theorem dX11_readOctet_23 : decode cX11_readOctet 23 = .ok (.iload 4, 2) := by decide +kernel
theorem dX11_readOctet_25 : decode cX11_readOctet 25 = .ok (.ishr, 1) := by decide +kernel
theorem dX11_readOctet_26 : decode cX11_readOctet 26 = .ok (.iconst 1, 1) := by decide +kernel
theorem dX11_readOctet_27 : decode cX11_readOctet 27 = .ok (.iand, 1) := by decide +kernel
theorem dX11_readOctet_28 : decode cX11_readOctet 28 = .ok (.ifCond .eq 14, 3) := by decide +kernel
theorem dX11_readOctet_31 : decode cX11_readOctet 31 = .ok (.aload 6, 2) := by decide +kernel
theorem dX11_readOctet_33 : decode cX11_readOctet 33 = .ok (.getfield 382, 3) := by decide +kernel
theorem dX11_readOctet_36 : decode cX11_readOctet 36 = .ok (.iload 4, 2) := by decide +kernel
theorem dX11_readOctet_38 : decode cX11_readOctet 38 = .ok (.iaload, 1) := by decide +kernel
theorem dX11_readOctet_39 : decode cX11_readOctet 39 = .ok (.goto 4, 3) := by decide +kernel
theorem dX11_readOctet_42 : decode cX11_readOctet 42 = .ok (.iconst (-1), 1) := by decide +kernel
theorem dX11_readOctet_43 : decode cX11_readOctet 43 = .ok (.ireturn, 1) := by decide +kernel
theorem dX11_readOctet_44 : decode cX11_readOctet 44 = .ok (.aload_n 0, 1) := by decide +kernel
theorem dX11_readOctet_45 : decode cX11_readOctet 45 = .ok (.getfield 53, 3) := by decide +kernel
theorem dX11_readOctet_48 : decode cX11_readOctet 48 = .ok (.iconst 0, 1) := by decide +kernel
theorem dX11_readOctet_49 : decode cX11_readOctet 49 = .ok (.aaload, 1) := by decide +kernel
theorem dX11_readOctet_50 : decode cX11_readOctet 50 = .ok (.astore 7, 2) := by decide +kernel
theorem dX11_readOctet_52 : decode cX11_readOctet 52 = .ok (.aload 7, 2) := by decide +kernel
theorem dX11_readOctet_54 : decode cX11_readOctet 54 = .ok (.aload 6, 2) := by decide +kernel
theorem dX11_readOctet_56 : decode cX11_readOctet 56 = .ok (.iconst (-1), 1) := by decide +kernel
theorem dX11_readOctet_57 : decode cX11_readOctet 57 = .ok (.invokevirtual 236, 3) := by decide +kernel
theorem dX11_readOctet_60 : decode cX11_readOctet 60 = .ok (.aload 7, 2) := by decide +kernel
theorem dX11_readOctet_62 : decode cX11_readOctet 62 = .ok (.iload 4, 2) := by decide +kernel
theorem dX11_readOctet_64 : decode cX11_readOctet 64 = .ok (.invokevirtual 272, 3) := by decide +kernel
theorem dX11_readOctet_67 : decode cX11_readOctet 67 = .ok (.ireturn, 1) := by decide +kernel
set_option maxHeartbeats 4000000 in
set_option maxRecDepth 100000 in
theorem s_X11_readOctet {P : PP} {a0 : Nat} {a1 : Int32} {a2 : Int32} {a3 : Int32} {a4 : Int32} {a5 : Int32} (I : IV P) (ha0 : At P a0 11) (ha1 : 0 ≤ a1.toInt ∧ a1.toInt ≤ 3) (ha2 : 0 ≤ a2.toInt ∧ a2.toInt ≤ 1) (ha3 : 0 ≤ a3.toInt ∧ a3.toInt ≤ 1) (ha4 : 0 ≤ a4.toInt ∧ a4.toInt ≤ 19) : CtrI yX11_readOctet cX11_readOctet 8 (some Jvm.ClassFile.FieldType.int) ({ frames := 4, cells := 0, slots := 0, locals := 256 } : Room) 0 0 P [.ref a0, .int a1, .int a2, .int a3, .int a4, .int a5] (fun r P2 => IV P2 ∧ EK [0, 5, 13] P P2 ∧ (True)) := by
  refine enI (lv := [(0, .ref a0), (1, .int a1), (2, .int a2), (3, .int a3), (4, .int a4), (5, .int a5)]) (by decide) (Nat.le_of_ble_eq_true rfl) rfl (fun E D cy C Ci0 ret => ?_)
  refine g_aload_n C dX11_readOctet_0 rfl 0 rfl ?_
  refine g_iload_n C dX11_readOctet_1 rfl 1 rfl ?_
  refine g_iload_n C dX11_readOctet_2 rfl 2 rfl ?_
  refine g_iload_n C dX11_readOctet_3 rfl 3 rfl ?_
  refine g_callVQ (rest := []) C mv_X11_216 [.int a1, .int a2, .int a3] (s_X11_gather I ha0 (by omega) (by omega) (by omega)) (ha0).1 (ha0).2 rfl rfl (by decide) (Nat.le_of_ble_eq_true rfl) (by decide) dX11_readOctet_4 (fun r27207 Y27208 h27209 => ?_)
  obtain ⟨Iy27210, Xy27211, h27209⟩ := h27209
  have Xz27212 : EK [0, 5, 13] P Y27208 := Xy27211.mono (by decide)
  have h27213 := Xy27211.at ha0
  obtain ⟨b27215, rfl, h27209⟩ := h27209
  show G _ _ _ _ _ _ _ _ _ _ (.ref b27215 :: _)
  refine g_astore (lv' := [(6, .ref b27215), (0, .ref a0), (1, .int a1), (2, .int a2), (3, .int a3), (4, .int a4), (5, .int a5)]) C dX11_readOctet_7 (by decide) rfl ?_
  refine g_iload C dX11_readOctet_9 6 rfl ?_
  have u27217 := ti_rng a5
  refine b_if_ne C 44 dX11_readOctet_11 (by decide) (fun h27216 => ?_) (fun h27216 => ?_)
  · have h27216 : a5.toInt ≠ 0 := ti_ne h27216
    refine g_aload_n C dX11_readOctet_44 rfl 1 rfl ?_
    obtain ⟨b27218, e27219, h27220⟩ := Iy27210.fld (h27213) 9 16 2 rfl
    refine g_getR C fi_X11_53 rfl e27219 (h27213).1 (h27213).2 dX11_readOctet_45 ?_
    refine g_iconst (v := 0) C dX11_readOctet_48 (by decide) ?_
    obtain ⟨b27221, e27222, h27223⟩ := Iy27210.elm h27220 (by decide) 0 (by decide)
    refine g_aldR C h27220.1 h27220.2.1 (by decide) (IX.litn (j := 0) h27220.2.2 rfl (by decide) (by decide)) e27222 dX11_readOctet_49 ?_
    refine g_astore (lv' := [(7, .ref b27221), (6, .ref b27215), (0, .ref a0), (1, .int a1), (2, .int a2), (3, .int a3), (4, .int a4), (5, .int a5)]) C dX11_readOctet_50 (by decide) rfl ?_
    refine g_aload C dX11_readOctet_52 0 rfl ?_
    refine g_aload C dX11_readOctet_54 1 rfl ?_
    refine g_iconst (v := (-1)) C dX11_readOctet_56 (by decide) ?_
    refine g_callVV (rest := []) C mv_X11_236 [.ref b27215, .int (-1)] (s_X0_take Iy27210 h27223 h27209) (h27223).1 (h27223).2 rfl rfl (by decide) (Nat.le_of_ble_eq_true rfl) (by decide) dX11_readOctet_57 (fun Y27225 h27226 => ?_)
    obtain ⟨Iy27227, Xy27228⟩ := h27226
    have Xz27229 : EK [0, 5, 13] P Y27225 := Xz27212.tr (Xy27228.mono (by decide))
    have h27230 := Xy27228.at h27213
    have h27231 := Xy27228.at h27209
    have h27232 := Xy27228.at h27223
    refine g_aload C dX11_readOctet_60 0 rfl ?_
    refine g_iload C dX11_readOctet_62 6 rfl ?_
    refine g_callVI (rest := []) C mv_X11_272 [.int a4] (s_X0_octetOf Iy27227 h27232) (h27232).1 (h27232).2 rfl rfl (by decide) (Nat.le_of_ble_eq_true rfl) (by decide) dX11_readOctet_64 (fun r27233 Y27234 h27235 => ?_)
    obtain ⟨rfl, h27235⟩ := h27235
    have h27235 : True := h27235
    exact ret _ _ _ _ _ _ dX11_readOctet_67 rfl (by decide) (by decide) ⟨Iy27227, Xz27229, trivial⟩
  · have h27216 : a5.toInt = 0 := congrArg Int32.toInt h27216
    refine g_aload C dX11_readOctet_14 0 rfl ?_
    refine g_callVI (rest := []) C mv_X11_220 [] (s_X5_peel Iy27210 h27209) (h27209).1 (h27209).2 rfl rfl (by decide) (Nat.le_of_ble_eq_true rfl) (by decide) dX11_readOctet_16 (fun r27236 Y27237 h27238 => ?_)
    obtain ⟨Iy27239, Xy27240, h27238⟩ := h27238
    have Xz27241 : EK [0, 5, 13] P Y27237 := Xz27212.tr (Xy27240.mono (by decide))
    have h27242 := Xy27240.at h27213
    have h27243 := Xy27240.at h27209
    have h27238 : True := h27238
    refine g_istore (lv' := [(7, .int r27236), (6, .ref b27215), (0, .ref a0), (1, .int a1), (2, .int a2), (3, .int a3), (4, .int a4), (5, .int a5)]) C dX11_readOctet_19 (by decide) rfl ?_
    refine g_iload C dX11_readOctet_21 0 rfl ?_
    refine g_iload C dX11_readOctet_23 6 rfl ?_
    refine a_ishr C dX11_readOctet_25 (fun z27244 => ?_)
    refine g_iconst (v := 1) C dX11_readOctet_26 (by decide) ?_
    refine s_iand C dX11_readOctet_27 (by show 0 ≤ 1; omega) (fun z27246 h27247 => ?_)
    have h27247 : 0 ≤ z27246.toInt ∧ z27246.toInt ≤ 1 := h27247
    refine b_if_eq C 42 dX11_readOctet_28 (by decide) (fun h27248 => ?_) (fun h27248 => ?_)
    · have h27248 : z27246.toInt = 0 := congrArg Int32.toInt h27248
      refine g_iconst (v := (-1)) C dX11_readOctet_42 (by decide) ?_
      exact ret _ _ _ _ _ _ dX11_readOctet_43 rfl (by decide) (by decide) ⟨Iy27239, Xz27241, trivial⟩
    · have h27248 : z27246.toInt ≠ 0 := ti_ne h27248
      refine g_aload C dX11_readOctet_31 1 rfl ?_
      obtain ⟨b27249, e27250, h27251⟩ := Iy27239.fld (h27243) 2 13 20 rfl
      refine g_getR C fi_X11_382 rfl e27250 (h27243).1 (h27243).2 dX11_readOctet_33 ?_
      refine g_iload C dX11_readOctet_36 6 rfl ?_
      refine g_iald (j := (a4.toInt.toNat)) C h27251.1 h27251.2.1 (ix_in h27251.2.2 (by omega)) dX11_readOctet_38 ?_
      refine g_topi (fun z27252 _ => ?_)
      refine g_goto C 43 dX11_readOctet_39 (by decide) ?_
      exact ret _ _ _ _ _ _ dX11_readOctet_43 rfl (by decide) (by decide) ⟨Iy27239, Xz27241, trivial⟩
theorem dX11_read_24 : decode cX11_read 24 = .ok (.iconst (-1), 1) := by decide +kernel
theorem dX11_read_25 : decode cX11_read 25 = .ok (.ireturn, 1) := by decide +kernel
theorem dX11_read_36 : decode cX11_read 36 = .ok (.istore 5, 2) := by decide +kernel
theorem dX11_read_38 : decode cX11_read 38 = .ok (.aload_n 0, 1) := by decide +kernel
theorem dX11_read_39 : decode cX11_read 39 = .ok (.iload_n 1, 1) := by decide +kernel
theorem dX11_read_40 : decode cX11_read 40 = .ok (.iload_n 2, 1) := by decide +kernel
theorem dX11_read_41 : decode cX11_read 41 = .ok (.iconst 1, 1) := by decide +kernel
theorem dX11_read_42 : decode cX11_read 42 = .ok (.iload_n 3, 1) := by decide +kernel
theorem dX11_read_43 : decode cX11_read 43 = .ok (.iload 4, 2) := by decide +kernel
theorem dX11_read_45 : decode cX11_read 45 = .ok (.invokevirtual 252, 3) := by decide +kernel
theorem dX11_read_48 : decode cX11_read 48 = .ok (.istore 6, 2) := by decide +kernel
theorem dX11_read_50 : decode cX11_read 50 = .ok (.iload 5, 2) := by decide +kernel
theorem dX11_read_52 : decode cX11_read 52 = .ok (.iconst (-1), 1) := by decide +kernel
theorem dX11_read_53 : decode cX11_read 53 = .ok (.if_icmp .eq 9, 3) := by decide +kernel
theorem dX11_read_56 : decode cX11_read 56 = .ok (.iload 6, 2) := by decide +kernel
theorem dX11_read_58 : decode cX11_read 58 = .ok (.iconst (-1), 1) := by decide +kernel
theorem dX11_read_59 : decode cX11_read 59 = .ok (.if_icmp .ne 7, 3) := by decide +kernel
theorem dX11_read_62 : decode cX11_read 62 = .ok (.iconst (-1), 1) := by decide +kernel
theorem dX11_read_63 : decode cX11_read 63 = .ok (.goto 11, 3) := by decide +kernel
theorem dX11_read_66 : decode cX11_read 66 = .ok (.iload 5, 2) := by decide +kernel
theorem dX11_read_68 : decode cX11_read 68 = .ok (.iload 6, 2) := by decide +kernel
theorem dX11_read_70 : decode cX11_read 70 = .ok (.bipush 8, 2) := by decide +kernel
theorem dX11_read_72 : decode cX11_read 72 = .ok (.ishl, 1) := by decide +kernel
theorem dX11_read_73 : decode cX11_read 73 = .ok (.ior, 1) := by decide +kernel
theorem dX11_read_74 : decode cX11_read 74 = .ok (.ireturn, 1) := by decide +kernel
set_option maxHeartbeats 4000000 in
set_option maxRecDepth 100000 in
theorem s_X11_read {P : PP} {a0 : Nat} {a1 : Int32} {a2 : Int32} {a3 : Int32} {a4 : Int32} (I : IV P) (ha0 : At P a0 11) : CtrI yX11_read cX11_read 7 (some Jvm.ClassFile.FieldType.int) ({ frames := 5, cells := 0, slots := 0, locals := 320 } : Room) 0 0 P [.ref a0, .int a1, .int a2, .int a3, .int a4] (fun r P2 => IV P2 ∧ EK [0, 5, 13] P P2 ∧ (True)) := by
  refine enI (lv := [(0, .ref a0), (1, .int a1), (2, .int a2), (3, .int a3), (4, .int a4)]) (by decide) (Nat.le_of_ble_eq_true rfl) rfl (fun E D cy C Ci0 ret => ?_)
  have J62 : ∀ (P62 : PP), (IV P62) → (EK [0, 5, 13] P P62) → G E ({ frames := 5, cells := 0, slots := 0, locals := 320 } : Room) D cy 7 P62 0 0 62 [] [] := by
    intro P62 I62 X62
    have h27290 := X62.at ha0
    refine g_iconst (v := (-1)) C dX11_read_62 (by decide) ?_
    refine g_goto C 74 dX11_read_63 (by decide) ?_
    exact ret _ _ _ _ _ _ dX11_read_74 rfl (by decide) (by decide) ⟨I62, X62, trivial⟩
  have J24 : G E ({ frames := 5, cells := 0, slots := 0, locals := 320 } : Room) D cy 7 P 0 0 24 [] [] := by
    refine g_iconst (v := (-1)) C dX11_read_24 (by decide) ?_
    exact ret _ _ _ _ _ _ dX11_read_25 rfl (by decide) (by decide) ⟨I, EK.rf, trivial⟩
  refine g_iload_n C dX11_read_0 rfl 1 rfl ?_
  refine g_callSI (b := 0) (ci := 0) (rest := []) C ms_X11_158 [.int a1] (s_X11_isQuarter I) rfl rfl (by decide) (Nat.le_of_ble_eq_true rfl) (by decide) dX11_read_1 (fun r27291 Y27292 h27293 => ?_)
  obtain ⟨rfl, h27293⟩ := h27293
  obtain ⟨h27293, hi27294⟩ := h27293
  have hi27294 : r27291.toInt = 0 ∨ (((0 : Int) ≤ a1.toInt ∧ a1.toInt ≤ (3 : Int))) := hi27294
  have h27293 : 0 ≤ r27291.toInt ∧ r27291.toInt ≤ 1 := h27293
  refine b_if_eq C 24 dX11_read_4 (by decide) (fun h27295 => ?_) (fun h27295 => ?_)
  · have h27295 : r27291.toInt = 0 := congrArg Int32.toInt h27295
    clear hi27294
    refine g_lv (lv' := []) [] rfl ?_
    exact J24 
  · have h27295 : r27291.toInt ≠ 0 := ti_ne h27295
    replace hi27294 := hi27294.resolve_left (by omega)
    refine g_aload_n C dX11_read_7 rfl 0 rfl ?_
    refine g_iload_n C dX11_read_8 rfl 2 rfl ?_
    refine g_iload_n C dX11_read_9 rfl 3 rfl ?_
    refine g_callVI (rest := []) C mv_X11_155 [.int a2, .int a3] (s_X11_isPageOf I ha0) (ha0).1 (ha0).2 rfl rfl (by decide) (Nat.le_of_ble_eq_true rfl) (by decide) dX11_read_10 (fun r27296 Y27297 h27298 => ?_)
    obtain ⟨rfl, h27298⟩ := h27298
    obtain ⟨h27298, hi27299⟩ := h27298
    have hi27299 : r27296.toInt = 0 ∨ (((0 : Int) ≤ a2.toInt ∧ a2.toInt ≤ (1 : Int)) ∧ ((0 : Int) ≤ a3.toInt ∧ a3.toInt ≤ (19 : Int))) := hi27299
    have h27298 : 0 ≤ r27296.toInt ∧ r27296.toInt ≤ 1 := h27298
    refine b_if_eq C 24 dX11_read_13 (by decide) (fun h27300 => ?_) (fun h27300 => ?_)
    · have h27300 : r27296.toInt = 0 := congrArg Int32.toInt h27300
      clear hi27299
      refine g_lv (lv' := []) [] rfl ?_
      exact J24 
    · have h27300 : r27296.toInt ≠ 0 := ti_ne h27300
      replace hi27299 := hi27299.resolve_left (by omega)
      refine g_iload C dX11_read_16 4 rfl ?_
      refine g_callSI (b := 0) (ci := 0) (rest := []) C ms_X11_249 [.int a4] (s_X11_isHow I) rfl rfl (by decide) (Nat.le_of_ble_eq_true rfl) (by decide) dX11_read_18 (fun r27301 Y27302 h27303 => ?_)
      obtain ⟨rfl, h27303⟩ := h27303
      have h27303 : 0 ≤ r27301.toInt ∧ r27301.toInt ≤ 1 := h27303
      refine b_if_ne C 26 dX11_read_21 (by decide) (fun h27304 => ?_) (fun h27304 => ?_)
      · have h27304 : r27301.toInt ≠ 0 := ti_ne h27304
        refine g_aload_n C dX11_read_26 rfl 0 rfl ?_
        refine g_iload_n C dX11_read_27 rfl 1 rfl ?_
        refine g_iload_n C dX11_read_28 rfl 2 rfl ?_
        refine g_iconst (v := 0) C dX11_read_29 (by decide) ?_
        refine g_iload_n C dX11_read_30 rfl 3 rfl ?_
        refine g_iload C dX11_read_31 4 rfl ?_
        refine g_callVI (rest := []) C mv_X11_252 [.int a1, .int a2, .int 0, .int a3, .int a4] (s_X11_readOctet I ha0 (by omega) (by omega) (by decide) (by omega)) (ha0).1 (ha0).2 rfl rfl (by decide) (Nat.le_of_ble_eq_true rfl) (by decide) dX11_read_33 (fun r27305 Y27306 h27307 => ?_)
        obtain ⟨Iy27308, Xy27309, h27307⟩ := h27307
        have Xz27310 : EK [0, 5, 13] P Y27306 := Xy27309.mono (by decide)
        have h27311 := Xy27309.at ha0
        have h27307 : True := h27307
        refine g_istore (lv' := [(5, .int r27305), (0, .ref a0), (1, .int a1), (2, .int a2), (3, .int a3), (4, .int a4)]) C dX11_read_36 (by decide) rfl ?_
        refine g_aload_n C dX11_read_38 rfl 1 rfl ?_
        refine g_iload_n C dX11_read_39 rfl 2 rfl ?_
        refine g_iload_n C dX11_read_40 rfl 3 rfl ?_
        refine g_iconst (v := 1) C dX11_read_41 (by decide) ?_
        refine g_iload_n C dX11_read_42 rfl 4 rfl ?_
        refine g_iload C dX11_read_43 5 rfl ?_
        refine g_callVI (rest := []) C mv_X11_252 [.int a1, .int a2, .int 1, .int a3, .int a4] (s_X11_readOctet Iy27308 h27311 (by omega) (by omega) (by decide) (by omega)) (h27311).1 (h27311).2 rfl rfl (by decide) (Nat.le_of_ble_eq_true rfl) (by decide) dX11_read_45 (fun r27312 Y27313 h27314 => ?_)
        obtain ⟨Iy27315, Xy27316, h27314⟩ := h27314
        have Xz27317 : EK [0, 5, 13] P Y27313 := Xz27310.tr (Xy27316.mono (by decide))
        have h27318 := Xy27316.at h27311
        have h27314 : True := h27314
        refine g_istore (lv' := [(6, .int r27312), (5, .int r27305), (0, .ref a0), (1, .int a1), (2, .int a2), (3, .int a3), (4, .int a4)]) C dX11_read_48 (by decide) rfl ?_
        refine g_iload C dX11_read_50 1 rfl ?_
        refine g_iconst (v := (-1)) C dX11_read_52 (by decide) ?_
        have u27320 := ti_rng r27305
        refine b_icmp_eq C 62 dX11_read_53 (by decide) (fun h27319 => ?_) (fun h27319 => ?_)
        · have h27319 : r27305.toInt = (-1) := congrArg Int32.toInt h27319
          refine g_lv (lv' := []) [] rfl ?_
          exact J62 Y27313 Iy27315 Xz27317
        · have h27319 : r27305.toInt ≠ (-1) := ti_ne h27319
          refine g_iload C dX11_read_56 0 rfl ?_
          refine g_iconst (v := (-1)) C dX11_read_58 (by decide) ?_
          have u27322 := ti_rng r27312
          refine b_icmp_ne C 66 dX11_read_59 (by decide) (fun h27321 => ?_) (fun h27321 => ?_)
          · have h27321 : r27312.toInt ≠ (-1) := ti_ne h27321
            refine g_iload C dX11_read_66 1 rfl ?_
            refine g_iload C dX11_read_68 0 rfl ?_
            refine g_bipush (v := 8) C dX11_read_70 (by decide) ?_
            refine a_ishl C dX11_read_72 (fun z27323 => ?_)
            refine a_ior C dX11_read_73 (fun z27325 => ?_)
            exact ret _ _ _ _ _ _ dX11_read_74 rfl (by decide) (by decide) ⟨Iy27315, Xz27317, trivial⟩
          · have h27321 : r27312.toInt = (-1) := congrArg Int32.toInt h27321
            refine g_lv (lv' := []) [] rfl ?_
            exact J62 Y27313 Iy27315 Xz27317
      · have h27304 : r27301.toInt = 0 := congrArg Int32.toInt h27304
        refine g_lv (lv' := []) [] rfl ?_
        exact J24 
theorem dX11_right_0 : decode cX11_right 0 = .ok (.iload_n 1, 1) := by decide +kernel
theorem dX11_right_1 : decode cX11_right 1 = .ok (.invokestatic 158, 3) := by decide +kernel
theorem dX11_right_4 : decode cX11_right 4 = .ok (.ifCond .eq 20, 3) := by decide +kernel
theorem dX11_right_7 : decode cX11_right 7 = .ok (.aload_n 0, 1) := by decide +kernel
theorem dX11_right_8 : decode cX11_right 8 = .ok (.iload_n 2, 1) := by decide +kernel
theorem dX11_right_9 : decode cX11_right 9 = .ok (.iload 4, 2) := by decide +kernel
theorem dX11_right_11 : decode cX11_right 11 = .ok (.invokevirtual 155, 3) := by decide +kernel
theorem dX11_right_14 : decode cX11_right 14 = .ok (.ifCond .eq 10, 3) := by decide +kernel
theorem dX11_right_17 : decode cX11_right 17 = .ok (.iload_n 3, 1) := by decide +kernel
theorem dX11_right_18 : decode cX11_right 18 = .ok (.invokestatic 213, 3) := by decide +kernel
theorem dX11_right_21 : decode cX11_right 21 = .ok (.ifCond .ne 5, 3) := by decide +kernel
theorem dX11_right_24 : decode cX11_right 24 = .ok (.iconst (-1), 1) := by decide +kernel
theorem dX11_right_25 : decode cX11_right 25 = .ok (.ireturn, 1) := by decide +kernel
theorem dX11_right_26 : decode cX11_right 26 = .ok (.aload_n 0, 1) := by decide +kernel
theorem dX11_right_27 : decode cX11_right 27 = .ok (.iload_n 1, 1) := by decide +kernel
theorem dX11_right_28 : decode cX11_right 28 = .ok (.iload_n 2, 1) := by decide +kernel
theorem dX11_right_29 : decode cX11_right 29 = .ok (.iload_n 3, 1) := by decide +kernel
theorem dX11_right_30 : decode cX11_right 30 = .ok (.invokevirtual 216, 3) := by decide +kernel
theorem dX11_right_33 : decode cX11_right 33 = .ok (.astore 5, 2) := by decide +kernel
theorem dX11_right_35 : decode cX11_right 35 = .ok (.aload_n 0, 1) := by decide +kernel
theorem dX11_right_36 : decode cX11_right 36 = .ok (.getfield 53, 3) := by decide +kernel
theorem dX11_right_39 : decode cX11_right 39 = .ok (.iconst 0, 1) := by decide +kernel
theorem dX11_right_40 : decode cX11_right 40 = .ok (.aaload, 1) := by decide +kernel
theorem dX11_right_41 : decode cX11_right 41 = .ok (.astore 6, 2) := by decide +kernel
theorem dX11_right_43 : decode cX11_right 43 = .ok (.aload 6, 2) := by decide +kernel
theorem dX11_right_45 : decode cX11_right 45 = .ok (.aload 5, 2) := by decide +kernel
theorem dX11_right_47 : decode cX11_right 47 = .ok (.iconst (-1), 1) := by decide +kernel
theorem dX11_right_48 : decode cX11_right 48 = .ok (.invokevirtual 236, 3) := by decide +kernel
theorem dX11_right_51 : decode cX11_right 51 = .ok (.aload 6, 2) := by decide +kernel
theorem dX11_right_53 : decode cX11_right 53 = .ok (.getfield 243, 3) := by decide +kernel
theorem dX11_right_56 : decode cX11_right 56 = .ok (.ifCond .eq 5, 3) := by decide +kernel
theorem dX11_right_59 : decode cX11_right 59 = .ok (.iconst (-1), 1) := by decide +kernel
theorem dX11_right_60 : decode cX11_right 60 = .ok (.ireturn, 1) := by decide +kernel
theorem dX11_right_61 : decode cX11_right 61 = .ok (.iconst (-1), 1) := by decide +kernel
theorem dX11_right_62 : decode cX11_right 62 = .ok (.istore 7, 2) := by decide +kernel
theorem dX11_right_64 : decode cX11_right 64 = .ok (.aload 5, 2) := by decide +kernel
theorem dX11_right_66 : decode cX11_right 66 = .ok (.getfield 263, 3) := by decide +kernel
theorem dX11_right_69 : decode cX11_right 69 = .ok (.istore 8, 2) := by decide +kernel
theorem dX11_right_71 : decode cX11_right 71 = .ok (.iload 8, 2) := by decide +kernel
theorem dX11_right_73 : decode cX11_right 73 = .ok (.aload 5, 2) := by decide +kernel
theorem dX11_right_75 : decode cX11_right 75 = .ok (.getfield 266, 3) := by decide +kernel
theorem dX11_right_78 : decode cX11_right 78 = .ok (.if_icmp .ge 60, 3) := by decide +kernel
theorem dX11_right_81 : decode cX11_right 81 = .ok (.aload 6, 2) := by decide +kernel
theorem dX11_right_83 : decode cX11_right 83 = .ok (.aload 5, 2) := by decide +kernel
theorem dX11_right_85 : decode cX11_right 85 = .ok (.iload 8, 2) := by decide +kernel
theorem dX11_right_87 : decode cX11_right 87 = .ok (.invokevirtual 236, 3) := by decide +kernel
theorem dX11_right_90 : decode cX11_right 90 = .ok (.aload 6, 2) := by decide +kernel
theorem dX11_right_92 : decode cX11_right 92 = .ok (.getfield 243, 3) := by decide +kernel
theorem dX11_right_95 : decode cX11_right 95 = .ok (.ifCond .eq 37, 3) := by decide +kernel
theorem dX11_right_98 : decode cX11_right 98 = .ok (.aload 6, 2) := by decide +kernel
theorem dX11_right_100 : decode cX11_right 100 = .ok (.iload 4, 2) := by decide +kernel
theorem dX11_right_102 : decode cX11_right 102 = .ok (.invokevirtual 272, 3) := by decide +kernel
theorem dX11_right_105 : decode cX11_right 105 = .ok (.istore 9, 2) := by decide +kernel
theorem dX11_right_107 : decode cX11_right 107 = .ok (.iload 9, 2) := by decide +kernel
theorem dX11_right_109 : decode cX11_right 109 = .ok (.iconst (-1), 1) := by decide +kernel
theorem dX11_right_110 : decode cX11_right 110 = .ok (.if_icmp .eq 16, 3) := by decide +kernel
theorem dX11_right_113 : decode cX11_right 113 = .ok (.iload 7, 2) := by decide +kernel
theorem dX11_right_115 : decode cX11_right 115 = .ok (.iconst (-1), 1) := by decide +kernel
theorem dX11_right_116 : decode cX11_right 116 = .ok (.if_icmp .eq 12, 3) := by decide +kernel
theorem dX11_right_119 : decode cX11_right 119 = .ok (.iload 7, 2) := by decide +kernel
theorem dX11_right_121 : decode cX11_right 121 = .ok (.iload 9, 2) := by decide +kernel
theorem dX11_right_123 : decode cX11_right 123 = .ok (.if_icmp .eq 5, 3) := by decide +kernel
theorem dX11_right_126 : decode cX11_right 126 = .ok (.iconst (-1), 1) := by decide +kernel
theorem dX11_right_127 : decode cX11_right 127 = .ok (.ireturn, 1) := by decide +kernel
theorem dX11_right_128 : decode cX11_right 128 = .ok (.iload 9, 2) := by decide +kernel
theorem dX11_right_130 : decode cX11_right 130 = .ok (.istore 7, 2) := by decide +kernel
theorem dX11_right_132 : decode cX11_right 132 = .ok (.iinc 8 1, 3) := by decide +kernel
theorem dX11_right_135 : decode cX11_right 135 = .ok (.goto (-64), 3) := by decide +kernel
theorem dX11_right_138 : decode cX11_right 138 = .ok (.iload 7, 2) := by decide +kernel
theorem dX11_right_140 : decode cX11_right 140 = .ok (.ireturn, 1) := by decide +kernel
set_option maxHeartbeats 4000000 in
set_option maxRecDepth 100000 in
theorem s_X11_right {P : PP} {a0 : Nat} {a1 : Int32} {a2 : Int32} {a3 : Int32} {a4 : Int32} (I : IV P) (ha0 : At P a0 11) : CtrI yX11_right cX11_right 10 (some Jvm.ClassFile.FieldType.int) ({ frames := 4, cells := 0, slots := 0, locals := 256 } : Room) 0 0 P [.ref a0, .int a1, .int a2, .int a3, .int a4] (fun r P2 => IV P2 ∧ EK [0, 5, 13] P P2 ∧ (True)) := by
  refine enI (lv := [(0, .ref a0), (1, .int a1), (2, .int a2), (3, .int a3), (4, .int a4)]) (by decide) (Nat.le_of_ble_eq_true rfl) rfl (fun E D cy C Ci0 ret => ?_)
  have J126 : ∀ (P126 : PP), (IV P126) → (EK [0, 5, 13] P P126) → G E ({ frames := 4, cells := 0, slots := 0, locals := 256 } : Room) D cy 10 P126 0 0 126 [] [] := by
    intro P126 I126 X126
    have h27425 := X126.at ha0
    refine g_iconst (v := (-1)) C dX11_right_126 (by decide) ?_
    exact ret _ _ _ _ _ _ dX11_right_127 rfl (by decide) (by decide) ⟨I126, X126, trivial⟩
  have J71 : ∀ (n71 : Nat) (P71 : PP) (b71_5 : Nat) (b71_6 : Nat) (v71_7 : Int32) (v71_8 : Int32), (44 - v71_8.toInt).toNat < n71 → (IV P71) → (EK [0, 5, 13] P P71) → (0 ≤ a4.toInt ∧ a4.toInt ≤ 19) → (At P71 b71_5 5) → (At P71 b71_6 0) → (0 ≤ v71_8.toInt ∧ v71_8.toInt ≤ 44) → G E ({ frames := 4, cells := 0, slots := 0, locals := 256 } : Room) D cy 10 P71 0 0 71 [(4, .int a4), (5, .ref b71_5), (6, .ref b71_6), (7, .int v71_7), (8, .int v71_8)] [] := by
    intro n71
    induction n71 with
    | zero => intro P71 b71_5 b71_6 v71_7 v71_8 hm71 I71 X71 hv71_4 hb71_5 hb71_6 hv71_8; omega
    | succ n71 ih71 =>
      intro P71 b71_5 b71_6 v71_7 v71_8 hm71 I71 X71 hv71_4 hb71_5 hb71_6 hv71_8
      have h27426 := X71.at ha0
      have J132 : ∀ (P132 : PP) (b132_5 : Nat) (b132_6 : Nat) (v132_7 : Int32), (IV P132) → (EK [0, 5, 13] P P132) → (0 ≤ a4.toInt ∧ a4.toInt ≤ 19) → (At P132 b132_5 5) → (At P132 b132_6 0) → (0 ≤ v71_8.toInt ∧ v71_8.toInt ≤ 43) → (1 ≤ (pI P132 b132_5 4).toInt ∧ (pI P132 b132_5 4).toInt ≤ 44) → (0 ≤ (pI P132 b132_6 3).toInt ∧ (pI P132 b132_6 3).toInt ≤ 1) → G E ({ frames := 4, cells := 0, slots := 0, locals := 256 } : Room) D cy 10 P132 0 0 132 [(4, .int a4), (5, .ref b132_5), (6, .ref b132_6), (7, .int v132_7), (8, .int v71_8)] [] := by
        intro P132 b132_5 b132_6 v132_7 I132 X132 hv132_4 hb132_5 hb132_6 hv132_8 hq132_0 hq132_1
        have h27427 := X132.at ha0
        refine s_iinc (lv0 := [(4, .int a4), (5, .ref b132_5), (6, .ref b132_6), (7, .int v132_7)]) (m := 1) C dX11_right_132 4 rfl (by decide) rfl (by decide) (by omega) (fun z27428 h27429 => ?_)
        have h27429 : z27428.toInt = v71_8.toInt + 1 := h27429
        refine g_goto C 71 dX11_right_135 (by decide) ?_
        refine g_lv (lv' := [(4, .int a4), (5, .ref b132_5), (6, .ref b132_6), (7, .int v132_7), (8, .int z27428)]) [1, 2, 3, 4, 0] rfl ?_
        exact ih71 P132 b132_5 b132_6 v132_7 z27428 (by omega) I132 X132 (by omega) hb132_5 hb132_6 (by omega)
      have J128 : ∀ (P128 : PP) (b128_5 : Nat) (b128_6 : Nat) (v128_9 : Int32), (IV P128) → (EK [0, 5, 13] P P128) → (0 ≤ a4.toInt ∧ a4.toInt ≤ 19) → (At P128 b128_5 5) → (At P128 b128_6 0) → (0 ≤ v71_8.toInt ∧ v71_8.toInt ≤ 43) → (1 ≤ (pI P128 b128_5 4).toInt ∧ (pI P128 b128_5 4).toInt ≤ 44) → (1 ≤ (pI P128 b128_6 3).toInt ∧ (pI P128 b128_6 3).toInt ≤ 1) → G E ({ frames := 4, cells := 0, slots := 0, locals := 256 } : Room) D cy 10 P128 0 0 128 [(4, .int a4), (5, .ref b128_5), (6, .ref b128_6), (8, .int v71_8), (9, .int v128_9)] [] := by
        intro P128 b128_5 b128_6 v128_9 I128 X128 hv128_4 hb128_5 hb128_6 hv128_8 hq128_0 hq128_1
        have h27430 := X128.at ha0
        refine g_iload C dX11_right_128 4 rfl ?_
        refine g_istore (lv' := [(7, .int v128_9), (4, .int a4), (5, .ref b128_5), (6, .ref b128_6), (8, .int v71_8), (9, .int v128_9)]) C dX11_right_130 (by decide) rfl ?_
        refine g_lv (lv' := [(4, .int a4), (5, .ref b128_5), (6, .ref b128_6), (7, .int v128_9), (8, .int v71_8)]) [1, 2, 3, 0, 4] rfl ?_
        exact J132 P128 b128_5 b128_6 v128_9 I128 X128 (by omega) hb128_5 hb128_6 (by omega) (by omega) (by omega)
      refine g_iload C dX11_right_71 4 rfl ?_
      refine g_aload C dX11_right_73 1 rfl ?_
      refine g_getI C fi_X11_266 (by decide) (hb71_5).1 (hb71_5).2 dX11_right_75 ?_
      have h27431 := I71.rg (hb71_5) 4 rfl
      refine b_icmp_ge C 138 dX11_right_78 (by decide) (fun h27432 => ?_) (fun h27432 => ?_)
      · have h27432 : (pI P71 b71_5 4).toInt ≤ v71_8.toInt := h27432
        refine g_iload C dX11_right_138 3 rfl ?_
        exact ret _ _ _ _ _ _ dX11_right_140 rfl (by decide) (by decide) ⟨I71, X71, trivial⟩
      · have h27432 : v71_8.toInt < (pI P71 b71_5 4).toInt := h27432
        refine g_aload C dX11_right_81 2 rfl ?_
        refine g_aload C dX11_right_83 1 rfl ?_
        refine g_iload C dX11_right_85 4 rfl ?_
        refine g_callVV (rest := []) C mv_X11_236 [.ref b71_5, .int v71_8] (s_X0_take I71 hb71_6 hb71_5) (hb71_6).1 (hb71_6).2 rfl rfl (by decide) (Nat.le_of_ble_eq_true rfl) (by decide) dX11_right_87 (fun Y27434 h27435 => ?_)
        obtain ⟨Iy27436, Xy27437⟩ := h27435
        have q27438 := Xy27437.keep hb71_5 (by decide) 4
        have Xz27439 : EK [0, 5, 13] P Y27434 := X71.tr (Xy27437.mono (by decide))
        have h27440 := Xy27437.at h27426
        have h27441 := Xy27437.at hb71_5
        have h27442 := Xy27437.at hb71_6
        refine g_aload C dX11_right_90 2 rfl ?_
        refine g_getI C fi_X11_243 (by decide) (h27442).1 (h27442).2 dX11_right_92 ?_
        have h27443 := Iy27436.rg (h27442) 3 rfl
        refine b_if_eq C 132 dX11_right_95 (by decide) (fun h27444 => ?_) (fun h27444 => ?_)
        · have h27444 : (pI Y27434 b71_6 3).toInt = 0 := congrArg Int32.toInt h27444
          exact J132 Y27434 b71_5 b71_6 v71_7 Iy27436 Xz27439 (by omega) h27441 h27442 (by omega) (by omega) (by omega)
        · have h27444 : (pI Y27434 b71_6 3).toInt ≠ 0 := ti_ne h27444
          refine g_aload C dX11_right_98 2 rfl ?_
          refine g_iload C dX11_right_100 0 rfl ?_
          refine g_callVI (rest := []) C mv_X11_272 [.int a4] (s_X0_octetOf Iy27436 h27442) (h27442).1 (h27442).2 rfl rfl (by decide) (Nat.le_of_ble_eq_true rfl) (by decide) dX11_right_102 (fun r27445 Y27446 h27447 => ?_)
          obtain ⟨rfl, h27447⟩ := h27447
          have h27447 : True := h27447
          refine g_istore (lv' := [(9, .int r27445), (4, .int a4), (5, .ref b71_5), (6, .ref b71_6), (7, .int v71_7), (8, .int v71_8)]) C dX11_right_105 (by decide) rfl ?_
          refine g_iload C dX11_right_107 0 rfl ?_
          refine g_iconst (v := (-1)) C dX11_right_109 (by decide) ?_
          have u27449 := ti_rng r27445
          refine b_icmp_eq C 126 dX11_right_110 (by decide) (fun h27448 => ?_) (fun h27448 => ?_)
          · have h27448 : r27445.toInt = (-1) := congrArg Int32.toInt h27448
            refine g_lv (lv' := []) [] rfl ?_
            exact J126 Y27434 Iy27436 Xz27439
          · have h27448 : r27445.toInt ≠ (-1) := ti_ne h27448
            refine g_iload C dX11_right_113 4 rfl ?_
            refine g_iconst (v := (-1)) C dX11_right_115 (by decide) ?_
            have u27451 := ti_rng v71_7
            refine b_icmp_eq C 128 dX11_right_116 (by decide) (fun h27450 => ?_) (fun h27450 => ?_)
            · have h27450 : v71_7.toInt = (-1) := congrArg Int32.toInt h27450
              refine g_lv (lv' := [(4, .int a4), (5, .ref b71_5), (6, .ref b71_6), (8, .int v71_8), (9, .int r27445)]) [1, 2, 3, 5, 0] rfl ?_
              exact J128 Y27434 b71_5 b71_6 r27445 Iy27436 Xz27439 (by omega) h27441 h27442 (by omega) (by omega) (by omega)
            · have h27450 : v71_7.toInt ≠ (-1) := ti_ne h27450
              refine g_iload C dX11_right_119 4 rfl ?_
              refine g_iload C dX11_right_121 0 rfl ?_
              have u27453 := ti_rng v71_7
              have u27454 := ti_rng r27445
              refine b_icmp_eq C 128 dX11_right_123 (by decide) (fun h27452 => ?_) (fun h27452 => ?_)
              · have h27452 : v71_7.toInt = r27445.toInt := congrArg Int32.toInt h27452
                refine g_lv (lv' := [(4, .int a4), (5, .ref b71_5), (6, .ref b71_6), (8, .int v71_8), (9, .int r27445)]) [1, 2, 3, 5, 0] rfl ?_
                exact J128 Y27434 b71_5 b71_6 r27445 Iy27436 Xz27439 (by omega) h27441 h27442 (by omega) (by omega) (by omega)
              · have h27452 : v71_7.toInt ≠ r27445.toInt := ti_ne h27452
                refine g_lv (lv' := []) [] rfl ?_
                exact J126 Y27434 Iy27436 Xz27439
  have J24 : G E ({ frames := 4, cells := 0, slots := 0, locals := 256 } : Room) D cy 10 P 0 0 24 [] [] := by
    refine g_iconst (v := (-1)) C dX11_right_24 (by decide) ?_
    exact ret _ _ _ _ _ _ dX11_right_25 rfl (by decide) (by decide) ⟨I, EK.rf, trivial⟩
  refine g_iload_n C dX11_right_0 rfl 1 rfl ?_
  refine g_callSI (b := 0) (ci := 0) (rest := []) C ms_X11_158 [.int a1] (s_X11_isQuarter I) rfl rfl (by decide) (Nat.le_of_ble_eq_true rfl) (by decide) dX11_right_1 (fun r27455 Y27456 h27457 => ?_)
  obtain ⟨rfl, h27457⟩ := h27457
  obtain ⟨h27457, hi27458⟩ := h27457
  have hi27458 : r27455.toInt = 0 ∨ (((0 : Int) ≤ a1.toInt ∧ a1.toInt ≤ (3 : Int))) := hi27458
  have h27457 : 0 ≤ r27455.toInt ∧ r27455.toInt ≤ 1 := h27457
  refine b_if_eq C 24 dX11_right_4 (by decide) (fun h27459 => ?_) (fun h27459 => ?_)
  · have h27459 : r27455.toInt = 0 := congrArg Int32.toInt h27459
    clear hi27458
    refine g_lv (lv' := []) [] rfl ?_
    exact J24 
  · have h27459 : r27455.toInt ≠ 0 := ti_ne h27459
    replace hi27458 := hi27458.resolve_left (by omega)
    refine g_aload_n C dX11_right_7 rfl 0 rfl ?_
    refine g_iload_n C dX11_right_8 rfl 2 rfl ?_
    refine g_iload C dX11_right_9 4 rfl ?_
    refine g_callVI (rest := []) C mv_X11_155 [.int a2, .int a4] (s_X11_isPageOf I ha0) (ha0).1 (ha0).2 rfl rfl (by decide) (Nat.le_of_ble_eq_true rfl) (by decide) dX11_right_11 (fun r27460 Y27461 h27462 => ?_)
    obtain ⟨rfl, h27462⟩ := h27462
    obtain ⟨h27462, hi27463⟩ := h27462
    have hi27463 : r27460.toInt = 0 ∨ (((0 : Int) ≤ a2.toInt ∧ a2.toInt ≤ (1 : Int)) ∧ ((0 : Int) ≤ a4.toInt ∧ a4.toInt ≤ (19 : Int))) := hi27463
    have h27462 : 0 ≤ r27460.toInt ∧ r27460.toInt ≤ 1 := h27462
    refine b_if_eq C 24 dX11_right_14 (by decide) (fun h27464 => ?_) (fun h27464 => ?_)
    · have h27464 : r27460.toInt = 0 := congrArg Int32.toInt h27464
      clear hi27463
      refine g_lv (lv' := []) [] rfl ?_
      exact J24 
    · have h27464 : r27460.toInt ≠ 0 := ti_ne h27464
      replace hi27463 := hi27463.resolve_left (by omega)
      refine g_iload_n C dX11_right_17 rfl 3 rfl ?_
      refine g_callSI (b := 0) (ci := 0) (rest := []) C ms_X11_213 [.int a3] (s_X11_isOctet I) rfl rfl (by decide) (Nat.le_of_ble_eq_true rfl) (by decide) dX11_right_18 (fun r27465 Y27466 h27467 => ?_)
      obtain ⟨rfl, h27467⟩ := h27467
      obtain ⟨h27467, hi27468⟩ := h27467
      have hi27468 : r27465.toInt = 0 ∨ (((0 : Int) ≤ a3.toInt ∧ a3.toInt ≤ (1 : Int))) := hi27468
      have h27467 : 0 ≤ r27465.toInt ∧ r27465.toInt ≤ 1 := h27467
      refine b_if_ne C 26 dX11_right_21 (by decide) (fun h27469 => ?_) (fun h27469 => ?_)
      · have h27469 : r27465.toInt ≠ 0 := ti_ne h27469
        replace hi27468 := hi27468.resolve_left (by omega)
        refine g_aload_n C dX11_right_26 rfl 0 rfl ?_
        refine g_iload_n C dX11_right_27 rfl 1 rfl ?_
        refine g_iload_n C dX11_right_28 rfl 2 rfl ?_
        refine g_iload_n C dX11_right_29 rfl 3 rfl ?_
        refine g_callVQ (rest := []) C mv_X11_216 [.int a1, .int a2, .int a3] (s_X11_gather I ha0 (by omega) (by omega) (by omega)) (ha0).1 (ha0).2 rfl rfl (by decide) (Nat.le_of_ble_eq_true rfl) (by decide) dX11_right_30 (fun r27470 Y27471 h27472 => ?_)
        obtain ⟨Iy27473, Xy27474, h27472⟩ := h27472
        have Xz27475 : EK [0, 5, 13] P Y27471 := Xy27474.mono (by decide)
        have h27476 := Xy27474.at ha0
        obtain ⟨b27478, rfl, h27472⟩ := h27472
        show G _ _ _ _ _ _ _ _ _ _ (.ref b27478 :: _)
        refine g_astore (lv' := [(5, .ref b27478), (0, .ref a0), (1, .int a1), (2, .int a2), (3, .int a3), (4, .int a4)]) C dX11_right_33 (by decide) rfl ?_
        refine g_aload_n C dX11_right_35 rfl 1 rfl ?_
        obtain ⟨b27479, e27480, h27481⟩ := Iy27473.fld (h27476) 9 16 2 rfl
        refine g_getR C fi_X11_53 rfl e27480 (h27476).1 (h27476).2 dX11_right_36 ?_
        refine g_iconst (v := 0) C dX11_right_39 (by decide) ?_
        obtain ⟨b27482, e27483, h27484⟩ := Iy27473.elm h27481 (by decide) 0 (by decide)
        refine g_aldR C h27481.1 h27481.2.1 (by decide) (IX.litn (j := 0) h27481.2.2 rfl (by decide) (by decide)) e27483 dX11_right_40 ?_
        refine g_astore (lv' := [(6, .ref b27482), (5, .ref b27478), (0, .ref a0), (1, .int a1), (2, .int a2), (3, .int a3), (4, .int a4)]) C dX11_right_41 (by decide) rfl ?_
        refine g_aload C dX11_right_43 0 rfl ?_
        refine g_aload C dX11_right_45 1 rfl ?_
        refine g_iconst (v := (-1)) C dX11_right_47 (by decide) ?_
        refine g_callVV (rest := []) C mv_X11_236 [.ref b27478, .int (-1)] (s_X0_take Iy27473 h27484 h27472) (h27484).1 (h27484).2 rfl rfl (by decide) (Nat.le_of_ble_eq_true rfl) (by decide) dX11_right_48 (fun Y27486 h27487 => ?_)
        obtain ⟨Iy27488, Xy27489⟩ := h27487
        have Xz27490 : EK [0, 5, 13] P Y27486 := Xz27475.tr (Xy27489.mono (by decide))
        have h27491 := Xy27489.at h27476
        have h27492 := Xy27489.at h27472
        have h27493 := Xy27489.at h27484
        refine g_aload C dX11_right_51 0 rfl ?_
        refine g_getI C fi_X11_243 (by decide) (h27493).1 (h27493).2 dX11_right_53 ?_
        have h27494 := Iy27488.rg (h27493) 3 rfl
        refine b_if_eq C 61 dX11_right_56 (by decide) (fun h27495 => ?_) (fun h27495 => ?_)
        · have h27495 : (pI Y27486 b27482 3).toInt = 0 := congrArg Int32.toInt h27495
          refine g_iconst (v := (-1)) C dX11_right_61 (by decide) ?_
          refine g_istore (lv' := [(7, .int (-1)), (6, .ref b27482), (5, .ref b27478), (0, .ref a0), (1, .int a1), (2, .int a2), (3, .int a3), (4, .int a4)]) C dX11_right_62 (by decide) rfl ?_
          refine g_aload C dX11_right_64 2 rfl ?_
          refine g_getI C fi_X11_263 (by decide) (h27492).1 (h27492).2 dX11_right_66 ?_
          have h27496 := Iy27488.rg (h27492) 5 rfl
          refine g_topi (fun z27497 h27498 => ?_)
          have h27498 : z27497.toInt = (pI Y27486 b27478 5).toInt := congrArg Int32.toInt h27498
          refine g_istore (lv' := [(8, .int z27497), (7, .int (-1)), (6, .ref b27482), (5, .ref b27478), (0, .ref a0), (1, .int a1), (2, .int a2), (3, .int a3), (4, .int a4)]) C dX11_right_69 (by decide) rfl ?_
          refine g_lv (lv' := [(4, .int a4), (5, .ref b27478), (6, .ref b27482), (7, .int (-1)), (8, .int z27497)]) [8, 3, 2, 1, 0] rfl ?_
          exact J71 _ Y27486 b27478 b27482 (-1) z27497 (Nat.lt_succ_self _) Iy27488 Xz27490 (by omega) h27492 h27493 (by omega)
        · have h27495 : (pI Y27486 b27482 3).toInt ≠ 0 := ti_ne h27495
          refine g_iconst (v := (-1)) C dX11_right_59 (by decide) ?_
          exact ret _ _ _ _ _ _ dX11_right_60 rfl (by decide) (by decide) ⟨Iy27488, Xz27490, trivial⟩
      · have h27469 : r27465.toInt = 0 := congrArg Int32.toInt h27469
        clear hi27468
        refine g_lv (lv' := []) [] rfl ?_
        exact J24 
theorem dX11_scatter_0 : decode cX11_scatter 0 = .ok (.aload_n 0, 1) := by decide +kernel
theorem dX11_scatter_1 : decode cX11_scatter 1 = .ok (.iload_n 1, 1) := by decide +kernel
theorem dX11_scatter_2 : decode cX11_scatter 2 = .ok (.iload_n 2, 1) := by decide +kernel
theorem dX11_scatter_3 : decode cX11_scatter 3 = .ok (.invokevirtual 136, 3) := by decide +kernel
theorem dX11_scatter_6 : decode cX11_scatter 6 = .ok (.ifCond .eq 23, 3) := by decide +kernel
theorem dX11_scatter_9 : decode cX11_scatter 9 = .ok (.iload_n 3, 1) := by decide +kernel
theorem dX11_scatter_10 : decode cX11_scatter 10 = .ok (.invokestatic 173, 3) := by decide +kernel
theorem dX11_scatter_13 : decode cX11_scatter 13 = .ok (.ifCond .eq 16, 3) := by decide +kernel
theorem dX11_scatter_16 : decode cX11_scatter 16 = .ok (.iload_n 3, 1) := by decide +kernel
theorem dX11_scatter_17 : decode cX11_scatter 17 = .ok (.iload_n 2, 1) := by decide +kernel
theorem dX11_scatter_18 : decode cX11_scatter 18 = .ok (.if_icmp .lt 11, 3) := by decide +kernel
theorem dX11_scatter_21 : decode cX11_scatter 21 = .ok (.iload_n 3, 1) := by decide +kernel
theorem dX11_scatter_22 : decode cX11_scatter 22 = .ok (.iload_n 2, 1) := by decide +kernel
theorem dX11_scatter_23 : decode cX11_scatter 23 = .ok (.isub, 1) := by decide +kernel
theorem dX11_scatter_24 : decode cX11_scatter 24 = .ok (.bipush 100, 2) := by decide +kernel
theorem dX11_scatter_26 : decode cX11_scatter 26 = .ok (.if_icmp .lt 5, 3) := by decide +kernel
theorem dX11_scatter_29 : decode cX11_scatter 29 = .ok (.iconst (-1), 1) := by decide +kernel
theorem dX11_scatter_30 : decode cX11_scatter 30 = .ok (.ireturn, 1) := by decide +kernel
theorem dX11_scatter_31 : decode cX11_scatter 31 = .ok (.iconst 0, 1) := by decide +kernel
theorem dX11_scatter_32 : decode cX11_scatter 32 = .ok (.istore 4, 2) := by decide +kernel
theorem dX11_scatter_34 : decode cX11_scatter 34 = .ok (.iload_n 2, 1) := by decide +kernel
theorem dX11_scatter_35 : decode cX11_scatter 35 = .ok (.istore 5, 2) := by decide +kernel
theorem dX11_scatter_37 : decode cX11_scatter 37 = .ok (.iload 5, 2) := by decide +kernel
theorem dX11_scatter_39 : decode cX11_scatter 39 = .ok (.iload_n 3, 1) := by decide +kernel
theorem dX11_scatter_40 : decode cX11_scatter 40 = .ok (.if_icmp .gt 33, 3) := by decide +kernel
theorem dX11_scatter_43 : decode cX11_scatter 43 = .ok (.aload_n 0, 1) := by decide +kernel
theorem dX11_scatter_44 : decode cX11_scatter 44 = .ok (.invokevirtual 319, 3) := by decide +kernel
theorem dX11_scatter_47 : decode cX11_scatter 47 = .ok (.ifCond .eq 20, 3) := by decide +kernel
theorem dX11_scatter_50 : decode cX11_scatter 50 = .ok (.iload 4, 2) := by decide +kernel
theorem dX11_scatter_52 : decode cX11_scatter 52 = .ok (.aload_n 0, 1) := by decide +kernel
theorem dX11_scatter_53 : decode cX11_scatter 53 = .ok (.aload_n 0, 1) := by decide +kernel
theorem dX11_scatter_54 : decode cX11_scatter 54 = .ok (.getfield 11, 3) := by decide +kernel
theorem dX11_scatter_57 : decode cX11_scatter 57 = .ok (.iload_n 1, 1) := by decide +kernel
theorem dX11_scatter_58 : decode cX11_scatter 58 = .ok (.aaload, 1) := by decide +kernel
theorem dX11_scatter_59 : decode cX11_scatter 59 = .ok (.iload 5, 2) := by decide +kernel
theorem dX11_scatter_61 : decode cX11_scatter 61 = .ok (.invokevirtual 323, 3) := by decide +kernel
theorem dX11_scatter_73 : decode cX11_scatter 73 = .ok (.iload 4, 2) := by decide +kernel
theorem dX11_scatter_75 : decode cX11_scatter 75 = .ok (.ireturn, 1) := by decide +kernel
theorem dX11_throwOne_0 : decode cX11_throwOne 0 = .ok (.aload_n 1, 1) := by decide +kernel
theorem dX11_throwOne_1 : decode cX11_throwOne 1 = .ok (.iload_n 2, 1) := by decide +kernel
theorem dX11_throwOne_2 : decode cX11_throwOne 2 = .ok (.iconst 3, 1) := by decide +kernel
theorem dX11_throwOne_3 : decode cX11_throwOne 3 = .ok (.invokevirtual 161, 3) := by decide +kernel
theorem dX11_throwOne_6 : decode cX11_throwOne 6 = .ok (.astore_n 3, 1) := by decide +kernel
theorem dX11_throwOne_7 : decode cX11_throwOne 7 = .ok (.iconst 0, 1) := by decide +kernel
theorem dX11_throwOne_8 : decode cX11_throwOne 8 = .ok (.istore 4, 2) := by decide +kernel
theorem dX11_throwOne_10 : decode cX11_throwOne 10 = .ok (.iconst 0, 1) := by decide +kernel
theorem dX11_throwOne_11 : decode cX11_throwOne 11 = .ok (.istore 5, 2) := by decide +kernel
theorem dX11_throwOne_13 : decode cX11_throwOne 13 = .ok (.iload 5, 2) := by decide +kernel
theorem dX11_throwOne_15 : decode cX11_throwOne 15 = .ok (.iconst 4, 1) := by decide +kernel
theorem dX11_throwOne_16 : decode cX11_throwOne 16 = .ok (.if_icmp .ge 52, 3) := by decide +kernel
theorem dX11_throwOne_19 : decode cX11_throwOne 19 = .ok (.aload_n 0, 1) := by decide +kernel
theorem dX11_throwOne_20 : decode cX11_throwOne 20 = .ok (.aload_n 1, 1) := by decide +kernel
theorem dX11_throwOne_21 : decode cX11_throwOne 21 = .ok (.iload_n 2, 1) := by decide +kernel
theorem dX11_throwOne_22 : decode cX11_throwOne 22 = .ok (.iload 5, 2) := by decide +kernel
theorem dX11_throwOne_24 : decode cX11_throwOne 24 = .ok (.invokevirtual 397, 3) := by decide +kernel
theorem dX11_throwOne_27 : decode cX11_throwOne 27 = .ok (.ifCond .eq 35, 3) := by decide +kernel
theorem dX11_throwOne_30 : decode cX11_throwOne 30 = .ok (.aload_n 0, 1) := by decide +kernel
theorem dX11_throwOne_31 : decode cX11_throwOne 31 = .ok (.getfield 17, 3) := by decide +kernel
theorem dX11_throwOne_34 : decode cX11_throwOne 34 = .ok (.iload 5, 2) := by decide +kernel
theorem dX11_throwOne_36 : decode cX11_throwOne 36 = .ok (.aaload, 1) := by decide +kernel
theorem dX11_throwOne_37 : decode cX11_throwOne 37 = .ok (.aload_n 3, 1) := by decide +kernel
theorem dX11_throwOne_38 : decode cX11_throwOne 38 = .ok (.invokevirtual 341, 3) := by decide +kernel
theorem dX6_hasAlike_0 : decode cX6_hasAlike 0 = .ok (.iconst 0, 1) := by decide +kernel
theorem dX6_hasAlike_1 : decode cX6_hasAlike 1 = .ok (.istore_n 2, 1) := by decide +kernel
theorem dX6_hasAlike_2 : decode cX6_hasAlike 2 = .ok (.iload_n 2, 1) := by decide +kernel
theorem dX6_hasAlike_3 : decode cX6_hasAlike 3 = .ok (.aload_n 0, 1) := by decide +kernel
theorem dX6_hasAlike_4 : decode cX6_hasAlike 4 = .ok (.getfield 17, 3) := by decide +kernel
theorem dX6_hasAlike_7 : decode cX6_hasAlike 7 = .ok (.if_icmp .ge 30, 3) := by decide +kernel
theorem dX6_hasAlike_10 : decode cX6_hasAlike 10 = .ok (.aload_n 0, 1) := by decide +kernel
theorem dX6_hasAlike_11 : decode cX6_hasAlike 11 = .ok (.getfield 11, 3) := by decide +kernel
theorem dX6_hasAlike_14 : decode cX6_hasAlike 14 = .ok (.iload_n 2, 1) := by decide +kernel
theorem dX6_hasAlike_15 : decode cX6_hasAlike 15 = .ok (.aaload, 1) := by decide +kernel
theorem dX6_hasAlike_16 : decode cX6_hasAlike 16 = .ok (.astore_n 3, 1) := by decide +kernel
theorem dX6_hasAlike_17 : decode cX6_hasAlike 17 = .ok (.aload_n 3, 1) := by decide +kernel
theorem dX6_hasAlike_18 : decode cX6_hasAlike 18 = .ok (.ifnull 13, 3) := by decide +kernel
theorem dX6_hasAlike_21 : decode cX6_hasAlike 21 = .ok (.aload_n 3, 1) := by decide +kernel
theorem dX6_hasAlike_22 : decode cX6_hasAlike 22 = .ok (.aload_n 1, 1) := by decide +kernel
theorem dX6_hasAlike_23 : decode cX6_hasAlike 23 = .ok (.invokevirtual 28, 3) := by decide +kernel
theorem dX6_hasAlike_37 : decode cX6_hasAlike 37 = .ok (.iconst 0, 1) := by decide +kernel
theorem dX6_hasAlike_38 : decode cX6_hasAlike 38 = .ok (.ireturn, 1) := by decide +kernel
theorem dX7_isAlike_0 : decode cX7_isAlike 0 = .ok (.aload_n 0, 1) := by decide +kernel
theorem dX7_isAlike_1 : decode cX7_isAlike 1 = .ok (.getfield 9, 3) := by decide +kernel
theorem dX7_isAlike_4 : decode cX7_isAlike 4 = .ok (.aload_n 1, 1) := by decide +kernel
theorem dX7_isAlike_5 : decode cX7_isAlike 5 = .ok (.getfield 9, 3) := by decide +kernel
theorem dX7_isAlike_8 : decode cX7_isAlike 8 = .ok (.if_icmp .ne 51, 3) := by decide +kernel
theorem dX7_isAlike_11 : decode cX7_isAlike 11 = .ok (.aload_n 0, 1) := by decide +kernel
theorem dX7_isAlike_12 : decode cX7_isAlike 12 = .ok (.getfield 15, 3) := by decide +kernel
theorem dX7_isAlike_15 : decode cX7_isAlike 15 = .ok (.aload_n 1, 1) := by decide +kernel
theorem dX7_isAlike_16 : decode cX7_isAlike 16 = .ok (.getfield 15, 3) := by decide +kernel
theorem dX7_isAlike_19 : decode cX7_isAlike 19 = .ok (.if_icmp .ne 40, 3) := by decide +kernel
theorem dX7_isAlike_22 : decode cX7_isAlike 22 = .ok (.aload_n 0, 1) := by decide +kernel
theorem dX7_isAlike_23 : decode cX7_isAlike 23 = .ok (.getfield 18, 3) := by decide +kernel
theorem dX7_isAlike_26 : decode cX7_isAlike 26 = .ok (.aload_n 1, 1) := by decide +kernel
theorem dX7_isAlike_27 : decode cX7_isAlike 27 = .ok (.getfield 18, 3) := by decide +kernel
theorem dX7_isAlike_30 : decode cX7_isAlike 30 = .ok (.if_icmp .ne 29, 3) := by decide +kernel
theorem dX7_isAlike_33 : decode cX7_isAlike 33 = .ok (.aload_n 0, 1) := by decide +kernel
theorem dX7_isAlike_34 : decode cX7_isAlike 34 = .ok (.getfield 21, 3) := by decide +kernel
theorem dX7_isAlike_37 : decode cX7_isAlike 37 = .ok (.aload_n 1, 1) := by decide +kernel
theorem dX7_isAlike_38 : decode cX7_isAlike 38 = .ok (.getfield 21, 3) := by decide +kernel
theorem dX7_isAlike_41 : decode cX7_isAlike 41 = .ok (.if_icmp .ne 18, 3) := by decide +kernel
theorem dX7_isAlike_44 : decode cX7_isAlike 44 = .ok (.aload_n 0, 1) := by decide +kernel
theorem dX7_isAlike_45 : decode cX7_isAlike 45 = .ok (.getfield 24, 3) := by decide +kernel
theorem dX7_isAlike_48 : decode cX7_isAlike 48 = .ok (.aload_n 1, 1) := by decide +kernel
theorem dX7_isAlike_49 : decode cX7_isAlike 49 = .ok (.getfield 24, 3) := by decide +kernel
theorem dX7_isAlike_52 : decode cX7_isAlike 52 = .ok (.if_icmp .ne 7, 3) := by decide +kernel
theorem dX7_isAlike_55 : decode cX7_isAlike 55 = .ok (.iconst 1, 1) := by decide +kernel
theorem dX7_isAlike_56 : decode cX7_isAlike 56 = .ok (.goto 4, 3) := by decide +kernel
theorem dX7_isAlike_59 : decode cX7_isAlike 59 = .ok (.iconst 0, 1) := by decide +kernel
theorem dX7_isAlike_60 : decode cX7_isAlike 60 = .ok (.ireturn, 1) := by decide +kernel
set_option maxHeartbeats 4000000 in
set_option maxRecDepth 100000 in
theorem s_X7_isAlike {P : PP} {a0 : Nat} {a1 : Nat} (I : IV P) (ha0 : At P a0 7) (ha1 : At P a1 7) : CtrI yX7_isAlike cX7_isAlike 2 (some Jvm.ClassFile.FieldType.boolean) ({ frames := 1, cells := 0, slots := 0, locals := 64 } : Room) 0 0 P [.ref a0, .ref a1] (fun r P2 => P = P2 ∧ (0 ≤ r.toInt ∧ r.toInt ≤ 1)) := by
  refine enI (lv := [(0, .ref a0), (1, .ref a1)]) (by decide) (Nat.le_of_ble_eq_true rfl) rfl (fun E D cy C Ci0 ret => ?_)
  have J59 : G E ({ frames := 1, cells := 0, slots := 0, locals := 64 } : Room) D cy 2 P 0 0 59 [] [] := by
    refine g_iconst (v := 0) C dX7_isAlike_59 (by decide) ?_
    exact ret _ _ _ _ _ _ dX7_isAlike_60 rfl (by decide) (by decide) ⟨rfl, (by decide)⟩
  refine g_aload_n C dX7_isAlike_0 rfl 0 rfl ?_
  refine g_getI C fi_X7_9 (by decide) (ha0).1 (ha0).2 dX7_isAlike_1 ?_
  have h27570 := I.rg (ha0) 0 rfl
  refine g_aload_n C dX7_isAlike_4 rfl 1 rfl ?_
  refine g_getI C fi_X7_9 (by decide) (ha1).1 (ha1).2 dX7_isAlike_5 ?_
  have h27571 := I.rg (ha1) 0 rfl
  refine b_icmp_ne C 59 dX7_isAlike_8 (by decide) (fun h27572 => ?_) (fun h27572 => ?_)
  · have h27572 : (pI P a0 0).toInt ≠ (pI P a1 0).toInt := ti_ne h27572
    refine g_lv (lv' := []) [] rfl ?_
    exact J59 
  · have h27572 : (pI P a0 0).toInt = (pI P a1 0).toInt := congrArg Int32.toInt h27572
    refine g_aload_n C dX7_isAlike_11 rfl 0 rfl ?_
    refine g_getI C fi_X7_15 (by decide) (ha0).1 (ha0).2 dX7_isAlike_12 ?_
    refine g_aload_n C dX7_isAlike_15 rfl 1 rfl ?_
    refine g_getI C fi_X7_15 (by decide) (ha1).1 (ha1).2 dX7_isAlike_16 ?_
    have u27574 := ti_rng (pI P a0 1)
    have u27575 := ti_rng (pI P a1 1)
    refine b_icmp_ne C 59 dX7_isAlike_19 (by decide) (fun h27573 => ?_) (fun h27573 => ?_)
    · have h27573 : (pI P a0 1).toInt ≠ (pI P a1 1).toInt := ti_ne h27573
      refine g_lv (lv' := []) [] rfl ?_
      exact J59 
    · have h27573 : (pI P a0 1).toInt = (pI P a1 1).toInt := congrArg Int32.toInt h27573
      refine g_aload_n C dX7_isAlike_22 rfl 0 rfl ?_
      refine g_getI C fi_X7_18 (by decide) (ha0).1 (ha0).2 dX7_isAlike_23 ?_
      refine g_aload_n C dX7_isAlike_26 rfl 1 rfl ?_
      refine g_getI C fi_X7_18 (by decide) (ha1).1 (ha1).2 dX7_isAlike_27 ?_
      have u27577 := ti_rng (pI P a0 2)
      have u27578 := ti_rng (pI P a1 2)
      refine b_icmp_ne C 59 dX7_isAlike_30 (by decide) (fun h27576 => ?_) (fun h27576 => ?_)
      · have h27576 : (pI P a0 2).toInt ≠ (pI P a1 2).toInt := ti_ne h27576
        refine g_lv (lv' := []) [] rfl ?_
        exact J59 
      · have h27576 : (pI P a0 2).toInt = (pI P a1 2).toInt := congrArg Int32.toInt h27576
        refine g_aload_n C dX7_isAlike_33 rfl 0 rfl ?_
        refine g_getI C fi_X7_21 (by decide) (ha0).1 (ha0).2 dX7_isAlike_34 ?_
        refine g_aload_n C dX7_isAlike_37 rfl 1 rfl ?_
        refine g_getI C fi_X7_21 (by decide) (ha1).1 (ha1).2 dX7_isAlike_38 ?_
        have u27580 := ti_rng (pI P a0 3)
        have u27581 := ti_rng (pI P a1 3)
        refine b_icmp_ne C 59 dX7_isAlike_41 (by decide) (fun h27579 => ?_) (fun h27579 => ?_)
        · have h27579 : (pI P a0 3).toInt ≠ (pI P a1 3).toInt := ti_ne h27579
          refine g_lv (lv' := []) [] rfl ?_
          exact J59 
        · have h27579 : (pI P a0 3).toInt = (pI P a1 3).toInt := congrArg Int32.toInt h27579
          refine g_aload_n C dX7_isAlike_44 rfl 0 rfl ?_
          refine g_getI C fi_X7_24 (by decide) (ha0).1 (ha0).2 dX7_isAlike_45 ?_
          refine g_aload_n C dX7_isAlike_48 rfl 1 rfl ?_
          refine g_getI C fi_X7_24 (by decide) (ha1).1 (ha1).2 dX7_isAlike_49 ?_
          have u27583 := ti_rng (pI P a0 4)
          have u27584 := ti_rng (pI P a1 4)
          refine b_icmp_ne C 59 dX7_isAlike_52 (by decide) (fun h27582 => ?_) (fun h27582 => ?_)
          · have h27582 : (pI P a0 4).toInt ≠ (pI P a1 4).toInt := ti_ne h27582
            refine g_lv (lv' := []) [] rfl ?_
            exact J59 
          · have h27582 : (pI P a0 4).toInt = (pI P a1 4).toInt := congrArg Int32.toInt h27582
            refine g_iconst (v := 1) C dX7_isAlike_55 (by decide) ?_
            refine g_goto C 60 dX7_isAlike_56 (by decide) ?_
            exact ret _ _ _ _ _ _ dX7_isAlike_60 rfl (by decide) (by decide) ⟨rfl, (by decide)⟩
theorem dX6_hasAlike_26 : decode cX6_hasAlike 26 = .ok (.ifCond .eq 5, 3) := by decide +kernel
theorem dX6_hasAlike_29 : decode cX6_hasAlike 29 = .ok (.iconst 1, 1) := by decide +kernel
theorem dX6_hasAlike_30 : decode cX6_hasAlike 30 = .ok (.ireturn, 1) := by decide +kernel
theorem dX6_hasAlike_31 : decode cX6_hasAlike 31 = .ok (.iinc 2 1, 3) := by decide +kernel
theorem dX6_hasAlike_34 : decode cX6_hasAlike 34 = .ok (.goto (-32), 3) := by decide +kernel
set_option maxHeartbeats 4000000 in
set_option maxRecDepth 100000 in
theorem s_X6_hasAlike {P : PP} {a0 : Nat} {a1 : Nat} (I : IV P) (ha0 : At P a0 6) (ha1 : At P a1 7) : CtrI yX6_hasAlike cX6_hasAlike 4 (some Jvm.ClassFile.FieldType.boolean) ({ frames := 2, cells := 0, slots := 0, locals := 128 } : Room) 0 0 P [.ref a0, .ref a1] (fun r P2 => P = P2 ∧ (0 ≤ r.toInt ∧ r.toInt ≤ 1)) := by
  refine enI (lv := [(0, .ref a0), (1, .ref a1)]) (by decide) (Nat.le_of_ble_eq_true rfl) rfl (fun E D cy C Ci0 ret => ?_)
  have J2 : ∀ (n2 : Nat) (v2_2 : Int32), (40 - v2_2.toInt).toNat < n2 → (0 ≤ v2_2.toInt ∧ v2_2.toInt ≤ 40) → G E ({ frames := 2, cells := 0, slots := 0, locals := 128 } : Room) D cy 4 P 0 0 2 [(0, .ref a0), (1, .ref a1), (2, .int v2_2)] [] := by
    intro n2
    induction n2 with
    | zero => intro v2_2 hm2 hv2_2; omega
    | succ n2 ih2 =>
      intro v2_2 hm2 hv2_2
      have J31 : (0 ≤ v2_2.toInt ∧ v2_2.toInt ≤ 39) → (1 ≤ (pI P a0 1).toInt ∧ (pI P a0 1).toInt ≤ 40) → G E ({ frames := 2, cells := 0, slots := 0, locals := 128 } : Room) D cy 4 P 0 0 31 [(0, .ref a0), (1, .ref a1), (2, .int v2_2)] [] := by
        intro hv31_2 hq31_0
        refine s_iinc (lv0 := [(0, .ref a0), (1, .ref a1)]) (m := 1) C dX6_hasAlike_31 2 rfl (by decide) rfl (by decide) (by omega) (fun z27795 h27796 => ?_)
        have h27796 : z27795.toInt = v2_2.toInt + 1 := h27796
        refine g_goto C 2 dX6_hasAlike_34 (by decide) ?_
        refine g_lv (lv' := [(0, .ref a0), (1, .ref a1), (2, .int z27795)]) [1, 2, 0] rfl ?_
        exact ih2 z27795 (by omega) (by omega)
      refine g_iload_n C dX6_hasAlike_2 rfl 2 rfl ?_
      refine g_aload_n C dX6_hasAlike_3 rfl 0 rfl ?_
      refine g_getI C fi_X6_17 (by decide) (ha0).1 (ha0).2 dX6_hasAlike_4 ?_
      have h27797 := I.rg (ha0) 1 rfl
      refine b_icmp_ge C 37 dX6_hasAlike_7 (by decide) (fun h27798 => ?_) (fun h27798 => ?_)
      · have h27798 : (pI P a0 1).toInt ≤ v2_2.toInt := h27798
        refine g_iconst (v := 0) C dX6_hasAlike_37 (by decide) ?_
        exact ret _ _ _ _ _ _ dX6_hasAlike_38 rfl (by decide) (by decide) ⟨rfl, (by decide)⟩
      · have h27798 : v2_2.toInt < (pI P a0 1).toInt := h27798
        refine g_aload_n C dX6_hasAlike_10 rfl 0 rfl ?_
        obtain ⟨b27799, e27800, h27801⟩ := I.fld (ha0) 0 20 40 rfl
        refine g_getR C fi_X6_11 rfl e27800 (ha0).1 (ha0).2 dX6_hasAlike_11 ?_
        refine g_iload_n C dX6_hasAlike_14 rfl 2 rfl ?_
        refine g_aldQ (j := (v2_2.toInt.toNat)) C h27801.1 h27801.2.1 (by decide) (ix_in h27801.2.2 (by omega)) dX6_hasAlike_15 ?_
        rcases I.pap h27801 (v2_2.toInt.toNat) with e27803 | ⟨b27802, e27803, h27804⟩
        · rw [e27803]
          show G _ _ _ _ _ _ _ _ _ _ (.null :: _)
          refine g_astore_nN (lv' := [(3, .null), (0, .ref a0), (1, .ref a1), (2, .int v2_2)]) C dX6_hasAlike_16 rfl (by decide) rfl ?_
          refine g_aload_nN C dX6_hasAlike_17 rfl 0 rfl ?_
          refine g_ifnullN C 31 dX6_hasAlike_18 (by decide) ?_
          refine g_lv (lv' := [(0, .ref a0), (1, .ref a1), (2, .int v2_2)]) [1, 2, 3] rfl ?_
          exact J31 (by omega) (by omega)
        · rw [e27803]
          show G _ _ _ _ _ _ _ _ _ _ (.ref b27802 :: _)
          refine g_astore_n (lv' := [(3, .ref b27802), (0, .ref a0), (1, .ref a1), (2, .int v2_2)]) C dX6_hasAlike_16 rfl (by decide) rfl ?_
          refine g_aload_n C dX6_hasAlike_17 rfl 0 rfl ?_
          refine g_ifnull C dX6_hasAlike_18 ?_
          refine g_aload_n C dX6_hasAlike_21 rfl 0 rfl ?_
          refine g_aload_n C dX6_hasAlike_22 rfl 2 rfl ?_
          refine g_callVI (rest := []) C mv_X6_28 [.ref a1] (s_X7_isAlike I h27804 ha1) (h27804).1 (h27804).2 rfl rfl (by decide) (Nat.le_of_ble_eq_true rfl) (by decide) dX6_hasAlike_23 (fun r27805 Y27806 h27807 => ?_)
          obtain ⟨rfl, h27807⟩ := h27807
          have h27807 : 0 ≤ r27805.toInt ∧ r27805.toInt ≤ 1 := h27807
          refine b_if_eq C 31 dX6_hasAlike_26 (by decide) (fun h27808 => ?_) (fun h27808 => ?_)
          · have h27808 : r27805.toInt = 0 := congrArg Int32.toInt h27808
            refine g_lv (lv' := [(0, .ref a0), (1, .ref a1), (2, .int v2_2)]) [1, 2, 3] rfl ?_
            exact J31 (by omega) (by omega)
          · have h27808 : r27805.toInt ≠ 0 := ti_ne h27808
            refine g_iconst (v := 1) C dX6_hasAlike_29 (by decide) ?_
            exact ret _ _ _ _ _ _ dX6_hasAlike_30 rfl (by decide) (by decide) ⟨rfl, (by decide)⟩
  refine g_iconst (v := 0) C dX6_hasAlike_0 (by decide) ?_
  refine g_istore_n (lv' := [(2, .int 0), (0, .ref a0), (1, .ref a1)]) C dX6_hasAlike_1 rfl (by decide) rfl ?_
  refine g_lv (lv' := [(0, .ref a0), (1, .ref a1), (2, .int 0)]) [1, 2, 0] rfl ?_
  exact J2 _ 0 (Nat.lt_succ_self _) (by decide)
theorem dX11_throwOne_41 : decode cX11_throwOne 41 = .ok (.ifCond .ne 21, 3) := by decide +kernel
theorem dX11_throwOne_44 : decode cX11_throwOne 44 = .ok (.aload_n 0, 1) := by decide +kernel
theorem dX11_throwOne_45 : decode cX11_throwOne 45 = .ok (.getfield 17, 3) := by decide +kernel
theorem dX11_throwOne_48 : decode cX11_throwOne 48 = .ok (.iload 5, 2) := by decide +kernel
theorem dX11_throwOne_50 : decode cX11_throwOne 50 = .ok (.aaload, 1) := by decide +kernel
theorem dX11_throwOne_51 : decode cX11_throwOne 51 = .ok (.aload_n 3, 1) := by decide +kernel
theorem dX11_throwOne_52 : decode cX11_throwOne 52 = .ok (.invokevirtual 165, 3) := by decide +kernel
theorem dX11_throwOne_55 : decode cX11_throwOne 55 = .ok (.iconst (-1), 1) := by decide +kernel
theorem dX11_throwOne_56 : decode cX11_throwOne 56 = .ok (.if_icmp .eq 6, 3) := by decide +kernel
theorem dX11_throwOne_59 : decode cX11_throwOne 59 = .ok (.iinc 4 1, 3) := by decide +kernel
theorem dX11_throwOne_62 : decode cX11_throwOne 62 = .ok (.iinc 5 1, 3) := by decide +kernel
theorem dX11_throwOne_65 : decode cX11_throwOne 65 = .ok (.goto (-52), 3) := by decide +kernel
theorem dX11_throwOne_68 : decode cX11_throwOne 68 = .ok (.iload 4, 2) := by decide +kernel
theorem dX11_throwOne_70 : decode cX11_throwOne 70 = .ok (.ireturn, 1) := by decide +kernel
set_option maxHeartbeats 4000000 in
set_option maxRecDepth 100000 in
theorem s_X11_throwOne {P : PP} {a0 : Nat} {a1 : Nat} {a2 : Int32} (I : IV P) (ha0 : At P a0 11) (ha1 : At P a1 1) : CtrI yX11_throwOne cX11_throwOne 6 (some Jvm.ClassFile.FieldType.int) ({ frames := 6, cells := 1, slots := 7, locals := 384 } : Room) 1 7 P [.ref a0, .ref a1, .int a2] (fun r P2 => IV P2 ∧ EK [1, 6, 7, 13] P P2 ∧ (True)) := by
  refine enI (lv := [(0, .ref a0), (1, .ref a1), (2, .int a2)]) (by decide) (Nat.le_of_ble_eq_true rfl) rfl (fun E D cy C Ci0 ret => ?_)
  have J13 : ∀ (n13 : Nat) (P13 : PP) (b13_3 : Nat) (v13_4 : Int32) (v13_5 : Int32), (4 - v13_5.toInt).toNat < n13 → (IV P13) → (EK [1, 6, 7, 13] P P13) → (At P13 b13_3 7) → (0 ≤ v13_5.toInt ∧ v13_5.toInt ≤ 4) → G E ({ frames := 6, cells := 1, slots := 7, locals := 384 } : Room) D cy 6 P13 1 7 13 [(0, .ref a0), (1, .ref a1), (2, .int a2), (3, .ref b13_3), (4, .int v13_4), (5, .int v13_5)] [] := by
    intro n13
    induction n13 with
    | zero => intro P13 b13_3 v13_4 v13_5 hm13 I13 X13 hb13_3 hv13_5; omega
    | succ n13 ih13 =>
      intro P13 b13_3 v13_4 v13_5 hm13 I13 X13 hb13_3 hv13_5
      have h29003 := X13.at ha0
      have h29004 := X13.at ha1
      have J62 : ∀ (P62 : PP) (b62_3 : Nat) (v62_4 : Int32), (IV P62) → (EK [1, 6, 7, 13] P P62) → (At P62 b62_3 7) → (0 ≤ v13_5.toInt ∧ v13_5.toInt ≤ 3) → G E ({ frames := 6, cells := 1, slots := 7, locals := 384 } : Room) D cy 6 P62 1 7 62 [(0, .ref a0), (1, .ref a1), (2, .int a2), (3, .ref b62_3), (4, .int v62_4), (5, .int v13_5)] [] := by
        intro P62 b62_3 v62_4 I62 X62 hb62_3 hv62_5
        have h29005 := X62.at ha0
        have h29006 := X62.at ha1
        refine s_iinc (lv0 := [(0, .ref a0), (1, .ref a1), (2, .int a2), (3, .ref b62_3), (4, .int v62_4)]) (m := 1) C dX11_throwOne_62 5 rfl (by decide) rfl (by decide) (by omega) (fun z29007 h29008 => ?_)
        have h29008 : z29007.toInt = v13_5.toInt + 1 := h29008
        refine g_goto C 13 dX11_throwOne_65 (by decide) ?_
        refine g_lv (lv' := [(0, .ref a0), (1, .ref a1), (2, .int a2), (3, .ref b62_3), (4, .int v62_4), (5, .int z29007)]) [1, 2, 3, 4, 5, 0] rfl ?_
        exact ih13 P62 b62_3 v62_4 z29007 (by omega) I62 X62 hb62_3 (by omega)
      refine g_iload C dX11_throwOne_13 5 rfl ?_
      refine g_iconst (v := 4) C dX11_throwOne_15 (by decide) ?_
      refine b_icmp_ge C 68 dX11_throwOne_16 (by decide) (fun h29009 => ?_) (fun h29009 => ?_)
      · have h29009 : 4 ≤ v13_5.toInt := h29009
        refine g_iload C dX11_throwOne_68 4 rfl ?_
        exact ret _ _ _ _ _ _ dX11_throwOne_70 rfl (by decide) (by decide) ⟨I13, X13, trivial⟩
      · have h29009 : v13_5.toInt < 4 := h29009
        refine g_aload_n C dX11_throwOne_19 rfl 0 rfl ?_
        refine g_aload_n C dX11_throwOne_20 rfl 1 rfl ?_
        refine g_iload_n C dX11_throwOne_21 rfl 2 rfl ?_
        refine g_iload C dX11_throwOne_22 5 rfl ?_
        refine g_callVI (rest := []) C mv_X11_397 [.ref a1, .int a2, .int v13_5] (s_X11_falls I13 h29003 h29004 (by omega)) (h29003).1 (h29003).2 rfl rfl (by decide) (Nat.le_of_ble_eq_true rfl) (by decide) dX11_throwOne_24 (fun r29010 Y29011 h29012 => ?_)
        obtain ⟨rfl, h29012⟩ := h29012
        have h29012 : 0 ≤ r29010.toInt ∧ r29010.toInt ≤ 1 := h29012
        refine b_if_eq C 62 dX11_throwOne_27 (by decide) (fun h29013 => ?_) (fun h29013 => ?_)
        · have h29013 : r29010.toInt = 0 := congrArg Int32.toInt h29013
          exact J62 P13 b13_3 v13_4 I13 X13 hb13_3 (by omega)
        · have h29013 : r29010.toInt ≠ 0 := ti_ne h29013
          refine g_aload_n C dX11_throwOne_30 rfl 0 rfl ?_
          obtain ⟨b29014, e29015, h29016⟩ := I13.fld (h29003) 1 19 4 rfl
          refine g_getR C fi_X11_17 rfl e29015 (h29003).1 (h29003).2 dX11_throwOne_31 ?_
          refine g_iload C dX11_throwOne_34 5 rfl ?_
          obtain ⟨b29017, e29018, h29019⟩ := I13.elm h29016 (by decide) (v13_5.toInt.toNat) (by omega)
          refine g_aldR C h29016.1 h29016.2.1 (by decide) (ix_in h29016.2.2 (by omega)) e29018 dX11_throwOne_36 ?_
          refine g_aload_n C dX11_throwOne_37 rfl 3 rfl ?_
          refine g_callVI (rest := []) C mv_X11_341 [.ref b13_3] (s_X6_hasAlike I13 h29019 hb13_3) (h29019).1 (h29019).2 rfl rfl (by decide) (Nat.le_of_ble_eq_true rfl) (by decide) dX11_throwOne_38 (fun r29020 Y29021 h29022 => ?_)
          obtain ⟨rfl, h29022⟩ := h29022
          have h29022 : 0 ≤ r29020.toInt ∧ r29020.toInt ≤ 1 := h29022
          refine b_if_ne C 62 dX11_throwOne_41 (by decide) (fun h29023 => ?_) (fun h29023 => ?_)
          · have h29023 : r29020.toInt ≠ 0 := ti_ne h29023
            exact J62 P13 b13_3 v13_4 I13 X13 hb13_3 (by omega)
          · have h29023 : r29020.toInt = 0 := congrArg Int32.toInt h29023
            refine g_aload_n C dX11_throwOne_44 rfl 0 rfl ?_
            refine g_getR C fi_X11_17 rfl e29015 (h29003).1 (h29003).2 dX11_throwOne_45 ?_
            refine g_iload C dX11_throwOne_48 5 rfl ?_
            obtain ⟨b29024, e29025, h29026⟩ := I13.elm h29016 (by decide) (v13_5.toInt.toNat) (by omega)
            refine g_aldR C h29016.1 h29016.2.1 (by decide) (ix_in h29016.2.2 (by omega)) e29025 dX11_throwOne_50 ?_
            refine g_aload_n C dX11_throwOne_51 rfl 3 rfl ?_
            refine g_callVI (rest := []) C mv_X11_165 [.ref b13_3] (s_X6_put I13 h29026 hb13_3) (h29026).1 (h29026).2 rfl rfl (by decide) (Nat.le_of_ble_eq_true rfl) (by decide) dX11_throwOne_52 (fun r29027 Y29028 h29029 => ?_)
            obtain ⟨Iy29030, Xy29031, h29029⟩ := h29029
            have Xz29032 : EK [1, 6, 7, 13] P Y29028 := X13.tr (Xy29031.mono (by decide))
            have h29033 := Xy29031.at h29003
            have h29034 := Xy29031.at h29004
            have h29035 := Xy29031.at hb13_3
            have h29029 : -1 ≤ r29027.toInt ∧ r29027.toInt ≤ 39 := h29029
            refine g_iconst (v := (-1)) C dX11_throwOne_55 (by decide) ?_
            refine b_icmp_eq C 62 dX11_throwOne_56 (by decide) (fun h29036 => ?_) (fun h29036 => ?_)
            · have h29036 : r29027.toInt = (-1) := congrArg Int32.toInt h29036
              exact J62 Y29028 b13_3 v13_4 Iy29030 Xz29032 h29035 (by omega)
            · have h29036 : r29027.toInt ≠ (-1) := ti_ne h29036
              refine a_iinc (lv0 := [(0, .ref a0), (1, .ref a1), (2, .int a2), (3, .ref b13_3), (5, .int v13_5)]) C dX11_throwOne_59 4 rfl (by decide) rfl (fun z29037 => ?_)
              refine g_lv (lv' := [(0, .ref a0), (1, .ref a1), (2, .int a2), (3, .ref b13_3), (4, .int z29037), (5, .int v13_5)]) [1, 2, 3, 4, 0, 5] rfl ?_
              exact J62 Y29028 b13_3 z29037 Iy29030 Xz29032 h29035 (by omega)
  refine g_aload_n C dX11_throwOne_0 rfl 1 rfl ?_
  refine g_iload_n C dX11_throwOne_1 rfl 2 rfl ?_
  refine g_iconst (v := 3) C dX11_throwOne_2 (by decide) ?_
  refine g_callVQ (rest := []) C mv_X11_161 [.int a2, .int 3] (s_X1_leafletPaper I ha1) (ha1).1 (ha1).2 rfl rfl (by decide) (Nat.le_of_ble_eq_true rfl) (by decide) dX11_throwOne_3 (fun r29039 Y29040 h29041 => ?_)
  obtain ⟨Iy29042, Xy29043, h29041⟩ := h29041
  have Xz29044 : EK [1, 6, 7, 13] P Y29040 := Xy29043.mono (by decide)
  have h29045 := Xy29043.at ha0
  have h29046 := Xy29043.at ha1
  obtain ⟨b29048, rfl, h29041⟩ := h29041
  show G _ _ _ _ _ _ _ _ _ _ (.ref b29048 :: _)
  refine g_astore_n (lv' := [(3, .ref b29048), (0, .ref a0), (1, .ref a1), (2, .int a2)]) C dX11_throwOne_6 rfl (by decide) rfl ?_
  refine g_iconst (v := 0) C dX11_throwOne_7 (by decide) ?_
  refine g_istore (lv' := [(4, .int 0), (3, .ref b29048), (0, .ref a0), (1, .ref a1), (2, .int a2)]) C dX11_throwOne_8 (by decide) rfl ?_
  refine g_iconst (v := 0) C dX11_throwOne_10 (by decide) ?_
  refine g_istore (lv' := [(5, .int 0), (4, .int 0), (3, .ref b29048), (0, .ref a0), (1, .ref a1), (2, .int a2)]) C dX11_throwOne_11 (by decide) rfl ?_
  refine g_lv (lv' := [(0, .ref a0), (1, .ref a1), (2, .int a2), (3, .ref b29048), (4, .int 0), (5, .int 0)]) [3, 4, 5, 2, 1, 0] rfl ?_
  exact J13 _ Y29040 b29048 0 0 (Nat.lt_succ_self _) Iy29042 Xz29044 h29041 (by decide)
