theorem dX11_mark_0 : decode cX11_mark 0 = .ok (.iload_n 1, 1) := by decide +kernel
theorem dX11_mark_1 : decode cX11_mark 1 = .ok (.ifCond .lt 21, 3) := by decide +kernel
theorem dX11_mark_4 : decode cX11_mark 4 = .ok (.iload_n 1, 1) := by decide +kernel
theorem dX11_mark_5 : decode cX11_mark 5 = .ok (.iconst 4, 1) := by decide +kernel
theorem dX11_mark_6 : decode cX11_mark 6 = .ok (.if_icmp .ge 16, 3) := by decide +kernel
theorem dX11_mark_9 : decode cX11_mark 9 = .ok (.iload_n 2, 1) := by decide +kernel
theorem dX11_mark_10 : decode cX11_mark 10 = .ok (.ifCond .eq 14, 3) := by decide +kernel
theorem dX11_mark_13 : decode cX11_mark 13 = .ok (.aload_n 0, 1) := by decide +kernel
theorem dX11_mark_14 : decode cX11_mark 14 = .ok (.getfield 24, 3) := by decide +kernel
theorem dX11_mark_17 : decode cX11_mark 17 = .ok (.iload_n 1, 1) := by decide +kernel
theorem dX11_mark_18 : decode cX11_mark 18 = .ok (.baload, 1) := by decide +kernel
theorem dX11_mark_19 : decode cX11_mark 19 = .ok (.ifCond .ne 5, 3) := by decide +kernel
theorem dX11_mark_22 : decode cX11_mark 22 = .ok (.iconst 0, 1) := by decide +kernel
theorem dX11_mark_23 : decode cX11_mark 23 = .ok (.ireturn, 1) := by decide +kernel
theorem dX11_mark_24 : decode cX11_mark 24 = .ok (.iconst 0, 1) := by decide +kernel
theorem dX11_mark_25 : decode cX11_mark 25 = .ok (.istore_n 3, 1) := by decide +kernel
theorem dX11_mark_26 : decode cX11_mark 26 = .ok (.iload_n 3, 1) := by decide +kernel
theorem dX11_mark_27 : decode cX11_mark 27 = .ok (.iconst 4, 1) := by decide +kernel
theorem dX11_mark_28 : decode cX11_mark 28 = .ok (.if_icmp .ge 50, 3) := by decide +kernel
theorem dX11_mark_31 : decode cX11_mark 31 = .ok (.aload_n 0, 1) := by decide +kernel
theorem dX11_mark_32 : decode cX11_mark 32 = .ok (.getfield 21, 3) := by decide +kernel
theorem dX11_mark_35 : decode cX11_mark 35 = .ok (.iload_n 1, 1) := by decide +kernel
theorem dX11_mark_36 : decode cX11_mark 36 = .ok (.iconst 4, 1) := by decide +kernel
theorem dX11_mark_37 : decode cX11_mark 37 = .ok (.imul, 1) := by decide +kernel
theorem dX11_mark_38 : decode cX11_mark 38 = .ok (.iload_n 3, 1) := by decide +kernel
theorem dX11_mark_39 : decode cX11_mark 39 = .ok (.iadd, 1) := by decide +kernel
theorem dX11_mark_40 : decode cX11_mark 40 = .ok (.aaload, 1) := by decide +kernel
theorem dX11_mark_41 : decode cX11_mark 41 = .ok (.astore 4, 2) := by decide +kernel
theorem dX11_mark_43 : decode cX11_mark 43 = .ok (.iload_n 2, 1) := by decide +kernel
theorem dX11_mark_44 : decode cX11_mark 44 = .ok (.ifCond .eq 17, 3) := by decide +kernel
theorem dX11_mark_61 : decode cX11_mark 61 = .ok (.aload 4, 2) := by decide +kernel
theorem dX11_mark_63 : decode cX11_mark 63 = .ok (.aload_n 0, 1) := by decide +kernel
theorem dX11_mark_64 : decode cX11_mark 64 = .ok (.getfield 17, 3) := by decide +kernel
theorem dX11_mark_67 : decode cX11_mark 67 = .ok (.iload_n 3, 1) := by decide +kernel
theorem dX11_mark_68 : decode cX11_mark 68 = .ok (.aaload, 1) := by decide +kernel
theorem dX11_mark_69 : decode cX11_mark 69 = .ok (.invokevirtual 345, 3) := by decide +kernel
theorem dX6_copy_0 : decode cX6_copy 0 = .ok (.iconst 0, 1) := by decide +kernel
theorem dX6_copy_1 : decode cX6_copy 1 = .ok (.istore_n 2, 1) := by decide +kernel
theorem dX6_copy_2 : decode cX6_copy 2 = .ok (.iload_n 2, 1) := by decide +kernel
theorem dX6_copy_3 : decode cX6_copy 3 = .ok (.aload_n 1, 1) := by decide +kernel
theorem dX6_copy_4 : decode cX6_copy 4 = .ok (.getfield 17, 3) := by decide +kernel
theorem dX6_copy_7 : decode cX6_copy 7 = .ok (.if_icmp .ge 21, 3) := by decide +kernel
theorem dX6_copy_10 : decode cX6_copy 10 = .ok (.aload_n 0, 1) := by decide +kernel
theorem dX6_copy_11 : decode cX6_copy 11 = .ok (.getfield 11, 3) := by decide +kernel
theorem dX6_copy_14 : decode cX6_copy 14 = .ok (.iload_n 2, 1) := by decide +kernel
theorem dX6_copy_15 : decode cX6_copy 15 = .ok (.aload_n 1, 1) := by decide +kernel
theorem dX6_copy_16 : decode cX6_copy 16 = .ok (.getfield 11, 3) := by decide +kernel
theorem dX6_copy_19 : decode cX6_copy 19 = .ok (.iload_n 2, 1) := by decide +kernel
theorem dX6_copy_20 : decode cX6_copy 20 = .ok (.aaload, 1) := by decide +kernel
theorem dX6_copy_21 : decode cX6_copy 21 = .ok (.aastore, 1) := by decide +kernel
theorem dX6_copy_22 : decode cX6_copy 22 = .ok (.iinc 2 1, 3) := by decide +kernel
theorem dX6_copy_25 : decode cX6_copy 25 = .ok (.goto (-23), 3) := by decide +kernel
theorem dX6_copy_28 : decode cX6_copy 28 = .ok (.aload_n 0, 1) := by decide +kernel
theorem dX6_copy_29 : decode cX6_copy 29 = .ok (.aload_n 1, 1) := by decide +kernel
theorem dX6_copy_30 : decode cX6_copy 30 = .ok (.getfield 17, 3) := by decide +kernel
theorem dX6_copy_33 : decode cX6_copy 33 = .ok (.putfield 17, 3) := by decide +kernel
theorem dX6_copy_36 : decode cX6_copy 36 = .ok (.return_, 1) := by decide +kernel
set_option maxHeartbeats 4000000 in
set_option maxRecDepth 100000 in
theorem s_X6_copy {P : PP} {a0 : Nat} {a1 : Nat} (I : IV P) (ha0 : At P a0 6) (ha1 : At P a1 6) : CtrV yX6_copy cX6_copy 3 none ({ frames := 1, cells := 0, slots := 0, locals := 64 } : Room) 0 0 P [.ref a0, .ref a1] (fun P2 => IV P2 ∧ EK [6] P P2) := by
  refine enV (lv := [(0, .ref a0), (1, .ref a1)]) (by decide) (Nat.le_of_ble_eq_true rfl) rfl (fun E D cy C Ci0 ret => ?_)
  have J2 : ∀ (n2 : Nat) (P2 : PP) (v2_2 : Int32), (40 - v2_2.toInt).toNat < n2 → (IV P2) → (EK [6] P P2) → (0 ≤ v2_2.toInt ∧ v2_2.toInt ≤ 40) → G E ({ frames := 1, cells := 0, slots := 0, locals := 64 } : Room) D cy 3 P2 0 0 2 [(0, .ref a0), (1, .ref a1), (2, .int v2_2)] [] := by
    intro n2
    induction n2 with
    | zero => intro P2 v2_2 hm2 I2 X2 hv2_2; omega
    | succ n2 ih2 =>
      intro P2 v2_2 hm2 I2 X2 hv2_2
      have h23238 := X2.at ha0
      have h23239 := X2.at ha1
      refine g_iload_n C dX6_copy_2 rfl 2 rfl ?_
      refine g_aload_n C dX6_copy_3 rfl 1 rfl ?_
      refine g_getI C fi_X6_17 (by decide) (h23239).1 (h23239).2 dX6_copy_4 ?_
      have h23240 := I2.rg (h23239) 1 rfl
      refine b_icmp_ge C 28 dX6_copy_7 (by decide) (fun h23241 => ?_) (fun h23241 => ?_)
      · have h23241 : (pI P2 a1 1).toInt ≤ v2_2.toInt := h23241
        refine g_aload_n C dX6_copy_28 rfl 0 rfl ?_
        refine g_aload_n C dX6_copy_29 rfl 1 rfl ?_
        refine g_getI C fi_X6_17 (by decide) (h23239).1 (h23239).2 dX6_copy_30 ?_
        refine g_putI C fi_X6_17 rfl (h23238).1 (h23238).2 dX6_copy_33 ?_
        refine gpW (ks := [6]) (I2.setI (h23238) (rgOk.of rfl (by omega))) (EK.setI (h23238).2 (by decide)) (fun Y23242 Iy23243 Xy23244 w23245 w23246 => ?_)
        have Xz23247 : EK [6] P Y23242 := X2.tr (Xy23244.mono (by decide))
        have h23248 := Xy23244.at h23238
        have h23249 := Xy23244.at h23239
        exact ret _ _ _ _ _ dX6_copy_36 (by decide) (by decide) ⟨Iy23243, Xz23247⟩
      · have h23241 : v2_2.toInt < (pI P2 a1 1).toInt := h23241
        refine g_aload_n C dX6_copy_10 rfl 0 rfl ?_
        obtain ⟨b23250, e23251, h23252⟩ := I2.fld (h23238) 0 20 40 rfl
        refine g_getR C fi_X6_11 rfl e23251 (h23238).1 (h23238).2 dX6_copy_11 ?_
        refine g_iload_n C dX6_copy_14 rfl 2 rfl ?_
        refine g_aload_n C dX6_copy_15 rfl 1 rfl ?_
        obtain ⟨b23253, e23254, h23255⟩ := I2.fld (h23239) 0 20 40 rfl
        refine g_getR C fi_X6_11 rfl e23254 (h23239).1 (h23239).2 dX6_copy_16 ?_
        refine g_iload_n C dX6_copy_19 rfl 2 rfl ?_
        refine g_aldQ (j := (v2_2.toInt.toNat)) C h23255.1 h23255.2.1 (by decide) (ix_in h23255.2.2 (by omega)) dX6_copy_20 ?_
        rcases I2.pap h23255 (v2_2.toInt.toNat) with e23257 | ⟨b23256, e23257, h23258⟩
        · rw [e23257]
          show G _ _ _ _ _ _ _ _ _ _ (.null :: _)
          refine g_astN (j := (v2_2.toInt.toNat)) C h23252.1 h23252.2.1 (by decide) (ix_in h23252.2.2 (by omega)) dX6_copy_21 ?_
          refine gp (ks := []) (I2.setP h23252 (fun _ z => by cases z)) (EK.setR h23252.2.1 (by decide)) (fun Y23259 Iy23260 Xy23261 => ?_)
          have q23262 := Xy23261.keep h23239 (by decide) 1
          have Xz23263 : EK [6] P Y23259 := X2.tr (Xy23261.mono (by decide))
          have h23264 := Xy23261.at h23238
          have h23265 := Xy23261.at h23239
          refine s_iinc (lv0 := [(0, .ref a0), (1, .ref a1)]) (m := 1) C dX6_copy_22 2 rfl (by decide) rfl (by decide) (by omega) (fun z23266 h23267 => ?_)
          have h23267 : z23266.toInt = v2_2.toInt + 1 := h23267
          refine g_goto C 2 dX6_copy_25 (by decide) ?_
          refine g_lv (lv' := [(0, .ref a0), (1, .ref a1), (2, .int z23266)]) [1, 2, 0] rfl ?_
          exact ih2 Y23259 z23266 (by omega) Iy23260 Xz23263 (by omega)
        · rw [e23257]
          show G _ _ _ _ _ _ _ _ _ _ (.ref b23256 :: _)
          refine g_astR (j := (v2_2.toInt.toNat)) C h23252.1 h23252.2.1 (by decide) (ix_in h23252.2.2 (by omega)) (h23258).1 (h23258).2 (by decide) rfl rfl dX6_copy_21 ?_
          refine gp (ks := []) (I2.setP h23252 (fun _ z => by cases z; exact h23258)) (EK.setR h23252.2.1 (by decide)) (fun Y23268 Iy23269 Xy23270 => ?_)
          have q23271 := Xy23270.keep h23239 (by decide) 1
          have Xz23272 : EK [6] P Y23268 := X2.tr (Xy23270.mono (by decide))
          have h23273 := Xy23270.at h23238
          have h23274 := Xy23270.at h23239
          refine s_iinc (lv0 := [(0, .ref a0), (1, .ref a1)]) (m := 1) C dX6_copy_22 2 rfl (by decide) rfl (by decide) (by omega) (fun z23275 h23276 => ?_)
          have h23276 : z23275.toInt = v2_2.toInt + 1 := h23276
          refine g_goto C 2 dX6_copy_25 (by decide) ?_
          refine g_lv (lv' := [(0, .ref a0), (1, .ref a1), (2, .int z23275)]) [1, 2, 0] rfl ?_
          exact ih2 Y23268 z23275 (by omega) Iy23269 Xz23272 (by omega)
  refine g_iconst (v := 0) C dX6_copy_0 (by decide) ?_
  refine g_istore_n (lv' := [(2, .int 0), (0, .ref a0), (1, .ref a1)]) C dX6_copy_1 rfl (by decide) rfl ?_
  refine g_lv (lv' := [(0, .ref a0), (1, .ref a1), (2, .int 0)]) [1, 2, 0] rfl ?_
  exact J2 _ P 0 (Nat.lt_succ_self _) I EK.rf (by decide)
theorem dX11_mark_47 : decode cX11_mark 47 = .ok (.aload_n 0, 1) := by decide +kernel
theorem dX11_mark_48 : decode cX11_mark 48 = .ok (.getfield 17, 3) := by decide +kernel
theorem dX11_mark_51 : decode cX11_mark 51 = .ok (.iload_n 3, 1) := by decide +kernel
theorem dX11_mark_52 : decode cX11_mark 52 = .ok (.aaload, 1) := by decide +kernel
theorem dX11_mark_53 : decode cX11_mark 53 = .ok (.aload 4, 2) := by decide +kernel
theorem dX11_mark_55 : decode cX11_mark 55 = .ok (.invokevirtual 345, 3) := by decide +kernel
theorem dX11_mark_58 : decode cX11_mark 58 = .ok (.goto 14, 3) := by decide +kernel
theorem dX11_mark_72 : decode cX11_mark 72 = .ok (.iinc 3 1, 3) := by decide +kernel
theorem dX11_mark_75 : decode cX11_mark 75 = .ok (.goto (-49), 3) := by decide +kernel
theorem dX11_mark_78 : decode cX11_mark 78 = .ok (.aload_n 0, 1) := by decide +kernel
theorem dX11_mark_79 : decode cX11_mark 79 = .ok (.getfield 24, 3) := by decide +kernel
theorem dX11_mark_82 : decode cX11_mark 82 = .ok (.iload_n 1, 1) := by decide +kernel
theorem dX11_mark_83 : decode cX11_mark 83 = .ok (.iconst 1, 1) := by decide +kernel
theorem dX11_mark_84 : decode cX11_mark 84 = .ok (.bastore, 1) := by decide +kernel
theorem dX11_mark_85 : decode cX11_mark 85 = .ok (.iconst 1, 1) := by decide +kernel
theorem dX11_mark_86 : decode cX11_mark 86 = .ok (.ireturn, 1) := by decide +kernel
set_option maxHeartbeats 4000000 in
set_option maxRecDepth 100000 in
theorem s_X11_mark {P : PP} {a0 : Nat} {a1 : Int32} {a2 : Int32} (I : IV P) (ha0 : At P a0 11) (ha2 : 0 ≤ a2.toInt ∧ a2.toInt ≤ 1) : CtrI yX11_mark cX11_mark 5 (some Jvm.ClassFile.FieldType.boolean) ({ frames := 2, cells := 0, slots := 0, locals := 128 } : Room) 0 0 P [.ref a0, .int a1, .int a2] (fun r P2 => IV P2 ∧ EK [6, 15] P P2 ∧ (0 ≤ r.toInt ∧ r.toInt ≤ 1) ∧ (r.toInt = 0 ∨ (((0 : Int) ≤ a1.toInt ∧ a1.toInt ≤ (3 : Int))))) := by
  refine enI (lv := [(0, .ref a0), (1, .int a1), (2, .int a2)]) (by decide) (Nat.le_of_ble_eq_true rfl) rfl (fun E D cy C Ci0 ret => ?_)
  have J26 : ∀ (n26 : Nat) (P26 : PP) (v26_3 : Int32), (4 - v26_3.toInt).toNat < n26 → (IV P26) → (EK [6, 15] P P26) → (0 ≤ a1.toInt ∧ a1.toInt ≤ 3) → (0 ≤ v26_3.toInt ∧ v26_3.toInt ≤ 4) → G E ({ frames := 2, cells := 0, slots := 0, locals := 128 } : Room) D cy 5 P26 0 0 26 [(0, .ref a0), (1, .int a1), (2, .int a2), (3, .int v26_3)] [] := by
    intro n26
    induction n26 with
    | zero => intro P26 v26_3 hm26 I26 X26 hv26_1 hv26_3; omega
    | succ n26 ih26 =>
      intro P26 v26_3 hm26 I26 X26 hv26_1 hv26_3
      have h23512 := X26.at ha0
      have J72 : ∀ (P72 : PP), (IV P72) → (EK [6, 15] P P72) → (0 ≤ a1.toInt ∧ a1.toInt ≤ 3) → (0 ≤ v26_3.toInt ∧ v26_3.toInt ≤ 3) → G E ({ frames := 2, cells := 0, slots := 0, locals := 128 } : Room) D cy 5 P72 0 0 72 [(0, .ref a0), (1, .int a1), (2, .int a2), (3, .int v26_3)] [] := by
        intro P72 I72 X72 hv72_1 hv72_3
        have h23513 := X72.at ha0
        refine s_iinc (lv0 := [(0, .ref a0), (1, .int a1), (2, .int a2)]) (m := 1) C dX11_mark_72 3 rfl (by decide) rfl (by decide) (by omega) (fun z23514 h23515 => ?_)
        have h23515 : z23514.toInt = v26_3.toInt + 1 := h23515
        refine g_goto C 26 dX11_mark_75 (by decide) ?_
        refine g_lv (lv' := [(0, .ref a0), (1, .int a1), (2, .int a2), (3, .int z23514)]) [1, 2, 3, 0] rfl ?_
        exact ih26 P72 z23514 (by omega) I72 X72 (by omega) (by omega)
      refine g_iload_n C dX11_mark_26 rfl 3 rfl ?_
      refine g_iconst (v := 4) C dX11_mark_27 (by decide) ?_
      refine b_icmp_ge C 78 dX11_mark_28 (by decide) (fun h23516 => ?_) (fun h23516 => ?_)
      · have h23516 : 4 ≤ v26_3.toInt := h23516
        refine g_aload_n C dX11_mark_78 rfl 0 rfl ?_
        obtain ⟨b23517, e23518, h23519⟩ := I26.fld (h23512) 3 15 4 rfl
        refine g_getR C fi_X11_24 rfl e23518 (h23512).1 (h23512).2 dX11_mark_79 ?_
        refine g_iload_n C dX11_mark_82 rfl 1 rfl ?_
        refine g_iconst (v := 1) C dX11_mark_83 (by decide) ?_
        refine g_zast (j := (a1.toInt.toNat)) C h23519.1 h23519.2.1 (ix_in h23519.2.2 (by omega)) (Or.inr rfl) dX11_mark_84 ?_
        refine gp (ks := [15]) (I26.setA h23519 (by decide)) (EK.setI h23519.2.1 (by decide)) (fun Y23520 Iy23521 Xy23522 => ?_)
        have Xz23523 : EK [6, 15] P Y23520 := X26.tr (Xy23522.mono (by decide))
        have h23524 := Xy23522.at h23512
        refine g_iconst (v := 1) C dX11_mark_85 (by decide) ?_
        exact ret _ _ _ _ _ _ dX11_mark_86 rfl (by decide) (by decide) ⟨Iy23521, Xz23523, (by decide), Or.inr (by omega)⟩
      · have h23516 : v26_3.toInt < 4 := h23516
        refine g_aload_n C dX11_mark_31 rfl 0 rfl ?_
        obtain ⟨b23525, e23526, h23527⟩ := I26.fld (h23512) 2 19 16 rfl
        refine g_getR C fi_X11_21 rfl e23526 (h23512).1 (h23512).2 dX11_mark_32 ?_
        refine g_iload_n C dX11_mark_35 rfl 1 rfl ?_
        refine g_iconst (v := 4) C dX11_mark_36 (by decide) ?_
        refine s_imul C dX11_mark_37 (by show -2147483648 ≤ a1.toInt * 4 ∧ a1.toInt * 4 ≤ 2147483647; omega) (fun z23528 h23529 => ?_)
        have h23529 : z23528.toInt = a1.toInt * 4 := h23529
        refine g_iload_n C dX11_mark_38 rfl 3 rfl ?_
        refine s_iadd C dX11_mark_39 (by show -2147483648 ≤ z23528.toInt + v26_3.toInt ∧ z23528.toInt + v26_3.toInt ≤ 2147483647; omega) (fun z23530 h23531 => ?_)
        have h23531 : z23530.toInt = z23528.toInt + v26_3.toInt := h23531
        obtain ⟨b23532, e23533, h23534⟩ := I26.elm h23527 (by decide) (z23530.toInt.toNat) (by omega)
        refine g_aldR C h23527.1 h23527.2.1 (by decide) (ix_in h23527.2.2 (by omega)) e23533 dX11_mark_40 ?_
        refine g_astore (lv' := [(4, .ref b23532), (0, .ref a0), (1, .int a1), (2, .int a2), (3, .int v26_3)]) C dX11_mark_41 (by decide) rfl ?_
        refine g_iload_n C dX11_mark_43 rfl 3 rfl ?_
        refine b_if_eq C 61 dX11_mark_44 (by decide) (fun h23535 => ?_) (fun h23535 => ?_)
        · have h23535 : a2.toInt = 0 := congrArg Int32.toInt h23535
          refine g_aload C dX11_mark_61 0 rfl ?_
          refine g_aload_n C dX11_mark_63 rfl 1 rfl ?_
          obtain ⟨b23536, e23537, h23538⟩ := I26.fld (h23512) 1 19 4 rfl
          refine g_getR C fi_X11_17 rfl e23537 (h23512).1 (h23512).2 dX11_mark_64 ?_
          refine g_iload_n C dX11_mark_67 rfl 4 rfl ?_
          obtain ⟨b23539, e23540, h23541⟩ := I26.elm h23538 (by decide) (v26_3.toInt.toNat) (by omega)
          refine g_aldR C h23538.1 h23538.2.1 (by decide) (ix_in h23538.2.2 (by omega)) e23540 dX11_mark_68 ?_
          refine g_callVV (rest := []) C mv_X11_345 [.ref b23539] (s_X6_copy I26 h23534 h23541) (h23534).1 (h23534).2 rfl rfl (by decide) (Nat.le_of_ble_eq_true rfl) (by decide) dX11_mark_69 (fun Y23543 h23544 => ?_)
          obtain ⟨Iy23545, Xy23546⟩ := h23544
          have Xz23547 : EK [6, 15] P Y23543 := X26.tr (Xy23546.mono (by decide))
          have h23548 := Xy23546.at h23512
          have h23549 := Xy23546.at h23534
          refine g_lv (lv' := [(0, .ref a0), (1, .int a1), (2, .int a2), (3, .int v26_3)]) [1, 2, 3, 4] rfl ?_
          exact J72 Y23543 Iy23545 Xz23547 (by omega) (by omega)
        · have h23535 : a2.toInt ≠ 0 := ti_ne h23535
          refine g_aload_n C dX11_mark_47 rfl 1 rfl ?_
          obtain ⟨b23550, e23551, h23552⟩ := I26.fld (h23512) 1 19 4 rfl
          refine g_getR C fi_X11_17 rfl e23551 (h23512).1 (h23512).2 dX11_mark_48 ?_
          refine g_iload_n C dX11_mark_51 rfl 4 rfl ?_
          obtain ⟨b23553, e23554, h23555⟩ := I26.elm h23552 (by decide) (v26_3.toInt.toNat) (by omega)
          refine g_aldR C h23552.1 h23552.2.1 (by decide) (ix_in h23552.2.2 (by omega)) e23554 dX11_mark_52 ?_
          refine g_aload C dX11_mark_53 0 rfl ?_
          refine g_callVV (rest := []) C mv_X11_345 [.ref b23532] (s_X6_copy I26 h23555 h23534) (h23555).1 (h23555).2 rfl rfl (by decide) (Nat.le_of_ble_eq_true rfl) (by decide) dX11_mark_55 (fun Y23557 h23558 => ?_)
          obtain ⟨Iy23559, Xy23560⟩ := h23558
          have Xz23561 : EK [6, 15] P Y23557 := X26.tr (Xy23560.mono (by decide))
          have h23562 := Xy23560.at h23512
          have h23563 := Xy23560.at h23534
          refine g_goto C 72 dX11_mark_58 (by decide) ?_
          refine g_lv (lv' := [(0, .ref a0), (1, .int a1), (2, .int a2), (3, .int v26_3)]) [1, 2, 3, 4] rfl ?_
          exact J72 Y23557 Iy23559 Xz23561 (by omega) (by omega)
  have J24 : (0 ≤ a1.toInt ∧ a1.toInt ≤ 3) → G E ({ frames := 2, cells := 0, slots := 0, locals := 128 } : Room) D cy 5 P 0 0 24 [(0, .ref a0), (1, .int a1), (2, .int a2)] [] := by
    intro hv24_1
    refine g_iconst (v := 0) C dX11_mark_24 (by decide) ?_
    refine g_istore_n (lv' := [(3, .int 0), (0, .ref a0), (1, .int a1), (2, .int a2)]) C dX11_mark_25 rfl (by decide) rfl ?_
    refine g_lv (lv' := [(0, .ref a0), (1, .int a1), (2, .int a2), (3, .int 0)]) [1, 2, 3, 0] rfl ?_
    exact J26 _ P 0 (Nat.lt_succ_self _) I EK.rf (by omega) (by decide)
  have J22 : G E ({ frames := 2, cells := 0, slots := 0, locals := 128 } : Room) D cy 5 P 0 0 22 [] [] := by
    refine g_iconst (v := 0) C dX11_mark_22 (by decide) ?_
    exact ret _ _ _ _ _ _ dX11_mark_23 rfl (by decide) (by decide) ⟨I, EK.rf, (by decide), Or.inl rfl⟩
  refine g_iload_n C dX11_mark_0 rfl 1 rfl ?_
  have u23565 := ti_rng a1
  refine b_if_lt C 22 dX11_mark_1 (by decide) (fun h23564 => ?_) (fun h23564 => ?_)
  · have h23564 : a1.toInt < 0 := h23564
    refine g_lv (lv' := []) [] rfl ?_
    exact J22 
  · have h23564 : 0 ≤ a1.toInt := h23564
    refine g_iload_n C dX11_mark_4 rfl 1 rfl ?_
    refine g_iconst (v := 4) C dX11_mark_5 (by decide) ?_
    have u23567 := ti_rng a1
    refine b_icmp_ge C 22 dX11_mark_6 (by decide) (fun h23566 => ?_) (fun h23566 => ?_)
    · have h23566 : 4 ≤ a1.toInt := h23566
      refine g_lv (lv' := []) [] rfl ?_
      exact J22 
    · have h23566 : a1.toInt < 4 := h23566
      refine g_iload_n C dX11_mark_9 rfl 2 rfl ?_
      refine b_if_eq C 24 dX11_mark_10 (by decide) (fun h23568 => ?_) (fun h23568 => ?_)
      · have h23568 : a2.toInt = 0 := congrArg Int32.toInt h23568
        exact J24 (by omega)
      · have h23568 : a2.toInt ≠ 0 := ti_ne h23568
        refine g_aload_n C dX11_mark_13 rfl 0 rfl ?_
        obtain ⟨b23569, e23570, h23571⟩ := I.fld (ha0) 3 15 4 rfl
        refine g_getR C fi_X11_24 rfl e23570 (ha0).1 (ha0).2 dX11_mark_14 ?_
        refine g_iload_n C dX11_mark_17 rfl 1 rfl ?_
        refine g_zald (j := (a1.toInt.toNat)) C h23571.1 h23571.2.1 (ix_in h23571.2.2 (by omega)) dX11_mark_18 ?_
        refine g_topi (fun z23572 _ => ?_)
        have u23574 := ti_rng z23572
        refine b_if_ne C 24 dX11_mark_19 (by decide) (fun h23573 => ?_) (fun h23573 => ?_)
        · have h23573 : z23572.toInt ≠ 0 := ti_ne h23573
          exact J24 (by omega)
        · have h23573 : z23572.toInt = 0 := congrArg Int32.toInt h23573
          refine g_lv (lv' := []) [] rfl ?_
          exact J22 
theorem dX11_nameless_0 : decode cX11_nameless 0 = .ok (.iload_n 1, 1) := by decide +kernel
theorem dX11_nameless_1 : decode cX11_nameless 1 = .ok (.invokestatic 158, 3) := by decide +kernel
theorem dX11_nameless_4 : decode cX11_nameless 4 = .ok (.ifCond .eq 20, 3) := by decide +kernel
theorem dX11_nameless_7 : decode cX11_nameless 7 = .ok (.iload_n 2, 1) := by decide +kernel
theorem dX11_nameless_8 : decode cX11_nameless 8 = .ok (.invokestatic 173, 3) := by decide +kernel
theorem dX11_nameless_11 : decode cX11_nameless 11 = .ok (.ifCond .eq 13, 3) := by decide +kernel
theorem dX11_nameless_14 : decode cX11_nameless 14 = .ok (.iload_n 3, 1) := by decide +kernel
theorem dX11_nameless_15 : decode cX11_nameless 15 = .ok (.ifCond .lt 9, 3) := by decide +kernel
theorem dX11_nameless_18 : decode cX11_nameless 18 = .ok (.iload_n 3, 1) := by decide +kernel
theorem dX11_nameless_19 : decode cX11_nameless 19 = .ok (.ldc 104, 2) := by decide +kernel
theorem dX11_nameless_21 : decode cX11_nameless 21 = .ok (.if_icmp .le 5, 3) := by decide +kernel
theorem dX11_nameless_24 : decode cX11_nameless 24 = .ok (.iconst (-1), 1) := by decide +kernel
theorem dX11_nameless_25 : decode cX11_nameless 25 = .ok (.ireturn, 1) := by decide +kernel
theorem dX11_nameless_26 : decode cX11_nameless 26 = .ok (.aload_n 0, 1) := by decide +kernel
theorem dX11_nameless_27 : decode cX11_nameless 27 = .ok (.getfield 11, 3) := by decide +kernel
theorem dX11_nameless_30 : decode cX11_nameless 30 = .ok (.iconst 0, 1) := by decide +kernel
theorem dX11_nameless_31 : decode cX11_nameless 31 = .ok (.aaload, 1) := by decide +kernel
theorem dX11_nameless_32 : decode cX11_nameless 32 = .ok (.getfield 176, 3) := by decide +kernel
theorem dX11_nameless_35 : decode cX11_nameless 35 = .ok (.ifCond .eq 16, 3) := by decide +kernel
theorem dX11_nameless_38 : decode cX11_nameless 38 = .ok (.aload_n 0, 1) := by decide +kernel
theorem dX11_nameless_39 : decode cX11_nameless 39 = .ok (.getfield 11, 3) := by decide +kernel
theorem dX11_nameless_42 : decode cX11_nameless 42 = .ok (.iconst 0, 1) := by decide +kernel
theorem dX11_nameless_43 : decode cX11_nameless 43 = .ok (.aaload, 1) := by decide +kernel
theorem dX11_nameless_44 : decode cX11_nameless 44 = .ok (.iload_n 2, 1) := by decide +kernel
theorem dX11_nameless_45 : decode cX11_nameless 45 = .ok (.invokevirtual 140, 3) := by decide +kernel
theorem dX11_nameless_48 : decode cX11_nameless 48 = .ok (.goto 4, 3) := by decide +kernel
theorem dX11_nameless_51 : decode cX11_nameless 51 = .ok (.iconst 0, 1) := by decide +kernel
theorem dX11_nameless_52 : decode cX11_nameless 52 = .ok (.istore 4, 2) := by decide +kernel
theorem dX11_nameless_54 : decode cX11_nameless 54 = .ok (.aload_n 0, 1) := by decide +kernel
theorem dX11_nameless_55 : decode cX11_nameless 55 = .ok (.getfield 11, 3) := by decide +kernel
theorem dX11_nameless_58 : decode cX11_nameless 58 = .ok (.iconst 1, 1) := by decide +kernel
theorem dX11_nameless_59 : decode cX11_nameless 59 = .ok (.aaload, 1) := by decide +kernel
theorem dX11_nameless_60 : decode cX11_nameless 60 = .ok (.getfield 176, 3) := by decide +kernel
theorem dX11_nameless_63 : decode cX11_nameless 63 = .ok (.ifCond .eq 16, 3) := by decide +kernel
theorem dX11_nameless_66 : decode cX11_nameless 66 = .ok (.aload_n 0, 1) := by decide +kernel
theorem dX11_nameless_67 : decode cX11_nameless 67 = .ok (.getfield 11, 3) := by decide +kernel
theorem dX11_nameless_70 : decode cX11_nameless 70 = .ok (.iconst 1, 1) := by decide +kernel
theorem dX11_nameless_71 : decode cX11_nameless 71 = .ok (.aaload, 1) := by decide +kernel
theorem dX11_nameless_72 : decode cX11_nameless 72 = .ok (.iload_n 2, 1) := by decide +kernel
theorem dX11_nameless_73 : decode cX11_nameless 73 = .ok (.invokevirtual 140, 3) := by decide +kernel
theorem dX11_nameless_76 : decode cX11_nameless 76 = .ok (.goto 4, 3) := by decide +kernel
theorem dX11_nameless_79 : decode cX11_nameless 79 = .ok (.iconst 0, 1) := by decide +kernel
theorem dX11_nameless_80 : decode cX11_nameless 80 = .ok (.istore 5, 2) := by decide +kernel
theorem dX11_nameless_82 : decode cX11_nameless 82 = .ok (.aload_n 0, 1) := by decide +kernel
theorem dX11_nameless_83 : decode cX11_nameless 83 = .ok (.getfield 17, 3) := by decide +kernel
theorem dX11_nameless_86 : decode cX11_nameless 86 = .ok (.iload_n 1, 1) := by decide +kernel
theorem dX11_nameless_87 : decode cX11_nameless 87 = .ok (.aaload, 1) := by decide +kernel
theorem dX11_nameless_88 : decode cX11_nameless 88 = .ok (.new 180, 3) := by decide +kernel
theorem dX11_nameless_91 : decode cX11_nameless 91 = .ok (.dup, 1) := by decide +kernel
theorem dX11_nameless_92 : decode cX11_nameless 92 = .ok (.iconst (-1), 1) := by decide +kernel
theorem dX11_nameless_93 : decode cX11_nameless 93 = .ok (.iload_n 2, 1) := by decide +kernel
theorem dX11_nameless_94 : decode cX11_nameless 94 = .ok (.iload_n 3, 1) := by decide +kernel
theorem dX11_nameless_95 : decode cX11_nameless 95 = .ok (.iconst 3, 1) := by decide +kernel
theorem dX11_nameless_96 : decode cX11_nameless 96 = .ok (.iconst 0, 1) := by decide +kernel
theorem dX11_nameless_97 : decode cX11_nameless 97 = .ok (.iload 4, 2) := by decide +kernel
theorem dX11_nameless_99 : decode cX11_nameless 99 = .ok (.iload 5, 2) := by decide +kernel
theorem dX11_nameless_101 : decode cX11_nameless 101 = .ok (.invokespecial 182, 3) := by decide +kernel
theorem dX11_nameless_104 : decode cX11_nameless 104 = .ok (.invokevirtual 165, 3) := by decide +kernel
theorem dX11_nameless_107 : decode cX11_nameless 107 = .ok (.ireturn, 1) := by decide +kernel
set_option maxHeartbeats 4000000 in
set_option maxRecDepth 100000 in
theorem s_X11_nameless {P : PP} {a0 : Nat} {a1 : Int32} {a2 : Int32} {a3 : Int32} (I : IV P) (ha0 : At P a0 11) : CtrI yX11_nameless cX11_nameless 6 (some Jvm.ClassFile.FieldType.int) ({ frames := 5, cells := 1, slots := 7, locals := 320 } : Room) 1 7 P [.ref a0, .int a1, .int a2, .int a3] (fun r P2 => IV P2 ∧ EK [1, 6, 7, 13] P P2 ∧ (-1 ≤ r.toInt ∧ r.toInt ≤ 39)) := by
  refine enI (lv := [(0, .ref a0), (1, .int a1), (2, .int a2), (3, .int a3)]) (by decide) (Nat.le_of_ble_eq_true rfl) rfl (fun E D cy C Ci0 ret => ?_)
  have J80 : ∀ (P80 : PP) (v80_4 : Int32) (v80_s0 : Int32), (IV P80) → (EK [1, 6, 7, 13] P P80) → (0 ≤ a1.toInt ∧ a1.toInt ≤ 3) → (0 ≤ a2.toInt ∧ a2.toInt ≤ 9999) → (0 ≤ a3.toInt ∧ a3.toInt ≤ 65535) → G E ({ frames := 5, cells := 1, slots := 7, locals := 320 } : Room) D cy 6 P80 0 0 80 [(0, .ref a0), (1, .int a1), (2, .int a2), (3, .int a3), (4, .int v80_4)] [.int v80_s0] := by
    intro P80 v80_4 v80_s0 I80 X80 hv80_1 hv80_2 hv80_3
    have h23658 := X80.at ha0
    refine g_istore (lv' := [(5, .int v80_s0), (0, .ref a0), (1, .int a1), (2, .int a2), (3, .int a3), (4, .int v80_4)]) C dX11_nameless_80 (by decide) rfl ?_
    refine g_aload_n C dX11_nameless_82 rfl 1 rfl ?_
    obtain ⟨b23659, e23660, h23661⟩ := I80.fld (h23658) 1 19 4 rfl
    refine g_getR C fi_X11_17 rfl e23660 (h23658).1 (h23658).2 dX11_nameless_83 ?_
    refine g_iload_n C dX11_nameless_86 rfl 2 rfl ?_
    obtain ⟨b23662, e23663, h23664⟩ := I80.elm h23661 (by decide) (a1.toInt.toNat) (by omega)
    refine g_aldR C h23661.1 h23661.2.1 (by decide) (ix_in h23661.2.2 (by omega)) e23663 dX11_nameless_87 ?_
    refine g_new C ni_X11_180 (by decide) (by decide) dX11_nameless_88 (fun q23665 h23666 => ?_)
    have h23667 := At.new (P := P80) (q := q23665) (kd := 7) (n := 0)
    obtain ⟨Y23668, eY23668⟩ : ∃ Z : PP, Z = pNw P80 q23665 7 0 := ⟨_, rfl⟩
    rw [← eY23668] at h23667 ⊢
    have Iy23669 : IV Y23668 := by rw [eY23668]; exact I80.newP h23666
    have Xy23670 : EK [] P80 Y23668 := by rw [eY23668]; exact EK.new h23666
    clear eY23668
    have Xz23671 : EK [1, 6, 7, 13] P Y23668 := X80.tr (Xy23670.mono (by decide))
    have h23672 := Xy23670.at h23658
    have h23673 := Xy23670.at h23664
    refine g_dup C dX11_nameless_91 rfl ?_
    refine g_iconst (v := (-1)) C dX11_nameless_92 (by decide) ?_
    refine g_iload_n C dX11_nameless_93 rfl 3 rfl ?_
    refine g_iload_n C dX11_nameless_94 rfl 4 rfl ?_
    refine g_iconst (v := 3) C dX11_nameless_95 (by decide) ?_
    refine g_iconst (v := 0) C dX11_nameless_96 (by decide) ?_
    refine g_iload C dX11_nameless_97 5 rfl ?_
    refine g_iload C dX11_nameless_99 0 rfl ?_
    refine g_callCV (ci := 0) (ret := none) (rest := [.ref q23665, .ref b23662]) C mi_X11_182 [.int (-1), .int a2, .int a3, .int 3, .int 0, .int v80_4, .int v80_s0] (s_X7_init Iy23669 h23667 (by decide)) rfl rfl (by decide) (Nat.le_of_ble_eq_true rfl) (by decide) dX11_nameless_101 (fun Y23675 h23676 => ?_)
    obtain ⟨Iy23677, Xy23678⟩ := h23676
    have Xz23679 : EK [1, 6, 7, 13] P Y23675 := Xz23671.tr (Xy23678.mono (by decide))
    have h23680 := Xy23678.at h23672
    have h23681 := Xy23678.at h23673
    have h23682 := Xy23678.at h23667
    refine g_callVI (rest := []) C mv_X11_165 [.ref q23665] (s_X6_put Iy23677 h23681 h23682) (h23681).1 (h23681).2 rfl rfl (by decide) (Nat.le_of_ble_eq_true rfl) (by decide) dX11_nameless_104 (fun r23683 Y23684 h23685 => ?_)
    obtain ⟨Iy23686, Xy23687, h23685⟩ := h23685
    have Xz23688 : EK [1, 6, 7, 13] P Y23684 := Xz23679.tr (Xy23687.mono (by decide))
    have h23689 := Xy23687.at h23680
    have h23685 : -1 ≤ r23683.toInt ∧ r23683.toInt ≤ 39 := h23685
    exact ret _ _ _ _ _ _ dX11_nameless_107 rfl (by decide) (by decide) ⟨Iy23686, Xz23688, (by omega)⟩
  have J52 : ∀ (P52 : PP) (v52_s0 : Int32), (IV P52) → (EK [1, 6, 7, 13] P P52) → (0 ≤ a1.toInt ∧ a1.toInt ≤ 3) → (0 ≤ a2.toInt ∧ a2.toInt ≤ 9999) → (0 ≤ a3.toInt ∧ a3.toInt ≤ 65535) → G E ({ frames := 5, cells := 1, slots := 7, locals := 320 } : Room) D cy 6 P52 0 0 52 [(0, .ref a0), (1, .int a1), (2, .int a2), (3, .int a3)] [.int v52_s0] := by
    intro P52 v52_s0 I52 X52 hv52_1 hv52_2 hv52_3
    have h23690 := X52.at ha0
    refine g_istore (lv' := [(4, .int v52_s0), (0, .ref a0), (1, .int a1), (2, .int a2), (3, .int a3)]) C dX11_nameless_52 (by decide) rfl ?_
    refine g_aload_n C dX11_nameless_54 rfl 1 rfl ?_
    obtain ⟨b23691, e23692, h23693⟩ := I52.fld (h23690) 0 17 2 rfl
    refine g_getR C fi_X11_11 rfl e23692 (h23690).1 (h23690).2 dX11_nameless_55 ?_
    refine g_iconst (v := 1) C dX11_nameless_58 (by decide) ?_
    obtain ⟨b23694, e23695, h23696⟩ := I52.elm h23693 (by decide) 1 (by decide)
    refine g_aldR C h23693.1 h23693.2.1 (by decide) (IX.litn (j := 1) h23693.2.2 rfl (by decide) (by decide)) e23695 dX11_nameless_59 ?_
    refine g_getI C fi_X11_176 (by decide) (h23696).1 (h23696).2 dX11_nameless_60 ?_
    have h23697 := I52.rg (h23696) 4 rfl
    refine b_if_eq C 79 dX11_nameless_63 (by decide) (fun h23698 => ?_) (fun h23698 => ?_)
    · have h23698 : (pI P52 b23694 4).toInt = 0 := congrArg Int32.toInt h23698
      refine g_iconst (v := 0) C dX11_nameless_79 (by decide) ?_
      refine g_lv (lv' := [(0, .ref a0), (1, .int a1), (2, .int a2), (3, .int a3), (4, .int v52_s0)]) [1, 2, 3, 4, 0] rfl ?_
      exact J80 P52 v52_s0 0 I52 X52 (by omega) (by omega) (by omega)
    · have h23698 : (pI P52 b23694 4).toInt ≠ 0 := ti_ne h23698
      refine g_aload_n C dX11_nameless_66 rfl 1 rfl ?_
      refine g_getR C fi_X11_11 rfl e23692 (h23690).1 (h23690).2 dX11_nameless_67 ?_
      refine g_iconst (v := 1) C dX11_nameless_70 (by decide) ?_
      obtain ⟨b23699, e23700, h23701⟩ := I52.elm h23693 (by decide) 1 (by decide)
      refine g_aldR C h23693.1 h23693.2.1 (by decide) (IX.litn (j := 1) h23693.2.2 rfl (by decide) (by decide)) e23700 dX11_nameless_71 ?_
      refine g_iload_n C dX11_nameless_72 rfl 3 rfl ?_
      refine g_callVI (rest := []) C mv_X11_140 [.int a2] (s_X1_pagesOf I52 h23701) (h23701).1 (h23701).2 rfl rfl (by decide) (Nat.le_of_ble_eq_true rfl) (by decide) dX11_nameless_73 (fun r23702 Y23703 h23704 => ?_)
      obtain ⟨Iy23705, Xy23706, h23704⟩ := h23704
      have Xz23707 : EK [1, 6, 7, 13] P Y23703 := X52.tr (Xy23706.mono (by decide))
      have h23708 := Xy23706.at h23690
      have h23704 : True := h23704
      refine g_goto C 80 dX11_nameless_76 (by decide) ?_
      refine g_lv (lv' := [(0, .ref a0), (1, .int a1), (2, .int a2), (3, .int a3), (4, .int v52_s0)]) [1, 2, 3, 4, 0] rfl ?_
      exact J80 Y23703 v52_s0 r23702 Iy23705 Xz23707 (by omega) (by omega) (by omega)
  have J24 : G E ({ frames := 5, cells := 1, slots := 7, locals := 320 } : Room) D cy 6 P 0 0 24 [] [] := by
    refine g_iconst (v := (-1)) C dX11_nameless_24 (by decide) ?_
    exact ret _ _ _ _ _ _ dX11_nameless_25 rfl (by decide) (by decide) ⟨I, EK.rf, (by decide)⟩
  refine g_iload_n C dX11_nameless_0 rfl 1 rfl ?_
  refine g_callSI (b := 0) (ci := 0) (rest := []) C ms_X11_158 [.int a1] (s_X11_isQuarter I) rfl rfl (by decide) (Nat.le_of_ble_eq_true rfl) (by decide) dX11_nameless_1 (fun r23709 Y23710 h23711 => ?_)
  obtain ⟨rfl, h23711⟩ := h23711
  obtain ⟨h23711, hi23712⟩ := h23711
  have hi23712 : r23709.toInt = 0 ∨ (((0 : Int) ≤ a1.toInt ∧ a1.toInt ≤ (3 : Int))) := hi23712
  have h23711 : 0 ≤ r23709.toInt ∧ r23709.toInt ≤ 1 := h23711
  refine b_if_eq C 24 dX11_nameless_4 (by decide) (fun h23713 => ?_) (fun h23713 => ?_)
  · have h23713 : r23709.toInt = 0 := congrArg Int32.toInt h23713
    clear hi23712
    refine g_lv (lv' := []) [] rfl ?_
    exact J24 
  · have h23713 : r23709.toInt ≠ 0 := ti_ne h23713
    replace hi23712 := hi23712.resolve_left (by omega)
    refine g_iload_n C dX11_nameless_7 rfl 2 rfl ?_
    refine g_callSI (b := 0) (ci := 0) (rest := []) C ms_X11_173 [.int a2] (s_X11_isNumber I) rfl rfl (by decide) (Nat.le_of_ble_eq_true rfl) (by decide) dX11_nameless_8 (fun r23714 Y23715 h23716 => ?_)
    obtain ⟨rfl, h23716⟩ := h23716
    obtain ⟨h23716, hi23717⟩ := h23716
    have hi23717 : r23714.toInt = 0 ∨ (((0 : Int) ≤ a2.toInt ∧ a2.toInt ≤ (9999 : Int))) := hi23717
    have h23716 : 0 ≤ r23714.toInt ∧ r23714.toInt ≤ 1 := h23716
    refine b_if_eq C 24 dX11_nameless_11 (by decide) (fun h23718 => ?_) (fun h23718 => ?_)
    · have h23718 : r23714.toInt = 0 := congrArg Int32.toInt h23718
      clear hi23717
      refine g_lv (lv' := []) [] rfl ?_
      exact J24 
    · have h23718 : r23714.toInt ≠ 0 := ti_ne h23718
      replace hi23717 := hi23717.resolve_left (by omega)
      refine g_iload_n C dX11_nameless_14 rfl 3 rfl ?_
      have u23720 := ti_rng a3
      refine b_if_lt C 24 dX11_nameless_15 (by decide) (fun h23719 => ?_) (fun h23719 => ?_)
      · have h23719 : a3.toInt < 0 := h23719
        refine g_lv (lv' := []) [] rfl ?_
        exact J24 
      · have h23719 : 0 ≤ a3.toInt := h23719
        refine g_iload_n C dX11_nameless_18 rfl 3 rfl ?_
        refine g_ldc (v := 65535) C kc_X11_104 dX11_nameless_19 ?_
        have u23722 := ti_rng a3
        refine b_icmp_le C 26 dX11_nameless_21 (by decide) (fun h23721 => ?_) (fun h23721 => ?_)
        · have h23721 : a3.toInt ≤ 65535 := h23721
          refine g_aload_n C dX11_nameless_26 rfl 0 rfl ?_
          obtain ⟨b23723, e23724, h23725⟩ := I.fld (ha0) 0 17 2 rfl
          refine g_getR C fi_X11_11 rfl e23724 (ha0).1 (ha0).2 dX11_nameless_27 ?_
          refine g_iconst (v := 0) C dX11_nameless_30 (by decide) ?_
          obtain ⟨b23726, e23727, h23728⟩ := I.elm h23725 (by decide) 0 (by decide)
          refine g_aldR C h23725.1 h23725.2.1 (by decide) (IX.litn (j := 0) h23725.2.2 rfl (by decide) (by decide)) e23727 dX11_nameless_31 ?_
          refine g_getI C fi_X11_176 (by decide) (h23728).1 (h23728).2 dX11_nameless_32 ?_
          have h23729 := I.rg (h23728) 4 rfl
          refine b_if_eq C 51 dX11_nameless_35 (by decide) (fun h23730 => ?_) (fun h23730 => ?_)
          · have h23730 : (pI P b23726 4).toInt = 0 := congrArg Int32.toInt h23730
            refine g_iconst (v := 0) C dX11_nameless_51 (by decide) ?_
            exact J52 P 0 I EK.rf (by omega) (by omega) (by omega)
          · have h23730 : (pI P b23726 4).toInt ≠ 0 := ti_ne h23730
            refine g_aload_n C dX11_nameless_38 rfl 0 rfl ?_
            refine g_getR C fi_X11_11 rfl e23724 (ha0).1 (ha0).2 dX11_nameless_39 ?_
            refine g_iconst (v := 0) C dX11_nameless_42 (by decide) ?_
            obtain ⟨b23731, e23732, h23733⟩ := I.elm h23725 (by decide) 0 (by decide)
            refine g_aldR C h23725.1 h23725.2.1 (by decide) (IX.litn (j := 0) h23725.2.2 rfl (by decide) (by decide)) e23732 dX11_nameless_43 ?_
            refine g_iload_n C dX11_nameless_44 rfl 2 rfl ?_
            refine g_callVI (rest := []) C mv_X11_140 [.int a2] (s_X1_pagesOf I h23733) (h23733).1 (h23733).2 rfl rfl (by decide) (Nat.le_of_ble_eq_true rfl) (by decide) dX11_nameless_45 (fun r23734 Y23735 h23736 => ?_)
            obtain ⟨Iy23737, Xy23738, h23736⟩ := h23736
            have Xz23739 : EK [1, 6, 7, 13] P Y23735 := Xy23738.mono (by decide)
            have h23740 := Xy23738.at ha0
            have h23736 : True := h23736
            refine g_goto C 52 dX11_nameless_48 (by decide) ?_
            exact J52 Y23735 r23734 Iy23737 Xz23739 (by omega) (by omega) (by omega)
        · have h23721 : 65535 < a3.toInt := h23721
          refine g_lv (lv' := []) [] rfl ?_
          exact J24 
theorem dX11_neededIn_0 : decode cX11_neededIn 0 = .ok (.aload_n 0, 1) := by decide +kernel
theorem dX11_neededIn_1 : decode cX11_neededIn 1 = .ok (.getfield 53, 3) := by decide +kernel
theorem dX11_neededIn_4 : decode cX11_neededIn 4 = .ok (.iconst 0, 1) := by decide +kernel
theorem dX11_neededIn_5 : decode cX11_neededIn 5 = .ok (.aaload, 1) := by decide +kernel
theorem dX11_neededIn_6 : decode cX11_neededIn 6 = .ok (.astore_n 3, 1) := by decide +kernel
theorem dX11_neededIn_7 : decode cX11_neededIn 7 = .ok (.aload_n 0, 1) := by decide +kernel
theorem dX11_neededIn_8 : decode cX11_neededIn 8 = .ok (.getfield 47, 3) := by decide +kernel
theorem dX11_neededIn_11 : decode cX11_neededIn 11 = .ok (.iconst 0, 1) := by decide +kernel
theorem dX11_neededIn_12 : decode cX11_neededIn 12 = .ok (.aaload, 1) := by decide +kernel
theorem dX11_neededIn_13 : decode cX11_neededIn 13 = .ok (.aload_n 2, 1) := by decide +kernel
theorem dX11_neededIn_14 : decode cX11_neededIn 14 = .ok (.invokevirtual 371, 3) := by decide +kernel
theorem dX11_neededIn_17 : decode cX11_neededIn 17 = .ok (.aload_n 3, 1) := by decide +kernel
theorem dX11_neededIn_18 : decode cX11_neededIn 18 = .ok (.aload_n 0, 1) := by decide +kernel
theorem dX11_neededIn_19 : decode cX11_neededIn 19 = .ok (.getfield 47, 3) := by decide +kernel
theorem dX11_neededIn_22 : decode cX11_neededIn 22 = .ok (.iconst 0, 1) := by decide +kernel
theorem dX11_neededIn_23 : decode cX11_neededIn 23 = .ok (.aaload, 1) := by decide +kernel
theorem dX11_neededIn_24 : decode cX11_neededIn 24 = .ok (.iconst (-1), 1) := by decide +kernel
theorem dX11_neededIn_25 : decode cX11_neededIn 25 = .ok (.invokevirtual 236, 3) := by decide +kernel
theorem dX11_neededIn_28 : decode cX11_neededIn 28 = .ok (.aload_n 2, 1) := by decide +kernel
theorem dX11_neededIn_29 : decode cX11_neededIn 29 = .ok (.invokevirtual 233, 3) := by decide +kernel
theorem dX11_neededIn_32 : decode cX11_neededIn 32 = .ok (.istore 4, 2) := by decide +kernel
theorem dX11_neededIn_34 : decode cX11_neededIn 34 = .ok (.iconst 0, 1) := by decide +kernel
theorem dX11_neededIn_35 : decode cX11_neededIn 35 = .ok (.istore 5, 2) := by decide +kernel
theorem dX11_neededIn_37 : decode cX11_neededIn 37 = .ok (.iload 5, 2) := by decide +kernel
theorem dX11_neededIn_39 : decode cX11_neededIn 39 = .ok (.bipush 60, 2) := by decide +kernel
theorem dX11_neededIn_41 : decode cX11_neededIn 41 = .ok (.if_icmp .ge 42, 3) := by decide +kernel
theorem dX11_neededIn_44 : decode cX11_neededIn 44 = .ok (.aload_n 3, 1) := by decide +kernel
theorem dX11_neededIn_45 : decode cX11_neededIn 45 = .ok (.getfield 246, 3) := by decide +kernel
theorem dX11_neededIn_48 : decode cX11_neededIn 48 = .ok (.iload 4, 2) := by decide +kernel
theorem dX11_neededIn_50 : decode cX11_neededIn 50 = .ok (.if_icmp .lt 6, 3) := by decide +kernel
theorem dX11_neededIn_53 : decode cX11_neededIn 53 = .ok (.iload 5, 2) := by decide +kernel
theorem dX11_neededIn_55 : decode cX11_neededIn 55 = .ok (.ireturn, 1) := by decide +kernel
theorem dX11_neededIn_56 : decode cX11_neededIn 56 = .ok (.aload_n 0, 1) := by decide +kernel
theorem dX11_neededIn_57 : decode cX11_neededIn 57 = .ok (.aload_n 2, 1) := by decide +kernel
theorem dX11_neededIn_58 : decode cX11_neededIn 58 = .ok (.iload 5, 2) := by decide +kernel
theorem dX11_neededIn_60 : decode cX11_neededIn 60 = .ok (.iload_n 1, 1) := by decide +kernel
theorem dX11_neededIn_61 : decode cX11_neededIn 61 = .ok (.invokevirtual 397, 3) := by decide +kernel
theorem dX11_neededIn_64 : decode cX11_neededIn 64 = .ok (.ifCond .eq 13, 3) := by decide +kernel
theorem dX11_neededIn_67 : decode cX11_neededIn 67 = .ok (.aload_n 3, 1) := by decide +kernel
theorem dX11_neededIn_68 : decode cX11_neededIn 68 = .ok (.aload_n 2, 1) := by decide +kernel
theorem dX11_neededIn_69 : decode cX11_neededIn 69 = .ok (.iload 5, 2) := by decide +kernel
theorem dX11_neededIn_71 : decode cX11_neededIn 71 = .ok (.invokevirtual 140, 3) := by decide +kernel
theorem dX11_neededIn_74 : decode cX11_neededIn 74 = .ok (.invokevirtual 392, 3) := by decide +kernel
theorem dX11_neededIn_77 : decode cX11_neededIn 77 = .ok (.iinc 5 1, 3) := by decide +kernel
theorem dX11_neededIn_80 : decode cX11_neededIn 80 = .ok (.goto (-43), 3) := by decide +kernel
theorem dX11_neededIn_83 : decode cX11_neededIn 83 = .ok (.aload_n 3, 1) := by decide +kernel
theorem dX11_neededIn_84 : decode cX11_neededIn 84 = .ok (.getfield 246, 3) := by decide +kernel
theorem dX11_neededIn_87 : decode cX11_neededIn 87 = .ok (.iload 4, 2) := by decide +kernel
theorem dX11_neededIn_89 : decode cX11_neededIn 89 = .ok (.if_icmp .lt 8, 3) := by decide +kernel
theorem dX11_neededIn_92 : decode cX11_neededIn 92 = .ok (.bipush 60, 2) := by decide +kernel
theorem dX11_neededIn_94 : decode cX11_neededIn 94 = .ok (.goto 4, 3) := by decide +kernel
theorem dX11_neededIn_97 : decode cX11_neededIn 97 = .ok (.iconst (-1), 1) := by decide +kernel
theorem dX11_neededIn_98 : decode cX11_neededIn 98 = .ok (.ireturn, 1) := by decide +kernel
set_option maxHeartbeats 4000000 in
set_option maxRecDepth 100000 in
theorem s_X11_neededIn {P : PP} {a0 : Nat} {a1 : Int32} {a2 : Nat} (I : IV P) (ha0 : At P a0 11) (ha1 : 0 ≤ a1.toInt ∧ a1.toInt ≤ 3) (ha2 : At P a2 1) : CtrI yX11_neededIn cX11_neededIn 6 (some Jvm.ClassFile.FieldType.int) ({ frames := 5, cells := 0, slots := 0, locals := 320 } : Room) 0 0 P [.ref a0, .int a1, .ref a2] (fun r P2 => IV P2 ∧ EK [0, 1, 5, 13] P P2 ∧ (-1 ≤ r.toInt ∧ r.toInt ≤ 60)) := by
  refine enI (lv := [(0, .ref a0), (1, .int a1), (2, .ref a2)]) (by decide) (Nat.le_of_ble_eq_true rfl) rfl (fun E D cy C Ci0 ret => ?_)
  have J37 : ∀ (n37 : Nat) (P37 : PP) (b37_3 : Nat) (v37_4 : Int32) (v37_5 : Int32), (60 - v37_5.toInt).toNat < n37 → (IV P37) → (EK [0, 1, 5, 13] P P37) → (At P37 b37_3 0) → (0 ≤ v37_4.toInt ∧ v37_4.toInt ≤ 20) → (0 ≤ v37_5.toInt ∧ v37_5.toInt ≤ 60) → G E ({ frames := 5, cells := 0, slots := 0, locals := 320 } : Room) D cy 6 P37 0 0 37 [(0, .ref a0), (1, .int a1), (2, .ref a2), (3, .ref b37_3), (4, .int v37_4), (5, .int v37_5)] [] := by
    intro n37
    induction n37 with
    | zero => intro P37 b37_3 v37_4 v37_5 hm37 I37 X37 hb37_3 hv37_4 hv37_5; omega
    | succ n37 ih37 =>
      intro P37 b37_3 v37_4 v37_5 hm37 I37 X37 hb37_3 hv37_4 hv37_5
      have h24422 := X37.at ha0
      have h24423 := X37.at ha2
      have J77 : ∀ (P77 : PP) (b77_3 : Nat), (IV P77) → (EK [0, 1, 5, 13] P P77) → (At P77 b77_3 0) → (1 ≤ v37_4.toInt ∧ v37_4.toInt ≤ 20) → (0 ≤ v37_5.toInt ∧ v37_5.toInt ≤ 59) → G E ({ frames := 5, cells := 0, slots := 0, locals := 320 } : Room) D cy 6 P77 0 0 77 [(0, .ref a0), (1, .int a1), (2, .ref a2), (3, .ref b77_3), (4, .int v37_4), (5, .int v37_5)] [] := by
        intro P77 b77_3 I77 X77 hb77_3 hv77_4 hv77_5
        have h24424 := X77.at ha0
        have h24425 := X77.at ha2
        refine s_iinc (lv0 := [(0, .ref a0), (1, .int a1), (2, .ref a2), (3, .ref b77_3), (4, .int v37_4)]) (m := 1) C dX11_neededIn_77 5 rfl (by decide) rfl (by decide) (by omega) (fun z24426 h24427 => ?_)
        have h24427 : z24426.toInt = v37_5.toInt + 1 := h24427
        refine g_goto C 37 dX11_neededIn_80 (by decide) ?_
        refine g_lv (lv' := [(0, .ref a0), (1, .int a1), (2, .ref a2), (3, .ref b77_3), (4, .int v37_4), (5, .int z24426)]) [1, 2, 3, 4, 5, 0] rfl ?_
        exact ih37 P77 b77_3 v37_4 z24426 (by omega) I77 X77 hb77_3 (by omega) (by omega)
      refine g_iload C dX11_neededIn_37 5 rfl ?_
      refine g_bipush (v := 60) C dX11_neededIn_39 (by decide) ?_
      refine b_icmp_ge C 83 dX11_neededIn_41 (by decide) (fun h24428 => ?_) (fun h24428 => ?_)
      · have h24428 : 60 ≤ v37_5.toInt := h24428
        refine g_aload_n C dX11_neededIn_83 rfl 3 rfl ?_
        refine g_getI C fi_X11_246 (by decide) (hb37_3).1 (hb37_3).2 dX11_neededIn_84 ?_
        have h24429 := I37.rg (hb37_3) 2 rfl
        refine g_iload C dX11_neededIn_87 4 rfl ?_
        refine b_icmp_lt C 97 dX11_neededIn_89 (by decide) (fun h24430 => ?_) (fun h24430 => ?_)
        · have h24430 : (pI P37 b37_3 2).toInt < v37_4.toInt := h24430
          refine g_iconst (v := (-1)) C dX11_neededIn_97 (by decide) ?_
          exact ret _ _ _ _ _ _ dX11_neededIn_98 rfl (by decide) (by decide) ⟨I37, X37, (by decide)⟩
        · have h24430 : v37_4.toInt ≤ (pI P37 b37_3 2).toInt := h24430
          refine g_bipush (v := 60) C dX11_neededIn_92 (by decide) ?_
          refine g_goto C 98 dX11_neededIn_94 (by decide) ?_
          exact ret _ _ _ _ _ _ dX11_neededIn_98 rfl (by decide) (by decide) ⟨I37, X37, (by decide)⟩
      · have h24428 : v37_5.toInt < 60 := h24428
        refine g_aload_n C dX11_neededIn_44 rfl 3 rfl ?_
        refine g_getI C fi_X11_246 (by decide) (hb37_3).1 (hb37_3).2 dX11_neededIn_45 ?_
        have h24431 := I37.rg (hb37_3) 2 rfl
        refine g_iload C dX11_neededIn_48 4 rfl ?_
        refine b_icmp_lt C 56 dX11_neededIn_50 (by decide) (fun h24432 => ?_) (fun h24432 => ?_)
        · have h24432 : (pI P37 b37_3 2).toInt < v37_4.toInt := h24432
          refine g_aload_n C dX11_neededIn_56 rfl 0 rfl ?_
          refine g_aload_n C dX11_neededIn_57 rfl 2 rfl ?_
          refine g_iload C dX11_neededIn_58 5 rfl ?_
          refine g_iload_n C dX11_neededIn_60 rfl 1 rfl ?_
          refine g_callVI (rest := []) C mv_X11_397 [.ref a2, .int v37_5, .int a1] (s_X11_falls I37 h24422 h24423 (by omega)) (h24422).1 (h24422).2 rfl rfl (by decide) (Nat.le_of_ble_eq_true rfl) (by decide) dX11_neededIn_61 (fun r24433 Y24434 h24435 => ?_)
          obtain ⟨rfl, h24435⟩ := h24435
          have h24435 : 0 ≤ r24433.toInt ∧ r24433.toInt ≤ 1 := h24435
          refine b_if_eq C 77 dX11_neededIn_64 (by decide) (fun h24436 => ?_) (fun h24436 => ?_)
          · have h24436 : r24433.toInt = 0 := congrArg Int32.toInt h24436
            exact J77 P37 b37_3 I37 X37 hb37_3 (by omega) (by omega)
          · have h24436 : r24433.toInt ≠ 0 := ti_ne h24436
            refine g_aload_n C dX11_neededIn_67 rfl 3 rfl ?_
            refine g_aload_n C dX11_neededIn_68 rfl 2 rfl ?_
            refine g_iload C dX11_neededIn_69 5 rfl ?_
            refine g_callVI (rest := [.ref b37_3]) C mv_X11_140 [.int v37_5] (s_X1_pagesOf I37 h24423) (h24423).1 (h24423).2 rfl rfl (by decide) (Nat.le_of_ble_eq_true rfl) (by decide) dX11_neededIn_71 (fun r24437 Y24438 h24439 => ?_)
            obtain ⟨Iy24440, Xy24441, h24439⟩ := h24439
            have q24442 := Xy24441.keep hb37_3 (by decide) 2
            have Xz24443 : EK [0, 1, 5, 13] P Y24438 := X37.tr (Xy24441.mono (by decide))
            have h24444 := Xy24441.at h24422
            have h24445 := Xy24441.at h24423
            have h24446 := Xy24441.at hb37_3
            have h24439 : True := h24439
            refine g_callVV (rest := []) C mv_X11_392 [.int r24437] (s_X0_add Iy24440 h24446) (h24446).1 (h24446).2 rfl rfl (by decide) (Nat.le_of_ble_eq_true rfl) (by decide) dX11_neededIn_74 (fun Y24448 h24449 => ?_)
            obtain ⟨Iy24450, Xy24451⟩ := h24449
            have Xz24452 : EK [0, 1, 5, 13] P Y24448 := Xz24443.tr (Xy24451.mono (by decide))
            have h24453 := Xy24451.at h24444
            have h24454 := Xy24451.at h24445
            have h24455 := Xy24451.at h24446
            exact J77 Y24448 b37_3 Iy24450 Xz24452 h24455 (by omega) (by omega)
        · have h24432 : v37_4.toInt ≤ (pI P37 b37_3 2).toInt := h24432
          refine g_iload C dX11_neededIn_53 5 rfl ?_
          exact ret _ _ _ _ _ _ dX11_neededIn_55 rfl (by decide) (by decide) ⟨I37, X37, (by omega)⟩
  refine g_aload_n C dX11_neededIn_0 rfl 0 rfl ?_
  obtain ⟨b24456, e24457, h24458⟩ := I.fld (ha0) 9 16 2 rfl
  refine g_getR C fi_X11_53 rfl e24457 (ha0).1 (ha0).2 dX11_neededIn_1 ?_
  refine g_iconst (v := 0) C dX11_neededIn_4 (by decide) ?_
  obtain ⟨b24459, e24460, h24461⟩ := I.elm h24458 (by decide) 0 (by decide)
  refine g_aldR C h24458.1 h24458.2.1 (by decide) (IX.litn (j := 0) h24458.2.2 rfl (by decide) (by decide)) e24460 dX11_neededIn_5 ?_
  refine g_astore_n (lv' := [(3, .ref b24459), (0, .ref a0), (1, .int a1), (2, .ref a2)]) C dX11_neededIn_6 rfl (by decide) rfl ?_
  refine g_aload_n C dX11_neededIn_7 rfl 1 rfl ?_
  obtain ⟨b24462, e24463, h24464⟩ := I.fld (ha0) 8 18 2 rfl
  refine g_getR C fi_X11_47 rfl e24463 (ha0).1 (ha0).2 dX11_neededIn_8 ?_
  refine g_iconst (v := 0) C dX11_neededIn_11 (by decide) ?_
  obtain ⟨b24465, e24466, h24467⟩ := I.elm h24464 (by decide) 0 (by decide)
  refine g_aldR C h24464.1 h24464.2.1 (by decide) (IX.litn (j := 0) h24464.2.2 rfl (by decide) (by decide)) e24466 dX11_neededIn_12 ?_
  refine g_aload_n C dX11_neededIn_13 rfl 3 rfl ?_
  refine g_callVV (rest := []) C mv_X11_371 [.ref a2] (s_X5_startWith I h24467 ha2) (h24467).1 (h24467).2 rfl rfl (by decide) (Nat.le_of_ble_eq_true rfl) (by decide) dX11_neededIn_14 (fun Y24469 h24470 => ?_)
  obtain ⟨Iy24471, Xy24472⟩ := h24470
  have Xz24473 : EK [0, 1, 5, 13] P Y24469 := Xy24472.mono (by decide)
  have h24474 := Xy24472.at ha0
  have h24475 := Xy24472.at ha2
  have h24476 := Xy24472.at h24461
  refine g_aload_n C dX11_neededIn_17 rfl 0 rfl ?_
  refine g_aload_n C dX11_neededIn_18 rfl 1 rfl ?_
  obtain ⟨b24477, e24478, h24479⟩ := Iy24471.fld (h24474) 8 18 2 rfl
  refine g_getR C fi_X11_47 rfl e24478 (h24474).1 (h24474).2 dX11_neededIn_19 ?_
  refine g_iconst (v := 0) C dX11_neededIn_22 (by decide) ?_
  obtain ⟨b24480, e24481, h24482⟩ := Iy24471.elm h24479 (by decide) 0 (by decide)
  refine g_aldR C h24479.1 h24479.2.1 (by decide) (IX.litn (j := 0) h24479.2.2 rfl (by decide) (by decide)) e24481 dX11_neededIn_23 ?_
  refine g_iconst (v := (-1)) C dX11_neededIn_24 (by decide) ?_
  refine g_callVV (rest := []) C mv_X11_236 [.ref b24480, .int (-1)] (s_X0_take Iy24471 h24476 h24482) (h24476).1 (h24476).2 rfl rfl (by decide) (Nat.le_of_ble_eq_true rfl) (by decide) dX11_neededIn_25 (fun Y24484 h24485 => ?_)
  obtain ⟨Iy24486, Xy24487⟩ := h24485
  have Xz24488 : EK [0, 1, 5, 13] P Y24484 := Xz24473.tr (Xy24487.mono (by decide))
  have h24489 := Xy24487.at h24474
  have h24490 := Xy24487.at h24475
  have h24491 := Xy24487.at h24476
  refine g_aload_n C dX11_neededIn_28 rfl 3 rfl ?_
  refine g_callVI (rest := []) C mv_X11_233 [] (s_X1_all Iy24486 h24490) (h24490).1 (h24490).2 rfl rfl (by decide) (Nat.le_of_ble_eq_true rfl) (by decide) dX11_neededIn_29 (fun r24492 Y24493 h24494 => ?_)
  obtain ⟨rfl, h24494⟩ := h24494
  have h24494 : 0 ≤ r24492.toInt ∧ r24492.toInt ≤ 20 := h24494
  refine g_istore (lv' := [(4, .int r24492), (3, .ref b24459), (0, .ref a0), (1, .int a1), (2, .ref a2)]) C dX11_neededIn_32 (by decide) rfl ?_
  refine g_iconst (v := 0) C dX11_neededIn_34 (by decide) ?_
  refine g_istore (lv' := [(5, .int 0), (4, .int r24492), (3, .ref b24459), (0, .ref a0), (1, .int a1), (2, .ref a2)]) C dX11_neededIn_35 (by decide) rfl ?_
  refine g_lv (lv' := [(0, .ref a0), (1, .int a1), (2, .ref a2), (3, .ref b24459), (4, .int r24492), (5, .int 0)]) [3, 4, 5, 2, 1, 0] rfl ?_
  exact J37 _ Y24484 b24459 r24492 0 (Nat.lt_succ_self _) Iy24486 Xz24488 h24491 (by omega) (by decide)
theorem dX11_needs_0 : decode cX11_needs 0 = .ok (.iload_n 1, 1) := by decide +kernel
theorem dX11_needs_1 : decode cX11_needs 1 = .ok (.invokestatic 158, 3) := by decide +kernel
theorem dX11_needs_4 : decode cX11_needs 4 = .ok (.ifCond .eq 11, 3) := by decide +kernel
theorem dX11_needs_7 : decode cX11_needs 7 = .ok (.aload_n 0, 1) := by decide +kernel
theorem dX11_needs_8 : decode cX11_needs 8 = .ok (.iload_n 2, 1) := by decide +kernel
theorem dX11_needs_9 : decode cX11_needs 9 = .ok (.invokevirtual 97, 3) := by decide +kernel
theorem dX11_needs_12 : decode cX11_needs 12 = .ok (.ifCond .ne 5, 3) := by decide +kernel
theorem dX11_needs_15 : decode cX11_needs 15 = .ok (.iconst (-1), 1) := by decide +kernel
theorem dX11_needs_16 : decode cX11_needs 16 = .ok (.ireturn, 1) := by decide +kernel
theorem dX11_needs_17 : decode cX11_needs 17 = .ok (.aload_n 0, 1) := by decide +kernel
theorem dX11_needs_18 : decode cX11_needs 18 = .ok (.iload_n 1, 1) := by decide +kernel
theorem dX11_needs_19 : decode cX11_needs 19 = .ok (.aload_n 0, 1) := by decide +kernel
theorem dX11_needs_20 : decode cX11_needs 20 = .ok (.getfield 11, 3) := by decide +kernel
theorem dX11_needs_23 : decode cX11_needs 23 = .ok (.iload_n 2, 1) := by decide +kernel
theorem dX11_needs_24 : decode cX11_needs 24 = .ok (.aaload, 1) := by decide +kernel
theorem dX11_needs_25 : decode cX11_needs 25 = .ok (.invokevirtual 326, 3) := by decide +kernel
theorem dX11_needs_28 : decode cX11_needs 28 = .ok (.ireturn, 1) := by decide +kernel
set_option maxHeartbeats 4000000 in
set_option maxRecDepth 100000 in
theorem s_X11_needs {P : PP} {a0 : Nat} {a1 : Int32} {a2 : Int32} (I : IV P) (ha0 : At P a0 11) : CtrI yX11_needs cX11_needs 3 (some Jvm.ClassFile.FieldType.int) ({ frames := 6, cells := 0, slots := 0, locals := 384 } : Room) 0 0 P [.ref a0, .int a1, .int a2] (fun r P2 => IV P2 ∧ EK [0, 1, 5, 13] P P2 ∧ (-1 ≤ r.toInt ∧ r.toInt ≤ 60)) := by
  refine enI (lv := [(0, .ref a0), (1, .int a1), (2, .int a2)]) (by decide) (Nat.le_of_ble_eq_true rfl) rfl (fun E D cy C Ci0 ret => ?_)
  have J15 : G E ({ frames := 6, cells := 0, slots := 0, locals := 384 } : Room) D cy 3 P 0 0 15 [] [] := by
    refine g_iconst (v := (-1)) C dX11_needs_15 (by decide) ?_
    exact ret _ _ _ _ _ _ dX11_needs_16 rfl (by decide) (by decide) ⟨I, EK.rf, (by decide)⟩
  refine g_iload_n C dX11_needs_0 rfl 1 rfl ?_
  refine g_callSI (b := 0) (ci := 0) (rest := []) C ms_X11_158 [.int a1] (s_X11_isQuarter I) rfl rfl (by decide) (Nat.le_of_ble_eq_true rfl) (by decide) dX11_needs_1 (fun r24518 Y24519 h24520 => ?_)
  obtain ⟨rfl, h24520⟩ := h24520
  obtain ⟨h24520, hi24521⟩ := h24520
  have hi24521 : r24518.toInt = 0 ∨ (((0 : Int) ≤ a1.toInt ∧ a1.toInt ≤ (3 : Int))) := hi24521
  have h24520 : 0 ≤ r24518.toInt ∧ r24518.toInt ≤ 1 := h24520
  refine b_if_eq C 15 dX11_needs_4 (by decide) (fun h24522 => ?_) (fun h24522 => ?_)
  · have h24522 : r24518.toInt = 0 := congrArg Int32.toInt h24522
    clear hi24521
    refine g_lv (lv' := []) [] rfl ?_
    exact J15 
  · have h24522 : r24518.toInt ≠ 0 := ti_ne h24522
    replace hi24521 := hi24521.resolve_left (by omega)
    refine g_aload_n C dX11_needs_7 rfl 0 rfl ?_
    refine g_iload_n C dX11_needs_8 rfl 2 rfl ?_
    refine g_callVI (rest := []) C mv_X11_97 [.int a2] (s_X11_isTold I ha0) (ha0).1 (ha0).2 rfl rfl (by decide) (Nat.le_of_ble_eq_true rfl) (by decide) dX11_needs_9 (fun r24523 Y24524 h24525 => ?_)
    obtain ⟨rfl, h24525⟩ := h24525
    obtain ⟨h24525, hi24526⟩ := h24525
    have hi24526 : r24523.toInt = 0 ∨ (((0 : Int) ≤ a2.toInt ∧ a2.toInt ≤ (1 : Int))) := hi24526
    have h24525 : 0 ≤ r24523.toInt ∧ r24523.toInt ≤ 1 := h24525
    refine b_if_ne C 17 dX11_needs_12 (by decide) (fun h24527 => ?_) (fun h24527 => ?_)
    · have h24527 : r24523.toInt ≠ 0 := ti_ne h24527
      replace hi24526 := hi24526.resolve_left (by omega)
      refine g_aload_n C dX11_needs_17 rfl 0 rfl ?_
      refine g_iload_n C dX11_needs_18 rfl 1 rfl ?_
      refine g_aload_n C dX11_needs_19 rfl 0 rfl ?_
      obtain ⟨b24528, e24529, h24530⟩ := I.fld (ha0) 0 17 2 rfl
      refine g_getR C fi_X11_11 rfl e24529 (ha0).1 (ha0).2 dX11_needs_20 ?_
      refine g_iload_n C dX11_needs_23 rfl 2 rfl ?_
      obtain ⟨b24531, e24532, h24533⟩ := I.elm h24530 (by decide) (a2.toInt.toNat) (by omega)
      refine g_aldR C h24530.1 h24530.2.1 (by decide) (ix_in h24530.2.2 (by omega)) e24532 dX11_needs_24 ?_
      refine g_callVI (rest := []) C mv_X11_326 [.int a1, .ref b24531] (s_X11_neededIn I ha0 (by omega) h24533) (ha0).1 (ha0).2 rfl rfl (by decide) (Nat.le_of_ble_eq_true rfl) (by decide) dX11_needs_25 (fun r24534 Y24535 h24536 => ?_)
      obtain ⟨Iy24537, Xy24538, h24536⟩ := h24536
      have Xz24539 : EK [0, 1, 5, 13] P Y24535 := Xy24538.mono (by decide)
      have h24540 := Xy24538.at ha0
      have h24536 : -1 ≤ r24534.toInt ∧ r24534.toInt ≤ 60 := h24536
      exact ret _ _ _ _ _ _ dX11_needs_28 rfl (by decide) (by decide) ⟨Iy24537, Xz24539, (by omega)⟩
    · have h24527 : r24523.toInt = 0 := congrArg Int32.toInt h24527
      clear hi24526
      refine g_lv (lv' := []) [] rfl ?_
      exact J15 
theorem dX11_page_0 : decode cX11_page 0 = .ok (.aload_n 0, 1) := by decide +kernel
theorem dX11_page_1 : decode cX11_page 1 = .ok (.iload_n 1, 1) := by decide +kernel
theorem dX11_page_2 : decode cX11_page 2 = .ok (.invokevirtual 97, 3) := by decide +kernel
theorem dX11_page_5 : decode cX11_page 5 = .ok (.ifCond .eq 20, 3) := by decide +kernel
theorem dX11_page_8 : decode cX11_page 8 = .ok (.iload_n 2, 1) := by decide +kernel
theorem dX11_page_9 : decode cX11_page 9 = .ok (.ifCond .lt 16, 3) := by decide +kernel
theorem dX11_page_12 : decode cX11_page 12 = .ok (.iload_n 2, 1) := by decide +kernel
theorem dX11_page_13 : decode cX11_page 13 = .ok (.aload_n 0, 1) := by decide +kernel
theorem dX11_page_14 : decode cX11_page 14 = .ok (.getfield 11, 3) := by decide +kernel
theorem dX11_page_17 : decode cX11_page 17 = .ok (.iload_n 1, 1) := by decide +kernel
theorem dX11_page_18 : decode cX11_page 18 = .ok (.aaload, 1) := by decide +kernel
theorem dX11_page_19 : decode cX11_page 19 = .ok (.getfield 100, 3) := by decide +kernel
theorem dX11_page_22 : decode cX11_page 22 = .ok (.if_icmp .lt 5, 3) := by decide +kernel
theorem dX11_page_25 : decode cX11_page 25 = .ok (.iconst 0, 1) := by decide +kernel
theorem dX11_page_26 : decode cX11_page 26 = .ok (.ireturn, 1) := by decide +kernel
theorem dX11_page_27 : decode cX11_page 27 = .ok (.iload_n 3, 1) := by decide +kernel
theorem dX11_page_28 : decode cX11_page 28 = .ok (.ifCond .lt 17, 3) := by decide +kernel
theorem dX11_page_31 : decode cX11_page 31 = .ok (.iload_n 3, 1) := by decide +kernel
theorem dX11_page_32 : decode cX11_page 32 = .ok (.ldc 104, 2) := by decide +kernel
theorem dX11_page_34 : decode cX11_page 34 = .ok (.if_icmp .gt 11, 3) := by decide +kernel
theorem dX11_page_37 : decode cX11_page 37 = .ok (.aload_n 0, 1) := by decide +kernel
theorem dX11_page_38 : decode cX11_page 38 = .ok (.iload_n 1, 1) := by decide +kernel
theorem dX11_page_39 : decode cX11_page 39 = .ok (.invokevirtual 105, 3) := by decide +kernel
theorem dX11_page_42 : decode cX11_page 42 = .ok (.ifCond .eq 5, 3) := by decide +kernel
theorem dX11_page_45 : decode cX11_page 45 = .ok (.iconst 0, 1) := by decide +kernel
theorem dX11_page_46 : decode cX11_page 46 = .ok (.ireturn, 1) := by decide +kernel
theorem dX11_page_47 : decode cX11_page 47 = .ok (.aload_n 0, 1) := by decide +kernel
theorem dX11_page_48 : decode cX11_page 48 = .ok (.getfield 11, 3) := by decide +kernel
theorem dX11_page_51 : decode cX11_page 51 = .ok (.iload_n 1, 1) := by decide +kernel
theorem dX11_page_52 : decode cX11_page 52 = .ok (.aaload, 1) := by decide +kernel
theorem dX11_page_53 : decode cX11_page 53 = .ok (.getfield 108, 3) := by decide +kernel
theorem dX11_page_56 : decode cX11_page 56 = .ok (.iload_n 2, 1) := by decide +kernel
theorem dX11_page_57 : decode cX11_page 57 = .ok (.iload_n 3, 1) := by decide +kernel
theorem dX11_page_58 : decode cX11_page 58 = .ok (.iastore, 1) := by decide +kernel
theorem dX11_page_59 : decode cX11_page 59 = .ok (.iconst 1, 1) := by decide +kernel
theorem dX11_page_60 : decode cX11_page 60 = .ok (.ireturn, 1) := by decide +kernel
set_option maxHeartbeats 4000000 in
set_option maxRecDepth 100000 in
theorem s_X11_page {P : PP} {a0 : Nat} {a1 : Int32} {a2 : Int32} {a3 : Int32} (I : IV P) (ha0 : At P a0 11) : CtrI yX11_page cX11_page 4 (some Jvm.ClassFile.FieldType.boolean) ({ frames := 4, cells := 0, slots := 0, locals := 256 } : Room) 0 0 P [.ref a0, .int a1, .int a2, .int a3] (fun r P2 => IV P2 ∧ EK [13] P P2 ∧ (0 ≤ r.toInt ∧ r.toInt ≤ 1) ∧ (r.toInt = 0 ∨ (((0 : Int) ≤ a1.toInt ∧ a1.toInt ≤ (1 : Int)) ∧ ((0 : Int) ≤ a2.toInt ∧ a2.toInt ≤ (15 : Int)) ∧ ((0 : Int) ≤ a3.toInt ∧ a3.toInt ≤ (65535 : Int))))) := by
  refine enI (lv := [(0, .ref a0), (1, .int a1), (2, .int a2), (3, .int a3)]) (by decide) (Nat.le_of_ble_eq_true rfl) rfl (fun E D cy C Ci0 ret => ?_)
  have J45 : G E ({ frames := 4, cells := 0, slots := 0, locals := 256 } : Room) D cy 4 P 0 0 45 [] [] := by
    refine g_iconst (v := 0) C dX11_page_45 (by decide) ?_
    exact ret _ _ _ _ _ _ dX11_page_46 rfl (by decide) (by decide) ⟨I, EK.rf, (by decide), Or.inl rfl⟩
  have J25 : G E ({ frames := 4, cells := 0, slots := 0, locals := 256 } : Room) D cy 4 P 0 0 25 [] [] := by
    refine g_iconst (v := 0) C dX11_page_25 (by decide) ?_
    exact ret _ _ _ _ _ _ dX11_page_26 rfl (by decide) (by decide) ⟨I, EK.rf, (by decide), Or.inl rfl⟩
  refine g_aload_n C dX11_page_0 rfl 0 rfl ?_
  refine g_iload_n C dX11_page_1 rfl 1 rfl ?_
  refine g_callVI (rest := []) C mv_X11_97 [.int a1] (s_X11_isTold I ha0) (ha0).1 (ha0).2 rfl rfl (by decide) (Nat.le_of_ble_eq_true rfl) (by decide) dX11_page_2 (fun r24577 Y24578 h24579 => ?_)
  obtain ⟨rfl, h24579⟩ := h24579
  obtain ⟨h24579, hi24580⟩ := h24579
  have hi24580 : r24577.toInt = 0 ∨ (((0 : Int) ≤ a1.toInt ∧ a1.toInt ≤ (1 : Int))) := hi24580
  have h24579 : 0 ≤ r24577.toInt ∧ r24577.toInt ≤ 1 := h24579
  refine b_if_eq C 25 dX11_page_5 (by decide) (fun h24581 => ?_) (fun h24581 => ?_)
  · have h24581 : r24577.toInt = 0 := congrArg Int32.toInt h24581
    clear hi24580
    refine g_lv (lv' := []) [] rfl ?_
    exact J25 
  · have h24581 : r24577.toInt ≠ 0 := ti_ne h24581
    replace hi24580 := hi24580.resolve_left (by omega)
    refine g_iload_n C dX11_page_8 rfl 2 rfl ?_
    have u24583 := ti_rng a2
    refine b_if_lt C 25 dX11_page_9 (by decide) (fun h24582 => ?_) (fun h24582 => ?_)
    · have h24582 : a2.toInt < 0 := h24582
      refine g_lv (lv' := []) [] rfl ?_
      exact J25 
    · have h24582 : 0 ≤ a2.toInt := h24582
      refine g_iload_n C dX11_page_12 rfl 2 rfl ?_
      refine g_aload_n C dX11_page_13 rfl 0 rfl ?_
      obtain ⟨b24584, e24585, h24586⟩ := I.fld (ha0) 0 17 2 rfl
      refine g_getR C fi_X11_11 rfl e24585 (ha0).1 (ha0).2 dX11_page_14 ?_
      refine g_iload_n C dX11_page_17 rfl 1 rfl ?_
      obtain ⟨b24587, e24588, h24589⟩ := I.elm h24586 (by decide) (a1.toInt.toNat) (by omega)
      refine g_aldR C h24586.1 h24586.2.1 (by decide) (ix_in h24586.2.2 (by omega)) e24588 dX11_page_18 ?_
      refine g_getI C fi_X11_100 (by decide) (h24589).1 (h24589).2 dX11_page_19 ?_
      have h24590 := I.rg (h24589) 5 rfl
      have u24592 := ti_rng a2
      refine b_icmp_lt C 27 dX11_page_22 (by decide) (fun h24591 => ?_) (fun h24591 => ?_)
      · have h24591 : a2.toInt < (pI P b24587 5).toInt := h24591
        refine g_iload_n C dX11_page_27 rfl 3 rfl ?_
        have u24594 := ti_rng a3
        refine b_if_lt C 45 dX11_page_28 (by decide) (fun h24593 => ?_) (fun h24593 => ?_)
        · have h24593 : a3.toInt < 0 := h24593
          refine g_lv (lv' := []) [] rfl ?_
          exact J45 
        · have h24593 : 0 ≤ a3.toInt := h24593
          refine g_iload_n C dX11_page_31 rfl 3 rfl ?_
          refine g_ldc (v := 65535) C kc_X11_104 dX11_page_32 ?_
          have u24596 := ti_rng a3
          refine b_icmp_gt C 45 dX11_page_34 (by decide) (fun h24595 => ?_) (fun h24595 => ?_)
          · have h24595 : 65535 < a3.toInt := h24595
            refine g_lv (lv' := []) [] rfl ?_
            exact J45 
          · have h24595 : a3.toInt ≤ 65535 := h24595
            refine g_aload_n C dX11_page_37 rfl 0 rfl ?_
            refine g_iload_n C dX11_page_38 rfl 1 rfl ?_
            refine g_callVI (rest := []) C mv_X11_105 [.int a1] (s_X11_isTouched I ha0) (ha0).1 (ha0).2 rfl rfl (by decide) (Nat.le_of_ble_eq_true rfl) (by decide) dX11_page_39 (fun r24597 Y24598 h24599 => ?_)
            obtain ⟨rfl, h24599⟩ := h24599
            have h24599 : 0 ≤ r24597.toInt ∧ r24597.toInt ≤ 1 := h24599
            refine b_if_eq C 47 dX11_page_42 (by decide) (fun h24600 => ?_) (fun h24600 => ?_)
            · have h24600 : r24597.toInt = 0 := congrArg Int32.toInt h24600
              refine g_aload_n C dX11_page_47 rfl 0 rfl ?_
              refine g_getR C fi_X11_11 rfl e24585 (ha0).1 (ha0).2 dX11_page_48 ?_
              refine g_iload_n C dX11_page_51 rfl 1 rfl ?_
              obtain ⟨b24601, e24602, h24603⟩ := I.elm h24586 (by decide) (a1.toInt.toNat) (by omega)
              refine g_aldR C h24586.1 h24586.2.1 (by decide) (ix_in h24586.2.2 (by omega)) e24602 dX11_page_52 ?_
              obtain ⟨b24604, e24605, h24606⟩ := I.fld (h24603) 1 13 16 rfl
              refine g_getR C fi_X11_108 rfl e24605 (h24603).1 (h24603).2 dX11_page_53 ?_
              refine g_iload_n C dX11_page_56 rfl 2 rfl ?_
              refine g_iload_n C dX11_page_57 rfl 3 rfl ?_
              refine g_iast (j := (a2.toInt.toNat)) C h24606.1 h24606.2.1 (ix_in h24606.2.2 (by omega)) dX11_page_58 ?_
              refine gp (ks := [13]) (I.setA h24606 (by decide)) (EK.setI h24606.2.1 (by decide)) (fun Y24607 Iy24608 Xy24609 => ?_)
              have q24610 := Xy24609.keep h24589 (by decide) 5
              have Xz24611 : EK [13] P Y24607 := Xy24609.mono (by decide)
              have h24612 := Xy24609.at ha0
              refine g_iconst (v := 1) C dX11_page_59 (by decide) ?_
              exact ret _ _ _ _ _ _ dX11_page_60 rfl (by decide) (by decide) ⟨Iy24608, Xz24611, (by decide), Or.inr (by omega)⟩
            · have h24600 : r24597.toInt ≠ 0 := ti_ne h24600
              refine g_lv (lv' := []) [] rfl ?_
              exact J45 
      · have h24591 : (pI P b24587 5).toInt ≤ a2.toInt := h24591
        refine g_lv (lv' := []) [] rfl ?_
        exact J25 
theorem dX11_paper_0 : decode cX11_paper 0 = .ok (.aload_n 0, 1) := by decide +kernel
theorem dX11_paper_1 : decode cX11_paper 1 = .ok (.iload_n 1, 1) := by decide +kernel
theorem dX11_paper_2 : decode cX11_paper 2 = .ok (.iload_n 2, 1) := by decide +kernel
theorem dX11_paper_3 : decode cX11_paper 3 = .ok (.invokevirtual 185, 3) := by decide +kernel
theorem dX11_paper_6 : decode cX11_paper 6 = .ok (.astore 4, 2) := by decide +kernel
theorem dX11_paper_8 : decode cX11_paper 8 = .ok (.aload 4, 2) := by decide +kernel
theorem dX11_paper_10 : decode cX11_paper 10 = .ok (.ifnonnull 11, 3) := by decide +kernel
theorem dX11_paper_13 : decode cX11_paper 13 = .ok (.new 188, 3) := by decide +kernel
theorem dX11_peels_0 : decode cX11_peels 0 = .ok (.iload_n 1, 1) := by decide +kernel
theorem dX11_peels_1 : decode cX11_peels 1 = .ok (.invokestatic 158, 3) := by decide +kernel
theorem dX11_peels_4 : decode cX11_peels 4 = .ok (.ifCond .eq 18, 3) := by decide +kernel
theorem dX11_peels_7 : decode cX11_peels 7 = .ok (.aload_n 0, 1) := by decide +kernel
theorem dX11_peels_8 : decode cX11_peels 8 = .ok (.iload_n 2, 1) := by decide +kernel
theorem dX11_peels_9 : decode cX11_peels 9 = .ok (.invokevirtual 97, 3) := by decide +kernel
theorem dX11_peels_12 : decode cX11_peels 12 = .ok (.ifCond .eq 10, 3) := by decide +kernel
theorem dX11_peels_15 : decode cX11_peels 15 = .ok (.iload_n 3, 1) := by decide +kernel
theorem dX11_peels_16 : decode cX11_peels 16 = .ok (.invokestatic 213, 3) := by decide +kernel
theorem dX11_peels_19 : decode cX11_peels 19 = .ok (.ifCond .ne 5, 3) := by decide +kernel
theorem dX11_peels_24 : decode cX11_peels 24 = .ok (.aload_n 0, 1) := by decide +kernel
theorem dX11_peels_25 : decode cX11_peels 25 = .ok (.iload_n 1, 1) := by decide +kernel
theorem dX11_peels_26 : decode cX11_peels 26 = .ok (.iload_n 2, 1) := by decide +kernel
theorem dX11_peels_27 : decode cX11_peels 27 = .ok (.iload_n 3, 1) := by decide +kernel
theorem dX11_peels_28 : decode cX11_peels 28 = .ok (.invokevirtual 216, 3) := by decide +kernel
theorem dX11_peels_31 : decode cX11_peels 31 = .ok (.astore 5, 2) := by decide +kernel
theorem dX11_peels_33 : decode cX11_peels 33 = .ok (.aload 5, 2) := by decide +kernel
theorem dX11_peels_35 : decode cX11_peels 35 = .ok (.invokevirtual 220, 3) := by decide +kernel
theorem dX5_peel_0 : decode cX5_peel 0 = .ok (.iconst 0, 1) := by decide +kernel
theorem dX5_peel_1 : decode cX5_peel 1 = .ok (.istore_n 1, 1) := by decide +kernel
theorem dX5_peel_2 : decode cX5_peel 2 = .ok (.iconst 0, 1) := by decide +kernel
theorem dX5_peel_3 : decode cX5_peel 3 = .ok (.istore_n 2, 1) := by decide +kernel
theorem dX5_peel_4 : decode cX5_peel 4 = .ok (.iload_n 2, 1) := by decide +kernel
theorem dX5_peel_5 : decode cX5_peel 5 = .ok (.bipush 20, 2) := by decide +kernel
theorem dX5_peel_7 : decode cX5_peel 7 = .ok (.if_icmp .gt 62, 3) := by decide +kernel
theorem dX5_peel_10 : decode cX5_peel 10 = .ok (.aload_n 0, 1) := by decide +kernel
theorem dX5_peel_11 : decode cX5_peel 11 = .ok (.iload_n 1, 1) := by decide +kernel
theorem dX5_peel_12 : decode cX5_peel 12 = .ok (.invokevirtual 58, 3) := by decide +kernel
theorem dX5_firstWithOneUnknown_0 : decode cX5_firstWithOneUnknown 0 = .ok (.iconst 0, 1) := by decide +kernel
theorem dX5_firstWithOneUnknown_1 : decode cX5_firstWithOneUnknown 1 = .ok (.istore_n 2, 1) := by decide +kernel
theorem dX5_firstWithOneUnknown_2 : decode cX5_firstWithOneUnknown 2 = .ok (.iload_n 2, 1) := by decide +kernel
theorem dX5_firstWithOneUnknown_3 : decode cX5_firstWithOneUnknown 3 = .ok (.aload_n 0, 1) := by decide +kernel
theorem dX5_firstWithOneUnknown_4 : decode cX5_firstWithOneUnknown 4 = .ok (.getfield 25, 3) := by decide +kernel
theorem dX5_firstWithOneUnknown_7 : decode cX5_firstWithOneUnknown 7 = .ok (.if_icmp .ge 30, 3) := by decide +kernel
theorem dX5_firstWithOneUnknown_10 : decode cX5_firstWithOneUnknown 10 = .ok (.aload_n 0, 1) := by decide +kernel
theorem dX5_firstWithOneUnknown_11 : decode cX5_firstWithOneUnknown 11 = .ok (.iload_n 2, 1) := by decide +kernel
theorem dX5_firstWithOneUnknown_12 : decode cX5_firstWithOneUnknown 12 = .ok (.iload_n 1, 1) := by decide +kernel
theorem dX5_firstWithOneUnknown_13 : decode cX5_firstWithOneUnknown 13 = .ok (.invokevirtual 54, 3) := by decide +kernel
theorem dX5_firstWithOneUnknown_16 : decode cX5_firstWithOneUnknown 16 = .ok (.istore_n 3, 1) := by decide +kernel
theorem dX5_firstWithOneUnknown_17 : decode cX5_firstWithOneUnknown 17 = .ok (.iload_n 3, 1) := by decide +kernel
theorem dX5_firstWithOneUnknown_18 : decode cX5_firstWithOneUnknown 18 = .ok (.ifCond .eq 13, 3) := by decide +kernel
theorem dX5_firstWithOneUnknown_21 : decode cX5_firstWithOneUnknown 21 = .ok (.iload_n 3, 1) := by decide +kernel
theorem dX5_firstWithOneUnknown_22 : decode cX5_firstWithOneUnknown 22 = .ok (.iload_n 3, 1) := by decide +kernel
theorem dX5_firstWithOneUnknown_23 : decode cX5_firstWithOneUnknown 23 = .ok (.iconst 1, 1) := by decide +kernel
theorem dX5_firstWithOneUnknown_24 : decode cX5_firstWithOneUnknown 24 = .ok (.isub, 1) := by decide +kernel
theorem dX5_firstWithOneUnknown_25 : decode cX5_firstWithOneUnknown 25 = .ok (.iand, 1) := by decide +kernel
theorem dX5_firstWithOneUnknown_26 : decode cX5_firstWithOneUnknown 26 = .ok (.ifCond .ne 5, 3) := by decide +kernel
theorem dX5_firstWithOneUnknown_29 : decode cX5_firstWithOneUnknown 29 = .ok (.iload_n 2, 1) := by decide +kernel
theorem dX5_firstWithOneUnknown_30 : decode cX5_firstWithOneUnknown 30 = .ok (.ireturn, 1) := by decide +kernel
theorem dX5_firstWithOneUnknown_31 : decode cX5_firstWithOneUnknown 31 = .ok (.iinc 2 1, 3) := by decide +kernel
theorem dX5_firstWithOneUnknown_34 : decode cX5_firstWithOneUnknown 34 = .ok (.goto (-32), 3) := by decide +kernel
theorem dX5_firstWithOneUnknown_37 : decode cX5_firstWithOneUnknown 37 = .ok (.iconst (-1), 1) := by decide +kernel
theorem dX5_firstWithOneUnknown_38 : decode cX5_firstWithOneUnknown 38 = .ok (.ireturn, 1) := by decide +kernel
set_option maxHeartbeats 4000000 in
set_option maxRecDepth 100000 in
theorem s_X5_firstWithOneUnknown {P : PP} {a0 : Nat} {a1 : Int32} (I : IV P) (ha0 : At P a0 5) : CtrI yX5_firstWithOneUnknown cX5_firstWithOneUnknown 4 (some Jvm.ClassFile.FieldType.int) ({ frames := 2, cells := 0, slots := 0, locals := 128 } : Room) 0 0 P [.ref a0, .int a1] (fun r P2 => P = P2 ∧ (-1 ≤ r.toInt ∧ r.toInt ≤ 43)) := by
  refine enI (lv := [(0, .ref a0), (1, .int a1)]) (by decide) (Nat.le_of_ble_eq_true rfl) rfl (fun E D cy C Ci0 ret => ?_)
  have J2 : ∀ (n2 : Nat) (v2_2 : Int32), (44 - v2_2.toInt).toNat < n2 → (0 ≤ v2_2.toInt ∧ v2_2.toInt ≤ 44) → G E ({ frames := 2, cells := 0, slots := 0, locals := 128 } : Room) D cy 4 P 0 0 2 [(0, .ref a0), (1, .int a1), (2, .int v2_2)] [] := by
    intro n2
    induction n2 with
    | zero => intro v2_2 hm2 hv2_2; omega
    | succ n2 ih2 =>
      intro v2_2 hm2 hv2_2
      have J31 : (0 ≤ v2_2.toInt ∧ v2_2.toInt ≤ 43) → (1 ≤ (pI P a0 4).toInt ∧ (pI P a0 4).toInt ≤ 44) → G E ({ frames := 2, cells := 0, slots := 0, locals := 128 } : Room) D cy 4 P 0 0 31 [(0, .ref a0), (1, .int a1), (2, .int v2_2)] [] := by
        intro hv31_2 hq31_0
        refine s_iinc (lv0 := [(0, .ref a0), (1, .int a1)]) (m := 1) C dX5_firstWithOneUnknown_31 2 rfl (by decide) rfl (by decide) (by omega) (fun z24898 h24899 => ?_)
        have h24899 : z24898.toInt = v2_2.toInt + 1 := h24899
        refine g_goto C 2 dX5_firstWithOneUnknown_34 (by decide) ?_
        refine g_lv (lv' := [(0, .ref a0), (1, .int a1), (2, .int z24898)]) [1, 2, 0] rfl ?_
        exact ih2 z24898 (by omega) (by omega)
      refine g_iload_n C dX5_firstWithOneUnknown_2 rfl 2 rfl ?_
      refine g_aload_n C dX5_firstWithOneUnknown_3 rfl 0 rfl ?_
      refine g_getI C fi_X5_25 (by decide) (ha0).1 (ha0).2 dX5_firstWithOneUnknown_4 ?_
      have h24900 := I.rg (ha0) 4 rfl
      refine b_icmp_ge C 37 dX5_firstWithOneUnknown_7 (by decide) (fun h24901 => ?_) (fun h24901 => ?_)
      · have h24901 : (pI P a0 4).toInt ≤ v2_2.toInt := h24901
        refine g_iconst (v := (-1)) C dX5_firstWithOneUnknown_37 (by decide) ?_
        exact ret _ _ _ _ _ _ dX5_firstWithOneUnknown_38 rfl (by decide) (by decide) ⟨rfl, (by decide)⟩
      · have h24901 : v2_2.toInt < (pI P a0 4).toInt := h24901
        refine g_aload_n C dX5_firstWithOneUnknown_10 rfl 0 rfl ?_
        refine g_iload_n C dX5_firstWithOneUnknown_11 rfl 2 rfl ?_
        refine g_iload_n C dX5_firstWithOneUnknown_12 rfl 1 rfl ?_
        refine g_callVI (rest := []) C mv_X5_54 [.int v2_2, .int a1] (s_X5_unknownOf I ha0 (by omega)) (ha0).1 (ha0).2 rfl rfl (by decide) (Nat.le_of_ble_eq_true rfl) (by decide) dX5_firstWithOneUnknown_13 (fun r24902 Y24903 h24904 => ?_)
        obtain ⟨rfl, h24904⟩ := h24904
        have h24904 : True := h24904
        refine g_istore_n (lv' := [(3, .int r24902), (0, .ref a0), (1, .int a1), (2, .int v2_2)]) C dX5_firstWithOneUnknown_16 rfl (by decide) rfl ?_
        refine g_iload_n C dX5_firstWithOneUnknown_17 rfl 0 rfl ?_
        have u24906 := ti_rng r24902
        refine b_if_eq C 31 dX5_firstWithOneUnknown_18 (by decide) (fun h24905 => ?_) (fun h24905 => ?_)
        · have h24905 : r24902.toInt = 0 := congrArg Int32.toInt h24905
          refine g_lv (lv' := [(0, .ref a0), (1, .int a1), (2, .int v2_2)]) [1, 2, 3] rfl ?_
          exact J31 (by omega) (by omega)
        · have h24905 : r24902.toInt ≠ 0 := ti_ne h24905
          refine g_iload_n C dX5_firstWithOneUnknown_21 rfl 0 rfl ?_
          refine g_iload_n C dX5_firstWithOneUnknown_22 rfl 0 rfl ?_
          refine g_iconst (v := 1) C dX5_firstWithOneUnknown_23 (by decide) ?_
          refine a_isub C dX5_firstWithOneUnknown_24 (fun z24907 => ?_)
          refine a_iand C dX5_firstWithOneUnknown_25 (fun z24909 => ?_)
          have u24912 := ti_rng z24909
          refine b_if_ne C 31 dX5_firstWithOneUnknown_26 (by decide) (fun h24911 => ?_) (fun h24911 => ?_)
          · have h24911 : z24909.toInt ≠ 0 := ti_ne h24911
            refine g_lv (lv' := [(0, .ref a0), (1, .int a1), (2, .int v2_2)]) [1, 2, 3] rfl ?_
            exact J31 (by omega) (by omega)
          · have h24911 : z24909.toInt = 0 := congrArg Int32.toInt h24911
            refine g_iload_n C dX5_firstWithOneUnknown_29 rfl 3 rfl ?_
            exact ret _ _ _ _ _ _ dX5_firstWithOneUnknown_30 rfl (by decide) (by decide) ⟨rfl, (by omega)⟩
  refine g_iconst (v := 0) C dX5_firstWithOneUnknown_0 (by decide) ?_
  refine g_istore_n (lv' := [(2, .int 0), (0, .ref a0), (1, .int a1)]) C dX5_firstWithOneUnknown_1 rfl (by decide) rfl ?_
  refine g_lv (lv' := [(0, .ref a0), (1, .int a1), (2, .int 0)]) [1, 2, 0] rfl ?_
  exact J2 _ 0 (Nat.lt_succ_self _) (by decide)
theorem dX5_peel_15 : decode cX5_peel 15 = .ok (.istore_n 3, 1) := by decide +kernel
theorem dX5_peel_16 : decode cX5_peel 16 = .ok (.iload_n 3, 1) := by decide +kernel
theorem dX5_peel_17 : decode cX5_peel 17 = .ok (.iconst (-1), 1) := by decide +kernel
theorem dX5_peel_18 : decode cX5_peel 18 = .ok (.if_icmp .ne 5, 3) := by decide +kernel
theorem dX5_peel_23 : decode cX5_peel 23 = .ok (.aload_n 0, 1) := by decide +kernel
theorem dX5_peel_24 : decode cX5_peel 24 = .ok (.iload_n 3, 1) := by decide +kernel
theorem dX5_peel_25 : decode cX5_peel 25 = .ok (.iload_n 1, 1) := by decide +kernel
theorem dX5_peel_26 : decode cX5_peel 26 = .ok (.invokevirtual 54, 3) := by decide +kernel
theorem dX5_peel_29 : decode cX5_peel 29 = .ok (.istore 4, 2) := by decide +kernel
theorem dX5_peel_31 : decode cX5_peel 31 = .ok (.iload 4, 2) := by decide +kernel
theorem dX5_peel_33 : decode cX5_peel 33 = .ok (.invokestatic 62, 3) := by decide +kernel
theorem dX5_peel_36 : decode cX5_peel 36 = .ok (.istore 5, 2) := by decide +kernel
theorem dX5_peel_38 : decode cX5_peel 38 = .ok (.iload 5, 2) := by decide +kernel
theorem dX5_peel_40 : decode cX5_peel 40 = .ok (.bipush 20, 2) := by decide +kernel
theorem dX5_peel_42 : decode cX5_peel 42 = .ok (.if_icmp .ge 16, 3) := by decide +kernel
theorem dX5_peel_45 : decode cX5_peel 45 = .ok (.aload_n 0, 1) := by decide +kernel
theorem dX5_peel_46 : decode cX5_peel 46 = .ok (.getfield 18, 3) := by decide +kernel
theorem dX5_peel_49 : decode cX5_peel 49 = .ok (.iload 5, 2) := by decide +kernel
theorem dX5_peel_51 : decode cX5_peel 51 = .ok (.aload_n 0, 1) := by decide +kernel
theorem dX5_peel_52 : decode cX5_peel 52 = .ok (.iload_n 3, 1) := by decide +kernel
theorem dX5_peel_53 : decode cX5_peel 53 = .ok (.iload_n 1, 1) := by decide +kernel
theorem dX5_peel_54 : decode cX5_peel 54 = .ok (.invokevirtual 65, 3) := by decide +kernel
theorem dX5_restOf_0 : decode cX5_restOf 0 = .ok (.aload_n 0, 1) := by decide +kernel
theorem dX5_restOf_1 : decode cX5_restOf 1 = .ok (.getfield 9, 3) := by decide +kernel
theorem dX5_restOf_4 : decode cX5_restOf 4 = .ok (.iload_n 1, 1) := by decide +kernel
theorem dX5_restOf_5 : decode cX5_restOf 5 = .ok (.iaload, 1) := by decide +kernel
theorem dX5_restOf_6 : decode cX5_restOf 6 = .ok (.bipush 20, 2) := by decide +kernel
theorem dX5_restOf_8 : decode cX5_restOf 8 = .ok (.iushr, 1) := by decide +kernel
theorem dX5_restOf_9 : decode cX5_restOf 9 = .ok (.istore_n 3, 1) := by decide +kernel
theorem dX5_restOf_10 : decode cX5_restOf 10 = .ok (.aload_n 0, 1) := by decide +kernel
theorem dX5_restOf_11 : decode cX5_restOf 11 = .ok (.getfield 9, 3) := by decide +kernel
theorem dX5_restOf_14 : decode cX5_restOf 14 = .ok (.iload_n 1, 1) := by decide +kernel
theorem dX5_restOf_15 : decode cX5_restOf 15 = .ok (.iaload, 1) := by decide +kernel
theorem dX5_restOf_16 : decode cX5_restOf 16 = .ok (.ldc 53, 2) := by decide +kernel
theorem dX5_restOf_18 : decode cX5_restOf 18 = .ok (.iand, 1) := by decide +kernel
theorem dX5_restOf_19 : decode cX5_restOf 19 = .ok (.iload_n 2, 1) := by decide +kernel
theorem dX5_restOf_20 : decode cX5_restOf 20 = .ok (.iand, 1) := by decide +kernel
theorem dX5_restOf_21 : decode cX5_restOf 21 = .ok (.istore 4, 2) := by decide +kernel
theorem dX5_restOf_23 : decode cX5_restOf 23 = .ok (.iconst 0, 1) := by decide +kernel
theorem dX5_restOf_24 : decode cX5_restOf 24 = .ok (.istore 5, 2) := by decide +kernel
theorem dX5_restOf_26 : decode cX5_restOf 26 = .ok (.iload 5, 2) := by decide +kernel
theorem dX5_restOf_28 : decode cX5_restOf 28 = .ok (.bipush 20, 2) := by decide +kernel
theorem dX5_restOf_30 : decode cX5_restOf 30 = .ok (.if_icmp .ge 29, 3) := by decide +kernel
theorem dX5_restOf_33 : decode cX5_restOf 33 = .ok (.iload 4, 2) := by decide +kernel
theorem dX5_restOf_35 : decode cX5_restOf 35 = .ok (.iload 5, 2) := by decide +kernel
theorem dX5_restOf_37 : decode cX5_restOf 37 = .ok (.ishr, 1) := by decide +kernel
theorem dX5_restOf_38 : decode cX5_restOf 38 = .ok (.iconst 1, 1) := by decide +kernel
theorem dX5_restOf_39 : decode cX5_restOf 39 = .ok (.iand, 1) := by decide +kernel
theorem dX5_restOf_40 : decode cX5_restOf 40 = .ok (.ifCond .eq 13, 3) := by decide +kernel
theorem dX5_restOf_43 : decode cX5_restOf 43 = .ok (.iload_n 3, 1) := by decide +kernel
theorem dX5_restOf_44 : decode cX5_restOf 44 = .ok (.aload_n 0, 1) := by decide +kernel
theorem dX5_restOf_45 : decode cX5_restOf 45 = .ok (.getfield 18, 3) := by decide +kernel
theorem dX5_restOf_48 : decode cX5_restOf 48 = .ok (.iload 5, 2) := by decide +kernel
theorem dX5_restOf_50 : decode cX5_restOf 50 = .ok (.iaload, 1) := by decide +kernel
theorem dX5_restOf_51 : decode cX5_restOf 51 = .ok (.ixor, 1) := by decide +kernel
theorem dX5_restOf_52 : decode cX5_restOf 52 = .ok (.istore_n 3, 1) := by decide +kernel
theorem dX5_restOf_53 : decode cX5_restOf 53 = .ok (.iinc 5 1, 3) := by decide +kernel
theorem dX5_restOf_56 : decode cX5_restOf 56 = .ok (.goto (-30), 3) := by decide +kernel
theorem dX5_restOf_59 : decode cX5_restOf 59 = .ok (.iload_n 3, 1) := by decide +kernel
theorem dX5_restOf_60 : decode cX5_restOf 60 = .ok (.ireturn, 1) := by decide +kernel
set_option maxHeartbeats 4000000 in
set_option maxRecDepth 100000 in
theorem s_X5_restOf {P : PP} {a0 : Nat} {a1 : Int32} {a2 : Int32} (I : IV P) (ha0 : At P a0 5) (ha1 : 0 ≤ a1.toInt ∧ a1.toInt ≤ 43) : CtrI yX5_restOf cX5_restOf 6 (some Jvm.ClassFile.FieldType.int) ({ frames := 1, cells := 0, slots := 0, locals := 64 } : Room) 0 0 P [.ref a0, .int a1, .int a2] (fun r P2 => P = P2 ∧ (True)) := by
  refine enI (lv := [(0, .ref a0), (1, .int a1), (2, .int a2)]) (by decide) (Nat.le_of_ble_eq_true rfl) rfl (fun E D cy C Ci0 ret => ?_)
  have J26 : ∀ (n26 : Nat) (v26_3 : Int32) (v26_4 : Int32) (v26_5 : Int32), (20 - v26_5.toInt).toNat < n26 → (0 ≤ v26_5.toInt ∧ v26_5.toInt ≤ 20) → G E ({ frames := 1, cells := 0, slots := 0, locals := 64 } : Room) D cy 6 P 0 0 26 [(0, .ref a0), (3, .int v26_3), (4, .int v26_4), (5, .int v26_5)] [] := by
    intro n26
    induction n26 with
    | zero => intro v26_3 v26_4 v26_5 hm26 hv26_5; omega
    | succ n26 ih26 =>
      intro v26_3 v26_4 v26_5 hm26 hv26_5
      have J53 : ∀ (v53_3 : Int32), (0 ≤ v26_5.toInt ∧ v26_5.toInt ≤ 19) → G E ({ frames := 1, cells := 0, slots := 0, locals := 64 } : Room) D cy 6 P 0 0 53 [(0, .ref a0), (3, .int v53_3), (4, .int v26_4), (5, .int v26_5)] [] := by
        intro v53_3 hv53_5
        refine s_iinc (lv0 := [(0, .ref a0), (3, .int v53_3), (4, .int v26_4)]) (m := 1) C dX5_restOf_53 3 rfl (by decide) rfl (by decide) (by omega) (fun z25121 h25122 => ?_)
        have h25122 : z25121.toInt = v26_5.toInt + 1 := h25122
        refine g_goto C 26 dX5_restOf_56 (by decide) ?_
        refine g_lv (lv' := [(0, .ref a0), (3, .int v53_3), (4, .int v26_4), (5, .int z25121)]) [1, 2, 3, 0] rfl ?_
        exact ih26 v53_3 v26_4 z25121 (by omega) (by omega)
      refine g_iload C dX5_restOf_26 3 rfl ?_
      refine g_bipush (v := 20) C dX5_restOf_28 (by decide) ?_
      refine b_icmp_ge C 59 dX5_restOf_30 (by decide) (fun h25123 => ?_) (fun h25123 => ?_)
      · have h25123 : 20 ≤ v26_5.toInt := h25123
        refine g_iload_n C dX5_restOf_59 rfl 1 rfl ?_
        exact ret _ _ _ _ _ _ dX5_restOf_60 rfl (by decide) (by decide) ⟨rfl, trivial⟩
      · have h25123 : v26_5.toInt < 20 := h25123
        refine g_iload C dX5_restOf_33 2 rfl ?_
        refine g_iload C dX5_restOf_35 3 rfl ?_
        refine a_ishr C dX5_restOf_37 (fun z25124 => ?_)
        refine g_iconst (v := 1) C dX5_restOf_38 (by decide) ?_
        refine s_iand C dX5_restOf_39 (by show 0 ≤ 1; omega) (fun z25126 h25127 => ?_)
        have h25127 : 0 ≤ z25126.toInt ∧ z25126.toInt ≤ 1 := h25127
        refine b_if_eq C 53 dX5_restOf_40 (by decide) (fun h25128 => ?_) (fun h25128 => ?_)
        · have h25128 : z25126.toInt = 0 := congrArg Int32.toInt h25128
          exact J53 v26_3 (by omega)
        · have h25128 : z25126.toInt ≠ 0 := ti_ne h25128
          refine g_iload_n C dX5_restOf_43 rfl 1 rfl ?_
          refine g_aload_n C dX5_restOf_44 rfl 0 rfl ?_
          obtain ⟨b25129, e25130, h25131⟩ := I.fld (ha0) 2 13 20 rfl
          refine g_getR C fi_X5_18 rfl e25130 (ha0).1 (ha0).2 dX5_restOf_45 ?_
          refine g_iload C dX5_restOf_48 3 rfl ?_
          refine g_iald (j := (v26_5.toInt.toNat)) C h25131.1 h25131.2.1 (ix_in h25131.2.2 (by omega)) dX5_restOf_50 ?_
          refine g_topi (fun z25132 _ => ?_)
          refine a_ixor C dX5_restOf_51 (fun z25133 => ?_)
          refine g_istore_n (lv' := [(3, .int z25133), (0, .ref a0), (4, .int v26_4), (5, .int v26_5)]) C dX5_restOf_52 rfl (by decide) rfl ?_
          refine g_lv (lv' := [(0, .ref a0), (3, .int z25133), (4, .int v26_4), (5, .int v26_5)]) [1, 0, 2, 3] rfl ?_
          exact J53 z25133 (by omega)
  refine g_aload_n C dX5_restOf_0 rfl 0 rfl ?_
  obtain ⟨b25135, e25136, h25137⟩ := I.fld (ha0) 0 13 44 rfl
  refine g_getR C fi_X5_9 rfl e25136 (ha0).1 (ha0).2 dX5_restOf_1 ?_
  refine g_iload_n C dX5_restOf_4 rfl 1 rfl ?_
  refine g_iald (j := (a1.toInt.toNat)) C h25137.1 h25137.2.1 (ix_in h25137.2.2 (by omega)) dX5_restOf_5 ?_
  refine g_topi (fun z25138 _ => ?_)
  refine g_bipush (v := 20) C dX5_restOf_6 (by decide) ?_
  refine a_iushr C dX5_restOf_8 (fun z25139 => ?_)
  refine g_istore_n (lv' := [(3, .int z25139), (0, .ref a0), (1, .int a1), (2, .int a2)]) C dX5_restOf_9 rfl (by decide) rfl ?_
  refine g_aload_n C dX5_restOf_10 rfl 1 rfl ?_
  refine g_getR C fi_X5_9 rfl e25136 (ha0).1 (ha0).2 dX5_restOf_11 ?_
  refine g_iload_n C dX5_restOf_14 rfl 2 rfl ?_
  refine g_iald (j := (a1.toInt.toNat)) C h25137.1 h25137.2.1 (ix_in h25137.2.2 (by omega)) dX5_restOf_15 ?_
  refine g_topi (fun z25141 _ => ?_)
  refine g_ldc (v := 1048575) C kc_X5_53 dX5_restOf_16 ?_
  refine s_iand C dX5_restOf_18 (by show 0 ≤ 1048575; omega) (fun z25142 h25143 => ?_)
  have h25143 : 0 ≤ z25142.toInt ∧ z25142.toInt ≤ 1048575 := h25143
  refine g_iload_n C dX5_restOf_19 rfl 3 rfl ?_
  refine a_iand C dX5_restOf_20 (fun z25144 => ?_)
  refine g_istore (lv' := [(4, .int z25144), (3, .int z25139), (0, .ref a0), (1, .int a1), (2, .int a2)]) C dX5_restOf_21 (by decide) rfl ?_
  refine g_iconst (v := 0) C dX5_restOf_23 (by decide) ?_
  refine g_istore (lv' := [(5, .int 0), (4, .int z25144), (3, .int z25139), (0, .ref a0), (1, .int a1), (2, .int a2)]) C dX5_restOf_24 (by decide) rfl ?_
  refine g_lv (lv' := [(0, .ref a0), (3, .int z25139), (4, .int z25144), (5, .int 0)]) [3, 2, 1, 0] rfl ?_
  exact J26 _ z25139 z25144 0 (Nat.lt_succ_self _) (by decide)
theorem dX5_peel_21 : decode cX5_peel 21 = .ok (.iload_n 1, 1) := by decide +kernel
theorem dX5_peel_22 : decode cX5_peel 22 = .ok (.ireturn, 1) := by decide +kernel
theorem dX5_peel_57 : decode cX5_peel 57 = .ok (.iastore, 1) := by decide +kernel
theorem dX5_peel_58 : decode cX5_peel 58 = .ok (.iload_n 1, 1) := by decide +kernel
theorem dX5_peel_59 : decode cX5_peel 59 = .ok (.iload 4, 2) := by decide +kernel
theorem dX5_peel_61 : decode cX5_peel 61 = .ok (.ior, 1) := by decide +kernel
theorem dX5_peel_62 : decode cX5_peel 62 = .ok (.istore_n 1, 1) := by decide +kernel
theorem dX5_peel_63 : decode cX5_peel 63 = .ok (.iinc 2 1, 3) := by decide +kernel
theorem dX5_peel_66 : decode cX5_peel 66 = .ok (.goto (-62), 3) := by decide +kernel
theorem dX5_peel_69 : decode cX5_peel 69 = .ok (.iload_n 1, 1) := by decide +kernel
theorem dX5_peel_70 : decode cX5_peel 70 = .ok (.ireturn, 1) := by decide +kernel
set_option maxHeartbeats 4000000 in
set_option maxRecDepth 100000 in
theorem s_X5_peel {P : PP} {a0 : Nat} (I : IV P) (ha0 : At P a0 5) : CtrI yX5_peel cX5_peel 6 (some Jvm.ClassFile.FieldType.int) ({ frames := 3, cells := 0, slots := 0, locals := 192 } : Room) 0 0 P [.ref a0] (fun r P2 => IV P2 ∧ EK [13] P P2 ∧ (True)) := by
  refine enI (lv := [(0, .ref a0)]) (by decide) (Nat.le_of_ble_eq_true rfl) rfl (fun E D cy C Ci0 ret => ?_)
  have J4 : ∀ (n4 : Nat) (P4 : PP) (v4_1 : Int32) (v4_2 : Int32), (21 - v4_2.toInt).toNat < n4 → (IV P4) → (EK [13] P P4) → (0 ≤ v4_2.toInt ∧ v4_2.toInt ≤ 21) → G E ({ frames := 3, cells := 0, slots := 0, locals := 192 } : Room) D cy 6 P4 0 0 4 [(0, .ref a0), (1, .int v4_1), (2, .int v4_2)] [] := by
    intro n4
    induction n4 with
    | zero => intro P4 v4_1 v4_2 hm4 I4 X4 hv4_2; omega
    | succ n4 ih4 =>
      intro P4 v4_1 v4_2 hm4 I4 X4 hv4_2
      have h25546 := X4.at ha0
      have J58 : ∀ (P58 : PP) (v58_4 : Int32), (IV P58) → (EK [13] P P58) → (0 ≤ v4_2.toInt ∧ v4_2.toInt ≤ 20) → G E ({ frames := 3, cells := 0, slots := 0, locals := 192 } : Room) D cy 6 P58 0 0 58 [(0, .ref a0), (1, .int v4_1), (2, .int v4_2), (4, .int v58_4)] [] := by
        intro P58 v58_4 I58 X58 hv58_2
        have h25547 := X58.at ha0
        refine g_iload_n C dX5_peel_58 rfl 1 rfl ?_
        refine g_iload C dX5_peel_59 3 rfl ?_
        refine a_ior C dX5_peel_61 (fun z25548 => ?_)
        refine g_istore_n (lv' := [(1, .int z25548), (0, .ref a0), (2, .int v4_2), (4, .int v58_4)]) C dX5_peel_62 rfl (by decide) rfl ?_
        refine s_iinc (lv0 := [(1, .int z25548), (0, .ref a0), (4, .int v58_4)]) (m := 1) C dX5_peel_63 2 rfl (by decide) rfl (by decide) (by omega) (fun z25550 h25551 => ?_)
        have h25551 : z25550.toInt = v4_2.toInt + 1 := h25551
        refine g_goto C 4 dX5_peel_66 (by decide) ?_
        refine g_lv (lv' := [(0, .ref a0), (1, .int z25548), (2, .int z25550)]) [2, 1, 0] rfl ?_
        exact ih4 P58 z25548 z25550 (by omega) I58 X58 (by omega)
      refine g_iload_n C dX5_peel_4 rfl 2 rfl ?_
      refine g_bipush (v := 20) C dX5_peel_5 (by decide) ?_
      refine b_icmp_gt C 69 dX5_peel_7 (by decide) (fun h25552 => ?_) (fun h25552 => ?_)
      · have h25552 : 20 < v4_2.toInt := h25552
        refine g_iload_n C dX5_peel_69 rfl 1 rfl ?_
        exact ret _ _ _ _ _ _ dX5_peel_70 rfl (by decide) (by decide) ⟨I4, X4, trivial⟩
      · have h25552 : v4_2.toInt ≤ 20 := h25552
        refine g_aload_n C dX5_peel_10 rfl 0 rfl ?_
        refine g_iload_n C dX5_peel_11 rfl 1 rfl ?_
        refine g_callVI (rest := []) C mv_X5_58 [.int v4_1] (s_X5_firstWithOneUnknown I4 h25546) (h25546).1 (h25546).2 rfl rfl (by decide) (Nat.le_of_ble_eq_true rfl) (by decide) dX5_peel_12 (fun r25553 Y25554 h25555 => ?_)
        obtain ⟨rfl, h25555⟩ := h25555
        have h25555 : -1 ≤ r25553.toInt ∧ r25553.toInt ≤ 43 := h25555
        refine g_istore_n (lv' := [(3, .int r25553), (0, .ref a0), (1, .int v4_1), (2, .int v4_2)]) C dX5_peel_15 rfl (by decide) rfl ?_
        refine g_iload_n C dX5_peel_16 rfl 0 rfl ?_
        refine g_iconst (v := (-1)) C dX5_peel_17 (by decide) ?_
        refine b_icmp_ne C 23 dX5_peel_18 (by decide) (fun h25556 => ?_) (fun h25556 => ?_)
        · have h25556 : r25553.toInt ≠ (-1) := ti_ne h25556
          refine g_aload_n C dX5_peel_23 rfl 1 rfl ?_
          refine g_iload_n C dX5_peel_24 rfl 0 rfl ?_
          refine g_iload_n C dX5_peel_25 rfl 2 rfl ?_
          refine g_callVI (rest := []) C mv_X5_54 [.int r25553, .int v4_1] (s_X5_unknownOf I4 h25546 (by omega)) (h25546).1 (h25546).2 rfl rfl (by decide) (Nat.le_of_ble_eq_true rfl) (by decide) dX5_peel_26 (fun r25557 Y25558 h25559 => ?_)
          obtain ⟨rfl, h25559⟩ := h25559
          have h25559 : True := h25559
          refine g_istore (lv' := [(4, .int r25557), (3, .int r25553), (0, .ref a0), (1, .int v4_1), (2, .int v4_2)]) C dX5_peel_29 (by decide) rfl ?_
          refine g_iload C dX5_peel_31 0 rfl ?_
          refine g_callSNI (b := 0) (ci := 0) (rest := []) C mz_X5_62 [.int r25557] (s_X11_lowestPlace I4) rfl rfl (by decide) (Nat.le_of_ble_eq_true rfl) (by decide) dX5_peel_33 (fun r25560 Y25561 h25562 => ?_)
          obtain ⟨rfl, h25562⟩ := h25562
          have h25562 : 0 ≤ r25560.toInt ∧ r25560.toInt ≤ 63 := h25562
          refine g_istore (lv' := [(5, .int r25560), (4, .int r25557), (3, .int r25553), (0, .ref a0), (1, .int v4_1), (2, .int v4_2)]) C dX5_peel_36 (by decide) rfl ?_
          refine g_iload C dX5_peel_38 0 rfl ?_
          refine g_bipush (v := 20) C dX5_peel_40 (by decide) ?_
          refine b_icmp_ge C 58 dX5_peel_42 (by decide) (fun h25563 => ?_) (fun h25563 => ?_)
          · have h25563 : 20 ≤ r25560.toInt := h25563
            refine g_lv (lv' := [(0, .ref a0), (1, .int v4_1), (2, .int v4_2), (4, .int r25557)]) [3, 4, 5, 1] rfl ?_
            exact J58 P4 r25557 I4 X4 (by omega)
          · have h25563 : r25560.toInt < 20 := h25563
            refine g_aload_n C dX5_peel_45 rfl 3 rfl ?_
            obtain ⟨b25564, e25565, h25566⟩ := I4.fld (h25546) 2 13 20 rfl
            refine g_getR C fi_X5_18 rfl e25565 (h25546).1 (h25546).2 dX5_peel_46 ?_
            refine g_iload C dX5_peel_49 0 rfl ?_
            refine g_aload_n C dX5_peel_51 rfl 3 rfl ?_
            refine g_iload_n C dX5_peel_52 rfl 2 rfl ?_
            refine g_iload_n C dX5_peel_53 rfl 4 rfl ?_
            refine g_callVI (rest := [.int r25560, .ref b25564]) C mv_X5_65 [.int r25553, .int v4_1] (s_X5_restOf I4 h25546 (by omega)) (h25546).1 (h25546).2 rfl rfl (by decide) (Nat.le_of_ble_eq_true rfl) (by decide) dX5_peel_54 (fun r25567 Y25568 h25569 => ?_)
            obtain ⟨rfl, h25569⟩ := h25569
            have h25569 : True := h25569
            refine g_iast (j := (r25560.toInt.toNat)) C h25566.1 h25566.2.1 (ix_in h25566.2.2 (by omega)) dX5_peel_57 ?_
            refine gp (ks := [13]) (I4.setA h25566 (by decide)) (EK.setI h25566.2.1 (by decide)) (fun Y25570 Iy25571 Xy25572 => ?_)
            have Xz25573 : EK [13] P Y25570 := X4.tr (Xy25572.mono (by decide))
            have h25574 := Xy25572.at h25546
            refine g_lv (lv' := [(0, .ref a0), (1, .int v4_1), (2, .int v4_2), (4, .int r25557)]) [3, 4, 5, 1] rfl ?_
            exact J58 Y25570 r25557 Iy25571 Xz25573 (by omega)
        · have h25556 : r25553.toInt = (-1) := congrArg Int32.toInt h25556
          refine g_iload_n C dX5_peel_21 rfl 2 rfl ?_
          exact ret _ _ _ _ _ _ dX5_peel_22 rfl (by decide) (by decide) ⟨I4, X4, trivial⟩
  refine g_iconst (v := 0) C dX5_peel_0 (by decide) ?_
  refine g_istore_n (lv' := [(1, .int 0), (0, .ref a0)]) C dX5_peel_1 rfl (by decide) rfl ?_
  refine g_iconst (v := 0) C dX5_peel_2 (by decide) ?_
  refine g_istore_n (lv' := [(2, .int 0), (1, .int 0), (0, .ref a0)]) C dX5_peel_3 rfl (by decide) rfl ?_
  refine g_lv (lv' := [(0, .ref a0), (1, .int 0), (2, .int 0)]) [2, 1, 0] rfl ?_
  exact J4 _ P 0 0 (Nat.lt_succ_self _) I EK.rf (by decide)
theorem dX11_peels_38 : decode cX11_peels 38 = .ok (.istore 6, 2) := by decide +kernel
theorem dX11_peels_40 : decode cX11_peels 40 = .ok (.iload 4, 2) := by decide +kernel
theorem dX11_peels_42 : decode cX11_peels 42 = .ok (.tableswitch 57 0 3 #[30, 33, 41, 49], 30) := by decide +kernel
theorem dX11_peels_72 : decode cX11_peels 72 = .ok (.iload 6, 2) := by decide +kernel
theorem dX11_peels_74 : decode cX11_peels 74 = .ok (.ireturn, 1) := by decide +kernel
theorem dX11_peels_75 : decode cX11_peels 75 = .ok (.aload 5, 2) := by decide +kernel
theorem dX11_peels_77 : decode cX11_peels 77 = .ok (.iload 6, 2) := by decide +kernel
theorem dX11_peels_79 : decode cX11_peels 79 = .ok (.invokevirtual 224, 3) := by decide +kernel
theorem dX11_peels_99 : decode cX11_peels 99 = .ok (.iconst (-1), 1) := by decide +kernel
theorem dX11_peels_100 : decode cX11_peels 100 = .ok (.ireturn, 1) := by decide +kernel
theorem dX5_quarrels_0 : decode cX5_quarrels 0 = .ok (.iconst 0, 1) := by decide +kernel
theorem dX5_quarrels_1 : decode cX5_quarrels 1 = .ok (.istore_n 2, 1) := by decide +kernel
theorem dX5_quarrels_2 : decode cX5_quarrels 2 = .ok (.iconst 0, 1) := by decide +kernel
theorem dX5_quarrels_3 : decode cX5_quarrels 3 = .ok (.istore_n 3, 1) := by decide +kernel
theorem dX5_quarrels_4 : decode cX5_quarrels 4 = .ok (.iload_n 3, 1) := by decide +kernel
theorem dX5_quarrels_5 : decode cX5_quarrels 5 = .ok (.aload_n 0, 1) := by decide +kernel
theorem dX5_quarrels_6 : decode cX5_quarrels 6 = .ok (.getfield 25, 3) := by decide +kernel
theorem dX5_quarrels_9 : decode cX5_quarrels 9 = .ok (.if_icmp .ge 30, 3) := by decide +kernel
theorem dX5_quarrels_12 : decode cX5_quarrels 12 = .ok (.aload_n 0, 1) := by decide +kernel
theorem dX5_quarrels_13 : decode cX5_quarrels 13 = .ok (.iload_n 3, 1) := by decide +kernel
theorem dX5_quarrels_14 : decode cX5_quarrels 14 = .ok (.iload_n 1, 1) := by decide +kernel
theorem dX5_quarrels_15 : decode cX5_quarrels 15 = .ok (.invokevirtual 54, 3) := by decide +kernel
theorem dX5_quarrels_18 : decode cX5_quarrels 18 = .ok (.ifCond .ne 15, 3) := by decide +kernel
theorem dX5_quarrels_21 : decode cX5_quarrels 21 = .ok (.aload_n 0, 1) := by decide +kernel
theorem dX5_quarrels_22 : decode cX5_quarrels 22 = .ok (.iload_n 3, 1) := by decide +kernel
theorem dX5_quarrels_23 : decode cX5_quarrels 23 = .ok (.iload_n 1, 1) := by decide +kernel
theorem dX5_quarrels_24 : decode cX5_quarrels 24 = .ok (.invokevirtual 65, 3) := by decide +kernel
theorem dX5_quarrels_27 : decode cX5_quarrels 27 = .ok (.ifCond .eq 6, 3) := by decide +kernel
theorem dX5_quarrels_30 : decode cX5_quarrels 30 = .ok (.iinc 2 1, 3) := by decide +kernel
theorem dX5_quarrels_33 : decode cX5_quarrels 33 = .ok (.iinc 3 1, 3) := by decide +kernel
theorem dX5_quarrels_36 : decode cX5_quarrels 36 = .ok (.goto (-32), 3) := by decide +kernel
theorem dX5_quarrels_39 : decode cX5_quarrels 39 = .ok (.iload_n 2, 1) := by decide +kernel
theorem dX5_quarrels_40 : decode cX5_quarrels 40 = .ok (.ireturn, 1) := by decide +kernel
set_option maxHeartbeats 4000000 in
set_option maxRecDepth 100000 in
theorem s_X5_quarrels {P : PP} {a0 : Nat} {a1 : Int32} (I : IV P) (ha0 : At P a0 5) : CtrI yX5_quarrels cX5_quarrels 4 (some Jvm.ClassFile.FieldType.int) ({ frames := 2, cells := 0, slots := 0, locals := 128 } : Room) 0 0 P [.ref a0, .int a1] (fun r P2 => P = P2 ∧ (True)) := by
  refine enI (lv := [(0, .ref a0), (1, .int a1)]) (by decide) (Nat.le_of_ble_eq_true rfl) rfl (fun E D cy C Ci0 ret => ?_)
  have J4 : ∀ (n4 : Nat) (v4_2 : Int32) (v4_3 : Int32), (44 - v4_3.toInt).toNat < n4 → (0 ≤ v4_3.toInt ∧ v4_3.toInt ≤ 44) → G E ({ frames := 2, cells := 0, slots := 0, locals := 128 } : Room) D cy 4 P 0 0 4 [(0, .ref a0), (1, .int a1), (2, .int v4_2), (3, .int v4_3)] [] := by
    intro n4
    induction n4 with
    | zero => intro v4_2 v4_3 hm4 hv4_3; omega
    | succ n4 ih4 =>
      intro v4_2 v4_3 hm4 hv4_3
      have J33 : ∀ (v33_2 : Int32), (0 ≤ v4_3.toInt ∧ v4_3.toInt ≤ 43) → (1 ≤ (pI P a0 4).toInt ∧ (pI P a0 4).toInt ≤ 44) → G E ({ frames := 2, cells := 0, slots := 0, locals := 128 } : Room) D cy 4 P 0 0 33 [(0, .ref a0), (1, .int a1), (2, .int v33_2), (3, .int v4_3)] [] := by
        intro v33_2 hv33_3 hq33_0
        refine s_iinc (lv0 := [(0, .ref a0), (1, .int a1), (2, .int v33_2)]) (m := 1) C dX5_quarrels_33 3 rfl (by decide) rfl (by decide) (by omega) (fun z26151 h26152 => ?_)
        have h26152 : z26151.toInt = v4_3.toInt + 1 := h26152
        refine g_goto C 4 dX5_quarrels_36 (by decide) ?_
        refine g_lv (lv' := [(0, .ref a0), (1, .int a1), (2, .int v33_2), (3, .int z26151)]) [1, 2, 3, 0] rfl ?_
        exact ih4 v33_2 z26151 (by omega) (by omega)
      refine g_iload_n C dX5_quarrels_4 rfl 3 rfl ?_
      refine g_aload_n C dX5_quarrels_5 rfl 0 rfl ?_
      refine g_getI C fi_X5_25 (by decide) (ha0).1 (ha0).2 dX5_quarrels_6 ?_
      have h26153 := I.rg (ha0) 4 rfl
      refine b_icmp_ge C 39 dX5_quarrels_9 (by decide) (fun h26154 => ?_) (fun h26154 => ?_)
      · have h26154 : (pI P a0 4).toInt ≤ v4_3.toInt := h26154
        refine g_iload_n C dX5_quarrels_39 rfl 2 rfl ?_
        exact ret _ _ _ _ _ _ dX5_quarrels_40 rfl (by decide) (by decide) ⟨rfl, trivial⟩
      · have h26154 : v4_3.toInt < (pI P a0 4).toInt := h26154
        refine g_aload_n C dX5_quarrels_12 rfl 0 rfl ?_
        refine g_iload_n C dX5_quarrels_13 rfl 3 rfl ?_
        refine g_iload_n C dX5_quarrels_14 rfl 1 rfl ?_
        refine g_callVI (rest := []) C mv_X5_54 [.int v4_3, .int a1] (s_X5_unknownOf I ha0 (by omega)) (ha0).1 (ha0).2 rfl rfl (by decide) (Nat.le_of_ble_eq_true rfl) (by decide) dX5_quarrels_15 (fun r26155 Y26156 h26157 => ?_)
        obtain ⟨rfl, h26157⟩ := h26157
        have h26157 : True := h26157
        have u26159 := ti_rng r26155
        refine b_if_ne C 33 dX5_quarrels_18 (by decide) (fun h26158 => ?_) (fun h26158 => ?_)
        · have h26158 : r26155.toInt ≠ 0 := ti_ne h26158
          exact J33 v4_2 (by omega) (by omega)
        · have h26158 : r26155.toInt = 0 := congrArg Int32.toInt h26158
          refine g_aload_n C dX5_quarrels_21 rfl 0 rfl ?_
          refine g_iload_n C dX5_quarrels_22 rfl 3 rfl ?_
          refine g_iload_n C dX5_quarrels_23 rfl 1 rfl ?_
          refine g_callVI (rest := []) C mv_X5_65 [.int v4_3, .int a1] (s_X5_restOf I ha0 (by omega)) (ha0).1 (ha0).2 rfl rfl (by decide) (Nat.le_of_ble_eq_true rfl) (by decide) dX5_quarrels_24 (fun r26160 Y26161 h26162 => ?_)
          obtain ⟨rfl, h26162⟩ := h26162
          have h26162 : True := h26162
          have u26164 := ti_rng r26160
          refine b_if_eq C 33 dX5_quarrels_27 (by decide) (fun h26163 => ?_) (fun h26163 => ?_)
          · have h26163 : r26160.toInt = 0 := congrArg Int32.toInt h26163
            exact J33 v4_2 (by omega) (by omega)
          · have h26163 : r26160.toInt ≠ 0 := ti_ne h26163
            refine a_iinc (lv0 := [(0, .ref a0), (1, .int a1), (3, .int v4_3)]) C dX5_quarrels_30 2 rfl (by decide) rfl (fun z26165 => ?_)
            refine g_lv (lv' := [(0, .ref a0), (1, .int a1), (2, .int z26165), (3, .int v4_3)]) [1, 2, 0, 3] rfl ?_
            exact J33 z26165 (by omega) (by omega)
  refine g_iconst (v := 0) C dX5_quarrels_0 (by decide) ?_
  refine g_istore_n (lv' := [(2, .int 0), (0, .ref a0), (1, .int a1)]) C dX5_quarrels_1 rfl (by decide) rfl ?_
  refine g_iconst (v := 0) C dX5_quarrels_2 (by decide) ?_
  refine g_istore_n (lv' := [(3, .int 0), (2, .int 0), (0, .ref a0), (1, .int a1)]) C dX5_quarrels_3 rfl (by decide) rfl ?_
  refine g_lv (lv' := [(0, .ref a0), (1, .int a1), (2, .int 0), (3, .int 0)]) [2, 3, 1, 0] rfl ?_
  exact J4 _ 0 0 (Nat.lt_succ_self _) (by decide)
theorem dX11_peels_82 : decode cX11_peels 82 = .ok (.ireturn, 1) := by decide +kernel
theorem dX11_peels_83 : decode cX11_peels 83 = .ok (.aload 5, 2) := by decide +kernel
theorem dX11_peels_85 : decode cX11_peels 85 = .ok (.iload 6, 2) := by decide +kernel
theorem dX11_peels_87 : decode cX11_peels 87 = .ok (.invokevirtual 227, 3) := by decide +kernel
theorem dX5_work_0 : decode cX5_work 0 = .ok (.iload_n 1, 1) := by decide +kernel
theorem dX5_work_1 : decode cX5_work 1 = .ok (.invokestatic 68, 3) := by decide +kernel
theorem dX5_work_4 : decode cX5_work 4 = .ok (.ineg, 1) := by decide +kernel
theorem dX5_work_5 : decode cX5_work 5 = .ok (.istore_n 2, 1) := by decide +kernel
theorem dX5_work_6 : decode cX5_work 6 = .ok (.iconst 0, 1) := by decide +kernel
theorem dX5_work_7 : decode cX5_work 7 = .ok (.istore_n 3, 1) := by decide +kernel
theorem dX5_work_8 : decode cX5_work 8 = .ok (.iload_n 3, 1) := by decide +kernel
theorem dX5_work_9 : decode cX5_work 9 = .ok (.aload_n 0, 1) := by decide +kernel
theorem dX5_work_10 : decode cX5_work 10 = .ok (.getfield 25, 3) := by decide +kernel
theorem dX5_work_13 : decode cX5_work 13 = .ok (.if_icmp .ge 26, 3) := by decide +kernel
theorem dX5_work_16 : decode cX5_work 16 = .ok (.iload_n 2, 1) := by decide +kernel
theorem dX5_work_17 : decode cX5_work 17 = .ok (.aload_n 0, 1) := by decide +kernel
theorem dX5_work_18 : decode cX5_work 18 = .ok (.getfield 9, 3) := by decide +kernel
theorem dX5_work_21 : decode cX5_work 21 = .ok (.iload_n 3, 1) := by decide +kernel
theorem dX5_work_22 : decode cX5_work 22 = .ok (.iaload, 1) := by decide +kernel
theorem dX5_work_23 : decode cX5_work 23 = .ok (.ldc 53, 2) := by decide +kernel
theorem dX5_work_25 : decode cX5_work 25 = .ok (.iand, 1) := by decide +kernel
theorem dX5_work_26 : decode cX5_work 26 = .ok (.iload_n 1, 1) := by decide +kernel
theorem dX5_work_27 : decode cX5_work 27 = .ok (.iand, 1) := by decide +kernel
theorem dX5_work_28 : decode cX5_work 28 = .ok (.invokestatic 68, 3) := by decide +kernel
theorem dX5_work_31 : decode cX5_work 31 = .ok (.iadd, 1) := by decide +kernel
theorem dX5_work_32 : decode cX5_work 32 = .ok (.istore_n 2, 1) := by decide +kernel
theorem dX5_work_33 : decode cX5_work 33 = .ok (.iinc 3 1, 3) := by decide +kernel
theorem dX5_work_36 : decode cX5_work 36 = .ok (.goto (-28), 3) := by decide +kernel
theorem dX5_work_39 : decode cX5_work 39 = .ok (.iload_n 2, 1) := by decide +kernel
theorem dX5_work_40 : decode cX5_work 40 = .ok (.ireturn, 1) := by decide +kernel
set_option maxHeartbeats 4000000 in
set_option maxRecDepth 100000 in
theorem s_X5_work {P : PP} {a0 : Nat} {a1 : Int32} (I : IV P) (ha0 : At P a0 5) : CtrI yX5_work cX5_work 4 (some Jvm.ClassFile.FieldType.int) ({ frames := 2, cells := 0, slots := 0, locals := 128 } : Room) 0 0 P [.ref a0, .int a1] (fun r P2 => P = P2 ∧ (True)) := by
  refine enI (lv := [(0, .ref a0), (1, .int a1)]) (by decide) (Nat.le_of_ble_eq_true rfl) rfl (fun E D cy C Ci0 ret => ?_)
  have J8 : ∀ (n8 : Nat) (v8_2 : Int32) (v8_3 : Int32), (44 - v8_3.toInt).toNat < n8 → (0 ≤ v8_3.toInt ∧ v8_3.toInt ≤ 44) → G E ({ frames := 2, cells := 0, slots := 0, locals := 128 } : Room) D cy 4 P 0 0 8 [(0, .ref a0), (1, .int a1), (2, .int v8_2), (3, .int v8_3)] [] := by
    intro n8
    induction n8 with
    | zero => intro v8_2 v8_3 hm8 hv8_3; omega
    | succ n8 ih8 =>
      intro v8_2 v8_3 hm8 hv8_3
      refine g_iload_n C dX5_work_8 rfl 3 rfl ?_
      refine g_aload_n C dX5_work_9 rfl 0 rfl ?_
      refine g_getI C fi_X5_25 (by decide) (ha0).1 (ha0).2 dX5_work_10 ?_
      have h26497 := I.rg (ha0) 4 rfl
      refine b_icmp_ge C 39 dX5_work_13 (by decide) (fun h26498 => ?_) (fun h26498 => ?_)
      · have h26498 : (pI P a0 4).toInt ≤ v8_3.toInt := h26498
        refine g_iload_n C dX5_work_39 rfl 2 rfl ?_
        exact ret _ _ _ _ _ _ dX5_work_40 rfl (by decide) (by decide) ⟨rfl, trivial⟩
      · have h26498 : v8_3.toInt < (pI P a0 4).toInt := h26498
        refine g_iload_n C dX5_work_16 rfl 2 rfl ?_
        refine g_aload_n C dX5_work_17 rfl 0 rfl ?_
        obtain ⟨b26499, e26500, h26501⟩ := I.fld (ha0) 0 13 44 rfl
        refine g_getR C fi_X5_9 rfl e26500 (ha0).1 (ha0).2 dX5_work_18 ?_
        refine g_iload_n C dX5_work_21 rfl 3 rfl ?_
        refine g_iald (j := (v8_3.toInt.toNat)) C h26501.1 h26501.2.1 (ix_in h26501.2.2 (by omega)) dX5_work_22 ?_
        refine g_topi (fun z26502 _ => ?_)
        refine g_ldc (v := 1048575) C kc_X5_53 dX5_work_23 ?_
        refine s_iand C dX5_work_25 (by show 0 ≤ 1048575; omega) (fun z26503 h26504 => ?_)
        have h26504 : 0 ≤ z26503.toInt ∧ z26503.toInt ≤ 1048575 := h26504
        refine g_iload_n C dX5_work_26 rfl 1 rfl ?_
        refine a_iand C dX5_work_27 (fun z26505 => ?_)
        refine g_callSI (b := 0) (ci := 0) (rest := [.int v8_2]) C ms_X5_68 [.int z26505] (s_J6_bitCount_0f7a4 I) rfl rfl (by decide) (Nat.le_of_ble_eq_true rfl) (by decide) dX5_work_28 (fun r26507 Y26508 h26509 => ?_)
        obtain ⟨rfl, h26509⟩ := h26509
        have h26509 : 0 ≤ r26507.toInt ∧ r26507.toInt ≤ 63 := h26509
        refine a_iadd C dX5_work_31 (fun z26510 => ?_)
        refine g_istore_n (lv' := [(2, .int z26510), (0, .ref a0), (1, .int a1), (3, .int v8_3)]) C dX5_work_32 rfl (by decide) rfl ?_
        refine s_iinc (lv0 := [(2, .int z26510), (0, .ref a0), (1, .int a1)]) (m := 1) C dX5_work_33 3 rfl (by decide) rfl (by decide) (by omega) (fun z26512 h26513 => ?_)
        have h26513 : z26512.toInt = v8_3.toInt + 1 := h26513
        refine g_goto C 8 dX5_work_36 (by decide) ?_
        refine g_lv (lv' := [(0, .ref a0), (1, .int a1), (2, .int z26510), (3, .int z26512)]) [2, 3, 1, 0] rfl ?_
        exact ih8 z26510 z26512 (by omega) (by omega)
  refine g_iload_n C dX5_work_0 rfl 1 rfl ?_
  refine g_callSI (b := 0) (ci := 0) (rest := []) C ms_X5_68 [.int a1] (s_J6_bitCount_0f7a4 I) rfl rfl (by decide) (Nat.le_of_ble_eq_true rfl) (by decide) dX5_work_1 (fun r26514 Y26515 h26516 => ?_)
  obtain ⟨rfl, h26516⟩ := h26516
  have h26516 : 0 ≤ r26514.toInt ∧ r26514.toInt ≤ 63 := h26516
  refine a_ineg C dX5_work_4 (fun z26517 => ?_)
  refine g_istore_n (lv' := [(2, .int z26517), (0, .ref a0), (1, .int a1)]) C dX5_work_5 rfl (by decide) rfl ?_
  refine g_iconst (v := 0) C dX5_work_6 (by decide) ?_
  refine g_istore_n (lv' := [(3, .int 0), (2, .int z26517), (0, .ref a0), (1, .int a1)]) C dX5_work_7 rfl (by decide) rfl ?_
  refine g_lv (lv' := [(0, .ref a0), (1, .int a1), (2, .int z26517), (3, .int 0)]) [2, 3, 1, 0] rfl ?_
  exact J8 _ z26517 0 (Nat.lt_succ_self _) (by decide)
theorem dX11_peels_90 : decode cX11_peels 90 = .ok (.ireturn, 1) := by decide +kernel
theorem dX11_peels_91 : decode cX11_peels 91 = .ok (.aload 5, 2) := by decide +kernel
theorem dX11_peels_93 : decode cX11_peels 93 = .ok (.iload 6, 2) := by decide +kernel
theorem dX11_peels_95 : decode cX11_peels 95 = .ok (.invokevirtual 230, 3) := by decide +kernel
theorem dX5_left_0 : decode cX5_left 0 = .ok (.iconst 0, 1) := by decide +kernel
theorem dX5_left_1 : decode cX5_left 1 = .ok (.istore_n 2, 1) := by decide +kernel
theorem dX5_left_2 : decode cX5_left 2 = .ok (.iconst 0, 1) := by decide +kernel
theorem dX5_left_3 : decode cX5_left 3 = .ok (.istore_n 3, 1) := by decide +kernel
theorem dX5_left_4 : decode cX5_left 4 = .ok (.iload_n 3, 1) := by decide +kernel
theorem dX5_left_5 : decode cX5_left 5 = .ok (.aload_n 0, 1) := by decide +kernel
theorem dX5_left_6 : decode cX5_left 6 = .ok (.getfield 25, 3) := by decide +kernel
theorem dX5_left_9 : decode cX5_left 9 = .ok (.if_icmp .ge 30, 3) := by decide +kernel
theorem dX5_left_12 : decode cX5_left 12 = .ok (.aload_n 0, 1) := by decide +kernel
theorem dX5_left_13 : decode cX5_left 13 = .ok (.iload_n 3, 1) := by decide +kernel
theorem dX5_left_14 : decode cX5_left 14 = .ok (.iload_n 1, 1) := by decide +kernel
theorem dX5_left_15 : decode cX5_left 15 = .ok (.invokevirtual 54, 3) := by decide +kernel
theorem dX5_left_18 : decode cX5_left 18 = .ok (.istore 4, 2) := by decide +kernel
theorem dX5_left_20 : decode cX5_left 20 = .ok (.iload 4, 2) := by decide +kernel
theorem dX5_left_22 : decode cX5_left 22 = .ok (.iload 4, 2) := by decide +kernel
theorem dX5_left_24 : decode cX5_left 24 = .ok (.iconst 1, 1) := by decide +kernel
theorem dX5_left_25 : decode cX5_left 25 = .ok (.isub, 1) := by decide +kernel
theorem dX5_left_26 : decode cX5_left 26 = .ok (.iand, 1) := by decide +kernel
theorem dX5_left_27 : decode cX5_left 27 = .ok (.ifCond .eq 6, 3) := by decide +kernel
theorem dX5_left_30 : decode cX5_left 30 = .ok (.iinc 2 1, 3) := by decide +kernel
theorem dX5_left_33 : decode cX5_left 33 = .ok (.iinc 3 1, 3) := by decide +kernel
theorem dX5_left_36 : decode cX5_left 36 = .ok (.goto (-32), 3) := by decide +kernel
theorem dX5_left_39 : decode cX5_left 39 = .ok (.iload_n 2, 1) := by decide +kernel
theorem dX5_left_40 : decode cX5_left 40 = .ok (.ireturn, 1) := by decide +kernel
set_option maxHeartbeats 4000000 in
set_option maxRecDepth 100000 in
theorem s_X5_left {P : PP} {a0 : Nat} {a1 : Int32} (I : IV P) (ha0 : At P a0 5) : CtrI yX5_left cX5_left 5 (some Jvm.ClassFile.FieldType.int) ({ frames := 2, cells := 0, slots := 0, locals := 128 } : Room) 0 0 P [.ref a0, .int a1] (fun r P2 => P = P2 ∧ (True)) := by
  refine enI (lv := [(0, .ref a0), (1, .int a1)]) (by decide) (Nat.le_of_ble_eq_true rfl) rfl (fun E D cy C Ci0 ret => ?_)
  have J4 : ∀ (n4 : Nat) (v4_2 : Int32) (v4_3 : Int32), (44 - v4_3.toInt).toNat < n4 → (0 ≤ v4_3.toInt ∧ v4_3.toInt ≤ 44) → G E ({ frames := 2, cells := 0, slots := 0, locals := 128 } : Room) D cy 5 P 0 0 4 [(0, .ref a0), (1, .int a1), (2, .int v4_2), (3, .int v4_3)] [] := by
    intro n4
    induction n4 with
    | zero => intro v4_2 v4_3 hm4 hv4_3; omega
    | succ n4 ih4 =>
      intro v4_2 v4_3 hm4 hv4_3
      have J33 : ∀ (v33_2 : Int32), (0 ≤ v4_3.toInt ∧ v4_3.toInt ≤ 43) → (1 ≤ (pI P a0 4).toInt ∧ (pI P a0 4).toInt ≤ 44) → G E ({ frames := 2, cells := 0, slots := 0, locals := 128 } : Room) D cy 5 P 0 0 33 [(0, .ref a0), (1, .int a1), (2, .int v33_2), (3, .int v4_3)] [] := by
        intro v33_2 hv33_3 hq33_0
        refine s_iinc (lv0 := [(0, .ref a0), (1, .int a1), (2, .int v33_2)]) (m := 1) C dX5_left_33 3 rfl (by decide) rfl (by decide) (by omega) (fun z27066 h27067 => ?_)
        have h27067 : z27066.toInt = v4_3.toInt + 1 := h27067
        refine g_goto C 4 dX5_left_36 (by decide) ?_
        refine g_lv (lv' := [(0, .ref a0), (1, .int a1), (2, .int v33_2), (3, .int z27066)]) [1, 2, 3, 0] rfl ?_
        exact ih4 v33_2 z27066 (by omega) (by omega)
      refine g_iload_n C dX5_left_4 rfl 3 rfl ?_
      refine g_aload_n C dX5_left_5 rfl 0 rfl ?_
      refine g_getI C fi_X5_25 (by decide) (ha0).1 (ha0).2 dX5_left_6 ?_
      have h27068 := I.rg (ha0) 4 rfl
      refine b_icmp_ge C 39 dX5_left_9 (by decide) (fun h27069 => ?_) (fun h27069 => ?_)
      · have h27069 : (pI P a0 4).toInt ≤ v4_3.toInt := h27069
        refine g_iload_n C dX5_left_39 rfl 2 rfl ?_
        exact ret _ _ _ _ _ _ dX5_left_40 rfl (by decide) (by decide) ⟨rfl, trivial⟩
      · have h27069 : v4_3.toInt < (pI P a0 4).toInt := h27069
        refine g_aload_n C dX5_left_12 rfl 0 rfl ?_
        refine g_iload_n C dX5_left_13 rfl 3 rfl ?_
        refine g_iload_n C dX5_left_14 rfl 1 rfl ?_
        refine g_callVI (rest := []) C mv_X5_54 [.int v4_3, .int a1] (s_X5_unknownOf I ha0 (by omega)) (ha0).1 (ha0).2 rfl rfl (by decide) (Nat.le_of_ble_eq_true rfl) (by decide) dX5_left_15 (fun r27070 Y27071 h27072 => ?_)
        obtain ⟨rfl, h27072⟩ := h27072
        have h27072 : True := h27072
        refine g_istore (lv' := [(4, .int r27070), (0, .ref a0), (1, .int a1), (2, .int v4_2), (3, .int v4_3)]) C dX5_left_18 (by decide) rfl ?_
        refine g_iload C dX5_left_20 0 rfl ?_
        refine g_iload C dX5_left_22 0 rfl ?_
        refine g_iconst (v := 1) C dX5_left_24 (by decide) ?_
        refine a_isub C dX5_left_25 (fun z27073 => ?_)
        refine a_iand C dX5_left_26 (fun z27075 => ?_)
        have u27078 := ti_rng z27075
        refine b_if_eq C 33 dX5_left_27 (by decide) (fun h27077 => ?_) (fun h27077 => ?_)
        · have h27077 : z27075.toInt = 0 := congrArg Int32.toInt h27077
          refine g_lv (lv' := [(0, .ref a0), (1, .int a1), (2, .int v4_2), (3, .int v4_3)]) [1, 2, 3, 4] rfl ?_
          exact J33 v4_2 (by omega) (by omega)
        · have h27077 : z27075.toInt ≠ 0 := ti_ne h27077
          refine a_iinc (lv0 := [(4, .int r27070), (0, .ref a0), (1, .int a1), (3, .int v4_3)]) C dX5_left_30 3 rfl (by decide) rfl (fun z27079 => ?_)
          refine g_lv (lv' := [(0, .ref a0), (1, .int a1), (2, .int z27079), (3, .int v4_3)]) [2, 3, 0, 4] rfl ?_
          exact J33 z27079 (by omega) (by omega)
  refine g_iconst (v := 0) C dX5_left_0 (by decide) ?_
  refine g_istore_n (lv' := [(2, .int 0), (0, .ref a0), (1, .int a1)]) C dX5_left_1 rfl (by decide) rfl ?_
  refine g_iconst (v := 0) C dX5_left_2 (by decide) ?_
  refine g_istore_n (lv' := [(3, .int 0), (2, .int 0), (0, .ref a0), (1, .int a1)]) C dX5_left_3 rfl (by decide) rfl ?_
  refine g_lv (lv' := [(0, .ref a0), (1, .int a1), (2, .int 0), (3, .int 0)]) [2, 3, 1, 0] rfl ?_
  exact J4 _ 0 0 (Nat.lt_succ_self _) (by decide)
theorem dX11_peels_22 : decode cX11_peels 22 = .ok (.iconst (-1), 1) := by decide +kernel
theorem dX11_peels_23 : decode cX11_peels 23 = .ok (.ireturn, 1) := by decide +kernel
theorem dX11_peels_98 : decode cX11_peels 98 = .ok (.ireturn, 1) := by decide +kernel
set_option maxHeartbeats 4000000 in
set_option maxRecDepth 100000 in
theorem s_X11_peels {P : PP} {a0 : Nat} {a1 : Int32} {a2 : Int32} {a3 : Int32} {a4 : Int32} (I : IV P) (ha0 : At P a0 11) : CtrI yX11_peels cX11_peels 7 (some Jvm.ClassFile.FieldType.int) ({ frames := 4, cells := 0, slots := 0, locals := 256 } : Room) 0 0 P [.ref a0, .int a1, .int a2, .int a3, .int a4] (fun r P2 => IV P2 ∧ EK [5, 13] P P2 ∧ (True)) := by
  refine enI (lv := [(0, .ref a0), (1, .int a1), (2, .int a2), (3, .int a3), (4, .int a4)]) (by decide) (Nat.le_of_ble_eq_true rfl) rfl (fun E D cy C Ci0 ret => ?_)
  have J22 : G E ({ frames := 4, cells := 0, slots := 0, locals := 256 } : Room) D cy 7 P 0 0 22 [] [] := by
    refine g_iconst (v := (-1)) C dX11_peels_22 (by decide) ?_
    exact ret _ _ _ _ _ _ dX11_peels_23 rfl (by decide) (by decide) ⟨I, EK.rf, trivial⟩
  refine g_iload_n C dX11_peels_0 rfl 1 rfl ?_
  refine g_callSI (b := 0) (ci := 0) (rest := []) C ms_X11_158 [.int a1] (s_X11_isQuarter I) rfl rfl (by decide) (Nat.le_of_ble_eq_true rfl) (by decide) dX11_peels_1 (fun r27124 Y27125 h27126 => ?_)
  obtain ⟨rfl, h27126⟩ := h27126
  obtain ⟨h27126, hi27127⟩ := h27126
  have hi27127 : r27124.toInt = 0 ∨ (((0 : Int) ≤ a1.toInt ∧ a1.toInt ≤ (3 : Int))) := hi27127
  have h27126 : 0 ≤ r27124.toInt ∧ r27124.toInt ≤ 1 := h27126
  refine b_if_eq C 22 dX11_peels_4 (by decide) (fun h27128 => ?_) (fun h27128 => ?_)
  · have h27128 : r27124.toInt = 0 := congrArg Int32.toInt h27128
    clear hi27127
    refine g_lv (lv' := []) [] rfl ?_
    exact J22 
  · have h27128 : r27124.toInt ≠ 0 := ti_ne h27128
    replace hi27127 := hi27127.resolve_left (by omega)
    refine g_aload_n C dX11_peels_7 rfl 0 rfl ?_
    refine g_iload_n C dX11_peels_8 rfl 2 rfl ?_
    refine g_callVI (rest := []) C mv_X11_97 [.int a2] (s_X11_isTold I ha0) (ha0).1 (ha0).2 rfl rfl (by decide) (Nat.le_of_ble_eq_true rfl) (by decide) dX11_peels_9 (fun r27129 Y27130 h27131 => ?_)
    obtain ⟨rfl, h27131⟩ := h27131
    obtain ⟨h27131, hi27132⟩ := h27131
    have hi27132 : r27129.toInt = 0 ∨ (((0 : Int) ≤ a2.toInt ∧ a2.toInt ≤ (1 : Int))) := hi27132
    have h27131 : 0 ≤ r27129.toInt ∧ r27129.toInt ≤ 1 := h27131
    refine b_if_eq C 22 dX11_peels_12 (by decide) (fun h27133 => ?_) (fun h27133 => ?_)
    · have h27133 : r27129.toInt = 0 := congrArg Int32.toInt h27133
      clear hi27132
      refine g_lv (lv' := []) [] rfl ?_
      exact J22 
    · have h27133 : r27129.toInt ≠ 0 := ti_ne h27133
      replace hi27132 := hi27132.resolve_left (by omega)
      refine g_iload_n C dX11_peels_15 rfl 3 rfl ?_
      refine g_callSI (b := 0) (ci := 0) (rest := []) C ms_X11_213 [.int a3] (s_X11_isOctet I) rfl rfl (by decide) (Nat.le_of_ble_eq_true rfl) (by decide) dX11_peels_16 (fun r27134 Y27135 h27136 => ?_)
      obtain ⟨rfl, h27136⟩ := h27136
      obtain ⟨h27136, hi27137⟩ := h27136
      have hi27137 : r27134.toInt = 0 ∨ (((0 : Int) ≤ a3.toInt ∧ a3.toInt ≤ (1 : Int))) := hi27137
      have h27136 : 0 ≤ r27134.toInt ∧ r27134.toInt ≤ 1 := h27136
      refine b_if_ne C 24 dX11_peels_19 (by decide) (fun h27138 => ?_) (fun h27138 => ?_)
      · have h27138 : r27134.toInt ≠ 0 := ti_ne h27138
        replace hi27137 := hi27137.resolve_left (by omega)
        refine g_aload_n C dX11_peels_24 rfl 0 rfl ?_
        refine g_iload_n C dX11_peels_25 rfl 1 rfl ?_
        refine g_iload_n C dX11_peels_26 rfl 2 rfl ?_
        refine g_iload_n C dX11_peels_27 rfl 3 rfl ?_
        refine g_callVQ (rest := []) C mv_X11_216 [.int a1, .int a2, .int a3] (s_X11_gather I ha0 (by omega) (by omega) (by omega)) (ha0).1 (ha0).2 rfl rfl (by decide) (Nat.le_of_ble_eq_true rfl) (by decide) dX11_peels_28 (fun r27139 Y27140 h27141 => ?_)
        obtain ⟨Iy27142, Xy27143, h27141⟩ := h27141
        have Xz27144 : EK [5, 13] P Y27140 := Xy27143.mono (by decide)
        have h27145 := Xy27143.at ha0
        obtain ⟨b27147, rfl, h27141⟩ := h27141
        show G _ _ _ _ _ _ _ _ _ _ (.ref b27147 :: _)
        refine g_astore (lv' := [(5, .ref b27147), (0, .ref a0), (1, .int a1), (2, .int a2), (3, .int a3), (4, .int a4)]) C dX11_peels_31 (by decide) rfl ?_
        refine g_aload C dX11_peels_33 0 rfl ?_
        refine g_callVI (rest := []) C mv_X11_220 [] (s_X5_peel Iy27142 h27141) (h27141).1 (h27141).2 rfl rfl (by decide) (Nat.le_of_ble_eq_true rfl) (by decide) dX11_peels_35 (fun r27148 Y27149 h27150 => ?_)
        obtain ⟨Iy27151, Xy27152, h27150⟩ := h27150
        have Xz27153 : EK [5, 13] P Y27149 := Xz27144.tr (Xy27152.mono (by decide))
        have h27154 := Xy27152.at h27145
        have h27155 := Xy27152.at h27141
        have h27150 : True := h27150
        refine g_istore (lv' := [(6, .int r27148), (5, .ref b27147), (0, .ref a0), (1, .int a1), (2, .int a2), (3, .int a3), (4, .int a4)]) C dX11_peels_38 (by decide) rfl ?_
        refine g_iload C dX11_peels_40 6 rfl ?_
        by_cases h27156 : a4.toInt < 0 ∨ 3 < a4.toInt
        · refine g_tableOut C 99 dX11_peels_42 h27156 (by decide) ?_
          refine g_iconst (v := (-1)) C dX11_peels_99 (by decide) ?_
          exact ret _ _ _ _ _ _ dX11_peels_100 rfl (by decide) (by decide) ⟨Iy27151, Xz27153, trivial⟩
        · rcases (show a4.toInt = 0 ∨ a4.toInt = 1 ∨ a4.toInt = 2 ∨ a4.toInt = 3 by omega) with h27157 | h27157 | h27157 | h27157
          · refine g_tableIn C 72 dX11_peels_42 (by omega) (by omega) (by rw [h27157]; rfl) (by decide) ?_
            refine g_iload C dX11_peels_72 0 rfl ?_
            exact ret _ _ _ _ _ _ dX11_peels_74 rfl (by decide) (by decide) ⟨Iy27151, Xz27153, trivial⟩
          · refine g_tableIn C 75 dX11_peels_42 (by omega) (by omega) (by rw [h27157]; rfl) (by decide) ?_
            refine g_aload C dX11_peels_75 1 rfl ?_
            refine g_iload C dX11_peels_77 0 rfl ?_
            refine g_callVI (rest := []) C mv_X11_224 [.int r27148] (s_X5_quarrels Iy27151 h27155) (h27155).1 (h27155).2 rfl rfl (by decide) (Nat.le_of_ble_eq_true rfl) (by decide) dX11_peels_79 (fun r27158 Y27159 h27160 => ?_)
            obtain ⟨rfl, h27160⟩ := h27160
            have h27160 : True := h27160
            exact ret _ _ _ _ _ _ dX11_peels_82 rfl (by decide) (by decide) ⟨Iy27151, Xz27153, trivial⟩
          · refine g_tableIn C 83 dX11_peels_42 (by omega) (by omega) (by rw [h27157]; rfl) (by decide) ?_
            refine g_aload C dX11_peels_83 1 rfl ?_
            refine g_iload C dX11_peels_85 0 rfl ?_
            refine g_callVI (rest := []) C mv_X11_227 [.int r27148] (s_X5_work Iy27151 h27155) (h27155).1 (h27155).2 rfl rfl (by decide) (Nat.le_of_ble_eq_true rfl) (by decide) dX11_peels_87 (fun r27161 Y27162 h27163 => ?_)
            obtain ⟨rfl, h27163⟩ := h27163
            have h27163 : True := h27163
            exact ret _ _ _ _ _ _ dX11_peels_90 rfl (by decide) (by decide) ⟨Iy27151, Xz27153, trivial⟩
          · refine g_tableIn C 91 dX11_peels_42 (by omega) (by omega) (by rw [h27157]; rfl) (by decide) ?_
            refine g_aload C dX11_peels_91 1 rfl ?_
            refine g_iload C dX11_peels_93 0 rfl ?_
            refine g_callVI (rest := []) C mv_X11_230 [.int r27148] (s_X5_left Iy27151 h27155) (h27155).1 (h27155).2 rfl rfl (by decide) (Nat.le_of_ble_eq_true rfl) (by decide) dX11_peels_95 (fun r27164 Y27165 h27166 => ?_)
            obtain ⟨rfl, h27166⟩ := h27166
            have h27166 : True := h27166
            exact ret _ _ _ _ _ _ dX11_peels_98 rfl (by decide) (by decide) ⟨Iy27151, Xz27153, trivial⟩
      · have h27138 : r27134.toInt = 0 := congrArg Int32.toInt h27138
        clear hi27137
        refine g_lv (lv' := []) [] rfl ?_
        exact J22 
theorem dX11_quarter_0 : decode cX11_quarter 0 = .ok (.iload_n 1, 1) := by decide +kernel
theorem dX11_quarter_1 : decode cX11_quarter 1 = .ok (.invokestatic 158, 3) := by decide +kernel
theorem dX11_quarter_4 : decode cX11_quarter 4 = .ok (.ifCond .eq 24, 3) := by decide +kernel
theorem dX11_quarter_7 : decode cX11_quarter 7 = .ok (.iload_n 2, 1) := by decide +kernel
theorem dX11_quarter_8 : decode cX11_quarter 8 = .ok (.ifCond .lt 20, 3) := by decide +kernel
theorem dX11_quarter_11 : decode cX11_quarter 11 = .ok (.iload_n 2, 1) := by decide +kernel
theorem dX11_quarter_12 : decode cX11_quarter 12 = .ok (.bipush 100, 2) := by decide +kernel
theorem dX11_quarter_14 : decode cX11_quarter 14 = .ok (.if_icmp .gt 14, 3) := by decide +kernel
theorem dX11_quarter_17 : decode cX11_quarter 17 = .ok (.iload_n 3, 1) := by decide +kernel
theorem dX11_quarter_18 : decode cX11_quarter 18 = .ok (.ifCond .lt 10, 3) := by decide +kernel
theorem dX11_quarter_21 : decode cX11_quarter 21 = .ok (.iload_n 3, 1) := by decide +kernel
theorem dX11_quarter_22 : decode cX11_quarter 22 = .ok (.sipush 999, 3) := by decide +kernel
theorem dX11_quarter_25 : decode cX11_quarter 25 = .ok (.if_icmp .le 5, 3) := by decide +kernel
theorem dX11_quarter_28 : decode cX11_quarter 28 = .ok (.iconst 0, 1) := by decide +kernel
theorem dX11_quarter_29 : decode cX11_quarter 29 = .ok (.ireturn, 1) := by decide +kernel
theorem dX11_quarter_30 : decode cX11_quarter 30 = .ok (.aload_n 0, 1) := by decide +kernel
theorem dX11_quarter_31 : decode cX11_quarter 31 = .ok (.getfield 28, 3) := by decide +kernel
theorem dX11_quarter_34 : decode cX11_quarter 34 = .ok (.iload_n 1, 1) := by decide +kernel
theorem dX11_quarter_35 : decode cX11_quarter 35 = .ok (.iload_n 2, 1) := by decide +kernel
theorem dX11_quarter_36 : decode cX11_quarter 36 = .ok (.iastore, 1) := by decide +kernel
theorem dX11_quarter_37 : decode cX11_quarter 37 = .ok (.aload_n 0, 1) := by decide +kernel
theorem dX11_quarter_38 : decode cX11_quarter 38 = .ok (.getfield 32, 3) := by decide +kernel
theorem dX11_quarter_41 : decode cX11_quarter 41 = .ok (.iload_n 1, 1) := by decide +kernel
theorem dX11_quarter_42 : decode cX11_quarter 42 = .ok (.iload_n 3, 1) := by decide +kernel
theorem dX11_quarter_43 : decode cX11_quarter 43 = .ok (.iastore, 1) := by decide +kernel
theorem dX11_quarter_44 : decode cX11_quarter 44 = .ok (.iconst 1, 1) := by decide +kernel
theorem dX11_quarter_45 : decode cX11_quarter 45 = .ok (.ireturn, 1) := by decide +kernel
set_option maxHeartbeats 4000000 in
set_option maxRecDepth 100000 in
theorem s_X11_quarter {P : PP} {a0 : Nat} {a1 : Int32} {a2 : Int32} {a3 : Int32} (I : IV P) (ha0 : At P a0 11) : CtrI yX11_quarter cX11_quarter 4 (some Jvm.ClassFile.FieldType.boolean) ({ frames := 2, cells := 0, slots := 0, locals := 128 } : Room) 0 0 P [.ref a0, .int a1, .int a2, .int a3] (fun r P2 => IV P2 ∧ EK [13] P P2 ∧ (0 ≤ r.toInt ∧ r.toInt ≤ 1) ∧ (r.toInt = 0 ∨ (((0 : Int) ≤ a1.toInt ∧ a1.toInt ≤ (3 : Int)) ∧ ((0 : Int) ≤ a2.toInt ∧ a2.toInt ≤ (100 : Int)) ∧ ((0 : Int) ≤ a3.toInt ∧ a3.toInt ≤ (999 : Int))))) := by
  refine enI (lv := [(0, .ref a0), (1, .int a1), (2, .int a2), (3, .int a3)]) (by decide) (Nat.le_of_ble_eq_true rfl) rfl (fun E D cy C Ci0 ret => ?_)
  have J28 : G E ({ frames := 2, cells := 0, slots := 0, locals := 128 } : Room) D cy 4 P 0 0 28 [] [] := by
    refine g_iconst (v := 0) C dX11_quarter_28 (by decide) ?_
    exact ret _ _ _ _ _ _ dX11_quarter_29 rfl (by decide) (by decide) ⟨I, EK.rf, (by decide), Or.inl rfl⟩
  refine g_iload_n C dX11_quarter_0 rfl 1 rfl ?_
  refine g_callSI (b := 0) (ci := 0) (rest := []) C ms_X11_158 [.int a1] (s_X11_isQuarter I) rfl rfl (by decide) (Nat.le_of_ble_eq_true rfl) (by decide) dX11_quarter_1 (fun r27196 Y27197 h27198 => ?_)
  obtain ⟨rfl, h27198⟩ := h27198
  obtain ⟨h27198, hi27199⟩ := h27198
  have hi27199 : r27196.toInt = 0 ∨ (((0 : Int) ≤ a1.toInt ∧ a1.toInt ≤ (3 : Int))) := hi27199
  have h27198 : 0 ≤ r27196.toInt ∧ r27196.toInt ≤ 1 := h27198
  refine b_if_eq C 28 dX11_quarter_4 (by decide) (fun h27200 => ?_) (fun h27200 => ?_)
  · have h27200 : r27196.toInt = 0 := congrArg Int32.toInt h27200
    clear hi27199
    refine g_lv (lv' := []) [] rfl ?_
    exact J28 
  · have h27200 : r27196.toInt ≠ 0 := ti_ne h27200
    replace hi27199 := hi27199.resolve_left (by omega)
    refine g_iload_n C dX11_quarter_7 rfl 2 rfl ?_
    have u27202 := ti_rng a2
    refine b_if_lt C 28 dX11_quarter_8 (by decide) (fun h27201 => ?_) (fun h27201 => ?_)
    · have h27201 : a2.toInt < 0 := h27201
      refine g_lv (lv' := []) [] rfl ?_
      exact J28 
    · have h27201 : 0 ≤ a2.toInt := h27201
      refine g_iload_n C dX11_quarter_11 rfl 2 rfl ?_
      refine g_bipush (v := 100) C dX11_quarter_12 (by decide) ?_
      have u27204 := ti_rng a2
      refine b_icmp_gt C 28 dX11_quarter_14 (by decide) (fun h27203 => ?_) (fun h27203 => ?_)
      · have h27203 : 100 < a2.toInt := h27203
        refine g_lv (lv' := []) [] rfl ?_
        exact J28 
      · have h27203 : a2.toInt ≤ 100 := h27203
        refine g_iload_n C dX11_quarter_17 rfl 3 rfl ?_
        have u27206 := ti_rng a3
        refine b_if_lt C 28 dX11_quarter_18 (by decide) (fun h27205 => ?_) (fun h27205 => ?_)
        · have h27205 : a3.toInt < 0 := h27205
          refine g_lv (lv' := []) [] rfl ?_
          exact J28 
        · have h27205 : 0 ≤ a3.toInt := h27205
          refine g_iload_n C dX11_quarter_21 rfl 3 rfl ?_
          refine g_sipush (v := 999) C dX11_quarter_22 (by decide) ?_
          have u27208 := ti_rng a3
          refine b_icmp_le C 30 dX11_quarter_25 (by decide) (fun h27207 => ?_) (fun h27207 => ?_)
          · have h27207 : a3.toInt ≤ 999 := h27207
            refine g_aload_n C dX11_quarter_30 rfl 0 rfl ?_
            obtain ⟨b27209, e27210, h27211⟩ := I.fld (ha0) 4 13 4 rfl
            refine g_getR C fi_X11_28 rfl e27210 (ha0).1 (ha0).2 dX11_quarter_31 ?_
            refine g_iload_n C dX11_quarter_34 rfl 1 rfl ?_
            refine g_iload_n C dX11_quarter_35 rfl 2 rfl ?_
            refine g_iast (j := (a1.toInt.toNat)) C h27211.1 h27211.2.1 (ix_in h27211.2.2 (by omega)) dX11_quarter_36 ?_
            refine gp (ks := [13]) (I.setA h27211 (by decide)) (EK.setI h27211.2.1 (by decide)) (fun Y27212 Iy27213 Xy27214 => ?_)
            have Xz27215 : EK [13] P Y27212 := Xy27214.mono (by decide)
            have h27216 := Xy27214.at ha0
            refine g_aload_n C dX11_quarter_37 rfl 0 rfl ?_
            obtain ⟨b27217, e27218, h27219⟩ := Iy27213.fld (h27216) 5 13 4 rfl
            refine g_getR C fi_X11_32 rfl e27218 (h27216).1 (h27216).2 dX11_quarter_38 ?_
            refine g_iload_n C dX11_quarter_41 rfl 1 rfl ?_
            refine g_iload_n C dX11_quarter_42 rfl 3 rfl ?_
            refine g_iast (j := (a1.toInt.toNat)) C h27219.1 h27219.2.1 (ix_in h27219.2.2 (by omega)) dX11_quarter_43 ?_
            refine gp (ks := [13]) (Iy27213.setA h27219 (by decide)) (EK.setI h27219.2.1 (by decide)) (fun Y27220 Iy27221 Xy27222 => ?_)
            have Xz27223 : EK [13] P Y27220 := Xz27215.tr (Xy27222.mono (by decide))
            have h27224 := Xy27222.at h27216
            refine g_iconst (v := 1) C dX11_quarter_44 (by decide) ?_
            exact ret _ _ _ _ _ _ dX11_quarter_45 rfl (by decide) (by decide) ⟨Iy27221, Xz27223, (by decide), Or.inr (by omega)⟩
          · have h27207 : 999 < a3.toInt := h27207
            refine g_lv (lv' := []) [] rfl ?_
            exact J28 
theorem dX11_read_0 : decode cX11_read 0 = .ok (.iload_n 1, 1) := by decide +kernel
theorem dX11_read_1 : decode cX11_read 1 = .ok (.invokestatic 158, 3) := by decide +kernel
theorem dX11_read_4 : decode cX11_read 4 = .ok (.ifCond .eq 20, 3) := by decide +kernel
theorem dX11_read_7 : decode cX11_read 7 = .ok (.aload_n 0, 1) := by decide +kernel
theorem dX11_read_8 : decode cX11_read 8 = .ok (.iload_n 2, 1) := by decide +kernel
theorem dX11_read_9 : decode cX11_read 9 = .ok (.iload_n 3, 1) := by decide +kernel
theorem dX11_read_10 : decode cX11_read 10 = .ok (.invokevirtual 155, 3) := by decide +kernel
theorem dX11_read_13 : decode cX11_read 13 = .ok (.ifCond .eq 11, 3) := by decide +kernel
theorem dX11_read_16 : decode cX11_read 16 = .ok (.iload 4, 2) := by decide +kernel
theorem dX11_read_18 : decode cX11_read 18 = .ok (.invokestatic 249, 3) := by decide +kernel
theorem dX11_read_21 : decode cX11_read 21 = .ok (.ifCond .ne 5, 3) := by decide +kernel
theorem dX11_read_26 : decode cX11_read 26 = .ok (.aload_n 0, 1) := by decide +kernel
theorem dX11_read_27 : decode cX11_read 27 = .ok (.iload_n 1, 1) := by decide +kernel
theorem dX11_read_28 : decode cX11_read 28 = .ok (.iload_n 2, 1) := by decide +kernel
theorem dX11_read_29 : decode cX11_read 29 = .ok (.iconst 0, 1) := by decide +kernel
theorem dX11_read_30 : decode cX11_read 30 = .ok (.iload_n 3, 1) := by decide +kernel
theorem dX11_read_31 : decode cX11_read 31 = .ok (.iload 4, 2) := by decide +kernel
theorem dX11_read_33 : decode cX11_read 33 = .ok (.invokevirtual 252, 3) := by decide +kernel
theorem dX11_readOctet_0 : decode cX11_readOctet 0 = .ok (.aload_n 0, 1) := by decide +kernel
theorem dX11_readOctet_1 : decode cX11_readOctet 1 = .ok (.iload_n 1, 1) := by decide +kernel
theorem dX11_readOctet_2 : decode cX11_readOctet 2 = .ok (.iload_n 2, 1) := by decide +kernel
theorem dX11_readOctet_3 : decode cX11_readOctet 3 = .ok (.iload_n 3, 1) := by decide +kernel
theorem dX11_readOctet_4 : decode cX11_readOctet 4 = .ok (.invokevirtual 216, 3) := by decide +kernel
theorem dX11_readOctet_7 : decode cX11_readOctet 7 = .ok (.astore 6, 2) := by decide +kernel
theorem dX11_readOctet_9 : decode cX11_readOctet 9 = .ok (.iload 5, 2) := by decide +kernel
theorem dX11_readOctet_11 : decode cX11_readOctet 11 = .ok (.ifCond .ne 33, 3) := by decide +kernel
theorem dX11_readOctet_14 : decode cX11_readOctet 14 = .ok (.aload 6, 2) := by decide +kernel
theorem dX11_readOctet_16 : decode cX11_readOctet 16 = .ok (.invokevirtual 220, 3) := by decide +kernel
theorem dX11_readOctet_19 : decode cX11_readOctet 19 = .ok (.istore 7, 2) := by decide +kernel
theorem dX11_readOctet_21 : decode cX11_readOctet 21 = .ok (.iload 7, 2) := by decide +kernel
theorem dX11_readOctet_23 : decode cX11_readOctet 23 = .ok (.iload 4, 2) := by decide +kernel
theorem dX11_readOctet_25 : decode cX11_readOctet 25 = .ok (.ishr, 1) := by decide +kernel
theorem dX11_readOctet_26 : decode cX11_readOctet 26 = .ok (.iconst 1, 1) := by decide +kernel
theorem dX11_readOctet_27 : decode cX11_readOctet 27 = .ok (.iand, 1) := by decide +kernel
theorem dX11_readOctet_28 : decode cX11_readOctet 28 = .ok (.ifCond .eq 14, 3) := by decide +kernel
theorem dX11_readOctet_31 : decode cX11_readOctet 31 = .ok (.aload 6, 2) := by decide +kernel
theorem dX11_readOctet_33 : decode cX11_readOctet 33 = .ok (.getfield 382, 3) := by decide +kernel
theorem dX11_readOctet_36 : decode cX11_readOctet 36 = .ok (.iload 4, 2) := by decide +kernel
theorem dX11_readOctet_38 : decode cX11_readOctet 38 = .ok (.iaload, 1) := by decide +kernel
theorem dX11_readOctet_39 : decode cX11_readOctet 39 = .ok (.goto 4, 3) := by decide +kernel
theorem dX11_readOctet_42 : decode cX11_readOctet 42 = .ok (.iconst (-1), 1) := by decide +kernel
theorem dX11_readOctet_43 : decode cX11_readOctet 43 = .ok (.ireturn, 1) := by decide +kernel
theorem dX11_readOctet_44 : decode cX11_readOctet 44 = .ok (.aload_n 0, 1) := by decide +kernel
theorem dX11_readOctet_45 : decode cX11_readOctet 45 = .ok (.getfield 53, 3) := by decide +kernel
theorem dX11_readOctet_48 : decode cX11_readOctet 48 = .ok (.iconst 0, 1) := by decide +kernel
theorem dX11_readOctet_49 : decode cX11_readOctet 49 = .ok (.aaload, 1) := by decide +kernel
theorem dX11_readOctet_50 : decode cX11_readOctet 50 = .ok (.astore 7, 2) := by decide +kernel
theorem dX11_readOctet_52 : decode cX11_readOctet 52 = .ok (.aload 7, 2) := by decide +kernel
theorem dX11_readOctet_54 : decode cX11_readOctet 54 = .ok (.aload 6, 2) := by decide +kernel
theorem dX11_readOctet_56 : decode cX11_readOctet 56 = .ok (.iconst (-1), 1) := by decide +kernel
theorem dX11_readOctet_57 : decode cX11_readOctet 57 = .ok (.invokevirtual 236, 3) := by decide +kernel
theorem dX11_readOctet_60 : decode cX11_readOctet 60 = .ok (.aload 7, 2) := by decide +kernel
theorem dX11_readOctet_62 : decode cX11_readOctet 62 = .ok (.iload 4, 2) := by decide +kernel
theorem dX11_readOctet_64 : decode cX11_readOctet 64 = .ok (.invokevirtual 272, 3) := by decide +kernel
theorem dX11_readOctet_67 : decode cX11_readOctet 67 = .ok (.ireturn, 1) := by decide +kernel
set_option maxHeartbeats 4000000 in
set_option maxRecDepth 100000 in
theorem s_X11_readOctet {P : PP} {a0 : Nat} {a1 : Int32} {a2 : Int32} {a3 : Int32} {a4 : Int32} {a5 : Int32} (I : IV P) (ha0 : At P a0 11) (ha1 : 0 ≤ a1.toInt ∧ a1.toInt ≤ 3) (ha2 : 0 ≤ a2.toInt ∧ a2.toInt ≤ 1) (ha3 : 0 ≤ a3.toInt ∧ a3.toInt ≤ 1) (ha4 : 0 ≤ a4.toInt ∧ a4.toInt ≤ 19) : CtrI yX11_readOctet cX11_readOctet 8 (some Jvm.ClassFile.FieldType.int) ({ frames := 4, cells := 0, slots := 0, locals := 256 } : Room) 0 0 P [.ref a0, .int a1, .int a2, .int a3, .int a4, .int a5] (fun r P2 => IV P2 ∧ EK [0, 5, 13] P P2 ∧ (True)) := by
  refine enI (lv := [(0, .ref a0), (1, .int a1), (2, .int a2), (3, .int a3), (4, .int a4), (5, .int a5)]) (by decide) (Nat.le_of_ble_eq_true rfl) rfl (fun E D cy C Ci0 ret => ?_)
  refine g_aload_n C dX11_readOctet_0 rfl 0 rfl ?_
  refine g_iload_n C dX11_readOctet_1 rfl 1 rfl ?_
  refine g_iload_n C dX11_readOctet_2 rfl 2 rfl ?_
  refine g_iload_n C dX11_readOctet_3 rfl 3 rfl ?_
  refine g_callVQ (rest := []) C mv_X11_216 [.int a1, .int a2, .int a3] (s_X11_gather I ha0 (by omega) (by omega) (by omega)) (ha0).1 (ha0).2 rfl rfl (by decide) (Nat.le_of_ble_eq_true rfl) (by decide) dX11_readOctet_4 (fun r27285 Y27286 h27287 => ?_)
  obtain ⟨Iy27288, Xy27289, h27287⟩ := h27287
  have Xz27290 : EK [0, 5, 13] P Y27286 := Xy27289.mono (by decide)
  have h27291 := Xy27289.at ha0
  obtain ⟨b27293, rfl, h27287⟩ := h27287
  show G _ _ _ _ _ _ _ _ _ _ (.ref b27293 :: _)
  refine g_astore (lv' := [(6, .ref b27293), (0, .ref a0), (1, .int a1), (2, .int a2), (3, .int a3), (4, .int a4), (5, .int a5)]) C dX11_readOctet_7 (by decide) rfl ?_
  refine g_iload C dX11_readOctet_9 6 rfl ?_
  have u27295 := ti_rng a5
  refine b_if_ne C 44 dX11_readOctet_11 (by decide) (fun h27294 => ?_) (fun h27294 => ?_)
  · have h27294 : a5.toInt ≠ 0 := ti_ne h27294
    refine g_aload_n C dX11_readOctet_44 rfl 1 rfl ?_
    obtain ⟨b27296, e27297, h27298⟩ := Iy27288.fld (h27291) 9 16 2 rfl
    refine g_getR C fi_X11_53 rfl e27297 (h27291).1 (h27291).2 dX11_readOctet_45 ?_
    refine g_iconst (v := 0) C dX11_readOctet_48 (by decide) ?_
    obtain ⟨b27299, e27300, h27301⟩ := Iy27288.elm h27298 (by decide) 0 (by decide)
    refine g_aldR C h27298.1 h27298.2.1 (by decide) (IX.litn (j := 0) h27298.2.2 rfl (by decide) (by decide)) e27300 dX11_readOctet_49 ?_
    refine g_astore (lv' := [(7, .ref b27299), (6, .ref b27293), (0, .ref a0), (1, .int a1), (2, .int a2), (3, .int a3), (4, .int a4), (5, .int a5)]) C dX11_readOctet_50 (by decide) rfl ?_
    refine g_aload C dX11_readOctet_52 0 rfl ?_
    refine g_aload C dX11_readOctet_54 1 rfl ?_
    refine g_iconst (v := (-1)) C dX11_readOctet_56 (by decide) ?_
    refine g_callVV (rest := []) C mv_X11_236 [.ref b27293, .int (-1)] (s_X0_take Iy27288 h27301 h27287) (h27301).1 (h27301).2 rfl rfl (by decide) (Nat.le_of_ble_eq_true rfl) (by decide) dX11_readOctet_57 (fun Y27303 h27304 => ?_)
    obtain ⟨Iy27305, Xy27306⟩ := h27304
    have Xz27307 : EK [0, 5, 13] P Y27303 := Xz27290.tr (Xy27306.mono (by decide))
    have h27308 := Xy27306.at h27291
    have h27309 := Xy27306.at h27287
    have h27310 := Xy27306.at h27301
    refine g_aload C dX11_readOctet_60 0 rfl ?_
    refine g_iload C dX11_readOctet_62 6 rfl ?_
    refine g_callVI (rest := []) C mv_X11_272 [.int a4] (s_X0_octetOf Iy27305 h27310) (h27310).1 (h27310).2 rfl rfl (by decide) (Nat.le_of_ble_eq_true rfl) (by decide) dX11_readOctet_64 (fun r27311 Y27312 h27313 => ?_)
    obtain ⟨rfl, h27313⟩ := h27313
    have h27313 : True := h27313
    exact ret _ _ _ _ _ _ dX11_readOctet_67 rfl (by decide) (by decide) ⟨Iy27305, Xz27307, trivial⟩
  · have h27294 : a5.toInt = 0 := congrArg Int32.toInt h27294
    refine g_aload C dX11_readOctet_14 0 rfl ?_
    refine g_callVI (rest := []) C mv_X11_220 [] (s_X5_peel Iy27288 h27287) (h27287).1 (h27287).2 rfl rfl (by decide) (Nat.le_of_ble_eq_true rfl) (by decide) dX11_readOctet_16 (fun r27314 Y27315 h27316 => ?_)
    obtain ⟨Iy27317, Xy27318, h27316⟩ := h27316
    have Xz27319 : EK [0, 5, 13] P Y27315 := Xz27290.tr (Xy27318.mono (by decide))
    have h27320 := Xy27318.at h27291
    have h27321 := Xy27318.at h27287
    have h27316 : True := h27316
    refine g_istore (lv' := [(7, .int r27314), (6, .ref b27293), (0, .ref a0), (1, .int a1), (2, .int a2), (3, .int a3), (4, .int a4), (5, .int a5)]) C dX11_readOctet_19 (by decide) rfl ?_
    refine g_iload C dX11_readOctet_21 0 rfl ?_
    refine g_iload C dX11_readOctet_23 6 rfl ?_
    refine a_ishr C dX11_readOctet_25 (fun z27322 => ?_)
    refine g_iconst (v := 1) C dX11_readOctet_26 (by decide) ?_
    refine s_iand C dX11_readOctet_27 (by show 0 ≤ 1; omega) (fun z27324 h27325 => ?_)
    have h27325 : 0 ≤ z27324.toInt ∧ z27324.toInt ≤ 1 := h27325
    refine b_if_eq C 42 dX11_readOctet_28 (by decide) (fun h27326 => ?_) (fun h27326 => ?_)
    · have h27326 : z27324.toInt = 0 := congrArg Int32.toInt h27326
      refine g_iconst (v := (-1)) C dX11_readOctet_42 (by decide) ?_
      exact ret _ _ _ _ _ _ dX11_readOctet_43 rfl (by decide) (by decide) ⟨Iy27317, Xz27319, trivial⟩
    · have h27326 : z27324.toInt ≠ 0 := ti_ne h27326
      refine g_aload C dX11_readOctet_31 1 rfl ?_
      obtain ⟨b27327, e27328, h27329⟩ := Iy27317.fld (h27321) 2 13 20 rfl
      refine g_getR C fi_X11_382 rfl e27328 (h27321).1 (h27321).2 dX11_readOctet_33 ?_
      refine g_iload C dX11_readOctet_36 6 rfl ?_
      refine g_iald (j := (a4.toInt.toNat)) C h27329.1 h27329.2.1 (ix_in h27329.2.2 (by omega)) dX11_readOctet_38 ?_
      refine g_topi (fun z27330 _ => ?_)
      refine g_goto C 43 dX11_readOctet_39 (by decide) ?_
      exact ret _ _ _ _ _ _ dX11_readOctet_43 rfl (by decide) (by decide) ⟨Iy27317, Xz27319, trivial⟩
theorem dX11_read_24 : decode cX11_read 24 = .ok (.iconst (-1), 1) := by decide +kernel
theorem dX11_read_25 : decode cX11_read 25 = .ok (.ireturn, 1) := by decide +kernel
theorem dX11_read_36 : decode cX11_read 36 = .ok (.istore 5, 2) := by decide +kernel
theorem dX11_read_38 : decode cX11_read 38 = .ok (.aload_n 0, 1) := by decide +kernel
theorem dX11_read_39 : decode cX11_read 39 = .ok (.iload_n 1, 1) := by decide +kernel
theorem dX11_read_40 : decode cX11_read 40 = .ok (.iload_n 2, 1) := by decide +kernel
theorem dX11_read_41 : decode cX11_read 41 = .ok (.iconst 1, 1) := by decide +kernel
theorem dX11_read_42 : decode cX11_read 42 = .ok (.iload_n 3, 1) := by decide +kernel
theorem dX11_read_43 : decode cX11_read 43 = .ok (.iload 4, 2) := by decide +kernel
theorem dX11_read_45 : decode cX11_read 45 = .ok (.invokevirtual 252, 3) := by decide +kernel
theorem dX11_read_48 : decode cX11_read 48 = .ok (.istore 6, 2) := by decide +kernel
theorem dX11_read_50 : decode cX11_read 50 = .ok (.iload 5, 2) := by decide +kernel
theorem dX11_read_52 : decode cX11_read 52 = .ok (.iconst (-1), 1) := by decide +kernel
theorem dX11_read_53 : decode cX11_read 53 = .ok (.if_icmp .eq 9, 3) := by decide +kernel
theorem dX11_read_56 : decode cX11_read 56 = .ok (.iload 6, 2) := by decide +kernel
theorem dX11_read_58 : decode cX11_read 58 = .ok (.iconst (-1), 1) := by decide +kernel
theorem dX11_read_59 : decode cX11_read 59 = .ok (.if_icmp .ne 7, 3) := by decide +kernel
theorem dX11_read_62 : decode cX11_read 62 = .ok (.iconst (-1), 1) := by decide +kernel
theorem dX11_read_63 : decode cX11_read 63 = .ok (.goto 11, 3) := by decide +kernel
theorem dX11_read_66 : decode cX11_read 66 = .ok (.iload 5, 2) := by decide +kernel
theorem dX11_read_68 : decode cX11_read 68 = .ok (.iload 6, 2) := by decide +kernel
theorem dX11_read_70 : decode cX11_read 70 = .ok (.bipush 8, 2) := by decide +kernel
theorem dX11_read_72 : decode cX11_read 72 = .ok (.ishl, 1) := by decide +kernel
theorem dX11_read_73 : decode cX11_read 73 = .ok (.ior, 1) := by decide +kernel
theorem dX11_read_74 : decode cX11_read 74 = .ok (.ireturn, 1) := by decide +kernel
set_option maxHeartbeats 4000000 in
set_option maxRecDepth 100000 in
theorem s_X11_read {P : PP} {a0 : Nat} {a1 : Int32} {a2 : Int32} {a3 : Int32} {a4 : Int32} (I : IV P) (ha0 : At P a0 11) : CtrI yX11_read cX11_read 7 (some Jvm.ClassFile.FieldType.int) ({ frames := 5, cells := 0, slots := 0, locals := 320 } : Room) 0 0 P [.ref a0, .int a1, .int a2, .int a3, .int a4] (fun r P2 => IV P2 ∧ EK [0, 5, 13] P P2 ∧ (True)) := by
  refine enI (lv := [(0, .ref a0), (1, .int a1), (2, .int a2), (3, .int a3), (4, .int a4)]) (by decide) (Nat.le_of_ble_eq_true rfl) rfl (fun E D cy C Ci0 ret => ?_)
  have J62 : ∀ (P62 : PP), (IV P62) → (EK [0, 5, 13] P P62) → G E ({ frames := 5, cells := 0, slots := 0, locals := 320 } : Room) D cy 7 P62 0 0 62 [] [] := by
    intro P62 I62 X62
    have h27368 := X62.at ha0
    refine g_iconst (v := (-1)) C dX11_read_62 (by decide) ?_
    refine g_goto C 74 dX11_read_63 (by decide) ?_
    exact ret _ _ _ _ _ _ dX11_read_74 rfl (by decide) (by decide) ⟨I62, X62, trivial⟩
  have J24 : G E ({ frames := 5, cells := 0, slots := 0, locals := 320 } : Room) D cy 7 P 0 0 24 [] [] := by
    refine g_iconst (v := (-1)) C dX11_read_24 (by decide) ?_
    exact ret _ _ _ _ _ _ dX11_read_25 rfl (by decide) (by decide) ⟨I, EK.rf, trivial⟩
  refine g_iload_n C dX11_read_0 rfl 1 rfl ?_
  refine g_callSI (b := 0) (ci := 0) (rest := []) C ms_X11_158 [.int a1] (s_X11_isQuarter I) rfl rfl (by decide) (Nat.le_of_ble_eq_true rfl) (by decide) dX11_read_1 (fun r27369 Y27370 h27371 => ?_)
  obtain ⟨rfl, h27371⟩ := h27371
  obtain ⟨h27371, hi27372⟩ := h27371
  have hi27372 : r27369.toInt = 0 ∨ (((0 : Int) ≤ a1.toInt ∧ a1.toInt ≤ (3 : Int))) := hi27372
  have h27371 : 0 ≤ r27369.toInt ∧ r27369.toInt ≤ 1 := h27371
  refine b_if_eq C 24 dX11_read_4 (by decide) (fun h27373 => ?_) (fun h27373 => ?_)
  · have h27373 : r27369.toInt = 0 := congrArg Int32.toInt h27373
    clear hi27372
    refine g_lv (lv' := []) [] rfl ?_
    exact J24 
  · have h27373 : r27369.toInt ≠ 0 := ti_ne h27373
    replace hi27372 := hi27372.resolve_left (by omega)
    refine g_aload_n C dX11_read_7 rfl 0 rfl ?_
    refine g_iload_n C dX11_read_8 rfl 2 rfl ?_
    refine g_iload_n C dX11_read_9 rfl 3 rfl ?_
    refine g_callVI (rest := []) C mv_X11_155 [.int a2, .int a3] (s_X11_isPageOf I ha0) (ha0).1 (ha0).2 rfl rfl (by decide) (Nat.le_of_ble_eq_true rfl) (by decide) dX11_read_10 (fun r27374 Y27375 h27376 => ?_)
    obtain ⟨rfl, h27376⟩ := h27376
    obtain ⟨h27376, hi27377⟩ := h27376
    have hi27377 : r27374.toInt = 0 ∨ (((0 : Int) ≤ a2.toInt ∧ a2.toInt ≤ (1 : Int)) ∧ ((0 : Int) ≤ a3.toInt ∧ a3.toInt ≤ (19 : Int))) := hi27377
    have h27376 : 0 ≤ r27374.toInt ∧ r27374.toInt ≤ 1 := h27376
    refine b_if_eq C 24 dX11_read_13 (by decide) (fun h27378 => ?_) (fun h27378 => ?_)
    · have h27378 : r27374.toInt = 0 := congrArg Int32.toInt h27378
      clear hi27377
      refine g_lv (lv' := []) [] rfl ?_
      exact J24 
    · have h27378 : r27374.toInt ≠ 0 := ti_ne h27378
      replace hi27377 := hi27377.resolve_left (by omega)
      refine g_iload C dX11_read_16 4 rfl ?_
      refine g_callSI (b := 0) (ci := 0) (rest := []) C ms_X11_249 [.int a4] (s_X11_isHow I) rfl rfl (by decide) (Nat.le_of_ble_eq_true rfl) (by decide) dX11_read_18 (fun r27379 Y27380 h27381 => ?_)
      obtain ⟨rfl, h27381⟩ := h27381
      have h27381 : 0 ≤ r27379.toInt ∧ r27379.toInt ≤ 1 := h27381
      refine b_if_ne C 26 dX11_read_21 (by decide) (fun h27382 => ?_) (fun h27382 => ?_)
      · have h27382 : r27379.toInt ≠ 0 := ti_ne h27382
        refine g_aload_n C dX11_read_26 rfl 0 rfl ?_
        refine g_iload_n C dX11_read_27 rfl 1 rfl ?_
        refine g_iload_n C dX11_read_28 rfl 2 rfl ?_
        refine g_iconst (v := 0) C dX11_read_29 (by decide) ?_
        refine g_iload_n C dX11_read_30 rfl 3 rfl ?_
        refine g_iload C dX11_read_31 4 rfl ?_
        refine g_callVI (rest := []) C mv_X11_252 [.int a1, .int a2, .int 0, .int a3, .int a4] (s_X11_readOctet I ha0 (by omega) (by omega) (by decide) (by omega)) (ha0).1 (ha0).2 rfl rfl (by decide) (Nat.le_of_ble_eq_true rfl) (by decide) dX11_read_33 (fun r27383 Y27384 h27385 => ?_)
        obtain ⟨Iy27386, Xy27387, h27385⟩ := h27385
        have Xz27388 : EK [0, 5, 13] P Y27384 := Xy27387.mono (by decide)
        have h27389 := Xy27387.at ha0
        have h27385 : True := h27385
        refine g_istore (lv' := [(5, .int r27383), (0, .ref a0), (1, .int a1), (2, .int a2), (3, .int a3), (4, .int a4)]) C dX11_read_36 (by decide) rfl ?_
        refine g_aload_n C dX11_read_38 rfl 1 rfl ?_
        refine g_iload_n C dX11_read_39 rfl 2 rfl ?_
        refine g_iload_n C dX11_read_40 rfl 3 rfl ?_
        refine g_iconst (v := 1) C dX11_read_41 (by decide) ?_
        refine g_iload_n C dX11_read_42 rfl 4 rfl ?_
        refine g_iload C dX11_read_43 5 rfl ?_
        refine g_callVI (rest := []) C mv_X11_252 [.int a1, .int a2, .int 1, .int a3, .int a4] (s_X11_readOctet Iy27386 h27389 (by omega) (by omega) (by decide) (by omega)) (h27389).1 (h27389).2 rfl rfl (by decide) (Nat.le_of_ble_eq_true rfl) (by decide) dX11_read_45 (fun r27390 Y27391 h27392 => ?_)
        obtain ⟨Iy27393, Xy27394, h27392⟩ := h27392
        have Xz27395 : EK [0, 5, 13] P Y27391 := Xz27388.tr (Xy27394.mono (by decide))
        have h27396 := Xy27394.at h27389
        have h27392 : True := h27392
        refine g_istore (lv' := [(6, .int r27390), (5, .int r27383), (0, .ref a0), (1, .int a1), (2, .int a2), (3, .int a3), (4, .int a4)]) C dX11_read_48 (by decide) rfl ?_
        refine g_iload C dX11_read_50 1 rfl ?_
        refine g_iconst (v := (-1)) C dX11_read_52 (by decide) ?_
        have u27398 := ti_rng r27383
        refine b_icmp_eq C 62 dX11_read_53 (by decide) (fun h27397 => ?_) (fun h27397 => ?_)
        · have h27397 : r27383.toInt = (-1) := congrArg Int32.toInt h27397
          refine g_lv (lv' := []) [] rfl ?_
          exact J62 Y27391 Iy27393 Xz27395
        · have h27397 : r27383.toInt ≠ (-1) := ti_ne h27397
          refine g_iload C dX11_read_56 0 rfl ?_
          refine g_iconst (v := (-1)) C dX11_read_58 (by decide) ?_
          have u27400 := ti_rng r27390
          refine b_icmp_ne C 66 dX11_read_59 (by decide) (fun h27399 => ?_) (fun h27399 => ?_)
          · have h27399 : r27390.toInt ≠ (-1) := ti_ne h27399
            refine g_iload C dX11_read_66 1 rfl ?_
            refine g_iload C dX11_read_68 0 rfl ?_
            refine g_bipush (v := 8) C dX11_read_70 (by decide) ?_
            refine a_ishl C dX11_read_72 (fun z27401 => ?_)
            refine a_ior C dX11_read_73 (fun z27403 => ?_)
            exact ret _ _ _ _ _ _ dX11_read_74 rfl (by decide) (by decide) ⟨Iy27393, Xz27395, trivial⟩
          · have h27399 : r27390.toInt = (-1) := congrArg Int32.toInt h27399
            refine g_lv (lv' := []) [] rfl ?_
            exact J62 Y27391 Iy27393 Xz27395
      · have h27382 : r27379.toInt = 0 := congrArg Int32.toInt h27382
        refine g_lv (lv' := []) [] rfl ?_
        exact J24 
theorem dX11_right_0 : decode cX11_right 0 = .ok (.iload_n 1, 1) := by decide +kernel
theorem dX11_right_1 : decode cX11_right 1 = .ok (.invokestatic 158, 3) := by decide +kernel
theorem dX11_right_4 : decode cX11_right 4 = .ok (.ifCond .eq 20, 3) := by decide +kernel
theorem dX11_right_7 : decode cX11_right 7 = .ok (.aload_n 0, 1) := by decide +kernel
theorem dX11_right_8 : decode cX11_right 8 = .ok (.iload_n 2, 1) := by decide +kernel
theorem dX11_right_9 : decode cX11_right 9 = .ok (.iload 4, 2) := by decide +kernel
theorem dX11_right_11 : decode cX11_right 11 = .ok (.invokevirtual 155, 3) := by decide +kernel
theorem dX11_right_14 : decode cX11_right 14 = .ok (.ifCond .eq 10, 3) := by decide +kernel
theorem dX11_right_17 : decode cX11_right 17 = .ok (.iload_n 3, 1) := by decide +kernel
theorem dX11_right_18 : decode cX11_right 18 = .ok (.invokestatic 213, 3) := by decide +kernel
theorem dX11_right_21 : decode cX11_right 21 = .ok (.ifCond .ne 5, 3) := by decide +kernel
theorem dX11_right_24 : decode cX11_right 24 = .ok (.iconst (-1), 1) := by decide +kernel
theorem dX11_right_25 : decode cX11_right 25 = .ok (.ireturn, 1) := by decide +kernel
theorem dX11_right_26 : decode cX11_right 26 = .ok (.aload_n 0, 1) := by decide +kernel
theorem dX11_right_27 : decode cX11_right 27 = .ok (.iload_n 1, 1) := by decide +kernel
theorem dX11_right_28 : decode cX11_right 28 = .ok (.iload_n 2, 1) := by decide +kernel
theorem dX11_right_29 : decode cX11_right 29 = .ok (.iload_n 3, 1) := by decide +kernel
theorem dX11_right_30 : decode cX11_right 30 = .ok (.invokevirtual 216, 3) := by decide +kernel
theorem dX11_right_33 : decode cX11_right 33 = .ok (.astore 5, 2) := by decide +kernel
theorem dX11_right_35 : decode cX11_right 35 = .ok (.aload_n 0, 1) := by decide +kernel
theorem dX11_right_36 : decode cX11_right 36 = .ok (.getfield 53, 3) := by decide +kernel
theorem dX11_right_39 : decode cX11_right 39 = .ok (.iconst 0, 1) := by decide +kernel
theorem dX11_right_40 : decode cX11_right 40 = .ok (.aaload, 1) := by decide +kernel
theorem dX11_right_41 : decode cX11_right 41 = .ok (.astore 6, 2) := by decide +kernel
theorem dX11_right_43 : decode cX11_right 43 = .ok (.aload 6, 2) := by decide +kernel
theorem dX11_right_45 : decode cX11_right 45 = .ok (.aload 5, 2) := by decide +kernel
theorem dX11_right_47 : decode cX11_right 47 = .ok (.iconst (-1), 1) := by decide +kernel
theorem dX11_right_48 : decode cX11_right 48 = .ok (.invokevirtual 236, 3) := by decide +kernel
theorem dX11_right_51 : decode cX11_right 51 = .ok (.aload 6, 2) := by decide +kernel
theorem dX11_right_53 : decode cX11_right 53 = .ok (.getfield 243, 3) := by decide +kernel
theorem dX11_right_56 : decode cX11_right 56 = .ok (.ifCond .eq 5, 3) := by decide +kernel
theorem dX11_right_59 : decode cX11_right 59 = .ok (.iconst (-1), 1) := by decide +kernel
theorem dX11_right_60 : decode cX11_right 60 = .ok (.ireturn, 1) := by decide +kernel
theorem dX11_right_61 : decode cX11_right 61 = .ok (.iconst (-1), 1) := by decide +kernel
theorem dX11_right_62 : decode cX11_right 62 = .ok (.istore 7, 2) := by decide +kernel
theorem dX11_right_64 : decode cX11_right 64 = .ok (.aload 5, 2) := by decide +kernel
theorem dX11_right_66 : decode cX11_right 66 = .ok (.getfield 263, 3) := by decide +kernel
theorem dX11_right_69 : decode cX11_right 69 = .ok (.istore 8, 2) := by decide +kernel
theorem dX11_right_71 : decode cX11_right 71 = .ok (.iload 8, 2) := by decide +kernel
theorem dX11_right_73 : decode cX11_right 73 = .ok (.aload 5, 2) := by decide +kernel
theorem dX11_right_75 : decode cX11_right 75 = .ok (.getfield 266, 3) := by decide +kernel
theorem dX11_right_78 : decode cX11_right 78 = .ok (.if_icmp .ge 60, 3) := by decide +kernel
theorem dX11_right_81 : decode cX11_right 81 = .ok (.aload 6, 2) := by decide +kernel
theorem dX11_right_83 : decode cX11_right 83 = .ok (.aload 5, 2) := by decide +kernel
theorem dX11_right_85 : decode cX11_right 85 = .ok (.iload 8, 2) := by decide +kernel
theorem dX11_right_87 : decode cX11_right 87 = .ok (.invokevirtual 236, 3) := by decide +kernel
theorem dX11_right_90 : decode cX11_right 90 = .ok (.aload 6, 2) := by decide +kernel
theorem dX11_right_92 : decode cX11_right 92 = .ok (.getfield 243, 3) := by decide +kernel
theorem dX11_right_95 : decode cX11_right 95 = .ok (.ifCond .eq 37, 3) := by decide +kernel
theorem dX11_right_98 : decode cX11_right 98 = .ok (.aload 6, 2) := by decide +kernel
theorem dX11_right_100 : decode cX11_right 100 = .ok (.iload 4, 2) := by decide +kernel
theorem dX11_right_102 : decode cX11_right 102 = .ok (.invokevirtual 272, 3) := by decide +kernel
theorem dX11_right_105 : decode cX11_right 105 = .ok (.istore 9, 2) := by decide +kernel
theorem dX11_right_107 : decode cX11_right 107 = .ok (.iload 9, 2) := by decide +kernel
theorem dX11_right_109 : decode cX11_right 109 = .ok (.iconst (-1), 1) := by decide +kernel
theorem dX11_right_110 : decode cX11_right 110 = .ok (.if_icmp .eq 16, 3) := by decide +kernel
theorem dX11_right_113 : decode cX11_right 113 = .ok (.iload 7, 2) := by decide +kernel
theorem dX11_right_115 : decode cX11_right 115 = .ok (.iconst (-1), 1) := by decide +kernel
theorem dX11_right_116 : decode cX11_right 116 = .ok (.if_icmp .eq 12, 3) := by decide +kernel
theorem dX11_right_119 : decode cX11_right 119 = .ok (.iload 7, 2) := by decide +kernel
theorem dX11_right_121 : decode cX11_right 121 = .ok (.iload 9, 2) := by decide +kernel
theorem dX11_right_123 : decode cX11_right 123 = .ok (.if_icmp .eq 5, 3) := by decide +kernel
theorem dX11_right_126 : decode cX11_right 126 = .ok (.iconst (-1), 1) := by decide +kernel
theorem dX11_right_127 : decode cX11_right 127 = .ok (.ireturn, 1) := by decide +kernel
theorem dX11_right_128 : decode cX11_right 128 = .ok (.iload 9, 2) := by decide +kernel
theorem dX11_right_130 : decode cX11_right 130 = .ok (.istore 7, 2) := by decide +kernel
theorem dX11_right_132 : decode cX11_right 132 = .ok (.iinc 8 1, 3) := by decide +kernel
theorem dX11_right_135 : decode cX11_right 135 = .ok (.goto (-64), 3) := by decide +kernel
theorem dX11_right_138 : decode cX11_right 138 = .ok (.iload 7, 2) := by decide +kernel
theorem dX11_right_140 : decode cX11_right 140 = .ok (.ireturn, 1) := by decide +kernel
set_option maxHeartbeats 4000000 in
set_option maxRecDepth 100000 in
theorem s_X11_right {P : PP} {a0 : Nat} {a1 : Int32} {a2 : Int32} {a3 : Int32} {a4 : Int32} (I : IV P) (ha0 : At P a0 11) : CtrI yX11_right cX11_right 10 (some Jvm.ClassFile.FieldType.int) ({ frames := 4, cells := 0, slots := 0, locals := 256 } : Room) 0 0 P [.ref a0, .int a1, .int a2, .int a3, .int a4] (fun r P2 => IV P2 ∧ EK [0, 5, 13] P P2 ∧ (True)) := by
  refine enI (lv := [(0, .ref a0), (1, .int a1), (2, .int a2), (3, .int a3), (4, .int a4)]) (by decide) (Nat.le_of_ble_eq_true rfl) rfl (fun E D cy C Ci0 ret => ?_)
  have J126 : ∀ (P126 : PP), (IV P126) → (EK [0, 5, 13] P P126) → G E ({ frames := 4, cells := 0, slots := 0, locals := 256 } : Room) D cy 10 P126 0 0 126 [] [] := by
    intro P126 I126 X126
    have h27503 := X126.at ha0
    refine g_iconst (v := (-1)) C dX11_right_126 (by decide) ?_
    exact ret _ _ _ _ _ _ dX11_right_127 rfl (by decide) (by decide) ⟨I126, X126, trivial⟩
  have J71 : ∀ (n71 : Nat) (P71 : PP) (b71_5 : Nat) (b71_6 : Nat) (v71_7 : Int32) (v71_8 : Int32), (44 - v71_8.toInt).toNat < n71 → (IV P71) → (EK [0, 5, 13] P P71) → (0 ≤ a4.toInt ∧ a4.toInt ≤ 19) → (At P71 b71_5 5) → (At P71 b71_6 0) → (0 ≤ v71_8.toInt ∧ v71_8.toInt ≤ 44) → G E ({ frames := 4, cells := 0, slots := 0, locals := 256 } : Room) D cy 10 P71 0 0 71 [(4, .int a4), (5, .ref b71_5), (6, .ref b71_6), (7, .int v71_7), (8, .int v71_8)] [] := by
    intro n71
    induction n71 with
    | zero => intro P71 b71_5 b71_6 v71_7 v71_8 hm71 I71 X71 hv71_4 hb71_5 hb71_6 hv71_8; omega
    | succ n71 ih71 =>
      intro P71 b71_5 b71_6 v71_7 v71_8 hm71 I71 X71 hv71_4 hb71_5 hb71_6 hv71_8
      have h27504 := X71.at ha0
      have J132 : ∀ (P132 : PP) (b132_5 : Nat) (b132_6 : Nat) (v132_7 : Int32), (IV P132) → (EK [0, 5, 13] P P132) → (0 ≤ a4.toInt ∧ a4.toInt ≤ 19) → (At P132 b132_5 5) → (At P132 b132_6 0) → (0 ≤ v71_8.toInt ∧ v71_8.toInt ≤ 43) → (1 ≤ (pI P132 b132_5 4).toInt ∧ (pI P132 b132_5 4).toInt ≤ 44) → (0 ≤ (pI P132 b132_6 3).toInt ∧ (pI P132 b132_6 3).toInt ≤ 1) → G E ({ frames := 4, cells := 0, slots := 0, locals := 256 } : Room) D cy 10 P132 0 0 132 [(4, .int a4), (5, .ref b132_5), (6, .ref b132_6), (7, .int v132_7), (8, .int v71_8)] [] := by
        intro P132 b132_5 b132_6 v132_7 I132 X132 hv132_4 hb132_5 hb132_6 hv132_8 hq132_0 hq132_1
        have h27505 := X132.at ha0
        refine s_iinc (lv0 := [(4, .int a4), (5, .ref b132_5), (6, .ref b132_6), (7, .int v132_7)]) (m := 1) C dX11_right_132 4 rfl (by decide) rfl (by decide) (by omega) (fun z27506 h27507 => ?_)
        have h27507 : z27506.toInt = v71_8.toInt + 1 := h27507
        refine g_goto C 71 dX11_right_135 (by decide) ?_
        refine g_lv (lv' := [(4, .int a4), (5, .ref b132_5), (6, .ref b132_6), (7, .int v132_7), (8, .int z27506)]) [1, 2, 3, 4, 0] rfl ?_
        exact ih71 P132 b132_5 b132_6 v132_7 z27506 (by omega) I132 X132 (by omega) hb132_5 hb132_6 (by omega)
      have J128 : ∀ (P128 : PP) (b128_5 : Nat) (b128_6 : Nat) (v128_9 : Int32), (IV P128) → (EK [0, 5, 13] P P128) → (0 ≤ a4.toInt ∧ a4.toInt ≤ 19) → (At P128 b128_5 5) → (At P128 b128_6 0) → (0 ≤ v71_8.toInt ∧ v71_8.toInt ≤ 43) → (1 ≤ (pI P128 b128_5 4).toInt ∧ (pI P128 b128_5 4).toInt ≤ 44) → (1 ≤ (pI P128 b128_6 3).toInt ∧ (pI P128 b128_6 3).toInt ≤ 1) → G E ({ frames := 4, cells := 0, slots := 0, locals := 256 } : Room) D cy 10 P128 0 0 128 [(4, .int a4), (5, .ref b128_5), (6, .ref b128_6), (8, .int v71_8), (9, .int v128_9)] [] := by
        intro P128 b128_5 b128_6 v128_9 I128 X128 hv128_4 hb128_5 hb128_6 hv128_8 hq128_0 hq128_1
        have h27508 := X128.at ha0
        refine g_iload C dX11_right_128 4 rfl ?_
        refine g_istore (lv' := [(7, .int v128_9), (4, .int a4), (5, .ref b128_5), (6, .ref b128_6), (8, .int v71_8), (9, .int v128_9)]) C dX11_right_130 (by decide) rfl ?_
        refine g_lv (lv' := [(4, .int a4), (5, .ref b128_5), (6, .ref b128_6), (7, .int v128_9), (8, .int v71_8)]) [1, 2, 3, 0, 4] rfl ?_
        exact J132 P128 b128_5 b128_6 v128_9 I128 X128 (by omega) hb128_5 hb128_6 (by omega) (by omega) (by omega)
      refine g_iload C dX11_right_71 4 rfl ?_
      refine g_aload C dX11_right_73 1 rfl ?_
      refine g_getI C fi_X11_266 (by decide) (hb71_5).1 (hb71_5).2 dX11_right_75 ?_
      have h27509 := I71.rg (hb71_5) 4 rfl
      refine b_icmp_ge C 138 dX11_right_78 (by decide) (fun h27510 => ?_) (fun h27510 => ?_)
      · have h27510 : (pI P71 b71_5 4).toInt ≤ v71_8.toInt := h27510
        refine g_iload C dX11_right_138 3 rfl ?_
        exact ret _ _ _ _ _ _ dX11_right_140 rfl (by decide) (by decide) ⟨I71, X71, trivial⟩
      · have h27510 : v71_8.toInt < (pI P71 b71_5 4).toInt := h27510
        refine g_aload C dX11_right_81 2 rfl ?_
        refine g_aload C dX11_right_83 1 rfl ?_
        refine g_iload C dX11_right_85 4 rfl ?_
        refine g_callVV (rest := []) C mv_X11_236 [.ref b71_5, .int v71_8] (s_X0_take I71 hb71_6 hb71_5) (hb71_6).1 (hb71_6).2 rfl rfl (by decide) (Nat.le_of_ble_eq_true rfl) (by decide) dX11_right_87 (fun Y27512 h27513 => ?_)
        obtain ⟨Iy27514, Xy27515⟩ := h27513
        have q27516 := Xy27515.keep hb71_5 (by decide) 4
        have Xz27517 : EK [0, 5, 13] P Y27512 := X71.tr (Xy27515.mono (by decide))
        have h27518 := Xy27515.at h27504
        have h27519 := Xy27515.at hb71_5
        have h27520 := Xy27515.at hb71_6
        refine g_aload C dX11_right_90 2 rfl ?_
        refine g_getI C fi_X11_243 (by decide) (h27520).1 (h27520).2 dX11_right_92 ?_
        have h27521 := Iy27514.rg (h27520) 3 rfl
        refine b_if_eq C 132 dX11_right_95 (by decide) (fun h27522 => ?_) (fun h27522 => ?_)
        · have h27522 : (pI Y27512 b71_6 3).toInt = 0 := congrArg Int32.toInt h27522
          exact J132 Y27512 b71_5 b71_6 v71_7 Iy27514 Xz27517 (by omega) h27519 h27520 (by omega) (by omega) (by omega)
        · have h27522 : (pI Y27512 b71_6 3).toInt ≠ 0 := ti_ne h27522
          refine g_aload C dX11_right_98 2 rfl ?_
          refine g_iload C dX11_right_100 0 rfl ?_
          refine g_callVI (rest := []) C mv_X11_272 [.int a4] (s_X0_octetOf Iy27514 h27520) (h27520).1 (h27520).2 rfl rfl (by decide) (Nat.le_of_ble_eq_true rfl) (by decide) dX11_right_102 (fun r27523 Y27524 h27525 => ?_)
          obtain ⟨rfl, h27525⟩ := h27525
          have h27525 : True := h27525
          refine g_istore (lv' := [(9, .int r27523), (4, .int a4), (5, .ref b71_5), (6, .ref b71_6), (7, .int v71_7), (8, .int v71_8)]) C dX11_right_105 (by decide) rfl ?_
          refine g_iload C dX11_right_107 0 rfl ?_
          refine g_iconst (v := (-1)) C dX11_right_109 (by decide) ?_
          have u27527 := ti_rng r27523
          refine b_icmp_eq C 126 dX11_right_110 (by decide) (fun h27526 => ?_) (fun h27526 => ?_)
          · have h27526 : r27523.toInt = (-1) := congrArg Int32.toInt h27526
            refine g_lv (lv' := []) [] rfl ?_
            exact J126 Y27512 Iy27514 Xz27517
          · have h27526 : r27523.toInt ≠ (-1) := ti_ne h27526
            refine g_iload C dX11_right_113 4 rfl ?_
            refine g_iconst (v := (-1)) C dX11_right_115 (by decide) ?_
            have u27529 := ti_rng v71_7
            refine b_icmp_eq C 128 dX11_right_116 (by decide) (fun h27528 => ?_) (fun h27528 => ?_)
            · have h27528 : v71_7.toInt = (-1) := congrArg Int32.toInt h27528
              refine g_lv (lv' := [(4, .int a4), (5, .ref b71_5), (6, .ref b71_6), (8, .int v71_8), (9, .int r27523)]) [1, 2, 3, 5, 0] rfl ?_
              exact J128 Y27512 b71_5 b71_6 r27523 Iy27514 Xz27517 (by omega) h27519 h27520 (by omega) (by omega) (by omega)
            · have h27528 : v71_7.toInt ≠ (-1) := ti_ne h27528
              refine g_iload C dX11_right_119 4 rfl ?_
              refine g_iload C dX11_right_121 0 rfl ?_
              have u27531 := ti_rng v71_7
              have u27532 := ti_rng r27523
              refine b_icmp_eq C 128 dX11_right_123 (by decide) (fun h27530 => ?_) (fun h27530 => ?_)
              · have h27530 : v71_7.toInt = r27523.toInt := congrArg Int32.toInt h27530
                refine g_lv (lv' := [(4, .int a4), (5, .ref b71_5), (6, .ref b71_6), (8, .int v71_8), (9, .int r27523)]) [1, 2, 3, 5, 0] rfl ?_
                exact J128 Y27512 b71_5 b71_6 r27523 Iy27514 Xz27517 (by omega) h27519 h27520 (by omega) (by omega) (by omega)
              · have h27530 : v71_7.toInt ≠ r27523.toInt := ti_ne h27530
                refine g_lv (lv' := []) [] rfl ?_
                exact J126 Y27512 Iy27514 Xz27517
  have J24 : G E ({ frames := 4, cells := 0, slots := 0, locals := 256 } : Room) D cy 10 P 0 0 24 [] [] := by
    refine g_iconst (v := (-1)) C dX11_right_24 (by decide) ?_
    exact ret _ _ _ _ _ _ dX11_right_25 rfl (by decide) (by decide) ⟨I, EK.rf, trivial⟩
  refine g_iload_n C dX11_right_0 rfl 1 rfl ?_
  refine g_callSI (b := 0) (ci := 0) (rest := []) C ms_X11_158 [.int a1] (s_X11_isQuarter I) rfl rfl (by decide) (Nat.le_of_ble_eq_true rfl) (by decide) dX11_right_1 (fun r27533 Y27534 h27535 => ?_)
  obtain ⟨rfl, h27535⟩ := h27535
  obtain ⟨h27535, hi27536⟩ := h27535
  have hi27536 : r27533.toInt = 0 ∨ (((0 : Int) ≤ a1.toInt ∧ a1.toInt ≤ (3 : Int))) := hi27536
  have h27535 : 0 ≤ r27533.toInt ∧ r27533.toInt ≤ 1 := h27535
  refine b_if_eq C 24 dX11_right_4 (by decide) (fun h27537 => ?_) (fun h27537 => ?_)
  · have h27537 : r27533.toInt = 0 := congrArg Int32.toInt h27537
    clear hi27536
    refine g_lv (lv' := []) [] rfl ?_
    exact J24 
  · have h27537 : r27533.toInt ≠ 0 := ti_ne h27537
    replace hi27536 := hi27536.resolve_left (by omega)
    refine g_aload_n C dX11_right_7 rfl 0 rfl ?_
    refine g_iload_n C dX11_right_8 rfl 2 rfl ?_
    refine g_iload C dX11_right_9 4 rfl ?_
    refine g_callVI (rest := []) C mv_X11_155 [.int a2, .int a4] (s_X11_isPageOf I ha0) (ha0).1 (ha0).2 rfl rfl (by decide) (Nat.le_of_ble_eq_true rfl) (by decide) dX11_right_11 (fun r27538 Y27539 h27540 => ?_)
    obtain ⟨rfl, h27540⟩ := h27540
    obtain ⟨h27540, hi27541⟩ := h27540
    have hi27541 : r27538.toInt = 0 ∨ (((0 : Int) ≤ a2.toInt ∧ a2.toInt ≤ (1 : Int)) ∧ ((0 : Int) ≤ a4.toInt ∧ a4.toInt ≤ (19 : Int))) := hi27541
    have h27540 : 0 ≤ r27538.toInt ∧ r27538.toInt ≤ 1 := h27540
    refine b_if_eq C 24 dX11_right_14 (by decide) (fun h27542 => ?_) (fun h27542 => ?_)
    · have h27542 : r27538.toInt = 0 := congrArg Int32.toInt h27542
      clear hi27541
      refine g_lv (lv' := []) [] rfl ?_
      exact J24 
    · have h27542 : r27538.toInt ≠ 0 := ti_ne h27542
      replace hi27541 := hi27541.resolve_left (by omega)
      refine g_iload_n C dX11_right_17 rfl 3 rfl ?_
      refine g_callSI (b := 0) (ci := 0) (rest := []) C ms_X11_213 [.int a3] (s_X11_isOctet I) rfl rfl (by decide) (Nat.le_of_ble_eq_true rfl) (by decide) dX11_right_18 (fun r27543 Y27544 h27545 => ?_)
      obtain ⟨rfl, h27545⟩ := h27545
      obtain ⟨h27545, hi27546⟩ := h27545
      have hi27546 : r27543.toInt = 0 ∨ (((0 : Int) ≤ a3.toInt ∧ a3.toInt ≤ (1 : Int))) := hi27546
      have h27545 : 0 ≤ r27543.toInt ∧ r27543.toInt ≤ 1 := h27545
      refine b_if_ne C 26 dX11_right_21 (by decide) (fun h27547 => ?_) (fun h27547 => ?_)
      · have h27547 : r27543.toInt ≠ 0 := ti_ne h27547
        replace hi27546 := hi27546.resolve_left (by omega)
        refine g_aload_n C dX11_right_26 rfl 0 rfl ?_
        refine g_iload_n C dX11_right_27 rfl 1 rfl ?_
        refine g_iload_n C dX11_right_28 rfl 2 rfl ?_
        refine g_iload_n C dX11_right_29 rfl 3 rfl ?_
        refine g_callVQ (rest := []) C mv_X11_216 [.int a1, .int a2, .int a3] (s_X11_gather I ha0 (by omega) (by omega) (by omega)) (ha0).1 (ha0).2 rfl rfl (by decide) (Nat.le_of_ble_eq_true rfl) (by decide) dX11_right_30 (fun r27548 Y27549 h27550 => ?_)
        obtain ⟨Iy27551, Xy27552, h27550⟩ := h27550
        have Xz27553 : EK [0, 5, 13] P Y27549 := Xy27552.mono (by decide)
        have h27554 := Xy27552.at ha0
        obtain ⟨b27556, rfl, h27550⟩ := h27550
        show G _ _ _ _ _ _ _ _ _ _ (.ref b27556 :: _)
        refine g_astore (lv' := [(5, .ref b27556), (0, .ref a0), (1, .int a1), (2, .int a2), (3, .int a3), (4, .int a4)]) C dX11_right_33 (by decide) rfl ?_
        refine g_aload_n C dX11_right_35 rfl 1 rfl ?_
        obtain ⟨b27557, e27558, h27559⟩ := Iy27551.fld (h27554) 9 16 2 rfl
        refine g_getR C fi_X11_53 rfl e27558 (h27554).1 (h27554).2 dX11_right_36 ?_
        refine g_iconst (v := 0) C dX11_right_39 (by decide) ?_
        obtain ⟨b27560, e27561, h27562⟩ := Iy27551.elm h27559 (by decide) 0 (by decide)
        refine g_aldR C h27559.1 h27559.2.1 (by decide) (IX.litn (j := 0) h27559.2.2 rfl (by decide) (by decide)) e27561 dX11_right_40 ?_
        refine g_astore (lv' := [(6, .ref b27560), (5, .ref b27556), (0, .ref a0), (1, .int a1), (2, .int a2), (3, .int a3), (4, .int a4)]) C dX11_right_41 (by decide) rfl ?_
        refine g_aload C dX11_right_43 0 rfl ?_
        refine g_aload C dX11_right_45 1 rfl ?_
        refine g_iconst (v := (-1)) C dX11_right_47 (by decide) ?_
        refine g_callVV (rest := []) C mv_X11_236 [.ref b27556, .int (-1)] (s_X0_take Iy27551 h27562 h27550) (h27562).1 (h27562).2 rfl rfl (by decide) (Nat.le_of_ble_eq_true rfl) (by decide) dX11_right_48 (fun Y27564 h27565 => ?_)
        obtain ⟨Iy27566, Xy27567⟩ := h27565
        have Xz27568 : EK [0, 5, 13] P Y27564 := Xz27553.tr (Xy27567.mono (by decide))
        have h27569 := Xy27567.at h27554
        have h27570 := Xy27567.at h27550
        have h27571 := Xy27567.at h27562
        refine g_aload C dX11_right_51 0 rfl ?_
        refine g_getI C fi_X11_243 (by decide) (h27571).1 (h27571).2 dX11_right_53 ?_
        have h27572 := Iy27566.rg (h27571) 3 rfl
        refine b_if_eq C 61 dX11_right_56 (by decide) (fun h27573 => ?_) (fun h27573 => ?_)
        · have h27573 : (pI Y27564 b27560 3).toInt = 0 := congrArg Int32.toInt h27573
          refine g_iconst (v := (-1)) C dX11_right_61 (by decide) ?_
          refine g_istore (lv' := [(7, .int (-1)), (6, .ref b27560), (5, .ref b27556), (0, .ref a0), (1, .int a1), (2, .int a2), (3, .int a3), (4, .int a4)]) C dX11_right_62 (by decide) rfl ?_
          refine g_aload C dX11_right_64 2 rfl ?_
          refine g_getI C fi_X11_263 (by decide) (h27570).1 (h27570).2 dX11_right_66 ?_
          have h27574 := Iy27566.rg (h27570) 5 rfl
          refine g_topi (fun z27575 h27576 => ?_)
          have h27576 : z27575.toInt = (pI Y27564 b27556 5).toInt := congrArg Int32.toInt h27576
          refine g_istore (lv' := [(8, .int z27575), (7, .int (-1)), (6, .ref b27560), (5, .ref b27556), (0, .ref a0), (1, .int a1), (2, .int a2), (3, .int a3), (4, .int a4)]) C dX11_right_69 (by decide) rfl ?_
          refine g_lv (lv' := [(4, .int a4), (5, .ref b27556), (6, .ref b27560), (7, .int (-1)), (8, .int z27575)]) [8, 3, 2, 1, 0] rfl ?_
          exact J71 _ Y27564 b27556 b27560 (-1) z27575 (Nat.lt_succ_self _) Iy27566 Xz27568 (by omega) h27570 h27571 (by omega)
        · have h27573 : (pI Y27564 b27560 3).toInt ≠ 0 := ti_ne h27573
          refine g_iconst (v := (-1)) C dX11_right_59 (by decide) ?_
          exact ret _ _ _ _ _ _ dX11_right_60 rfl (by decide) (by decide) ⟨Iy27566, Xz27568, trivial⟩
      · have h27547 : r27543.toInt = 0 := congrArg Int32.toInt h27547
        clear hi27546
        refine g_lv (lv' := []) [] rfl ?_
        exact J24 
theorem dX11_scatter_0 : decode cX11_scatter 0 = .ok (.aload_n 0, 1) := by decide +kernel
theorem dX11_scatter_1 : decode cX11_scatter 1 = .ok (.iload_n 1, 1) := by decide +kernel
theorem dX11_scatter_2 : decode cX11_scatter 2 = .ok (.iload_n 2, 1) := by decide +kernel
theorem dX11_scatter_3 : decode cX11_scatter 3 = .ok (.invokevirtual 136, 3) := by decide +kernel
theorem dX11_scatter_6 : decode cX11_scatter 6 = .ok (.ifCond .eq 23, 3) := by decide +kernel
theorem dX11_scatter_9 : decode cX11_scatter 9 = .ok (.iload_n 3, 1) := by decide +kernel
theorem dX11_scatter_10 : decode cX11_scatter 10 = .ok (.invokestatic 173, 3) := by decide +kernel
theorem dX11_scatter_13 : decode cX11_scatter 13 = .ok (.ifCond .eq 16, 3) := by decide +kernel
theorem dX11_scatter_16 : decode cX11_scatter 16 = .ok (.iload_n 3, 1) := by decide +kernel
theorem dX11_scatter_17 : decode cX11_scatter 17 = .ok (.iload_n 2, 1) := by decide +kernel
theorem dX11_scatter_18 : decode cX11_scatter 18 = .ok (.if_icmp .lt 11, 3) := by decide +kernel
theorem dX11_scatter_21 : decode cX11_scatter 21 = .ok (.iload_n 3, 1) := by decide +kernel
theorem dX11_scatter_22 : decode cX11_scatter 22 = .ok (.iload_n 2, 1) := by decide +kernel
theorem dX11_scatter_23 : decode cX11_scatter 23 = .ok (.isub, 1) := by decide +kernel
theorem dX11_scatter_24 : decode cX11_scatter 24 = .ok (.bipush 100, 2) := by decide +kernel
theorem dX11_scatter_26 : decode cX11_scatter 26 = .ok (.if_icmp .lt 5, 3) := by decide +kernel
theorem dX11_scatter_29 : decode cX11_scatter 29 = .ok (.iconst (-1), 1) := by decide +kernel
theorem dX11_scatter_30 : decode cX11_scatter 30 = .ok (.ireturn, 1) := by decide +kernel
theorem dX11_scatter_31 : decode cX11_scatter 31 = .ok (.iconst 0, 1) := by decide +kernel
theorem dX11_scatter_32 : decode cX11_scatter 32 = .ok (.istore 4, 2) := by decide +kernel
theorem dX11_scatter_34 : decode cX11_scatter 34 = .ok (.iload_n 2, 1) := by decide +kernel
theorem dX11_scatter_35 : decode cX11_scatter 35 = .ok (.istore 5, 2) := by decide +kernel
theorem dX11_scatter_37 : decode cX11_scatter 37 = .ok (.iload 5, 2) := by decide +kernel
theorem dX11_scatter_39 : decode cX11_scatter 39 = .ok (.iload_n 3, 1) := by decide +kernel
theorem dX11_scatter_40 : decode cX11_scatter 40 = .ok (.if_icmp .gt 33, 3) := by decide +kernel
theorem dX11_scatter_43 : decode cX11_scatter 43 = .ok (.aload_n 0, 1) := by decide +kernel
theorem dX11_scatter_44 : decode cX11_scatter 44 = .ok (.invokevirtual 319, 3) := by decide +kernel
theorem dX11_scatter_47 : decode cX11_scatter 47 = .ok (.ifCond .eq 20, 3) := by decide +kernel
theorem dX11_scatter_50 : decode cX11_scatter 50 = .ok (.iload 4, 2) := by decide +kernel
theorem dX11_scatter_52 : decode cX11_scatter 52 = .ok (.aload_n 0, 1) := by decide +kernel
theorem dX11_scatter_53 : decode cX11_scatter 53 = .ok (.aload_n 0, 1) := by decide +kernel
theorem dX11_scatter_54 : decode cX11_scatter 54 = .ok (.getfield 11, 3) := by decide +kernel
theorem dX11_scatter_57 : decode cX11_scatter 57 = .ok (.iload_n 1, 1) := by decide +kernel
theorem dX11_scatter_58 : decode cX11_scatter 58 = .ok (.aaload, 1) := by decide +kernel
theorem dX11_scatter_59 : decode cX11_scatter 59 = .ok (.iload 5, 2) := by decide +kernel
theorem dX11_scatter_61 : decode cX11_scatter 61 = .ok (.invokevirtual 323, 3) := by decide +kernel
theorem dX11_scatter_73 : decode cX11_scatter 73 = .ok (.iload 4, 2) := by decide +kernel
theorem dX11_scatter_75 : decode cX11_scatter 75 = .ok (.ireturn, 1) := by decide +kernel
theorem dX11_throwOne_0 : decode cX11_throwOne 0 = .ok (.aload_n 1, 1) := by decide +kernel
theorem dX11_throwOne_1 : decode cX11_throwOne 1 = .ok (.iload_n 2, 1) := by decide +kernel
theorem dX11_throwOne_2 : decode cX11_throwOne 2 = .ok (.iconst 3, 1) := by decide +kernel
theorem dX11_throwOne_3 : decode cX11_throwOne 3 = .ok (.invokevirtual 161, 3) := by decide +kernel
theorem dX11_throwOne_6 : decode cX11_throwOne 6 = .ok (.astore_n 3, 1) := by decide +kernel
theorem dX11_throwOne_7 : decode cX11_throwOne 7 = .ok (.iconst 0, 1) := by decide +kernel
theorem dX11_throwOne_8 : decode cX11_throwOne 8 = .ok (.istore 4, 2) := by decide +kernel
theorem dX11_throwOne_10 : decode cX11_throwOne 10 = .ok (.iconst 0, 1) := by decide +kernel
theorem dX11_throwOne_11 : decode cX11_throwOne 11 = .ok (.istore 5, 2) := by decide +kernel
theorem dX11_throwOne_13 : decode cX11_throwOne 13 = .ok (.iload 5, 2) := by decide +kernel
theorem dX11_throwOne_15 : decode cX11_throwOne 15 = .ok (.iconst 4, 1) := by decide +kernel
theorem dX11_throwOne_16 : decode cX11_throwOne 16 = .ok (.if_icmp .ge 52, 3) := by decide +kernel
theorem dX11_throwOne_19 : decode cX11_throwOne 19 = .ok (.aload_n 0, 1) := by decide +kernel
theorem dX11_throwOne_20 : decode cX11_throwOne 20 = .ok (.aload_n 1, 1) := by decide +kernel
theorem dX11_throwOne_21 : decode cX11_throwOne 21 = .ok (.iload_n 2, 1) := by decide +kernel
theorem dX11_throwOne_22 : decode cX11_throwOne 22 = .ok (.iload 5, 2) := by decide +kernel
theorem dX11_throwOne_24 : decode cX11_throwOne 24 = .ok (.invokevirtual 397, 3) := by decide +kernel
theorem dX11_throwOne_27 : decode cX11_throwOne 27 = .ok (.ifCond .eq 35, 3) := by decide +kernel
theorem dX11_throwOne_30 : decode cX11_throwOne 30 = .ok (.aload_n 0, 1) := by decide +kernel
theorem dX11_throwOne_31 : decode cX11_throwOne 31 = .ok (.getfield 17, 3) := by decide +kernel
theorem dX11_throwOne_34 : decode cX11_throwOne 34 = .ok (.iload 5, 2) := by decide +kernel
theorem dX11_throwOne_36 : decode cX11_throwOne 36 = .ok (.aaload, 1) := by decide +kernel
theorem dX11_throwOne_37 : decode cX11_throwOne 37 = .ok (.aload_n 3, 1) := by decide +kernel
theorem dX11_throwOne_38 : decode cX11_throwOne 38 = .ok (.invokevirtual 341, 3) := by decide +kernel
theorem dX6_hasAlike_0 : decode cX6_hasAlike 0 = .ok (.iconst 0, 1) := by decide +kernel
theorem dX6_hasAlike_1 : decode cX6_hasAlike 1 = .ok (.istore_n 2, 1) := by decide +kernel
theorem dX6_hasAlike_2 : decode cX6_hasAlike 2 = .ok (.iload_n 2, 1) := by decide +kernel
theorem dX6_hasAlike_3 : decode cX6_hasAlike 3 = .ok (.aload_n 0, 1) := by decide +kernel
theorem dX6_hasAlike_4 : decode cX6_hasAlike 4 = .ok (.getfield 17, 3) := by decide +kernel
theorem dX6_hasAlike_7 : decode cX6_hasAlike 7 = .ok (.if_icmp .ge 30, 3) := by decide +kernel
theorem dX6_hasAlike_10 : decode cX6_hasAlike 10 = .ok (.aload_n 0, 1) := by decide +kernel
theorem dX6_hasAlike_11 : decode cX6_hasAlike 11 = .ok (.getfield 11, 3) := by decide +kernel
theorem dX6_hasAlike_14 : decode cX6_hasAlike 14 = .ok (.iload_n 2, 1) := by decide +kernel
theorem dX6_hasAlike_15 : decode cX6_hasAlike 15 = .ok (.aaload, 1) := by decide +kernel
theorem dX6_hasAlike_16 : decode cX6_hasAlike 16 = .ok (.astore_n 3, 1) := by decide +kernel
theorem dX6_hasAlike_17 : decode cX6_hasAlike 17 = .ok (.aload_n 3, 1) := by decide +kernel
theorem dX6_hasAlike_18 : decode cX6_hasAlike 18 = .ok (.ifnull 13, 3) := by decide +kernel
theorem dX6_hasAlike_21 : decode cX6_hasAlike 21 = .ok (.aload_n 3, 1) := by decide +kernel
theorem dX6_hasAlike_22 : decode cX6_hasAlike 22 = .ok (.aload_n 1, 1) := by decide +kernel
theorem dX6_hasAlike_23 : decode cX6_hasAlike 23 = .ok (.invokevirtual 28, 3) := by decide +kernel
theorem dX6_hasAlike_37 : decode cX6_hasAlike 37 = .ok (.iconst 0, 1) := by decide +kernel
theorem dX6_hasAlike_38 : decode cX6_hasAlike 38 = .ok (.ireturn, 1) := by decide +kernel
theorem dX7_isAlike_0 : decode cX7_isAlike 0 = .ok (.aload_n 0, 1) := by decide +kernel
theorem dX7_isAlike_1 : decode cX7_isAlike 1 = .ok (.getfield 9, 3) := by decide +kernel
theorem dX7_isAlike_4 : decode cX7_isAlike 4 = .ok (.aload_n 1, 1) := by decide +kernel
theorem dX7_isAlike_5 : decode cX7_isAlike 5 = .ok (.getfield 9, 3) := by decide +kernel
theorem dX7_isAlike_8 : decode cX7_isAlike 8 = .ok (.if_icmp .ne 51, 3) := by decide +kernel
theorem dX7_isAlike_11 : decode cX7_isAlike 11 = .ok (.aload_n 0, 1) := by decide +kernel
theorem dX7_isAlike_12 : decode cX7_isAlike 12 = .ok (.getfield 15, 3) := by decide +kernel
theorem dX7_isAlike_15 : decode cX7_isAlike 15 = .ok (.aload_n 1, 1) := by decide +kernel
theorem dX7_isAlike_16 : decode cX7_isAlike 16 = .ok (.getfield 15, 3) := by decide +kernel
theorem dX7_isAlike_19 : decode cX7_isAlike 19 = .ok (.if_icmp .ne 40, 3) := by decide +kernel
theorem dX7_isAlike_22 : decode cX7_isAlike 22 = .ok (.aload_n 0, 1) := by decide +kernel
theorem dX7_isAlike_23 : decode cX7_isAlike 23 = .ok (.getfield 18, 3) := by decide +kernel
theorem dX7_isAlike_26 : decode cX7_isAlike 26 = .ok (.aload_n 1, 1) := by decide +kernel
theorem dX7_isAlike_27 : decode cX7_isAlike 27 = .ok (.getfield 18, 3) := by decide +kernel
theorem dX7_isAlike_30 : decode cX7_isAlike 30 = .ok (.if_icmp .ne 29, 3) := by decide +kernel
theorem dX7_isAlike_33 : decode cX7_isAlike 33 = .ok (.aload_n 0, 1) := by decide +kernel
theorem dX7_isAlike_34 : decode cX7_isAlike 34 = .ok (.getfield 21, 3) := by decide +kernel
theorem dX7_isAlike_37 : decode cX7_isAlike 37 = .ok (.aload_n 1, 1) := by decide +kernel
theorem dX7_isAlike_38 : decode cX7_isAlike 38 = .ok (.getfield 21, 3) := by decide +kernel
theorem dX7_isAlike_41 : decode cX7_isAlike 41 = .ok (.if_icmp .ne 18, 3) := by decide +kernel
theorem dX7_isAlike_44 : decode cX7_isAlike 44 = .ok (.aload_n 0, 1) := by decide +kernel
theorem dX7_isAlike_45 : decode cX7_isAlike 45 = .ok (.getfield 24, 3) := by decide +kernel
theorem dX7_isAlike_48 : decode cX7_isAlike 48 = .ok (.aload_n 1, 1) := by decide +kernel
theorem dX7_isAlike_49 : decode cX7_isAlike 49 = .ok (.getfield 24, 3) := by decide +kernel
theorem dX7_isAlike_52 : decode cX7_isAlike 52 = .ok (.if_icmp .ne 7, 3) := by decide +kernel
theorem dX7_isAlike_55 : decode cX7_isAlike 55 = .ok (.iconst 1, 1) := by decide +kernel
theorem dX7_isAlike_56 : decode cX7_isAlike 56 = .ok (.goto 4, 3) := by decide +kernel
theorem dX7_isAlike_59 : decode cX7_isAlike 59 = .ok (.iconst 0, 1) := by decide +kernel
theorem dX7_isAlike_60 : decode cX7_isAlike 60 = .ok (.ireturn, 1) := by decide +kernel
set_option maxHeartbeats 4000000 in
set_option maxRecDepth 100000 in
theorem s_X7_isAlike {P : PP} {a0 : Nat} {a1 : Nat} (I : IV P) (ha0 : At P a0 7) (ha1 : At P a1 7) : CtrI yX7_isAlike cX7_isAlike 2 (some Jvm.ClassFile.FieldType.boolean) ({ frames := 1, cells := 0, slots := 0, locals := 64 } : Room) 0 0 P [.ref a0, .ref a1] (fun r P2 => P = P2 ∧ (0 ≤ r.toInt ∧ r.toInt ≤ 1)) := by
  refine enI (lv := [(0, .ref a0), (1, .ref a1)]) (by decide) (Nat.le_of_ble_eq_true rfl) rfl (fun E D cy C Ci0 ret => ?_)
  have J59 : G E ({ frames := 1, cells := 0, slots := 0, locals := 64 } : Room) D cy 2 P 0 0 59 [] [] := by
    refine g_iconst (v := 0) C dX7_isAlike_59 (by decide) ?_
    exact ret _ _ _ _ _ _ dX7_isAlike_60 rfl (by decide) (by decide) ⟨rfl, (by decide)⟩
  refine g_aload_n C dX7_isAlike_0 rfl 0 rfl ?_
  refine g_getI C fi_X7_9 (by decide) (ha0).1 (ha0).2 dX7_isAlike_1 ?_
  have h27648 := I.rg (ha0) 0 rfl
  refine g_aload_n C dX7_isAlike_4 rfl 1 rfl ?_
  refine g_getI C fi_X7_9 (by decide) (ha1).1 (ha1).2 dX7_isAlike_5 ?_
  have h27649 := I.rg (ha1) 0 rfl
  refine b_icmp_ne C 59 dX7_isAlike_8 (by decide) (fun h27650 => ?_) (fun h27650 => ?_)
  · have h27650 : (pI P a0 0).toInt ≠ (pI P a1 0).toInt := ti_ne h27650
    refine g_lv (lv' := []) [] rfl ?_
    exact J59 
  · have h27650 : (pI P a0 0).toInt = (pI P a1 0).toInt := congrArg Int32.toInt h27650
    refine g_aload_n C dX7_isAlike_11 rfl 0 rfl ?_
    refine g_getI C fi_X7_15 (by decide) (ha0).1 (ha0).2 dX7_isAlike_12 ?_
    refine g_aload_n C dX7_isAlike_15 rfl 1 rfl ?_
    refine g_getI C fi_X7_15 (by decide) (ha1).1 (ha1).2 dX7_isAlike_16 ?_
    have u27652 := ti_rng (pI P a0 1)
    have u27653 := ti_rng (pI P a1 1)
    refine b_icmp_ne C 59 dX7_isAlike_19 (by decide) (fun h27651 => ?_) (fun h27651 => ?_)
    · have h27651 : (pI P a0 1).toInt ≠ (pI P a1 1).toInt := ti_ne h27651
      refine g_lv (lv' := []) [] rfl ?_
      exact J59 
    · have h27651 : (pI P a0 1).toInt = (pI P a1 1).toInt := congrArg Int32.toInt h27651
      refine g_aload_n C dX7_isAlike_22 rfl 0 rfl ?_
      refine g_getI C fi_X7_18 (by decide) (ha0).1 (ha0).2 dX7_isAlike_23 ?_
      refine g_aload_n C dX7_isAlike_26 rfl 1 rfl ?_
      refine g_getI C fi_X7_18 (by decide) (ha1).1 (ha1).2 dX7_isAlike_27 ?_
      have u27655 := ti_rng (pI P a0 2)
      have u27656 := ti_rng (pI P a1 2)
      refine b_icmp_ne C 59 dX7_isAlike_30 (by decide) (fun h27654 => ?_) (fun h27654 => ?_)
      · have h27654 : (pI P a0 2).toInt ≠ (pI P a1 2).toInt := ti_ne h27654
        refine g_lv (lv' := []) [] rfl ?_
        exact J59 
      · have h27654 : (pI P a0 2).toInt = (pI P a1 2).toInt := congrArg Int32.toInt h27654
        refine g_aload_n C dX7_isAlike_33 rfl 0 rfl ?_
        refine g_getI C fi_X7_21 (by decide) (ha0).1 (ha0).2 dX7_isAlike_34 ?_
        refine g_aload_n C dX7_isAlike_37 rfl 1 rfl ?_
        refine g_getI C fi_X7_21 (by decide) (ha1).1 (ha1).2 dX7_isAlike_38 ?_
        have u27658 := ti_rng (pI P a0 3)
        have u27659 := ti_rng (pI P a1 3)
        refine b_icmp_ne C 59 dX7_isAlike_41 (by decide) (fun h27657 => ?_) (fun h27657 => ?_)
        · have h27657 : (pI P a0 3).toInt ≠ (pI P a1 3).toInt := ti_ne h27657
          refine g_lv (lv' := []) [] rfl ?_
          exact J59 
        · have h27657 : (pI P a0 3).toInt = (pI P a1 3).toInt := congrArg Int32.toInt h27657
          refine g_aload_n C dX7_isAlike_44 rfl 0 rfl ?_
          refine g_getI C fi_X7_24 (by decide) (ha0).1 (ha0).2 dX7_isAlike_45 ?_
          refine g_aload_n C dX7_isAlike_48 rfl 1 rfl ?_
          refine g_getI C fi_X7_24 (by decide) (ha1).1 (ha1).2 dX7_isAlike_49 ?_
          have u27661 := ti_rng (pI P a0 4)
          have u27662 := ti_rng (pI P a1 4)
          refine b_icmp_ne C 59 dX7_isAlike_52 (by decide) (fun h27660 => ?_) (fun h27660 => ?_)
          · have h27660 : (pI P a0 4).toInt ≠ (pI P a1 4).toInt := ti_ne h27660
            refine g_lv (lv' := []) [] rfl ?_
            exact J59 
          · have h27660 : (pI P a0 4).toInt = (pI P a1 4).toInt := congrArg Int32.toInt h27660
            refine g_iconst (v := 1) C dX7_isAlike_55 (by decide) ?_
            refine g_goto C 60 dX7_isAlike_56 (by decide) ?_
            exact ret _ _ _ _ _ _ dX7_isAlike_60 rfl (by decide) (by decide) ⟨rfl, (by decide)⟩
theorem dX6_hasAlike_26 : decode cX6_hasAlike 26 = .ok (.ifCond .eq 5, 3) := by decide +kernel
theorem dX6_hasAlike_29 : decode cX6_hasAlike 29 = .ok (.iconst 1, 1) := by decide +kernel
theorem dX6_hasAlike_30 : decode cX6_hasAlike 30 = .ok (.ireturn, 1) := by decide +kernel
theorem dX6_hasAlike_31 : decode cX6_hasAlike 31 = .ok (.iinc 2 1, 3) := by decide +kernel
theorem dX6_hasAlike_34 : decode cX6_hasAlike 34 = .ok (.goto (-32), 3) := by decide +kernel
set_option maxHeartbeats 4000000 in
set_option maxRecDepth 100000 in
theorem s_X6_hasAlike {P : PP} {a0 : Nat} {a1 : Nat} (I : IV P) (ha0 : At P a0 6) (ha1 : At P a1 7) : CtrI yX6_hasAlike cX6_hasAlike 4 (some Jvm.ClassFile.FieldType.boolean) ({ frames := 2, cells := 0, slots := 0, locals := 128 } : Room) 0 0 P [.ref a0, .ref a1] (fun r P2 => P = P2 ∧ (0 ≤ r.toInt ∧ r.toInt ≤ 1)) := by
  refine enI (lv := [(0, .ref a0), (1, .ref a1)]) (by decide) (Nat.le_of_ble_eq_true rfl) rfl (fun E D cy C Ci0 ret => ?_)
  have J2 : ∀ (n2 : Nat) (v2_2 : Int32), (40 - v2_2.toInt).toNat < n2 → (0 ≤ v2_2.toInt ∧ v2_2.toInt ≤ 40) → G E ({ frames := 2, cells := 0, slots := 0, locals := 128 } : Room) D cy 4 P 0 0 2 [(0, .ref a0), (1, .ref a1), (2, .int v2_2)] [] := by
    intro n2
    induction n2 with
    | zero => intro v2_2 hm2 hv2_2; omega
    | succ n2 ih2 =>
      intro v2_2 hm2 hv2_2
      have J31 : (0 ≤ v2_2.toInt ∧ v2_2.toInt ≤ 39) → (1 ≤ (pI P a0 1).toInt ∧ (pI P a0 1).toInt ≤ 40) → G E ({ frames := 2, cells := 0, slots := 0, locals := 128 } : Room) D cy 4 P 0 0 31 [(0, .ref a0), (1, .ref a1), (2, .int v2_2)] [] := by
        intro hv31_2 hq31_0
        refine s_iinc (lv0 := [(0, .ref a0), (1, .ref a1)]) (m := 1) C dX6_hasAlike_31 2 rfl (by decide) rfl (by decide) (by omega) (fun z27873 h27874 => ?_)
        have h27874 : z27873.toInt = v2_2.toInt + 1 := h27874
        refine g_goto C 2 dX6_hasAlike_34 (by decide) ?_
        refine g_lv (lv' := [(0, .ref a0), (1, .ref a1), (2, .int z27873)]) [1, 2, 0] rfl ?_
        exact ih2 z27873 (by omega) (by omega)
      refine g_iload_n C dX6_hasAlike_2 rfl 2 rfl ?_
      refine g_aload_n C dX6_hasAlike_3 rfl 0 rfl ?_
      refine g_getI C fi_X6_17 (by decide) (ha0).1 (ha0).2 dX6_hasAlike_4 ?_
      have h27875 := I.rg (ha0) 1 rfl
      refine b_icmp_ge C 37 dX6_hasAlike_7 (by decide) (fun h27876 => ?_) (fun h27876 => ?_)
      · have h27876 : (pI P a0 1).toInt ≤ v2_2.toInt := h27876
        refine g_iconst (v := 0) C dX6_hasAlike_37 (by decide) ?_
        exact ret _ _ _ _ _ _ dX6_hasAlike_38 rfl (by decide) (by decide) ⟨rfl, (by decide)⟩
      · have h27876 : v2_2.toInt < (pI P a0 1).toInt := h27876
        refine g_aload_n C dX6_hasAlike_10 rfl 0 rfl ?_
        obtain ⟨b27877, e27878, h27879⟩ := I.fld (ha0) 0 20 40 rfl
        refine g_getR C fi_X6_11 rfl e27878 (ha0).1 (ha0).2 dX6_hasAlike_11 ?_
        refine g_iload_n C dX6_hasAlike_14 rfl 2 rfl ?_
        refine g_aldQ (j := (v2_2.toInt.toNat)) C h27879.1 h27879.2.1 (by decide) (ix_in h27879.2.2 (by omega)) dX6_hasAlike_15 ?_
        rcases I.pap h27879 (v2_2.toInt.toNat) with e27881 | ⟨b27880, e27881, h27882⟩
        · rw [e27881]
          show G _ _ _ _ _ _ _ _ _ _ (.null :: _)
          refine g_astore_nN (lv' := [(3, .null), (0, .ref a0), (1, .ref a1), (2, .int v2_2)]) C dX6_hasAlike_16 rfl (by decide) rfl ?_
          refine g_aload_nN C dX6_hasAlike_17 rfl 0 rfl ?_
          refine g_ifnullN C 31 dX6_hasAlike_18 (by decide) ?_
          refine g_lv (lv' := [(0, .ref a0), (1, .ref a1), (2, .int v2_2)]) [1, 2, 3] rfl ?_
          exact J31 (by omega) (by omega)
        · rw [e27881]
          show G _ _ _ _ _ _ _ _ _ _ (.ref b27880 :: _)
          refine g_astore_n (lv' := [(3, .ref b27880), (0, .ref a0), (1, .ref a1), (2, .int v2_2)]) C dX6_hasAlike_16 rfl (by decide) rfl ?_
          refine g_aload_n C dX6_hasAlike_17 rfl 0 rfl ?_
          refine g_ifnull C dX6_hasAlike_18 ?_
          refine g_aload_n C dX6_hasAlike_21 rfl 0 rfl ?_
          refine g_aload_n C dX6_hasAlike_22 rfl 2 rfl ?_
          refine g_callVI (rest := []) C mv_X6_28 [.ref a1] (s_X7_isAlike I h27882 ha1) (h27882).1 (h27882).2 rfl rfl (by decide) (Nat.le_of_ble_eq_true rfl) (by decide) dX6_hasAlike_23 (fun r27883 Y27884 h27885 => ?_)
          obtain ⟨rfl, h27885⟩ := h27885
          have h27885 : 0 ≤ r27883.toInt ∧ r27883.toInt ≤ 1 := h27885
          refine b_if_eq C 31 dX6_hasAlike_26 (by decide) (fun h27886 => ?_) (fun h27886 => ?_)
          · have h27886 : r27883.toInt = 0 := congrArg Int32.toInt h27886
            refine g_lv (lv' := [(0, .ref a0), (1, .ref a1), (2, .int v2_2)]) [1, 2, 3] rfl ?_
            exact J31 (by omega) (by omega)
          · have h27886 : r27883.toInt ≠ 0 := ti_ne h27886
            refine g_iconst (v := 1) C dX6_hasAlike_29 (by decide) ?_
            exact ret _ _ _ _ _ _ dX6_hasAlike_30 rfl (by decide) (by decide) ⟨rfl, (by decide)⟩
  refine g_iconst (v := 0) C dX6_hasAlike_0 (by decide) ?_
  refine g_istore_n (lv' := [(2, .int 0), (0, .ref a0), (1, .ref a1)]) C dX6_hasAlike_1 rfl (by decide) rfl ?_
  refine g_lv (lv' := [(0, .ref a0), (1, .ref a1), (2, .int 0)]) [1, 2, 0] rfl ?_
  exact J2 _ 0 (Nat.lt_succ_self _) (by decide)
theorem dX11_throwOne_41 : decode cX11_throwOne 41 = .ok (.ifCond .ne 21, 3) := by decide +kernel
theorem dX11_throwOne_44 : decode cX11_throwOne 44 = .ok (.aload_n 0, 1) := by decide +kernel
theorem dX11_throwOne_45 : decode cX11_throwOne 45 = .ok (.getfield 17, 3) := by decide +kernel
theorem dX11_throwOne_48 : decode cX11_throwOne 48 = .ok (.iload 5, 2) := by decide +kernel
theorem dX11_throwOne_50 : decode cX11_throwOne 50 = .ok (.aaload, 1) := by decide +kernel
theorem dX11_throwOne_51 : decode cX11_throwOne 51 = .ok (.aload_n 3, 1) := by decide +kernel
theorem dX11_throwOne_52 : decode cX11_throwOne 52 = .ok (.invokevirtual 165, 3) := by decide +kernel
theorem dX11_throwOne_55 : decode cX11_throwOne 55 = .ok (.iconst (-1), 1) := by decide +kernel
theorem dX11_throwOne_56 : decode cX11_throwOne 56 = .ok (.if_icmp .eq 6, 3) := by decide +kernel
theorem dX11_throwOne_59 : decode cX11_throwOne 59 = .ok (.iinc 4 1, 3) := by decide +kernel
theorem dX11_throwOne_62 : decode cX11_throwOne 62 = .ok (.iinc 5 1, 3) := by decide +kernel
theorem dX11_throwOne_65 : decode cX11_throwOne 65 = .ok (.goto (-52), 3) := by decide +kernel
theorem dX11_throwOne_68 : decode cX11_throwOne 68 = .ok (.iload 4, 2) := by decide +kernel
theorem dX11_throwOne_70 : decode cX11_throwOne 70 = .ok (.ireturn, 1) := by decide +kernel
set_option maxHeartbeats 4000000 in
set_option maxRecDepth 100000 in
theorem s_X11_throwOne {P : PP} {a0 : Nat} {a1 : Nat} {a2 : Int32} (I : IV P) (ha0 : At P a0 11) (ha1 : At P a1 1) : CtrI yX11_throwOne cX11_throwOne 6 (some Jvm.ClassFile.FieldType.int) ({ frames := 6, cells := 1, slots := 7, locals := 384 } : Room) 1 7 P [.ref a0, .ref a1, .int a2] (fun r P2 => IV P2 ∧ EK [1, 6, 7, 13] P P2 ∧ (True)) := by
  refine enI (lv := [(0, .ref a0), (1, .ref a1), (2, .int a2)]) (by decide) (Nat.le_of_ble_eq_true rfl) rfl (fun E D cy C Ci0 ret => ?_)
  have J13 : ∀ (n13 : Nat) (P13 : PP) (b13_3 : Nat) (v13_4 : Int32) (v13_5 : Int32), (4 - v13_5.toInt).toNat < n13 → (IV P13) → (EK [1, 6, 7, 13] P P13) → (At P13 b13_3 7) → (0 ≤ v13_5.toInt ∧ v13_5.toInt ≤ 4) → G E ({ frames := 6, cells := 1, slots := 7, locals := 384 } : Room) D cy 6 P13 1 7 13 [(0, .ref a0), (1, .ref a1), (2, .int a2), (3, .ref b13_3), (4, .int v13_4), (5, .int v13_5)] [] := by
    intro n13
    induction n13 with
    | zero => intro P13 b13_3 v13_4 v13_5 hm13 I13 X13 hb13_3 hv13_5; omega
    | succ n13 ih13 =>
      intro P13 b13_3 v13_4 v13_5 hm13 I13 X13 hb13_3 hv13_5
      have h29117 := X13.at ha0
      have h29118 := X13.at ha1
      have J62 : ∀ (P62 : PP) (b62_3 : Nat) (v62_4 : Int32), (IV P62) → (EK [1, 6, 7, 13] P P62) → (At P62 b62_3 7) → (0 ≤ v13_5.toInt ∧ v13_5.toInt ≤ 3) → G E ({ frames := 6, cells := 1, slots := 7, locals := 384 } : Room) D cy 6 P62 1 7 62 [(0, .ref a0), (1, .ref a1), (2, .int a2), (3, .ref b62_3), (4, .int v62_4), (5, .int v13_5)] [] := by
        intro P62 b62_3 v62_4 I62 X62 hb62_3 hv62_5
        have h29119 := X62.at ha0
        have h29120 := X62.at ha1
        refine s_iinc (lv0 := [(0, .ref a0), (1, .ref a1), (2, .int a2), (3, .ref b62_3), (4, .int v62_4)]) (m := 1) C dX11_throwOne_62 5 rfl (by decide) rfl (by decide) (by omega) (fun z29121 h29122 => ?_)
        have h29122 : z29121.toInt = v13_5.toInt + 1 := h29122
        refine g_goto C 13 dX11_throwOne_65 (by decide) ?_
        refine g_lv (lv' := [(0, .ref a0), (1, .ref a1), (2, .int a2), (3, .ref b62_3), (4, .int v62_4), (5, .int z29121)]) [1, 2, 3, 4, 5, 0] rfl ?_
        exact ih13 P62 b62_3 v62_4 z29121 (by omega) I62 X62 hb62_3 (by omega)
      refine g_iload C dX11_throwOne_13 5 rfl ?_
      refine g_iconst (v := 4) C dX11_throwOne_15 (by decide) ?_
      refine b_icmp_ge C 68 dX11_throwOne_16 (by decide) (fun h29123 => ?_) (fun h29123 => ?_)
      · have h29123 : 4 ≤ v13_5.toInt := h29123
        refine g_iload C dX11_throwOne_68 4 rfl ?_
        exact ret _ _ _ _ _ _ dX11_throwOne_70 rfl (by decide) (by decide) ⟨I13, X13, trivial⟩
      · have h29123 : v13_5.toInt < 4 := h29123
        refine g_aload_n C dX11_throwOne_19 rfl 0 rfl ?_
        refine g_aload_n C dX11_throwOne_20 rfl 1 rfl ?_
        refine g_iload_n C dX11_throwOne_21 rfl 2 rfl ?_
        refine g_iload C dX11_throwOne_22 5 rfl ?_
        refine g_callVI (rest := []) C mv_X11_397 [.ref a1, .int a2, .int v13_5] (s_X11_falls I13 h29117 h29118 (by omega)) (h29117).1 (h29117).2 rfl rfl (by decide) (Nat.le_of_ble_eq_true rfl) (by decide) dX11_throwOne_24 (fun r29124 Y29125 h29126 => ?_)
        obtain ⟨rfl, h29126⟩ := h29126
        have h29126 : 0 ≤ r29124.toInt ∧ r29124.toInt ≤ 1 := h29126
        refine b_if_eq C 62 dX11_throwOne_27 (by decide) (fun h29127 => ?_) (fun h29127 => ?_)
        · have h29127 : r29124.toInt = 0 := congrArg Int32.toInt h29127
          exact J62 P13 b13_3 v13_4 I13 X13 hb13_3 (by omega)
        · have h29127 : r29124.toInt ≠ 0 := ti_ne h29127
          refine g_aload_n C dX11_throwOne_30 rfl 0 rfl ?_
          obtain ⟨b29128, e29129, h29130⟩ := I13.fld (h29117) 1 19 4 rfl
          refine g_getR C fi_X11_17 rfl e29129 (h29117).1 (h29117).2 dX11_throwOne_31 ?_
          refine g_iload C dX11_throwOne_34 5 rfl ?_
          obtain ⟨b29131, e29132, h29133⟩ := I13.elm h29130 (by decide) (v13_5.toInt.toNat) (by omega)
          refine g_aldR C h29130.1 h29130.2.1 (by decide) (ix_in h29130.2.2 (by omega)) e29132 dX11_throwOne_36 ?_
          refine g_aload_n C dX11_throwOne_37 rfl 3 rfl ?_
          refine g_callVI (rest := []) C mv_X11_341 [.ref b13_3] (s_X6_hasAlike I13 h29133 hb13_3) (h29133).1 (h29133).2 rfl rfl (by decide) (Nat.le_of_ble_eq_true rfl) (by decide) dX11_throwOne_38 (fun r29134 Y29135 h29136 => ?_)
          obtain ⟨rfl, h29136⟩ := h29136
          have h29136 : 0 ≤ r29134.toInt ∧ r29134.toInt ≤ 1 := h29136
          refine b_if_ne C 62 dX11_throwOne_41 (by decide) (fun h29137 => ?_) (fun h29137 => ?_)
          · have h29137 : r29134.toInt ≠ 0 := ti_ne h29137
            exact J62 P13 b13_3 v13_4 I13 X13 hb13_3 (by omega)
          · have h29137 : r29134.toInt = 0 := congrArg Int32.toInt h29137
            refine g_aload_n C dX11_throwOne_44 rfl 0 rfl ?_
            refine g_getR C fi_X11_17 rfl e29129 (h29117).1 (h29117).2 dX11_throwOne_45 ?_
            refine g_iload C dX11_throwOne_48 5 rfl ?_
            obtain ⟨b29138, e29139, h29140⟩ := I13.elm h29130 (by decide) (v13_5.toInt.toNat) (by omega)
            refine g_aldR C h29130.1 h29130.2.1 (by decide) (ix_in h29130.2.2 (by omega)) e29139 dX11_throwOne_50 ?_
            refine g_aload_n C dX11_throwOne_51 rfl 3 rfl ?_
            refine g_callVI (rest := []) C mv_X11_165 [.ref b13_3] (s_X6_put I13 h29140 hb13_3) (h29140).1 (h29140).2 rfl rfl (by decide) (Nat.le_of_ble_eq_true rfl) (by decide) dX11_throwOne_52 (fun r29141 Y29142 h29143 => ?_)
            obtain ⟨Iy29144, Xy29145, h29143⟩ := h29143
            have Xz29146 : EK [1, 6, 7, 13] P Y29142 := X13.tr (Xy29145.mono (by decide))
            have h29147 := Xy29145.at h29117
            have h29148 := Xy29145.at h29118
            have h29149 := Xy29145.at hb13_3
            have h29143 : -1 ≤ r29141.toInt ∧ r29141.toInt ≤ 39 := h29143
            refine g_iconst (v := (-1)) C dX11_throwOne_55 (by decide) ?_
            refine b_icmp_eq C 62 dX11_throwOne_56 (by decide) (fun h29150 => ?_) (fun h29150 => ?_)
            · have h29150 : r29141.toInt = (-1) := congrArg Int32.toInt h29150
              exact J62 Y29142 b13_3 v13_4 Iy29144 Xz29146 h29149 (by omega)
            · have h29150 : r29141.toInt ≠ (-1) := ti_ne h29150
              refine a_iinc (lv0 := [(0, .ref a0), (1, .ref a1), (2, .int a2), (3, .ref b13_3), (5, .int v13_5)]) C dX11_throwOne_59 4 rfl (by decide) rfl (fun z29151 => ?_)
              refine g_lv (lv' := [(0, .ref a0), (1, .ref a1), (2, .int a2), (3, .ref b13_3), (4, .int z29151), (5, .int v13_5)]) [1, 2, 3, 4, 0, 5] rfl ?_
              exact J62 Y29142 b13_3 z29151 Iy29144 Xz29146 h29149 (by omega)
  refine g_aload_n C dX11_throwOne_0 rfl 1 rfl ?_
  refine g_iload_n C dX11_throwOne_1 rfl 2 rfl ?_
  refine g_iconst (v := 3) C dX11_throwOne_2 (by decide) ?_
  refine g_callVQ (rest := []) C mv_X11_161 [.int a2, .int 3] (s_X1_leafletPaper I ha1) (ha1).1 (ha1).2 rfl rfl (by decide) (Nat.le_of_ble_eq_true rfl) (by decide) dX11_throwOne_3 (fun r29153 Y29154 h29155 => ?_)
  obtain ⟨Iy29156, Xy29157, h29155⟩ := h29155
  have Xz29158 : EK [1, 6, 7, 13] P Y29154 := Xy29157.mono (by decide)
  have h29159 := Xy29157.at ha0
  have h29160 := Xy29157.at ha1
  obtain ⟨b29162, rfl, h29155⟩ := h29155
  show G _ _ _ _ _ _ _ _ _ _ (.ref b29162 :: _)
  refine g_astore_n (lv' := [(3, .ref b29162), (0, .ref a0), (1, .ref a1), (2, .int a2)]) C dX11_throwOne_6 rfl (by decide) rfl ?_
  refine g_iconst (v := 0) C dX11_throwOne_7 (by decide) ?_
  refine g_istore (lv' := [(4, .int 0), (3, .ref b29162), (0, .ref a0), (1, .ref a1), (2, .int a2)]) C dX11_throwOne_8 (by decide) rfl ?_
  refine g_iconst (v := 0) C dX11_throwOne_10 (by decide) ?_
  refine g_istore (lv' := [(5, .int 0), (4, .int 0), (3, .ref b29162), (0, .ref a0), (1, .ref a1), (2, .int a2)]) C dX11_throwOne_11 (by decide) rfl ?_
  refine g_lv (lv' := [(0, .ref a0), (1, .ref a1), (2, .int a2), (3, .ref b29162), (4, .int 0), (5, .int 0)]) [3, 4, 5, 2, 1, 0] rfl ?_
  exact J13 _ Y29154 b29162 0 0 (Nat.lt_succ_self _) Iy29156 Xz29158 h29155 (by decide)
