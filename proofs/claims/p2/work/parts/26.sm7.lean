theorem dX12_mark_0 : decode cX12_mark 0 = .ok (.aload_n 0, 1) := by decide +kernel
theorem dX12_mark_1 : decode cX12_mark 1 = .ok (.iconst 0, 1) := by decide +kernel
theorem dX12_mark_2 : decode cX12_mark 2 = .ok (.putfield 1, 3) := by decide +kernel
theorem dX12_mark_5 : decode cX12_mark 5 = .ok (.iload_n 1, 1) := by decide +kernel
theorem dX12_mark_6 : decode cX12_mark 6 = .ok (.iconst 0, 1) := by decide +kernel
theorem dX12_mark_7 : decode cX12_mark 7 = .ok (.iconst 3, 1) := by decide +kernel
theorem dX12_mark_8 : decode cX12_mark 8 = .ok (.invokestatic 178, 3) := by decide +kernel
theorem dX12_mark_11 : decode cX12_mark 11 = .ok (.ifCond .eq 16, 3) := by decide +kernel
theorem dX12_mark_14 : decode cX12_mark 14 = .ok (.iload_n 2, 1) := by decide +kernel
theorem dX12_mark_15 : decode cX12_mark 15 = .ok (.ifCond .eq 14, 3) := by decide +kernel
theorem dX12_mark_18 : decode cX12_mark 18 = .ok (.aload_n 0, 1) := by decide +kernel
theorem dX12_mark_19 : decode cX12_mark 19 = .ok (.getfield 87, 3) := by decide +kernel
theorem dX12_mark_22 : decode cX12_mark 22 = .ok (.iload_n 1, 1) := by decide +kernel
theorem dX12_mark_23 : decode cX12_mark 23 = .ok (.baload, 1) := by decide +kernel
theorem dX12_mark_24 : decode cX12_mark 24 = .ok (.ifCond .ne 5, 3) := by decide +kernel
theorem dX12_mark_27 : decode cX12_mark 27 = .ok (.iconst 0, 1) := by decide +kernel
theorem dX12_mark_28 : decode cX12_mark 28 = .ok (.ireturn, 1) := by decide +kernel
theorem dX12_mark_29 : decode cX12_mark 29 = .ok (.iconst 0, 1) := by decide +kernel
theorem dX12_mark_30 : decode cX12_mark 30 = .ok (.istore_n 3, 1) := by decide +kernel
theorem dX12_mark_31 : decode cX12_mark 31 = .ok (.iload_n 3, 1) := by decide +kernel
theorem dX12_mark_32 : decode cX12_mark 32 = .ok (.iconst 4, 1) := by decide +kernel
theorem dX12_mark_33 : decode cX12_mark 33 = .ok (.if_icmp .ge 43, 3) := by decide +kernel
theorem dX12_mark_36 : decode cX12_mark 36 = .ok (.aload_n 0, 1) := by decide +kernel
theorem dX12_mark_37 : decode cX12_mark 37 = .ok (.iload_n 2, 1) := by decide +kernel
theorem dX12_mark_38 : decode cX12_mark 38 = .ok (.ifCond .eq 13, 3) := by decide +kernel
theorem dX12_mark_41 : decode cX12_mark 41 = .ok (.iconst 4, 1) := by decide +kernel
theorem dX12_mark_42 : decode cX12_mark 42 = .ok (.iload_n 1, 1) := by decide +kernel
theorem dX12_mark_43 : decode cX12_mark 43 = .ok (.iconst 1, 1) := by decide +kernel
theorem dX12_mark_44 : decode cX12_mark 44 = .ok (.iadd, 1) := by decide +kernel
theorem dX12_mark_45 : decode cX12_mark 45 = .ok (.imul, 1) := by decide +kernel
theorem dX12_mark_46 : decode cX12_mark 46 = .ok (.iload_n 3, 1) := by decide +kernel
theorem dX12_mark_47 : decode cX12_mark 47 = .ok (.iadd, 1) := by decide +kernel
theorem dX12_mark_48 : decode cX12_mark 48 = .ok (.goto 4, 3) := by decide +kernel
theorem dX12_mark_51 : decode cX12_mark 51 = .ok (.iload_n 3, 1) := by decide +kernel
theorem dX12_mark_52 : decode cX12_mark 52 = .ok (.iload_n 2, 1) := by decide +kernel
theorem dX12_mark_53 : decode cX12_mark 53 = .ok (.ifCond .eq 7, 3) := by decide +kernel
theorem dX12_mark_56 : decode cX12_mark 56 = .ok (.iload_n 3, 1) := by decide +kernel
theorem dX12_mark_57 : decode cX12_mark 57 = .ok (.goto 10, 3) := by decide +kernel
theorem dX12_mark_60 : decode cX12_mark 60 = .ok (.iconst 4, 1) := by decide +kernel
theorem dX12_mark_61 : decode cX12_mark 61 = .ok (.iload_n 1, 1) := by decide +kernel
theorem dX12_mark_62 : decode cX12_mark 62 = .ok (.iconst 1, 1) := by decide +kernel
theorem dX12_mark_63 : decode cX12_mark 63 = .ok (.iadd, 1) := by decide +kernel
theorem dX12_mark_64 : decode cX12_mark 64 = .ok (.imul, 1) := by decide +kernel
theorem dX12_mark_65 : decode cX12_mark 65 = .ok (.iload_n 3, 1) := by decide +kernel
theorem dX12_mark_66 : decode cX12_mark 66 = .ok (.iadd, 1) := by decide +kernel
theorem dX12_mark_67 : decode cX12_mark 67 = .ok (.invokevirtual 302, 3) := by decide +kernel
theorem dX12_mark_70 : decode cX12_mark 70 = .ok (.iinc 3 1, 3) := by decide +kernel
theorem dX12_mark_73 : decode cX12_mark 73 = .ok (.goto (-42), 3) := by decide +kernel
theorem dX12_mark_76 : decode cX12_mark 76 = .ok (.aload_n 0, 1) := by decide +kernel
theorem dX12_mark_77 : decode cX12_mark 77 = .ok (.getfield 87, 3) := by decide +kernel
theorem dX12_mark_80 : decode cX12_mark 80 = .ok (.iload_n 1, 1) := by decide +kernel
theorem dX12_mark_81 : decode cX12_mark 81 = .ok (.iconst 1, 1) := by decide +kernel
theorem dX12_mark_82 : decode cX12_mark 82 = .ok (.bastore, 1) := by decide +kernel
theorem dX12_mark_83 : decode cX12_mark 83 = .ok (.iconst 1, 1) := by decide +kernel
theorem dX12_mark_84 : decode cX12_mark 84 = .ok (.ireturn, 1) := by decide +kernel
set_option maxHeartbeats 4000000 in
set_option maxRecDepth 100000 in
theorem s_X12_mark {P : PP} {a0 : Nat} {a1 : Int32} {a2 : Int32} (I : IM P a0) (ha2 : 0 ≤ a2.toInt ∧ a2.toInt ≤ 1) (hW : MW P a0) : CtrI yX12_mark cX12_mark 4 (some Jvm.ClassFile.FieldType.boolean) ({ frames := 3, cells := 0, slots := 0, locals := 192 } : Room) 0 0 P [.ref a0, .int a1, .int a2] (fun r P2 => IM P2 a0 ∧ EM [0, 20, 21, 22, 23, 24, 25, 26] a0 P P2 ∧ MW P2 a0 ∧ (0 ≤ r.toInt ∧ r.toInt ≤ 1) ∧ (r.toInt = 0 ∨ (((0 : Int) ≤ a1.toInt ∧ a1.toInt ≤ (3 : Int))))) := by
  refine enI (lv := [(0, .ref a0), (1, .int a1), (2, .int a2)]) (by decide) (Nat.le_of_ble_eq_true rfl) rfl (fun E D cy C Ci0 ret => ?_)
  have ha0 := I.2.1
  have J31 : ∀ (n31 : Nat) (P31 : PP) (v31_3 : Int32), (4 - v31_3.toInt).toNat < n31 → (IM P31 a0) → (EM [0, 20, 21, 22, 23, 24, 25, 26] a0 P P31) → (MW P31 a0) → (0 ≤ a1.toInt ∧ a1.toInt ≤ 3) → (0 ≤ v31_3.toInt ∧ v31_3.toInt ≤ 4) → (0 ≤ (pI P31 a0 0).toInt ∧ (pI P31 a0 0).toInt ≤ 0) → G E ({ frames := 3, cells := 0, slots := 0, locals := 192 } : Room) D cy 4 P31 0 0 31 [(0, .ref a0), (1, .int a1), (2, .int a2), (3, .int v31_3)] [] := by
    intro n31
    induction n31 with
    | zero => intro P31 v31_3 hm31 I31 X31 W31 hv31_1 hv31_3 hq31_0; omega
    | succ n31 ih31 =>
      intro P31 v31_3 hm31 I31 X31 W31 hv31_1 hv31_3 hq31_0
      have h93207 := X31.at ha0
      have J67 : ∀ (v67_s0 : Int32) (v67_s1 : Int32), (0 ≤ a1.toInt ∧ a1.toInt ≤ 3) → (0 ≤ v31_3.toInt ∧ v31_3.toInt ≤ 3) → (0 ≤ v67_s0.toInt ∧ v67_s0.toInt ≤ 19) → (0 ≤ v67_s1.toInt ∧ v67_s1.toInt ≤ 19) → (0 ≤ (pI P31 a0 0).toInt ∧ (pI P31 a0 0).toInt ≤ 0) → G E ({ frames := 3, cells := 0, slots := 0, locals := 192 } : Room) D cy 4 P31 0 0 67 [(0, .ref a0), (1, .int a1), (2, .int a2), (3, .int v31_3)] [.int v67_s0, .int v67_s1, .ref a0] := by
        intro v67_s0 v67_s1 hv67_1 hv67_3 hv67_s0 hv67_s1 hq67_0
        have h93208 := X31.at ha0
        refine g_callVV (rest := []) C mv_X12_302 [.int v67_s1, .int v67_s0] (s_X12_copies I31 (by omega) (by omega) W31) (h93208).1 (h93208).2 rfl rfl (by decide) (Nat.le_of_ble_eq_true rfl) (by decide) dX12_mark_67 (fun Y93210 h93211 => ?_)
        obtain ⟨Iy93212, Xy93213, W93214⟩ := h93211
        have q93215 := Xy93213.keepF 0 (by decide)
        have Xz93216 : EM [0, 20, 21, 22, 23, 24, 25, 26] a0 P Y93210 := EM.tr ha0 X31 (Xy93213.mono (by decide))
        have h93217 := Xy93213.at h93208
        refine s_iinc (lv0 := [(0, .ref a0), (1, .int a1), (2, .int a2)]) (m := 1) C dX12_mark_70 3 rfl (by decide) rfl (by decide) (by omega) (fun z93218 h93219 => ?_)
        have h93219 : z93218.toInt = v31_3.toInt + 1 := h93219
        refine g_goto C 31 dX12_mark_73 (by decide) ?_
        refine g_lv (lv' := [(0, .ref a0), (1, .int a1), (2, .int a2), (3, .int z93218)]) [1, 2, 3, 0] rfl ?_
        exact ih31 Y93210 z93218 (by omega) Iy93212 Xz93216 W93214 (by omega) (by omega) (by omega)
      have J52 : ∀ (v52_s0 : Int32), (0 ≤ a1.toInt ∧ a1.toInt ≤ 3) → (0 ≤ v31_3.toInt ∧ v31_3.toInt ≤ 3) → (0 ≤ v52_s0.toInt ∧ v52_s0.toInt ≤ 19) → (0 ≤ (pI P31 a0 0).toInt ∧ (pI P31 a0 0).toInt ≤ 0) → G E ({ frames := 3, cells := 0, slots := 0, locals := 192 } : Room) D cy 4 P31 0 0 52 [(0, .ref a0), (1, .int a1), (2, .int a2), (3, .int v31_3)] [.int v52_s0, .ref a0] := by
        intro v52_s0 hv52_1 hv52_3 hv52_s0 hq52_0
        have h93220 := X31.at ha0
        refine g_iload_n C dX12_mark_52 rfl 2 rfl ?_
        refine b_if_eq C 60 dX12_mark_53 (by decide) (fun h93221 => ?_) (fun h93221 => ?_)
        · have h93221 : a2.toInt = 0 := congrArg Int32.toInt h93221
          refine g_iconst (v := 4) C dX12_mark_60 (by decide) ?_
          refine g_iload_n C dX12_mark_61 rfl 1 rfl ?_
          refine g_iconst (v := 1) C dX12_mark_62 (by decide) ?_
          refine s_iadd C dX12_mark_63 (by show -2147483648 ≤ a1.toInt + 1 ∧ a1.toInt + 1 ≤ 2147483647; omega) (fun z93222 h93223 => ?_)
          have h93223 : z93222.toInt = a1.toInt + 1 := h93223
          refine s_imul C dX12_mark_64 (by show -2147483648 ≤ 4 * z93222.toInt ∧ 4 * z93222.toInt ≤ 2147483647; omega) (fun z93224 h93225 => ?_)
          have h93225 : z93224.toInt = 4 * z93222.toInt := h93225
          refine g_iload_n C dX12_mark_65 rfl 3 rfl ?_
          refine s_iadd C dX12_mark_66 (by show -2147483648 ≤ z93224.toInt + v31_3.toInt ∧ z93224.toInt + v31_3.toInt ≤ 2147483647; omega) (fun z93226 h93227 => ?_)
          have h93227 : z93226.toInt = z93224.toInt + v31_3.toInt := h93227
          exact J67 z93226 v52_s0 (by omega) (by omega) (by omega) (by omega) (by omega)
        · have h93221 : a2.toInt ≠ 0 := ti_ne h93221
          refine g_iload_n C dX12_mark_56 rfl 3 rfl ?_
          refine g_goto C 67 dX12_mark_57 (by decide) ?_
          exact J67 v31_3 v52_s0 (by omega) (by omega) (by omega) (by omega) (by omega)
      refine g_iload_n C dX12_mark_31 rfl 3 rfl ?_
      refine g_iconst (v := 4) C dX12_mark_32 (by decide) ?_
      refine b_icmp_ge C 76 dX12_mark_33 (by decide) (fun h93228 => ?_) (fun h93228 => ?_)
      · have h93228 : 4 ≤ v31_3.toInt := h93228
        refine g_aload_n C dX12_mark_76 rfl 0 rfl ?_
        obtain ⟨b93229, e93230, h93231⟩ := I31.fld (h93207) 26 15 4 rfl
        refine g_getR C fi_X12_87 rfl e93230 (h93207).1 (h93207).2 dX12_mark_77 ?_
        refine g_iload_n C dX12_mark_80 rfl 1 rfl ?_
        refine g_iconst (v := 1) C dX12_mark_81 (by decide) ?_
        refine g_zast (j := (a1.toInt.toNat)) C h93231.1 h93231.2.1 (ix_in h93231.2.2 (by omega)) (Or.inr rfl) dX12_mark_82 ?_
        refine gqW (ks := [26]) (I31.setA e93230 h93231 (by decide) (arOk.none rfl)) (EM.setA I31 e93230 rfl (by decide)) (fun Y93232 Iy93233 Xy93234 w93235  => ?_)
        have w93235 : (pI Y93232 b93229 (a1.toInt.toNat)).toInt = 1 := w93235
        have q93236 := Xy93234.keepF 0 (by decide)
        have W93237 := W31.keep I31 Xy93234 (by decide) (by decide) (by decide)
        have Xz93238 : EM [0, 20, 21, 22, 23, 24, 25, 26] a0 P Y93232 := EM.tr ha0 X31 (Xy93234.mono (by decide))
        have e93239 := Xy93234.ref h93207 (by decide) e93230
        have h93240 := Xy93234.at h93207
        have h93241 := Xy93234.ar h93231
        refine g_iconst (v := 1) C dX12_mark_83 (by decide) ?_
        exact ret _ _ _ _ _ _ dX12_mark_84 rfl (by decide) (by decide) ⟨Iy93233, Xz93238, W93237, (by decide), Or.inr (by omega)⟩
      · have h93228 : v31_3.toInt < 4 := h93228
        refine g_aload_n C dX12_mark_36 rfl 0 rfl ?_
        refine g_iload_n C dX12_mark_37 rfl 2 rfl ?_
        refine b_if_eq C 51 dX12_mark_38 (by decide) (fun h93242 => ?_) (fun h93242 => ?_)
        · have h93242 : a2.toInt = 0 := congrArg Int32.toInt h93242
          refine g_iload_n C dX12_mark_51 rfl 3 rfl ?_
          exact J52 v31_3 (by omega) (by omega) (by omega) (by omega)
        · have h93242 : a2.toInt ≠ 0 := ti_ne h93242
          refine g_iconst (v := 4) C dX12_mark_41 (by decide) ?_
          refine g_iload_n C dX12_mark_42 rfl 1 rfl ?_
          refine g_iconst (v := 1) C dX12_mark_43 (by decide) ?_
          refine s_iadd C dX12_mark_44 (by show -2147483648 ≤ a1.toInt + 1 ∧ a1.toInt + 1 ≤ 2147483647; omega) (fun z93243 h93244 => ?_)
          have h93244 : z93243.toInt = a1.toInt + 1 := h93244
          refine s_imul C dX12_mark_45 (by show -2147483648 ≤ 4 * z93243.toInt ∧ 4 * z93243.toInt ≤ 2147483647; omega) (fun z93245 h93246 => ?_)
          have h93246 : z93245.toInt = 4 * z93243.toInt := h93246
          refine g_iload_n C dX12_mark_46 rfl 3 rfl ?_
          refine s_iadd C dX12_mark_47 (by show -2147483648 ≤ z93245.toInt + v31_3.toInt ∧ z93245.toInt + v31_3.toInt ≤ 2147483647; omega) (fun z93247 h93248 => ?_)
          have h93248 : z93247.toInt = z93245.toInt + v31_3.toInt := h93248
          refine g_goto C 52 dX12_mark_48 (by decide) ?_
          exact J52 z93247 (by omega) (by omega) (by omega) (by omega)
  have J29 : ∀ (P29 : PP), (IM P29 a0) → (EM [0, 20, 21, 22, 23, 24, 25, 26] a0 P P29) → (MW P29 a0) → (0 ≤ a1.toInt ∧ a1.toInt ≤ 3) → (0 ≤ (pI P29 a0 0).toInt ∧ (pI P29 a0 0).toInt ≤ 0) → G E ({ frames := 3, cells := 0, slots := 0, locals := 192 } : Room) D cy 4 P29 0 0 29 [(0, .ref a0), (1, .int a1), (2, .int a2)] [] := by
    intro P29 I29 X29 W29 hv29_1 hq29_0
    have h93249 := X29.at ha0
    refine g_iconst (v := 0) C dX12_mark_29 (by decide) ?_
    refine g_istore_n (lv' := [(3, .int 0), (0, .ref a0), (1, .int a1), (2, .int a2)]) C dX12_mark_30 rfl (by decide) rfl ?_
    refine g_lv (lv' := [(0, .ref a0), (1, .int a1), (2, .int a2), (3, .int 0)]) [1, 2, 3, 0] rfl ?_
    exact J31 _ P29 0 (Nat.lt_succ_self _) I29 X29 W29 (by omega) (by decide) (by omega)
  have J27 : ∀ (P27 : PP), (IM P27 a0) → (EM [0, 20, 21, 22, 23, 24, 25, 26] a0 P P27) → (MW P27 a0) → (0 ≤ (pI P27 a0 0).toInt ∧ (pI P27 a0 0).toInt ≤ 0) → G E ({ frames := 3, cells := 0, slots := 0, locals := 192 } : Room) D cy 4 P27 0 0 27 [] [] := by
    intro P27 I27 X27 W27 hq27_0
    have h93250 := X27.at ha0
    refine g_iconst (v := 0) C dX12_mark_27 (by decide) ?_
    exact ret _ _ _ _ _ _ dX12_mark_28 rfl (by decide) (by decide) ⟨I27, X27, W27, (by decide), Or.inl rfl⟩
  refine g_aload_n C dX12_mark_0 rfl 0 rfl ?_
  refine g_iconst (v := 0) C dX12_mark_1 (by decide) ?_
  refine g_putI C fi_X12_1 rfl (ha0).1 (ha0).2 dX12_mark_2 ?_
  refine gqW (ks := [0]) (I.setI (rgOk.of rfl (by decide))) (EM.setI I (by decide)) (fun Y93251 Iy93252 Xy93253 w93254  => ?_)
  have w93254 : (pI Y93251 a0 0).toInt = 0 := w93254
  have W93255 := hW.keep I Xy93253 (by decide) (by decide) (by decide)
  have Xz93256 : EM [0, 20, 21, 22, 23, 24, 25, 26] a0 P Y93251 := Xy93253.mono (by decide)
  have h93257 := Xy93253.at ha0
  refine g_iload_n C dX12_mark_5 rfl 1 rfl ?_
  refine g_iconst (v := 0) C dX12_mark_6 (by decide) ?_
  refine g_iconst (v := 3) C dX12_mark_7 (by decide) ?_
  refine g_callSI (b := 0) (ci := 0) (rest := []) C ms_X12_178 [.int a1, .int 0, .int 3] (s_X12_within Iy93252.1) rfl rfl (by decide) (Nat.le_of_ble_eq_true rfl) (by decide) dX12_mark_8 (fun r93258 Y93259 h93260 => ?_)
  obtain ⟨rfl, h93260⟩ := h93260
  obtain ⟨h93260, hi93261⟩ := h93260
  have hi93261 : r93258.toInt = 0 ∨ (0 ≤ a1.toInt ∧ a1.toInt ≤ 3) := hi93261
  have h93260 : 0 ≤ r93258.toInt ∧ r93258.toInt ≤ 1 := h93260
  refine b_if_eq C 27 dX12_mark_11 (by decide) (fun h93262 => ?_) (fun h93262 => ?_)
  · have h93262 : r93258.toInt = 0 := congrArg Int32.toInt h93262
    clear hi93261
    refine g_lv (lv' := []) [] rfl ?_
    exact J27 Y93251 Iy93252 Xz93256 W93255 (by omega)
  · have h93262 : r93258.toInt ≠ 0 := ti_ne h93262
    replace hi93261 := hi93261.resolve_left (by omega)
    refine g_iload_n C dX12_mark_14 rfl 2 rfl ?_
    refine b_if_eq C 29 dX12_mark_15 (by decide) (fun h93263 => ?_) (fun h93263 => ?_)
    · have h93263 : a2.toInt = 0 := congrArg Int32.toInt h93263
      exact J29 Y93251 Iy93252 Xz93256 W93255 (by omega) (by omega)
    · have h93263 : a2.toInt ≠ 0 := ti_ne h93263
      refine g_aload_n C dX12_mark_18 rfl 0 rfl ?_
      obtain ⟨b93264, e93265, h93266⟩ := Iy93252.fld (h93257) 26 15 4 rfl
      refine g_getR C fi_X12_87 rfl e93265 (h93257).1 (h93257).2 dX12_mark_19 ?_
      refine g_iload_n C dX12_mark_22 rfl 1 rfl ?_
      refine g_zald (j := (a1.toInt.toNat)) C h93266.1 h93266.2.1 (ix_in h93266.2.2 (by omega)) dX12_mark_23 ?_
      have u93268 := ti_rng (pI Y93251 b93264 (a1.toInt.toNat))
      refine b_if_ne C 29 dX12_mark_24 (by decide) (fun h93267 => ?_) (fun h93267 => ?_)
      · have h93267 : (pI Y93251 b93264 (a1.toInt.toNat)).toInt ≠ 0 := ti_ne h93267
        exact J29 Y93251 Iy93252 Xz93256 W93255 (by omega) (by omega)
      · have h93267 : (pI Y93251 b93264 (a1.toInt.toNat)).toInt = 0 := congrArg Int32.toInt h93267
        refine g_lv (lv' := []) [] rfl ?_
        exact J27 Y93251 Iy93252 Xz93256 W93255 (by omega)
theorem dX12_nameless_0 : decode cX12_nameless 0 = .ok (.aload_n 0, 1) := by decide +kernel
theorem dX12_nameless_1 : decode cX12_nameless 1 = .ok (.iconst 0, 1) := by decide +kernel
theorem dX12_nameless_2 : decode cX12_nameless 2 = .ok (.putfield 1, 3) := by decide +kernel
theorem dX12_nameless_5 : decode cX12_nameless 5 = .ok (.iload_n 1, 1) := by decide +kernel
theorem dX12_nameless_6 : decode cX12_nameless 6 = .ok (.invokestatic 278, 3) := by decide +kernel
theorem dX12_nameless_9 : decode cX12_nameless 9 = .ok (.ifCond .eq 41, 3) := by decide +kernel
theorem dX12_nameless_12 : decode cX12_nameless 12 = .ok (.iload_n 2, 1) := by decide +kernel
theorem dX12_nameless_13 : decode cX12_nameless 13 = .ok (.invokestatic 258, 3) := by decide +kernel
theorem dX12_nameless_16 : decode cX12_nameless 16 = .ok (.ifCond .eq 34, 3) := by decide +kernel
theorem dX12_nameless_19 : decode cX12_nameless 19 = .ok (.iload_n 3, 1) := by decide +kernel
theorem dX12_nameless_20 : decode cX12_nameless 20 = .ok (.iconst 0, 1) := by decide +kernel
theorem dX12_nameless_21 : decode cX12_nameless 21 = .ok (.ldc 195, 2) := by decide +kernel
theorem dX12_nameless_23 : decode cX12_nameless 23 = .ok (.invokestatic 178, 3) := by decide +kernel
theorem dX12_nameless_26 : decode cX12_nameless 26 = .ok (.ifCond .eq 24, 3) := by decide +kernel
theorem dX12_nameless_29 : decode cX12_nameless 29 = .ok (.aload_n 0, 1) := by decide +kernel
theorem dX12_nameless_30 : decode cX12_nameless 30 = .ok (.getfield 69, 3) := by decide +kernel
theorem dX12_nameless_33 : decode cX12_nameless 33 = .ok (.iload_n 1, 1) := by decide +kernel
theorem dX12_nameless_34 : decode cX12_nameless 34 = .ok (.iaload, 1) := by decide +kernel
theorem dX12_nameless_35 : decode cX12_nameless 35 = .ok (.bipush 40, 2) := by decide +kernel
theorem dX12_nameless_37 : decode cX12_nameless 37 = .ok (.if_icmp .eq 13, 3) := by decide +kernel
theorem dX12_nameless_40 : decode cX12_nameless 40 = .ok (.aload_n 0, 1) := by decide +kernel
theorem dX12_nameless_41 : decode cX12_nameless 41 = .ok (.iload_n 1, 1) := by decide +kernel
theorem dX12_nameless_42 : decode cX12_nameless 42 = .ok (.invokevirtual 295, 3) := by decide +kernel
theorem dX12_nameless_45 : decode cX12_nameless 45 = .ok (.bipush 6, 2) := by decide +kernel
theorem dX12_nameless_47 : decode cX12_nameless 47 = .ok (.if_icmp .ne 5, 3) := by decide +kernel
theorem dX12_nameless_50 : decode cX12_nameless 50 = .ok (.iconst (-1), 1) := by decide +kernel
theorem dX12_nameless_51 : decode cX12_nameless 51 = .ok (.ireturn, 1) := by decide +kernel
theorem dX12_nameless_52 : decode cX12_nameless 52 = .ok (.aload_n 0, 1) := by decide +kernel
theorem dX12_nameless_53 : decode cX12_nameless 53 = .ok (.iload_n 1, 1) := by decide +kernel
theorem dX12_nameless_54 : decode cX12_nameless 54 = .ok (.iconst (-1), 1) := by decide +kernel
theorem dX12_nameless_55 : decode cX12_nameless 55 = .ok (.iload_n 2, 1) := by decide +kernel
theorem dX12_nameless_56 : decode cX12_nameless 56 = .ok (.iload_n 3, 1) := by decide +kernel
theorem dX12_nameless_57 : decode cX12_nameless 57 = .ok (.iconst 3, 1) := by decide +kernel
theorem dX12_nameless_58 : decode cX12_nameless 58 = .ok (.iconst 0, 1) := by decide +kernel
theorem dX12_nameless_59 : decode cX12_nameless 59 = .ok (.invokevirtual 284, 3) := by decide +kernel
theorem dX12_nameless_62 : decode cX12_nameless 62 = .ok (.ireturn, 1) := by decide +kernel
set_option maxHeartbeats 4000000 in
set_option maxRecDepth 100000 in
theorem s_X12_nameless {P : PP} {a0 : Nat} {a1 : Int32} {a2 : Int32} {a3 : Int32} (I : IM P a0) (hW : MW P a0) : CtrI yX12_nameless cX12_nameless 4 (some Jvm.ClassFile.FieldType.int) ({ frames := 3, cells := 0, slots := 0, locals := 192 } : Room) 0 0 P [.ref a0, .int a1, .int a2, .int a3] (fun r P2 => IM P2 a0 ∧ EM [0, 20, 21, 22, 23, 24, 25] a0 P P2 ∧ MW P2 a0 ∧ (-1 ≤ r.toInt ∧ r.toInt ≤ 39)) := by
  refine enI (lv := [(0, .ref a0), (1, .int a1), (2, .int a2), (3, .int a3)]) (by decide) (Nat.le_of_ble_eq_true rfl) rfl (fun E D cy C Ci0 ret => ?_)
  have ha0 := I.2.1
  have J50 : ∀ (P50 : PP), (IM P50 a0) → (EM [0, 20, 21, 22, 23, 24, 25] a0 P P50) → (MW P50 a0) → (0 ≤ (pI P50 a0 0).toInt ∧ (pI P50 a0 0).toInt ≤ 0) → G E ({ frames := 3, cells := 0, slots := 0, locals := 192 } : Room) D cy 4 P50 0 0 50 [] [] := by
    intro P50 I50 X50 W50 hq50_0
    have h93314 := X50.at ha0
    refine g_iconst (v := (-1)) C dX12_nameless_50 (by decide) ?_
    exact ret _ _ _ _ _ _ dX12_nameless_51 rfl (by decide) (by decide) ⟨I50, X50, W50, (by decide)⟩
  refine g_aload_n C dX12_nameless_0 rfl 0 rfl ?_
  refine g_iconst (v := 0) C dX12_nameless_1 (by decide) ?_
  refine g_putI C fi_X12_1 rfl (ha0).1 (ha0).2 dX12_nameless_2 ?_
  refine gqW (ks := [0]) (I.setI (rgOk.of rfl (by decide))) (EM.setI I (by decide)) (fun Y93315 Iy93316 Xy93317 w93318  => ?_)
  have w93318 : (pI Y93315 a0 0).toInt = 0 := w93318
  have W93319 := hW.keep I Xy93317 (by decide) (by decide) (by decide)
  have Xz93320 : EM [0, 20, 21, 22, 23, 24, 25] a0 P Y93315 := Xy93317.mono (by decide)
  have h93321 := Xy93317.at ha0
  refine g_iload_n C dX12_nameless_5 rfl 1 rfl ?_
  refine g_callSI (b := 0) (ci := 0) (rest := []) C ms_X12_278 [.int a1] (s_X12_isQuarter Iy93316.1) rfl rfl (by decide) (Nat.le_of_ble_eq_true rfl) (by decide) dX12_nameless_6 (fun r93322 Y93323 h93324 => ?_)
  obtain ⟨rfl, h93324⟩ := h93324
  obtain ⟨h93324, hi93325⟩ := h93324
  have hi93325 : r93322.toInt = 0 ∨ (((0 : Int) ≤ a1.toInt ∧ a1.toInt ≤ (3 : Int))) := hi93325
  have h93324 : 0 ≤ r93322.toInt ∧ r93322.toInt ≤ 1 := h93324
  refine b_if_eq C 50 dX12_nameless_9 (by decide) (fun h93326 => ?_) (fun h93326 => ?_)
  · have h93326 : r93322.toInt = 0 := congrArg Int32.toInt h93326
    clear hi93325
    refine g_lv (lv' := []) [] rfl ?_
    exact J50 Y93315 Iy93316 Xz93320 W93319 (by omega)
  · have h93326 : r93322.toInt ≠ 0 := ti_ne h93326
    replace hi93325 := hi93325.resolve_left (by omega)
    refine g_iload_n C dX12_nameless_12 rfl 2 rfl ?_
    refine g_callSI (b := 0) (ci := 0) (rest := []) C ms_X12_258 [.int a2] (s_X12_isNumber Iy93316.1) rfl rfl (by decide) (Nat.le_of_ble_eq_true rfl) (by decide) dX12_nameless_13 (fun r93327 Y93328 h93329 => ?_)
    obtain ⟨rfl, h93329⟩ := h93329
    obtain ⟨h93329, hi93330⟩ := h93329
    have hi93330 : r93327.toInt = 0 ∨ (((0 : Int) ≤ a2.toInt ∧ a2.toInt ≤ (9999 : Int))) := hi93330
    have h93329 : 0 ≤ r93327.toInt ∧ r93327.toInt ≤ 1 := h93329
    refine b_if_eq C 50 dX12_nameless_16 (by decide) (fun h93331 => ?_) (fun h93331 => ?_)
    · have h93331 : r93327.toInt = 0 := congrArg Int32.toInt h93331
      clear hi93330
      refine g_lv (lv' := []) [] rfl ?_
      exact J50 Y93315 Iy93316 Xz93320 W93319 (by omega)
    · have h93331 : r93327.toInt ≠ 0 := ti_ne h93331
      replace hi93330 := hi93330.resolve_left (by omega)
      refine g_iload_n C dX12_nameless_19 rfl 3 rfl ?_
      refine g_iconst (v := 0) C dX12_nameless_20 (by decide) ?_
      refine g_ldc (v := 65535) C kc_X12_195 dX12_nameless_21 ?_
      refine g_callSI (b := 0) (ci := 0) (rest := []) C ms_X12_178 [.int a3, .int 0, .int 65535] (s_X12_within Iy93316.1) rfl rfl (by decide) (Nat.le_of_ble_eq_true rfl) (by decide) dX12_nameless_23 (fun r93332 Y93333 h93334 => ?_)
      obtain ⟨rfl, h93334⟩ := h93334
      obtain ⟨h93334, hi93335⟩ := h93334
      have hi93335 : r93332.toInt = 0 ∨ (0 ≤ a3.toInt ∧ a3.toInt ≤ 65535) := hi93335
      have h93334 : 0 ≤ r93332.toInt ∧ r93332.toInt ≤ 1 := h93334
      refine b_if_eq C 50 dX12_nameless_26 (by decide) (fun h93336 => ?_) (fun h93336 => ?_)
      · have h93336 : r93332.toInt = 0 := congrArg Int32.toInt h93336
        clear hi93335
        refine g_lv (lv' := []) [] rfl ?_
        exact J50 Y93315 Iy93316 Xz93320 W93319 (by omega)
      · have h93336 : r93332.toInt ≠ 0 := ti_ne h93336
        replace hi93335 := hi93335.resolve_left (by omega)
        refine g_aload_n C dX12_nameless_29 rfl 0 rfl ?_
        obtain ⟨b93337, e93338, h93339⟩ := Iy93316.fld (h93321) 20 13 20 rfl
        refine g_getR C fi_X12_69 rfl e93338 (h93321).1 (h93321).2 dX12_nameless_30 ?_
        refine g_iload_n C dX12_nameless_33 rfl 1 rfl ?_
        refine g_iald (j := (a1.toInt.toNat)) C h93339.1 h93339.2.1 (ix_in h93339.2.2 (by omega)) dX12_nameless_34 ?_
        have h93340 := Iy93316.arr e93338 rfl (a1.toInt.toNat)
        refine g_bipush (v := 40) C dX12_nameless_35 (by decide) ?_
        refine b_icmp_eq C 50 dX12_nameless_37 (by decide) (fun h93341 => ?_) (fun h93341 => ?_)
        · have h93341 : (pI Y93315 b93337 (a1.toInt.toNat)).toInt = 40 := congrArg Int32.toInt h93341
          refine g_lv (lv' := []) [] rfl ?_
          exact J50 Y93315 Iy93316 Xz93320 W93319 (by omega)
        · have h93341 : (pI Y93315 b93337 (a1.toInt.toNat)).toInt ≠ 40 := ti_ne h93341
          refine g_aload_n C dX12_nameless_40 rfl 0 rfl ?_
          refine g_iload_n C dX12_nameless_41 rfl 1 rfl ?_
          refine g_callVI (rest := []) C mv_X12_295 [.int a1] (s_X12_namelessIn Iy93316 (by omega) W93319) (h93321).1 (h93321).2 rfl rfl (by decide) (Nat.le_of_ble_eq_true rfl) (by decide) dX12_nameless_42 (fun r93342 Y93343 h93344 => ?_)
          obtain ⟨rfl, h93344⟩ := h93344
          have h93344 : True := h93344
          refine g_bipush (v := 6) C dX12_nameless_45 (by decide) ?_
          have u93346 := ti_rng r93342
          refine b_icmp_ne C 52 dX12_nameless_47 (by decide) (fun h93345 => ?_) (fun h93345 => ?_)
          · have h93345 : r93342.toInt ≠ 6 := ti_ne h93345
            refine g_aload_n C dX12_nameless_52 rfl 0 rfl ?_
            refine g_iload_n C dX12_nameless_53 rfl 1 rfl ?_
            refine g_iconst (v := (-1)) C dX12_nameless_54 (by decide) ?_
            refine g_iload_n C dX12_nameless_55 rfl 2 rfl ?_
            refine g_iload_n C dX12_nameless_56 rfl 3 rfl ?_
            refine g_iconst (v := 3) C dX12_nameless_57 (by decide) ?_
            refine g_iconst (v := 0) C dX12_nameless_58 (by decide) ?_
            refine g_callVI (rest := []) C mv_X12_284 [.int a1, .int (-1), .int a2, .int a3, .int 3, .int 0] (s_X12_lays Iy93316 (by omega) (by decide) (fun b9 e9 => by rw [e93338] at e9; cases e9; show 0 ≤ (pI Y93315 b93337 (a1.toInt.toNat)).toInt ∧ (pI Y93315 b93337 (a1.toInt.toNat)).toInt ≤ 39; omega) W93319 (fun _ _ h9 => absurd h9 (by decide))) (h93321).1 (h93321).2 rfl rfl (by decide) (Nat.le_of_ble_eq_true rfl) (by decide) dX12_nameless_59 (fun r93347 Y93348 h93349 => ?_)
            obtain ⟨Iy93350, Xy93351, W93352, p93353, h93349⟩ := h93349
            have p93353 := p93353 b93337 e93338
            have p93353 : (pI Y93348 b93337 (a1.toInt.toNat)).toInt = (pI Y93315 b93337 (a1.toInt.toNat)).toInt + 1 := p93353
            have q93354 := Xy93351.keepF 0 (by decide)
            have Xz93355 : EM [0, 20, 21, 22, 23, 24, 25] a0 P Y93348 := EM.tr ha0 Xz93320 (Xy93351.mono (by decide))
            have e93356 := Xy93351.ref h93321 (by decide) e93338
            have h93357 := Xy93351.at h93321
            have h93358 := Xy93351.ar h93339
            have h93349 : 0 ≤ r93347.toInt ∧ r93347.toInt ≤ 39 := h93349
            exact ret _ _ _ _ _ _ dX12_nameless_62 rfl (by decide) (by decide) ⟨Iy93350, Xz93355, W93352, (by omega)⟩
          · have h93345 : r93342.toInt = 6 := congrArg Int32.toInt h93345
            refine g_lv (lv' := []) [] rfl ?_
            exact J50 Y93315 Iy93316 Xz93320 W93319 (by omega)
theorem dX12_needs_0 : decode cX12_needs 0 = .ok (.aload_n 0, 1) := by decide +kernel
theorem dX12_needs_1 : decode cX12_needs 1 = .ok (.iconst 0, 1) := by decide +kernel
theorem dX12_needs_2 : decode cX12_needs 2 = .ok (.putfield 1, 3) := by decide +kernel
theorem dX12_needs_5 : decode cX12_needs 5 = .ok (.iload_n 1, 1) := by decide +kernel
theorem dX12_needs_6 : decode cX12_needs 6 = .ok (.invokestatic 278, 3) := by decide +kernel
theorem dX12_needs_9 : decode cX12_needs 9 = .ok (.ifCond .eq 11, 3) := by decide +kernel
theorem dX12_needs_12 : decode cX12_needs 12 = .ok (.aload_n 0, 1) := by decide +kernel
theorem dX12_needs_13 : decode cX12_needs 13 = .ok (.iload_n 2, 1) := by decide +kernel
theorem dX12_needs_14 : decode cX12_needs 14 = .ok (.invokevirtual 192, 3) := by decide +kernel
theorem dX12_needs_17 : decode cX12_needs 17 = .ok (.ifCond .ne 5, 3) := by decide +kernel
theorem dX12_needs_22 : decode cX12_needs 22 = .ok (.aload_n 0, 1) := by decide +kernel
theorem dX12_needs_23 : decode cX12_needs 23 = .ok (.iload_n 1, 1) := by decide +kernel
theorem dX12_needs_24 : decode cX12_needs 24 = .ok (.iload_n 2, 1) := by decide +kernel
theorem dX12_needs_25 : decode cX12_needs 25 = .ok (.invokevirtual 408, 3) := by decide +kernel
theorem dX12_needsOf_0 : decode cX12_needsOf 0 = .ok (.aload_n 0, 1) := by decide +kernel
theorem dX12_needsOf_1 : decode cX12_needsOf 1 = .ok (.iload_n 2, 1) := by decide +kernel
theorem dX12_needsOf_2 : decode cX12_needsOf 2 = .ok (.invokevirtual 312, 3) := by decide +kernel
theorem dX12_needsOf_5 : decode cX12_needsOf 5 = .ok (.iconst 0, 1) := by decide +kernel
theorem dX12_needsOf_6 : decode cX12_needsOf 6 = .ok (.istore_n 3, 1) := by decide +kernel
theorem dX12_needsOf_7 : decode cX12_needsOf 7 = .ok (.iload_n 3, 1) := by decide +kernel
theorem dX12_needsOf_8 : decode cX12_needsOf 8 = .ok (.bipush 60, 2) := by decide +kernel
theorem dX12_needsOf_10 : decode cX12_needsOf 10 = .ok (.if_icmp .gt 55, 3) := by decide +kernel
theorem dX12_needsOf_13 : decode cX12_needsOf 13 = .ok (.aload_n 0, 1) := by decide +kernel
theorem dX12_needsOf_14 : decode cX12_needsOf 14 = .ok (.invokevirtual 346, 3) := by decide +kernel
theorem dX12_needsOf_17 : decode cX12_needsOf 17 = .ok (.aload_n 0, 1) := by decide +kernel
theorem dX12_needsOf_18 : decode cX12_needsOf 18 = .ok (.iload_n 2, 1) := by decide +kernel
theorem dX12_needsOf_19 : decode cX12_needsOf 19 = .ok (.aload_n 0, 1) := by decide +kernel
theorem dX12_needsOf_20 : decode cX12_needsOf 20 = .ok (.invokevirtual 349, 3) := by decide +kernel
theorem dX12_needsOf_23 : decode cX12_needsOf 23 = .ok (.invokevirtual 371, 3) := by decide +kernel
theorem dX12_needsOf_26 : decode cX12_needsOf 26 = .ok (.ifCond .eq 5, 3) := by decide +kernel
theorem dX12_needsOf_29 : decode cX12_needsOf 29 = .ok (.iload_n 3, 1) := by decide +kernel
theorem dX12_needsOf_30 : decode cX12_needsOf 30 = .ok (.ireturn, 1) := by decide +kernel
theorem dX12_needsOf_31 : decode cX12_needsOf 31 = .ok (.iload_n 3, 1) := by decide +kernel
theorem dX12_needsOf_32 : decode cX12_needsOf 32 = .ok (.bipush 60, 2) := by decide +kernel
theorem dX12_needsOf_34 : decode cX12_needsOf 34 = .ok (.if_icmp .ge 25, 3) := by decide +kernel
theorem dX12_needsOf_37 : decode cX12_needsOf 37 = .ok (.aload_n 0, 1) := by decide +kernel
theorem dX12_needsOf_38 : decode cX12_needsOf 38 = .ok (.iload_n 1, 1) := by decide +kernel
theorem dX12_needsOf_39 : decode cX12_needsOf 39 = .ok (.iload_n 2, 1) := by decide +kernel
theorem dX12_needsOf_40 : decode cX12_needsOf 40 = .ok (.iload_n 3, 1) := by decide +kernel
theorem dX12_needsOf_41 : decode cX12_needsOf 41 = .ok (.invokevirtual 402, 3) := by decide +kernel
theorem dX12_needsOf_44 : decode cX12_needsOf 44 = .ok (.ifCond .eq 15, 3) := by decide +kernel
theorem dX12_needsOf_47 : decode cX12_needsOf 47 = .ok (.aload_n 0, 1) := by decide +kernel
theorem dX12_needsOf_48 : decode cX12_needsOf 48 = .ok (.aload_n 0, 1) := by decide +kernel
theorem dX12_needsOf_49 : decode cX12_needsOf 49 = .ok (.iload_n 2, 1) := by decide +kernel
theorem dX12_needsOf_50 : decode cX12_needsOf 50 = .ok (.iload_n 3, 1) := by decide +kernel
theorem dX12_needsOf_51 : decode cX12_needsOf 51 = .ok (.invokevirtual 261, 3) := by decide +kernel
theorem dX12_needsOf_54 : decode cX12_needsOf 54 = .ok (.iconst 0, 1) := by decide +kernel
theorem dX12_needsOf_55 : decode cX12_needsOf 55 = .ok (.iconst (-1), 1) := by decide +kernel
theorem dX12_needsOf_56 : decode cX12_needsOf 56 = .ok (.invokevirtual 308, 3) := by decide +kernel
theorem dX12_needsOf_59 : decode cX12_needsOf 59 = .ok (.iinc 3 1, 3) := by decide +kernel
theorem dX12_needsOf_62 : decode cX12_needsOf 62 = .ok (.goto (-55), 3) := by decide +kernel
theorem dX12_needsOf_65 : decode cX12_needsOf 65 = .ok (.bipush 61, 2) := by decide +kernel
theorem dX12_needsOf_67 : decode cX12_needsOf 67 = .ok (.ireturn, 1) := by decide +kernel
set_option maxHeartbeats 4000000 in
set_option maxRecDepth 100000 in
theorem s_X12_needsOf {P : PP} {a0 : Nat} {a1 : Int32} {a2 : Int32} (I : IM P a0) (ha1 : 0 ≤ a1.toInt ∧ a1.toInt ≤ 3) (ha2 : 0 ≤ a2.toInt ∧ a2.toInt ≤ 1) (hf0 : ∀ b, pR P a0 10 = some b → 1 ≤ (pI P b (a2.toInt.toNat)).toInt ∧ (pI P b (a2.toInt.toNat)).toInt ≤ 16) (hW : MW P a0) : CtrI yX12_needsOf cX12_needsOf 4 (some Jvm.ClassFile.FieldType.int) ({ frames := 4, cells := 0, slots := 0, locals := 256 } : Room) 0 0 P [.ref a0, .int a1, .int a2] (fun r P2 => IM P2 a0 ∧ EM [28, 29, 30, 31, 35, 36, 37, 38] a0 P P2 ∧ MW P2 a0 ∧ (0 ≤ r.toInt ∧ r.toInt ≤ 61)) := by
  refine enI (lv := [(0, .ref a0), (1, .int a1), (2, .int a2)]) (by decide) (Nat.le_of_ble_eq_true rfl) rfl (fun E D cy C Ci0 ret => ?_)
  have ha0 := I.2.1
  have J7 : ∀ (n7 : Nat) (P7 : PP) (v7_3 : Int32), (61 - v7_3.toInt).toNat < n7 → (IM P7 a0) → (EM [28, 29, 30, 31, 35, 36, 37, 38] a0 P P7) → (MW P7 a0) → (0 ≤ v7_3.toInt ∧ v7_3.toInt ≤ 61) → (∀ b, pR P7 a0 10 = some b → 1 ≤ (pI P7 b (a2.toInt.toNat)).toInt ∧ (pI P7 b (a2.toInt.toNat)).toInt ≤ 16) → ((pI P7 a0 28).toInt ≤ 4 + v7_3.toInt) → G E ({ frames := 4, cells := 0, slots := 0, locals := 256 } : Room) D cy 4 P7 0 0 7 [(0, .ref a0), (1, .int a1), (2, .int a2), (3, .int v7_3)] [] := by
    intro n7
    induction n7 with
    | zero => intro P7 v7_3 hm7 I7 X7 W7 hv7_3 hq7_0 rel7_0; omega
    | succ n7 ih7 =>
      intro P7 v7_3 hm7 I7 X7 W7 hv7_3 hq7_0 rel7_0
      have h94657 := X7.at ha0
      obtain ⟨b94658, e94659, h94660⟩ := I7.fld (h94657) 10 13 2 rfl
      have hq7_0 := hq7_0 b94658 e94659
      have h94661 := I7.rg h94657 28 rfl
      have J59 : ∀ (P59 : PP), (IM P59 a0) → (EM [28, 29, 30, 31, 35, 36, 37, 38] a0 P P59) → (MW P59 a0) → (0 ≤ v7_3.toInt ∧ v7_3.toInt ≤ 60) → (∀ b, pR P59 a0 10 = some b → 1 ≤ (pI P59 b (a2.toInt.toNat)).toInt ∧ (pI P59 b (a2.toInt.toNat)).toInt ≤ 16) → ((pI P59 a0 28).toInt ≤ 5 + v7_3.toInt) → G E ({ frames := 4, cells := 0, slots := 0, locals := 256 } : Room) D cy 4 P59 0 0 59 [(0, .ref a0), (1, .int a1), (2, .int a2), (3, .int v7_3)] [] := by
        intro P59 I59 X59 W59 hv59_3 hq59_0 rel59_0
        have h94662 := X59.at ha0
        obtain ⟨b94663, e94664, h94665⟩ := I59.fld (h94662) 10 13 2 rfl
        have hq59_0 := hq59_0 b94663 e94664
        have h94666 := I59.rg h94662 28 rfl
        refine s_iinc (lv0 := [(0, .ref a0), (1, .int a1), (2, .int a2)]) (m := 1) C dX12_needsOf_59 3 rfl (by decide) rfl (by decide) (by omega) (fun z94667 h94668 => ?_)
        have h94668 : z94667.toInt = v7_3.toInt + 1 := h94668
        refine g_goto C 7 dX12_needsOf_62 (by decide) ?_
        refine g_lv (lv' := [(0, .ref a0), (1, .int a1), (2, .int a2), (3, .int z94667)]) [1, 2, 3, 0] rfl ?_
        exact ih7 P59 z94667 (by omega) I59 X59 W59 (by omega) (fun b9 e9 => by rw [e94664] at e9; cases e9; omega) (by show (pI P59 a0 28).toInt ≤ 4 + z94667.toInt; omega)
      refine g_iload_n C dX12_needsOf_7 rfl 3 rfl ?_
      refine g_bipush (v := 60) C dX12_needsOf_8 (by decide) ?_
      refine b_icmp_gt C 65 dX12_needsOf_10 (by decide) (fun h94669 => ?_) (fun h94669 => ?_)
      · have h94669 : 60 < v7_3.toInt := h94669
        refine g_bipush (v := 61) C dX12_needsOf_65 (by decide) ?_
        exact ret _ _ _ _ _ _ dX12_needsOf_67 rfl (by decide) (by decide) ⟨I7, X7, W7, (by decide)⟩
      · have h94669 : v7_3.toInt ≤ 60 := h94669
        refine g_aload_n C dX12_needsOf_13 rfl 0 rfl ?_
        refine g_callVV (rest := []) C mv_X12_346 [] (s_X12_findSolved I7 W7) (h94657).1 (h94657).2 rfl rfl (by decide) (Nat.le_of_ble_eq_true rfl) (by decide) dX12_needsOf_14 (fun Y94671 h94672 => ?_)
        obtain ⟨Iy94673, Xy94674, W94675⟩ := h94672
        have q94676 := Xy94674.keepA e94659 (by decide) rfl (a2.toInt.toNat)
        have q94677 := Xy94674.keepF 28 (by decide)
        have Xz94678 : EM [28, 29, 30, 31, 35, 36, 37, 38] a0 P Y94671 := EM.tr ha0 X7 (Xy94674.mono (by decide))
        have e94679 := Xy94674.ref h94657 (by decide) e94659
        have h94680 := Xy94674.at h94657
        have h94681 := Xy94674.ar h94660
        refine g_aload_n C dX12_needsOf_17 rfl 0 rfl ?_
        refine g_iload_n C dX12_needsOf_18 rfl 2 rfl ?_
        refine g_aload_n C dX12_needsOf_19 rfl 0 rfl ?_
        refine g_callVI (rest := [.int a2, .ref a0]) C mv_X12_349 [] (s_X12_fixedSet Iy94673 W94675) (h94680).1 (h94680).2 rfl rfl (by decide) (Nat.le_of_ble_eq_true rfl) (by decide) dX12_needsOf_20 (fun r94682 Y94683 h94684 => ?_)
        obtain ⟨rfl, h94684⟩ := h94684
        have h94684 : True := h94684
        refine g_callVI (rest := []) C mv_X12_371 [.int a2, .int r94682] (s_X12_givesAll Iy94673 (by omega) W94675) (h94680).1 (h94680).2 rfl rfl (by decide) (Nat.le_of_ble_eq_true rfl) (by decide) dX12_needsOf_23 (fun r94685 Y94686 h94687 => ?_)
        obtain ⟨rfl, h94687⟩ := h94687
        have h94687 : 0 ≤ r94685.toInt ∧ r94685.toInt ≤ 1 := h94687
        refine b_if_eq C 31 dX12_needsOf_26 (by decide) (fun h94688 => ?_) (fun h94688 => ?_)
        · have h94688 : r94685.toInt = 0 := congrArg Int32.toInt h94688
          refine g_iload_n C dX12_needsOf_31 rfl 3 rfl ?_
          refine g_bipush (v := 60) C dX12_needsOf_32 (by decide) ?_
          refine b_icmp_ge C 59 dX12_needsOf_34 (by decide) (fun h94689 => ?_) (fun h94689 => ?_)
          · have h94689 : 60 ≤ v7_3.toInt := h94689
            exact J59 Y94671 Iy94673 Xz94678 W94675 (by omega) (fun b9 e9 => by rw [e94679] at e9; cases e9; omega) (by show (pI Y94671 a0 28).toInt ≤ 5 + v7_3.toInt; omega)
          · have h94689 : v7_3.toInt < 60 := h94689
            refine g_aload_n C dX12_needsOf_37 rfl 0 rfl ?_
            refine g_iload_n C dX12_needsOf_38 rfl 1 rfl ?_
            refine g_iload_n C dX12_needsOf_39 rfl 2 rfl ?_
            refine g_iload_n C dX12_needsOf_40 rfl 3 rfl ?_
            refine g_callVI (rest := []) C mv_X12_402 [.int a1, .int a2, .int v7_3] (s_X12_falls Iy94673 (by omega) W94675) (h94680).1 (h94680).2 rfl rfl (by decide) (Nat.le_of_ble_eq_true rfl) (by decide) dX12_needsOf_41 (fun r94690 Y94691 h94692 => ?_)
            obtain ⟨rfl, h94692⟩ := h94692
            have h94692 : 0 ≤ r94690.toInt ∧ r94690.toInt ≤ 1 := h94692
            refine b_if_eq C 59 dX12_needsOf_44 (by decide) (fun h94693 => ?_) (fun h94693 => ?_)
            · have h94693 : r94690.toInt = 0 := congrArg Int32.toInt h94693
              exact J59 Y94671 Iy94673 Xz94678 W94675 (by omega) (fun b9 e9 => by rw [e94679] at e9; cases e9; omega) (by show (pI Y94671 a0 28).toInt ≤ 5 + v7_3.toInt; omega)
            · have h94693 : r94690.toInt ≠ 0 := ti_ne h94693
              refine g_aload_n C dX12_needsOf_47 rfl 0 rfl ?_
              refine g_aload_n C dX12_needsOf_48 rfl 0 rfl ?_
              refine g_iload_n C dX12_needsOf_49 rfl 2 rfl ?_
              refine g_iload_n C dX12_needsOf_50 rfl 3 rfl ?_
              refine g_callVI (rest := [.ref a0]) C mv_X12_261 [.int a2, .int v7_3] (s_X12_setOf Iy94673 (by omega) (fun b9 e9 => by rw [e94679] at e9; cases e9; show 1 ≤ (pI Y94671 b94658 (a2.toInt.toNat)).toInt ∧ (pI Y94671 b94658 (a2.toInt.toNat)).toInt ≤ 16; omega) W94675) (h94680).1 (h94680).2 rfl rfl (by decide) (Nat.le_of_ble_eq_true rfl) (by decide) dX12_needsOf_51 (fun r94694 Y94695 h94696 => ?_)
              obtain ⟨Iy94697, Xy94698, W94699, h94696⟩ := h94696
              have q94700 := Xy94698.keepA e94679 (by decide) rfl (a2.toInt.toNat)
              have q94701 := Xy94698.keepF 28 (by decide)
              have Xz94702 : EM [28, 29, 30, 31, 35, 36, 37, 38] a0 P Y94695 := EM.tr ha0 Xz94678 (Xy94698.mono (by decide))
              have e94703 := Xy94698.ref h94680 (by decide) e94679
              have h94704 := Xy94698.at h94680
              have h94705 := Xy94698.ar h94681
              have h94696 : True := h94696
              refine g_iconst (v := 0) C dX12_needsOf_54 (by decide) ?_
              refine g_iconst (v := (-1)) C dX12_needsOf_55 (by decide) ?_
              refine g_callVV (rest := []) C mv_X12_308 [.int r94694, .int 0, .int (-1)] (s_X12_adds Iy94697 (by omega) W94699) (h94704).1 (h94704).2 rfl rfl (by decide) (Nat.le_of_ble_eq_true rfl) (by decide) dX12_needsOf_56 (fun Y94707 h94708 => ?_)
              obtain ⟨Iy94709, Xy94710, W94711, p94712⟩ := h94708
              have p94712 : (pI Y94707 a0 28).toInt = (pI Y94695 a0 28).toInt + 1 := p94712
              have q94713 := Xy94710.keepA e94703 (by decide) rfl (a2.toInt.toNat)
              have Xz94714 : EM [28, 29, 30, 31, 35, 36, 37, 38] a0 P Y94707 := EM.tr ha0 Xz94702 (Xy94710.mono (by decide))
              have e94715 := Xy94710.ref h94704 (by decide) e94703
              have h94716 := Xy94710.at h94704
              have h94717 := Xy94710.ar h94705
              have h94718 := Iy94709.rg h94716 28 rfl
              exact J59 Y94707 Iy94709 Xz94714 W94711 (by omega) (fun b9 e9 => by rw [e94715] at e9; cases e9; omega) (by show (pI Y94707 a0 28).toInt ≤ 5 + v7_3.toInt; omega)
        · have h94688 : r94685.toInt ≠ 0 := ti_ne h94688
          refine g_iload_n C dX12_needsOf_29 rfl 3 rfl ?_
          exact ret _ _ _ _ _ _ dX12_needsOf_30 rfl (by decide) (by decide) ⟨Iy94673, Xz94678, W94675, (by omega)⟩
  obtain ⟨b94719, e94720, h94721⟩ := I.fld (ha0) 10 13 2 rfl
  have hf0 := hf0 b94719 e94720
  refine g_aload_n C dX12_needsOf_0 rfl 0 rfl ?_
  refine g_iload_n C dX12_needsOf_1 rfl 2 rfl ?_
  refine g_callVV (rest := []) C mv_X12_312 [.int a2] (s_X12_begins I (by omega) hW) (ha0).1 (ha0).2 rfl rfl (by decide) (Nat.le_of_ble_eq_true rfl) (by decide) dX12_needsOf_2 (fun Y94723 h94724 => ?_)
  obtain ⟨Iy94725, Xy94726, W94727, p94728⟩ := h94724
  have p94728 : (pI Y94723 a0 28).toInt ≤ 4 := p94728
  have q94729 := Xy94726.keepA e94720 (by decide) rfl (a2.toInt.toNat)
  have Xz94730 : EM [28, 29, 30, 31, 35, 36, 37, 38] a0 P Y94723 := Xy94726.mono (by decide)
  have e94731 := Xy94726.ref ha0 (by decide) e94720
  have h94732 := Xy94726.at ha0
  have h94733 := Xy94726.ar h94721
  have h94734 := Iy94725.rg h94732 28 rfl
  refine g_iconst (v := 0) C dX12_needsOf_5 (by decide) ?_
  refine g_istore_n (lv' := [(3, .int 0), (0, .ref a0), (1, .int a1), (2, .int a2)]) C dX12_needsOf_6 rfl (by decide) rfl ?_
  refine g_lv (lv' := [(0, .ref a0), (1, .int a1), (2, .int a2), (3, .int 0)]) [1, 2, 3, 0] rfl ?_
  exact J7 _ Y94723 0 (Nat.lt_succ_self _) Iy94725 Xz94730 W94727 (by decide) (fun b9 e9 => by rw [e94731] at e9; cases e9; omega) (by show (pI Y94723 a0 28).toInt ≤ 4 + 0; omega)
theorem dX12_needs_20 : decode cX12_needs 20 = .ok (.iconst (-1), 1) := by decide +kernel
theorem dX12_needs_21 : decode cX12_needs 21 = .ok (.ireturn, 1) := by decide +kernel
theorem dX12_needs_28 : decode cX12_needs 28 = .ok (.istore_n 3, 1) := by decide +kernel
theorem dX12_needs_29 : decode cX12_needs 29 = .ok (.iload_n 3, 1) := by decide +kernel
theorem dX12_needs_30 : decode cX12_needs 30 = .ok (.bipush 60, 2) := by decide +kernel
theorem dX12_needs_32 : decode cX12_needs 32 = .ok (.if_icmp .le 7, 3) := by decide +kernel
theorem dX12_needs_35 : decode cX12_needs 35 = .ok (.iconst (-1), 1) := by decide +kernel
theorem dX12_needs_36 : decode cX12_needs 36 = .ok (.goto 4, 3) := by decide +kernel
theorem dX12_needs_39 : decode cX12_needs 39 = .ok (.iload_n 3, 1) := by decide +kernel
theorem dX12_needs_40 : decode cX12_needs 40 = .ok (.ireturn, 1) := by decide +kernel
set_option maxHeartbeats 4000000 in
set_option maxRecDepth 100000 in
theorem s_X12_needs {P : PP} {a0 : Nat} {a1 : Int32} {a2 : Int32} (I : IM P a0) (hW : MW P a0) : CtrI yX12_needs cX12_needs 4 (some Jvm.ClassFile.FieldType.int) ({ frames := 5, cells := 0, slots := 0, locals := 320 } : Room) 0 0 P [.ref a0, .int a1, .int a2] (fun r P2 => IM P2 a0 ∧ EM [0, 28, 29, 30, 31, 35, 36, 37, 38] a0 P P2 ∧ MW P2 a0 ∧ (-1 ≤ r.toInt ∧ r.toInt ≤ 60)) := by
  refine enI (lv := [(0, .ref a0), (1, .int a1), (2, .int a2)]) (by decide) (Nat.le_of_ble_eq_true rfl) rfl (fun E D cy C Ci0 ret => ?_)
  have ha0 := I.2.1
  have J20 : ∀ (P20 : PP), (IM P20 a0) → (EM [0, 28, 29, 30, 31, 35, 36, 37, 38] a0 P P20) → (MW P20 a0) → (0 ≤ (pI P20 a0 0).toInt ∧ (pI P20 a0 0).toInt ≤ 0) → G E ({ frames := 5, cells := 0, slots := 0, locals := 320 } : Room) D cy 4 P20 0 0 20 [] [] := by
    intro P20 I20 X20 W20 hq20_0
    have h94771 := X20.at ha0
    refine g_iconst (v := (-1)) C dX12_needs_20 (by decide) ?_
    exact ret _ _ _ _ _ _ dX12_needs_21 rfl (by decide) (by decide) ⟨I20, X20, W20, (by decide)⟩
  refine g_aload_n C dX12_needs_0 rfl 0 rfl ?_
  refine g_iconst (v := 0) C dX12_needs_1 (by decide) ?_
  refine g_putI C fi_X12_1 rfl (ha0).1 (ha0).2 dX12_needs_2 ?_
  refine gqW (ks := [0]) (I.setI (rgOk.of rfl (by decide))) (EM.setI I (by decide)) (fun Y94772 Iy94773 Xy94774 w94775  => ?_)
  have w94775 : (pI Y94772 a0 0).toInt = 0 := w94775
  have W94776 := hW.keep I Xy94774 (by decide) (by decide) (by decide)
  have Xz94777 : EM [0, 28, 29, 30, 31, 35, 36, 37, 38] a0 P Y94772 := Xy94774.mono (by decide)
  have h94778 := Xy94774.at ha0
  refine g_iload_n C dX12_needs_5 rfl 1 rfl ?_
  refine g_callSI (b := 0) (ci := 0) (rest := []) C ms_X12_278 [.int a1] (s_X12_isQuarter Iy94773.1) rfl rfl (by decide) (Nat.le_of_ble_eq_true rfl) (by decide) dX12_needs_6 (fun r94779 Y94780 h94781 => ?_)
  obtain ⟨rfl, h94781⟩ := h94781
  obtain ⟨h94781, hi94782⟩ := h94781
  have hi94782 : r94779.toInt = 0 ∨ (((0 : Int) ≤ a1.toInt ∧ a1.toInt ≤ (3 : Int))) := hi94782
  have h94781 : 0 ≤ r94779.toInt ∧ r94779.toInt ≤ 1 := h94781
  refine b_if_eq C 20 dX12_needs_9 (by decide) (fun h94783 => ?_) (fun h94783 => ?_)
  · have h94783 : r94779.toInt = 0 := congrArg Int32.toInt h94783
    clear hi94782
    refine g_lv (lv' := []) [] rfl ?_
    exact J20 Y94772 Iy94773 Xz94777 W94776 (by omega)
  · have h94783 : r94779.toInt ≠ 0 := ti_ne h94783
    replace hi94782 := hi94782.resolve_left (by omega)
    refine g_aload_n C dX12_needs_12 rfl 0 rfl ?_
    refine g_iload_n C dX12_needs_13 rfl 2 rfl ?_
    refine g_callVI (rest := []) C mv_X12_192 [.int a2] (s_X12_isBook Iy94773 W94776) (h94778).1 (h94778).2 rfl rfl (by decide) (Nat.le_of_ble_eq_true rfl) (by decide) dX12_needs_14 (fun r94784 Y94785 h94786 => ?_)
    obtain ⟨rfl, h94786⟩ := h94786
    obtain ⟨h94786, hi94787, hi94788⟩ := h94786
    have hi94787 : r94784.toInt = 0 ∨ (((0 : Int) ≤ a2.toInt ∧ a2.toInt ≤ (1 : Int))) := hi94787
    have h94786 : 0 ≤ r94784.toInt ∧ r94784.toInt ≤ 1 := h94786
    refine b_if_ne C 22 dX12_needs_17 (by decide) (fun h94789 => ?_) (fun h94789 => ?_)
    · have h94789 : r94784.toInt ≠ 0 := ti_ne h94789
      replace hi94787 := hi94787.resolve_left (by omega)
      obtain ⟨b94790, e94791, h94792⟩ := Iy94773.fld (h94778) 10 13 2 rfl
      have hi94788 := (hi94788.resolve_left (by omega)) b94790 e94791
      have hi94788 : 0 < (pI Y94772 b94790 (a2.toInt.toNat)).toInt := hi94788
      have h94793 := Iy94773.arr e94791 rfl (a2.toInt.toNat)
      refine g_aload_n C dX12_needs_22 rfl 0 rfl ?_
      refine g_iload_n C dX12_needs_23 rfl 1 rfl ?_
      refine g_iload_n C dX12_needs_24 rfl 2 rfl ?_
      refine g_callVI (rest := []) C mv_X12_408 [.int a1, .int a2] (s_X12_needsOf Iy94773 (by omega) (by omega) (fun b9 e9 => by rw [e94791] at e9; cases e9; show 1 ≤ (pI Y94772 b94790 (a2.toInt.toNat)).toInt ∧ (pI Y94772 b94790 (a2.toInt.toNat)).toInt ≤ 16; omega) W94776) (h94778).1 (h94778).2 rfl rfl (by decide) (Nat.le_of_ble_eq_true rfl) (by decide) dX12_needs_25 (fun r94794 Y94795 h94796 => ?_)
      obtain ⟨Iy94797, Xy94798, W94799, h94796⟩ := h94796
      have q94800 := Xy94798.keepF 0 (by decide)
      have q94801 := Xy94798.keepA e94791 (by decide) rfl (a2.toInt.toNat)
      have Xz94802 : EM [0, 28, 29, 30, 31, 35, 36, 37, 38] a0 P Y94795 := EM.tr ha0 Xz94777 (Xy94798.mono (by decide))
      have e94803 := Xy94798.ref h94778 (by decide) e94791
      have h94804 := Xy94798.at h94778
      have h94805 := Xy94798.ar h94792
      have h94796 : 0 ≤ r94794.toInt ∧ r94794.toInt ≤ 61 := h94796
      refine g_istore_n (lv' := [(3, .int r94794), (0, .ref a0), (1, .int a1), (2, .int a2)]) C dX12_needs_28 rfl (by decide) rfl ?_
      refine g_iload_n C dX12_needs_29 rfl 0 rfl ?_
      refine g_bipush (v := 60) C dX12_needs_30 (by decide) ?_
      refine b_icmp_le C 39 dX12_needs_32 (by decide) (fun h94806 => ?_) (fun h94806 => ?_)
      · have h94806 : r94794.toInt ≤ 60 := h94806
        refine g_iload_n C dX12_needs_39 rfl 0 rfl ?_
        exact ret _ _ _ _ _ _ dX12_needs_40 rfl (by decide) (by decide) ⟨Iy94797, Xz94802, W94799, (by omega)⟩
      · have h94806 : 60 < r94794.toInt := h94806
        refine g_iconst (v := (-1)) C dX12_needs_35 (by decide) ?_
        refine g_goto C 40 dX12_needs_36 (by decide) ?_
        exact ret _ _ _ _ _ _ dX12_needs_40 rfl (by decide) (by decide) ⟨Iy94797, Xz94802, W94799, (by decide)⟩
    · have h94789 : r94784.toInt = 0 := congrArg Int32.toInt h94789
      clear hi94787
      refine g_lv (lv' := []) [] rfl ?_
      exact J20 Y94772 Iy94773 Xz94777 W94776 (by omega)
theorem dX12_page_0 : decode cX12_page 0 = .ok (.aload_n 0, 1) := by decide +kernel
theorem dX12_page_1 : decode cX12_page 1 = .ok (.iconst 0, 1) := by decide +kernel
theorem dX12_page_2 : decode cX12_page 2 = .ok (.putfield 1, 3) := by decide +kernel
theorem dX12_page_5 : decode cX12_page 5 = .ok (.aload_n 0, 1) := by decide +kernel
theorem dX12_page_6 : decode cX12_page 6 = .ok (.iload_n 1, 1) := by decide +kernel
theorem dX12_page_7 : decode cX12_page 7 = .ok (.invokevirtual 192, 3) := by decide +kernel
theorem dX12_page_10 : decode cX12_page 10 = .ok (.ifCond .eq 37, 3) := by decide +kernel
theorem dX12_page_13 : decode cX12_page 13 = .ok (.iload_n 2, 1) := by decide +kernel
theorem dX12_page_14 : decode cX12_page 14 = .ok (.iconst 0, 1) := by decide +kernel
theorem dX12_page_15 : decode cX12_page 15 = .ok (.aload_n 0, 1) := by decide +kernel
theorem dX12_page_16 : decode cX12_page 16 = .ok (.getfield 45, 3) := by decide +kernel
theorem dX12_page_19 : decode cX12_page 19 = .ok (.iload_n 1, 1) := by decide +kernel
theorem dX12_page_20 : decode cX12_page 20 = .ok (.iaload, 1) := by decide +kernel
theorem dX12_page_21 : decode cX12_page 21 = .ok (.iconst 1, 1) := by decide +kernel
theorem dX12_page_22 : decode cX12_page 22 = .ok (.isub, 1) := by decide +kernel
theorem dX12_page_23 : decode cX12_page 23 = .ok (.invokestatic 178, 3) := by decide +kernel
theorem dX12_page_26 : decode cX12_page 26 = .ok (.ifCond .eq 21, 3) := by decide +kernel
theorem dX12_page_29 : decode cX12_page 29 = .ok (.iload_n 3, 1) := by decide +kernel
theorem dX12_page_30 : decode cX12_page 30 = .ok (.iconst 0, 1) := by decide +kernel
theorem dX12_page_31 : decode cX12_page 31 = .ok (.ldc 195, 2) := by decide +kernel
theorem dX12_page_33 : decode cX12_page 33 = .ok (.invokestatic 178, 3) := by decide +kernel
theorem dX12_page_36 : decode cX12_page 36 = .ok (.ifCond .eq 11, 3) := by decide +kernel
theorem dX12_page_39 : decode cX12_page 39 = .ok (.aload_n 0, 1) := by decide +kernel
theorem dX12_page_40 : decode cX12_page 40 = .ok (.iload_n 1, 1) := by decide +kernel
theorem dX12_page_41 : decode cX12_page 41 = .ok (.invokevirtual 196, 3) := by decide +kernel
theorem dX12_page_44 : decode cX12_page 44 = .ok (.ifCond .eq 5, 3) := by decide +kernel
theorem dX12_page_47 : decode cX12_page 47 = .ok (.iconst 0, 1) := by decide +kernel
theorem dX12_page_48 : decode cX12_page 48 = .ok (.ireturn, 1) := by decide +kernel
theorem dX12_page_49 : decode cX12_page 49 = .ok (.aload_n 0, 1) := by decide +kernel
theorem dX12_page_50 : decode cX12_page 50 = .ok (.getfield 48, 3) := by decide +kernel
theorem dX12_page_53 : decode cX12_page 53 = .ok (.bipush 16, 2) := by decide +kernel
theorem dX12_page_55 : decode cX12_page 55 = .ok (.iload_n 1, 1) := by decide +kernel
theorem dX12_page_56 : decode cX12_page 56 = .ok (.imul, 1) := by decide +kernel
theorem dX12_page_57 : decode cX12_page 57 = .ok (.iload_n 2, 1) := by decide +kernel
theorem dX12_page_58 : decode cX12_page 58 = .ok (.iadd, 1) := by decide +kernel
theorem dX12_page_59 : decode cX12_page 59 = .ok (.iload_n 3, 1) := by decide +kernel
theorem dX12_page_60 : decode cX12_page 60 = .ok (.iastore, 1) := by decide +kernel
theorem dX12_page_61 : decode cX12_page 61 = .ok (.iconst 1, 1) := by decide +kernel
theorem dX12_page_62 : decode cX12_page 62 = .ok (.ireturn, 1) := by decide +kernel
set_option maxHeartbeats 4000000 in
set_option maxRecDepth 100000 in
theorem s_X12_page {P : PP} {a0 : Nat} {a1 : Int32} {a2 : Int32} {a3 : Int32} (I : IM P a0) (hW : MW P a0) : CtrI yX12_page cX12_page 4 (some Jvm.ClassFile.FieldType.boolean) ({ frames := 3, cells := 0, slots := 0, locals := 192 } : Room) 0 0 P [.ref a0, .int a1, .int a2, .int a3] (fun r P2 => IM P2 a0 ∧ EM [0, 11] a0 P P2 ∧ MW P2 a0 ∧ (0 ≤ r.toInt ∧ r.toInt ≤ 1) ∧ (r.toInt = 0 ∨ (((0 : Int) ≤ a1.toInt ∧ a1.toInt ≤ (1 : Int)) ∧ ((0 : Int) ≤ a2.toInt ∧ a2.toInt ≤ (15 : Int)) ∧ ((0 : Int) ≤ a3.toInt ∧ a3.toInt ≤ (65535 : Int))))) := by
  refine enI (lv := [(0, .ref a0), (1, .int a1), (2, .int a2), (3, .int a3)]) (by decide) (Nat.le_of_ble_eq_true rfl) rfl (fun E D cy C Ci0 ret => ?_)
  have ha0 := I.2.1
  have J47 : ∀ (P47 : PP), (IM P47 a0) → (EM [0, 11] a0 P P47) → (MW P47 a0) → (0 ≤ (pI P47 a0 0).toInt ∧ (pI P47 a0 0).toInt ≤ 0) → G E ({ frames := 3, cells := 0, slots := 0, locals := 192 } : Room) D cy 4 P47 0 0 47 [] [] := by
    intro P47 I47 X47 W47 hq47_0
    have h94861 := X47.at ha0
    refine g_iconst (v := 0) C dX12_page_47 (by decide) ?_
    exact ret _ _ _ _ _ _ dX12_page_48 rfl (by decide) (by decide) ⟨I47, X47, W47, (by decide), Or.inl rfl⟩
  refine g_aload_n C dX12_page_0 rfl 0 rfl ?_
  refine g_iconst (v := 0) C dX12_page_1 (by decide) ?_
  refine g_putI C fi_X12_1 rfl (ha0).1 (ha0).2 dX12_page_2 ?_
  refine gqW (ks := [0]) (I.setI (rgOk.of rfl (by decide))) (EM.setI I (by decide)) (fun Y94862 Iy94863 Xy94864 w94865  => ?_)
  have w94865 : (pI Y94862 a0 0).toInt = 0 := w94865
  have W94866 := hW.keep I Xy94864 (by decide) (by decide) (by decide)
  have Xz94867 : EM [0, 11] a0 P Y94862 := Xy94864.mono (by decide)
  have h94868 := Xy94864.at ha0
  refine g_aload_n C dX12_page_5 rfl 0 rfl ?_
  refine g_iload_n C dX12_page_6 rfl 1 rfl ?_
  refine g_callVI (rest := []) C mv_X12_192 [.int a1] (s_X12_isBook Iy94863 W94866) (h94868).1 (h94868).2 rfl rfl (by decide) (Nat.le_of_ble_eq_true rfl) (by decide) dX12_page_7 (fun r94869 Y94870 h94871 => ?_)
  obtain ⟨rfl, h94871⟩ := h94871
  obtain ⟨h94871, hi94872, hi94873⟩ := h94871
  have hi94872 : r94869.toInt = 0 ∨ (((0 : Int) ≤ a1.toInt ∧ a1.toInt ≤ (1 : Int))) := hi94872
  have h94871 : 0 ≤ r94869.toInt ∧ r94869.toInt ≤ 1 := h94871
  refine b_if_eq C 47 dX12_page_10 (by decide) (fun h94874 => ?_) (fun h94874 => ?_)
  · have h94874 : r94869.toInt = 0 := congrArg Int32.toInt h94874
    clear hi94872
    refine g_lv (lv' := []) [] rfl ?_
    exact J47 Y94862 Iy94863 Xz94867 W94866 (by omega)
  · have h94874 : r94869.toInt ≠ 0 := ti_ne h94874
    replace hi94872 := hi94872.resolve_left (by omega)
    obtain ⟨b94875, e94876, h94877⟩ := Iy94863.fld (h94868) 10 13 2 rfl
    have hi94873 := (hi94873.resolve_left (by omega)) b94875 e94876
    have hi94873 : 0 < (pI Y94862 b94875 (a1.toInt.toNat)).toInt := hi94873
    have h94878 := Iy94863.arr e94876 rfl (a1.toInt.toNat)
    refine g_iload_n C dX12_page_13 rfl 2 rfl ?_
    refine g_iconst (v := 0) C dX12_page_14 (by decide) ?_
    refine g_aload_n C dX12_page_15 rfl 0 rfl ?_
    refine g_getR C fi_X12_45 rfl e94876 (h94868).1 (h94868).2 dX12_page_16 ?_
    refine g_iload_n C dX12_page_19 rfl 1 rfl ?_
    refine g_iald (j := (a1.toInt.toNat)) C h94877.1 h94877.2.1 (ix_in h94877.2.2 (by omega)) dX12_page_20 ?_
    refine g_iconst (v := 1) C dX12_page_21 (by decide) ?_
    refine s_isub C dX12_page_22 (by show -2147483648 ≤ (pI Y94862 b94875 (a1.toInt.toNat)).toInt - 1 ∧ (pI Y94862 b94875 (a1.toInt.toNat)).toInt - 1 ≤ 2147483647; omega) (fun z94879 h94880 => ?_)
    have h94880 : z94879.toInt = (pI Y94862 b94875 (a1.toInt.toNat)).toInt - 1 := h94880
    refine g_callSI (b := 0) (ci := 0) (rest := []) C ms_X12_178 [.int a2, .int 0, .int z94879] (s_X12_within Iy94863.1) rfl rfl (by decide) (Nat.le_of_ble_eq_true rfl) (by decide) dX12_page_23 (fun r94881 Y94882 h94883 => ?_)
    obtain ⟨rfl, h94883⟩ := h94883
    obtain ⟨h94883, hi94884⟩ := h94883
    have hi94884 : r94881.toInt = 0 ∨ (0 ≤ a2.toInt ∧ a2.toInt ≤ z94879.toInt) := hi94884
    have h94883 : 0 ≤ r94881.toInt ∧ r94881.toInt ≤ 1 := h94883
    refine b_if_eq C 47 dX12_page_26 (by decide) (fun h94885 => ?_) (fun h94885 => ?_)
    · have h94885 : r94881.toInt = 0 := congrArg Int32.toInt h94885
      clear hi94884
      refine g_lv (lv' := []) [] rfl ?_
      exact J47 Y94862 Iy94863 Xz94867 W94866 (by omega)
    · have h94885 : r94881.toInt ≠ 0 := ti_ne h94885
      replace hi94884 := hi94884.resolve_left (by omega)
      refine g_iload_n C dX12_page_29 rfl 3 rfl ?_
      refine g_iconst (v := 0) C dX12_page_30 (by decide) ?_
      refine g_ldc (v := 65535) C kc_X12_195 dX12_page_31 ?_
      refine g_callSI (b := 0) (ci := 0) (rest := []) C ms_X12_178 [.int a3, .int 0, .int 65535] (s_X12_within Iy94863.1) rfl rfl (by decide) (Nat.le_of_ble_eq_true rfl) (by decide) dX12_page_33 (fun r94886 Y94887 h94888 => ?_)
      obtain ⟨rfl, h94888⟩ := h94888
      obtain ⟨h94888, hi94889⟩ := h94888
      have hi94889 : r94886.toInt = 0 ∨ (0 ≤ a3.toInt ∧ a3.toInt ≤ 65535) := hi94889
      have h94888 : 0 ≤ r94886.toInt ∧ r94886.toInt ≤ 1 := h94888
      refine b_if_eq C 47 dX12_page_36 (by decide) (fun h94890 => ?_) (fun h94890 => ?_)
      · have h94890 : r94886.toInt = 0 := congrArg Int32.toInt h94890
        clear hi94889
        refine g_lv (lv' := []) [] rfl ?_
        exact J47 Y94862 Iy94863 Xz94867 W94866 (by omega)
      · have h94890 : r94886.toInt ≠ 0 := ti_ne h94890
        replace hi94889 := hi94889.resolve_left (by omega)
        refine g_aload_n C dX12_page_39 rfl 0 rfl ?_
        refine g_iload_n C dX12_page_40 rfl 1 rfl ?_
        refine g_callVI (rest := []) C mv_X12_196 [.int a1] (s_X12_isOut Iy94863 W94866) (h94868).1 (h94868).2 rfl rfl (by decide) (Nat.le_of_ble_eq_true rfl) (by decide) dX12_page_41 (fun r94891 Y94892 h94893 => ?_)
        obtain ⟨rfl, h94893⟩ := h94893
        have h94893 : 0 ≤ r94891.toInt ∧ r94891.toInt ≤ 1 := h94893
        refine b_if_eq C 49 dX12_page_44 (by decide) (fun h94894 => ?_) (fun h94894 => ?_)
        · have h94894 : r94891.toInt = 0 := congrArg Int32.toInt h94894
          refine g_aload_n C dX12_page_49 rfl 0 rfl ?_
          obtain ⟨b94895, e94896, h94897⟩ := Iy94863.fld (h94868) 11 13 32 rfl
          refine g_getR C fi_X12_48 rfl e94896 (h94868).1 (h94868).2 dX12_page_50 ?_
          refine g_bipush (v := 16) C dX12_page_53 (by decide) ?_
          refine g_iload_n C dX12_page_55 rfl 1 rfl ?_
          refine s_imul C dX12_page_56 (by show -2147483648 ≤ 16 * a1.toInt ∧ 16 * a1.toInt ≤ 2147483647; omega) (fun z94898 h94899 => ?_)
          have h94899 : z94898.toInt = 16 * a1.toInt := h94899
          refine g_iload_n C dX12_page_57 rfl 2 rfl ?_
          refine s_iadd C dX12_page_58 (by show -2147483648 ≤ z94898.toInt + a2.toInt ∧ z94898.toInt + a2.toInt ≤ 2147483647; omega) (fun z94900 h94901 => ?_)
          have h94901 : z94900.toInt = z94898.toInt + a2.toInt := h94901
          refine g_iload_n C dX12_page_59 rfl 3 rfl ?_
          refine g_iast (j := (z94900.toInt.toNat)) C h94897.1 h94897.2.1 (ix_in h94897.2.2 (by omega)) dX12_page_60 ?_
          refine gqW (ks := [11]) (Iy94863.setA e94896 h94897 (by decide) (arOk.none rfl)) (EM.setA Iy94863 e94896 rfl (by decide)) (fun Y94902 Iy94903 Xy94904 w94905  => ?_)
          have w94905 : (pI Y94902 b94895 (z94900.toInt.toNat)).toInt = a3.toInt := w94905
          have q94906 := Xy94904.keepF 0 (by decide)
          have q94907 := Xy94904.keepA e94876 (by decide) rfl (a1.toInt.toNat)
          have W94908 := W94866.keep Iy94863 Xy94904 (by decide) (by decide) (by decide)
          have Xz94909 : EM [0, 11] a0 P Y94902 := EM.tr ha0 Xz94867 (Xy94904.mono (by decide))
          have e94910 := Xy94904.ref h94868 (by decide) e94876
          have e94911 := Xy94904.ref h94868 (by decide) e94896
          have h94912 := Xy94904.at h94868
          have h94913 := Xy94904.ar h94877
          have h94914 := Xy94904.ar h94897
          refine g_iconst (v := 1) C dX12_page_61 (by decide) ?_
          exact ret _ _ _ _ _ _ dX12_page_62 rfl (by decide) (by decide) ⟨Iy94903, Xz94909, W94908, (by decide), Or.inr (by omega)⟩
        · have h94894 : r94891.toInt ≠ 0 := ti_ne h94894
          refine g_lv (lv' := []) [] rfl ?_
          exact J47 Y94862 Iy94863 Xz94867 W94866 (by omega)
theorem dX12_paper_0 : decode cX12_paper 0 = .ok (.aload_n 0, 1) := by decide +kernel
theorem dX12_paper_1 : decode cX12_paper 1 = .ok (.aload_n 0, 1) := by decide +kernel
theorem dX12_paper_2 : decode cX12_paper 2 = .ok (.iload_n 1, 1) := by decide +kernel
theorem dX12_paper_3 : decode cX12_paper 3 = .ok (.iload_n 2, 1) := by decide +kernel
theorem dX12_paper_4 : decode cX12_paper 4 = .ok (.invokevirtual 298, 3) := by decide +kernel
theorem dX12_paper_7 : decode cX12_paper 7 = .ok (.ifCond .eq 16, 3) := by decide +kernel
theorem dX12_paper_10 : decode cX12_paper 10 = .ok (.iload_n 3, 1) := by decide +kernel
theorem dX12_paper_11 : decode cX12_paper 11 = .ok (.iconst 0, 1) := by decide +kernel
theorem dX12_paper_12 : decode cX12_paper 12 = .ok (.iconst 5, 1) := by decide +kernel
theorem dX12_paper_13 : decode cX12_paper 13 = .ok (.invokestatic 178, 3) := by decide +kernel
theorem dX12_paper_16 : decode cX12_paper 16 = .ok (.ifCond .eq 7, 3) := by decide +kernel
theorem dX12_paper_19 : decode cX12_paper 19 = .ok (.iconst 0, 1) := by decide +kernel
theorem dX12_paper_20 : decode cX12_paper 20 = .ok (.goto 4, 3) := by decide +kernel
theorem dX12_paper_23 : decode cX12_paper 23 = .ok (.iconst 1, 1) := by decide +kernel
theorem dX12_paper_24 : decode cX12_paper 24 = .ok (.putfield 1, 3) := by decide +kernel
theorem dX12_paper_27 : decode cX12_paper 27 = .ok (.aload_n 0, 1) := by decide +kernel
theorem dX12_paper_28 : decode cX12_paper 28 = .ok (.getfield 1, 3) := by decide +kernel
theorem dX12_paper_31 : decode cX12_paper 31 = .ok (.ifCond .le 5, 3) := by decide +kernel
theorem dX12_paper_36 : decode cX12_paper 36 = .ok (.bipush 40, 2) := by decide +kernel
theorem dX12_paper_38 : decode cX12_paper 38 = .ok (.iload_n 1, 1) := by decide +kernel
theorem dX12_paper_39 : decode cX12_paper 39 = .ok (.imul, 1) := by decide +kernel
theorem dX12_paper_40 : decode cX12_paper 40 = .ok (.iload_n 2, 1) := by decide +kernel
theorem dX12_paper_41 : decode cX12_paper 41 = .ok (.iadd, 1) := by decide +kernel
theorem dX12_paper_42 : decode cX12_paper 42 = .ok (.istore 4, 2) := by decide +kernel
theorem dX12_paper_44 : decode cX12_paper 44 = .ok (.iload_n 3, 1) := by decide +kernel
theorem dX12_paper_45 : decode cX12_paper 45 = .ok (.tableswitch 75 0 4 #[35, 43, 51, 59, 67], 35) := by decide +kernel
theorem dX12_paper_120 : decode cX12_paper 120 = .ok (.aload_n 0, 1) := by decide +kernel
theorem dX12_paper_121 : decode cX12_paper 121 = .ok (.getfield 75, 3) := by decide +kernel
theorem dX12_paper_124 : decode cX12_paper 124 = .ok (.iload 4, 2) := by decide +kernel
theorem dX12_paper_126 : decode cX12_paper 126 = .ok (.iaload, 1) := by decide +kernel
theorem dX12_paper_127 : decode cX12_paper 127 = .ok (.ifCond .ge 7, 3) := by decide +kernel
theorem dX12_paper_134 : decode cX12_paper 134 = .ok (.aload_n 0, 1) := by decide +kernel
theorem dX12_paper_135 : decode cX12_paper 135 = .ok (.iload_n 1, 1) := by decide +kernel
theorem dX12_paper_136 : decode cX12_paper 136 = .ok (.iload_n 2, 1) := by decide +kernel
theorem dX12_paper_137 : decode cX12_paper 137 = .ok (.invokevirtual 358, 3) := by decide +kernel
theorem dX12_unknownOf_0 : decode cX12_unknownOf 0 = .ok (.bipush 40, 2) := by decide +kernel
theorem dX12_unknownOf_2 : decode cX12_unknownOf 2 = .ok (.iload_n 1, 1) := by decide +kernel
theorem dX12_unknownOf_3 : decode cX12_unknownOf 3 = .ok (.imul, 1) := by decide +kernel
theorem dX12_unknownOf_4 : decode cX12_unknownOf 4 = .ok (.iload_n 2, 1) := by decide +kernel
theorem dX12_unknownOf_5 : decode cX12_unknownOf 5 = .ok (.iadd, 1) := by decide +kernel
theorem dX12_unknownOf_6 : decode cX12_unknownOf 6 = .ok (.istore_n 3, 1) := by decide +kernel
theorem dX12_unknownOf_7 : decode cX12_unknownOf 7 = .ok (.aload_n 0, 1) := by decide +kernel
theorem dX12_unknownOf_8 : decode cX12_unknownOf 8 = .ok (.getfield 75, 3) := by decide +kernel
theorem dX12_unknownOf_11 : decode cX12_unknownOf 11 = .ok (.iload_n 3, 1) := by decide +kernel
theorem dX12_unknownOf_12 : decode cX12_unknownOf 12 = .ok (.iaload, 1) := by decide +kernel
theorem dX12_unknownOf_13 : decode cX12_unknownOf 13 = .ok (.istore 4, 2) := by decide +kernel
theorem dX12_unknownOf_15 : decode cX12_unknownOf 15 = .ok (.aload_n 0, 1) := by decide +kernel
theorem dX12_unknownOf_16 : decode cX12_unknownOf 16 = .ok (.invokevirtual 336, 3) := by decide +kernel
theorem dX12_unknownOf_19 : decode cX12_unknownOf 19 = .ok (.aload_n 0, 1) := by decide +kernel
theorem dX12_unknownOf_20 : decode cX12_unknownOf 20 = .ok (.iload 4, 2) := by decide +kernel
theorem dX12_unknownOf_22 : decode cX12_unknownOf 22 = .ok (.aload_n 0, 1) := by decide +kernel
theorem dX12_unknownOf_23 : decode cX12_unknownOf 23 = .ok (.getfield 72, 3) := by decide +kernel
theorem dX12_unknownOf_26 : decode cX12_unknownOf 26 = .ok (.iload_n 3, 1) := by decide +kernel
theorem dX12_unknownOf_27 : decode cX12_unknownOf 27 = .ok (.iaload, 1) := by decide +kernel
theorem dX12_unknownOf_28 : decode cX12_unknownOf 28 = .ok (.invokevirtual 261, 3) := by decide +kernel
theorem dX12_unknownOf_31 : decode cX12_unknownOf 31 = .ok (.istore 5, 2) := by decide +kernel
theorem dX12_unknownOf_33 : decode cX12_unknownOf 33 = .ok (.iconst 0, 1) := by decide +kernel
theorem dX12_unknownOf_34 : decode cX12_unknownOf 34 = .ok (.istore 6, 2) := by decide +kernel
theorem dX12_unknownOf_36 : decode cX12_unknownOf 36 = .ok (.iconst 0, 1) := by decide +kernel
theorem dX12_unknownOf_37 : decode cX12_unknownOf 37 = .ok (.istore 7, 2) := by decide +kernel
theorem dX12_unknownOf_39 : decode cX12_unknownOf 39 = .ok (.iload 7, 2) := by decide +kernel
theorem dX12_unknownOf_41 : decode cX12_unknownOf 41 = .ok (.iconst 2, 1) := by decide +kernel
theorem dX12_unknownOf_42 : decode cX12_unknownOf 42 = .ok (.if_icmp .ge 57, 3) := by decide +kernel
theorem dX12_unknownOf_45 : decode cX12_unknownOf 45 = .ok (.aload_n 0, 1) := by decide +kernel
theorem dX12_unknownOf_46 : decode cX12_unknownOf 46 = .ok (.getfield 81, 3) := by decide +kernel
theorem dX12_unknownOf_49 : decode cX12_unknownOf 49 = .ok (.iload_n 3, 1) := by decide +kernel
theorem dX12_unknownOf_50 : decode cX12_unknownOf 50 = .ok (.iaload, 1) := by decide +kernel
theorem dX12_unknownOf_51 : decode cX12_unknownOf 51 = .ok (.iload 7, 2) := by decide +kernel
theorem dX12_unknownOf_53 : decode cX12_unknownOf 53 = .ok (.ishr, 1) := by decide +kernel
theorem dX12_unknownOf_54 : decode cX12_unknownOf 54 = .ok (.iconst 1, 1) := by decide +kernel
theorem dX12_unknownOf_55 : decode cX12_unknownOf 55 = .ok (.iand, 1) := by decide +kernel
theorem dX12_unknownOf_56 : decode cX12_unknownOf 56 = .ok (.iconst 1, 1) := by decide +kernel
theorem dX12_unknownOf_57 : decode cX12_unknownOf 57 = .ok (.if_icmp .ne 36, 3) := by decide +kernel
theorem dX12_unknownOf_60 : decode cX12_unknownOf 60 = .ok (.aload_n 0, 1) := by decide +kernel
theorem dX12_unknownOf_61 : decode cX12_unknownOf 61 = .ok (.iload_n 1, 1) := by decide +kernel
theorem dX12_unknownOf_62 : decode cX12_unknownOf 62 = .ok (.iload 4, 2) := by decide +kernel
theorem dX12_unknownOf_64 : decode cX12_unknownOf 64 = .ok (.iload 7, 2) := by decide +kernel
theorem dX12_unknownOf_66 : decode cX12_unknownOf 66 = .ok (.aload_n 0, 1) := by decide +kernel
theorem dX12_unknownOf_67 : decode cX12_unknownOf 67 = .ok (.getfield 69, 3) := by decide +kernel
theorem dX12_unknownOf_70 : decode cX12_unknownOf 70 = .ok (.iload_n 1, 1) := by decide +kernel
theorem dX12_unknownOf_71 : decode cX12_unknownOf 71 = .ok (.iaload, 1) := by decide +kernel
theorem dX12_unknownOf_72 : decode cX12_unknownOf 72 = .ok (.invokevirtual 339, 3) := by decide +kernel
theorem dX12_unknownOf_75 : decode cX12_unknownOf 75 = .ok (.aload_n 0, 1) := by decide +kernel
theorem dX12_unknownOf_76 : decode cX12_unknownOf 76 = .ok (.invokevirtual 343, 3) := by decide +kernel
theorem dX12_unknownOf_79 : decode cX12_unknownOf 79 = .ok (.iload 6, 2) := by decide +kernel
theorem dX12_unknownOf_81 : decode cX12_unknownOf 81 = .ok (.iload 5, 2) := by decide +kernel
theorem dX12_unknownOf_83 : decode cX12_unknownOf 83 = .ok (.aload_n 0, 1) := by decide +kernel
theorem dX12_unknownOf_84 : decode cX12_unknownOf 84 = .ok (.getfield 318, 3) := by decide +kernel
theorem dX12_unknownOf_87 : decode cX12_unknownOf 87 = .ok (.iconst (-1), 1) := by decide +kernel
theorem dX12_unknownOf_88 : decode cX12_unknownOf 88 = .ok (.ixor, 1) := by decide +kernel
theorem dX12_unknownOf_89 : decode cX12_unknownOf 89 = .ok (.iand, 1) := by decide +kernel
theorem dX12_unknownOf_90 : decode cX12_unknownOf 90 = .ok (.ior, 1) := by decide +kernel
theorem dX12_unknownOf_91 : decode cX12_unknownOf 91 = .ok (.istore 6, 2) := by decide +kernel
theorem dX12_unknownOf_93 : decode cX12_unknownOf 93 = .ok (.iinc 7 1, 3) := by decide +kernel
theorem dX12_unknownOf_96 : decode cX12_unknownOf 96 = .ok (.goto (-57), 3) := by decide +kernel
theorem dX12_unknownOf_99 : decode cX12_unknownOf 99 = .ok (.iload 6, 2) := by decide +kernel
theorem dX12_unknownOf_101 : decode cX12_unknownOf 101 = .ok (.invokestatic 264, 3) := by decide +kernel
theorem dX12_unknownOf_104 : decode cX12_unknownOf 104 = .ok (.ireturn, 1) := by decide +kernel
set_option maxHeartbeats 4000000 in
set_option maxRecDepth 100000 in
theorem s_X12_unknownOf {P : PP} {a0 : Nat} {a1 : Int32} {a2 : Int32} (I : IM P a0) (ha1 : 0 ≤ a1.toInt ∧ a1.toInt ≤ 3) (ha2 : 0 ≤ a2.toInt ∧ a2.toInt ≤ 39) (hW : MW P a0) (hb : ∀ b, pR P a0 22 = some b → 0 ≤ (pI P b (40 * a1.toInt + a2.toInt).toNat).toInt) : CtrI yX12_unknownOf cX12_unknownOf 8 (some Jvm.ClassFile.FieldType.int) ({ frames := 5, cells := 0, slots := 0, locals := 320 } : Room) 0 0 P [.ref a0, .int a1, .int a2] (fun r P2 => IM P2 a0 ∧ EM [28, 29, 30, 31, 32, 33, 34] a0 P P2 ∧ MW P2 a0 ∧ (0 ≤ r.toInt ∧ r.toInt ≤ 20)) := by
  refine enI (lv := [(0, .ref a0), (1, .int a1), (2, .int a2)]) (by decide) (Nat.le_of_ble_eq_true rfl) rfl (fun E D cy C Ci0 ret => ?_)
  have ha0 := I.2.1
  have J39 : ∀ (n39 : Nat) (P39 : PP) (v39_3 : Int32) (v39_4 : Int32) (v39_5 : Int32) (v39_6 : Int32) (v39_7 : Int32), (2 - v39_7.toInt).toNat < n39 → (IM P39 a0) → (EM [28, 29, 30, 31, 32, 33, 34] a0 P P39) → (MW P39 a0) → (0 ≤ v39_3.toInt ∧ v39_3.toInt ≤ 159) → (0 ≤ v39_4.toInt ∧ v39_4.toInt ≤ 1) → (0 ≤ v39_7.toInt ∧ v39_7.toInt ≤ 2) → (∀ b910, pR P39 a0 10 = some b910 → 0 < (pI P39 b910 (v39_4.toInt.toNat)).toInt) → G E ({ frames := 5, cells := 0, slots := 0, locals := 320 } : Room) D cy 8 P39 0 0 39 [(0, .ref a0), (1, .int a1), (3, .int v39_3), (4, .int v39_4), (5, .int v39_5), (6, .int v39_6), (7, .int v39_7)] [] := by
    intro n39
    induction n39 with
    | zero => intro P39 v39_3 v39_4 v39_5 v39_6 v39_7 hm39 I39 X39 W39 hv39_3 hv39_4 hv39_7 rel39_0; omega
    | succ n39 ih39 =>
      intro P39 v39_3 v39_4 v39_5 v39_6 v39_7 hm39 I39 X39 W39 hv39_3 hv39_4 hv39_7 rel39_0
      have h95189 := X39.at ha0
      obtain ⟨b95190, e95191, h95192⟩ := I39.fld (h95189) 10 13 2 rfl
      have rel39_0 := rel39_0 b95190 e95191
      have h95193 := I39.arr e95191 rfl (v39_4.toInt.toNat)
      have J93 : ∀ (P93 : PP) (v93_6 : Int32), (IM P93 a0) → (EM [28, 29, 30, 31, 32, 33, 34] a0 P P93) → (MW P93 a0) → (0 ≤ v39_7.toInt ∧ v39_7.toInt ≤ 1) → (∀ b910, pR P93 a0 10 = some b910 → 0 < (pI P93 b910 (v39_4.toInt.toNat)).toInt) → G E ({ frames := 5, cells := 0, slots := 0, locals := 320 } : Room) D cy 8 P93 0 0 93 [(0, .ref a0), (1, .int a1), (3, .int v39_3), (4, .int v39_4), (5, .int v39_5), (6, .int v93_6), (7, .int v39_7)] [] := by
        intro P93 v93_6 I93 X93 W93 hv93_7 rel93_0
        have h95194 := X93.at ha0
        obtain ⟨b95195, e95196, h95197⟩ := I93.fld (h95194) 10 13 2 rfl
        have rel93_0 := rel93_0 b95195 e95196
        have h95198 := I93.arr e95196 rfl (v39_4.toInt.toNat)
        refine s_iinc (lv0 := [(0, .ref a0), (1, .int a1), (3, .int v39_3), (4, .int v39_4), (5, .int v39_5), (6, .int v93_6)]) (m := 1) C dX12_unknownOf_93 6 rfl (by decide) rfl (by decide) (by omega) (fun z95199 h95200 => ?_)
        have h95200 : z95199.toInt = v39_7.toInt + 1 := h95200
        refine g_goto C 39 dX12_unknownOf_96 (by decide) ?_
        refine g_lv (lv' := [(0, .ref a0), (1, .int a1), (3, .int v39_3), (4, .int v39_4), (5, .int v39_5), (6, .int v93_6), (7, .int z95199)]) [1, 2, 3, 4, 5, 6, 0] rfl ?_
        exact ih39 P93 v39_3 v39_4 v39_5 v93_6 z95199 (by omega) I93 X93 W93 (by omega) (by omega) (by omega) (by intro b910 e910; rw [e95196] at e910; cases e910; show 0 < (pI P93 b95195 (v39_4.toInt.toNat)).toInt; omega)
      refine g_iload C dX12_unknownOf_39 6 rfl ?_
      refine g_iconst (v := 2) C dX12_unknownOf_41 (by decide) ?_
      refine b_icmp_ge C 99 dX12_unknownOf_42 (by decide) (fun h95201 => ?_) (fun h95201 => ?_)
      · have h95201 : 2 ≤ v39_7.toInt := h95201
        refine g_iload C dX12_unknownOf_99 5 rfl ?_
        refine g_callSI (b := 0) (ci := 0) (rest := []) C ms_X12_264 [.int v39_6] (s_X12_bits I39.1) rfl rfl (by decide) (Nat.le_of_ble_eq_true rfl) (by decide) dX12_unknownOf_101 (fun r95202 Y95203 h95204 => ?_)
        obtain ⟨rfl, h95204⟩ := h95204
        obtain ⟨h95204, hi95205⟩ := h95204
        have hi95205 : r95202.toInt = 0 ∨ v39_6.toInt ≠ 0 := hi95205
        have h95204 : 0 ≤ r95202.toInt ∧ r95202.toInt ≤ 20 := h95204
        exact ret _ _ _ _ _ _ dX12_unknownOf_104 rfl (by decide) (by decide) ⟨I39, X39, W39, (by omega)⟩
      · have h95201 : v39_7.toInt < 2 := h95201
        refine g_aload_n C dX12_unknownOf_45 rfl 0 rfl ?_
        obtain ⟨b95206, e95207, h95208⟩ := I39.fld (h95189) 24 13 800 rfl
        refine g_getR C fi_X12_81 rfl e95207 (h95189).1 (h95189).2 dX12_unknownOf_46 ?_
        refine g_iload_n C dX12_unknownOf_49 rfl 2 rfl ?_
        refine g_iald (j := (v39_3.toInt.toNat)) C h95208.1 h95208.2.1 (ix_in h95208.2.2 (by omega)) dX12_unknownOf_50 ?_
        refine g_iload C dX12_unknownOf_51 6 rfl ?_
        refine a_ishr C dX12_unknownOf_53 (fun z95209 => ?_)
        refine g_iconst (v := 1) C dX12_unknownOf_54 (by decide) ?_
        refine s_iand C dX12_unknownOf_55 (by show 0 ≤ 1; omega) (fun z95211 h95212 => ?_)
        have h95212 : 0 ≤ z95211.toInt ∧ z95211.toInt ≤ 1 := h95212
        refine g_iconst (v := 1) C dX12_unknownOf_56 (by decide) ?_
        refine b_icmp_ne C 93 dX12_unknownOf_57 (by decide) (fun h95213 => ?_) (fun h95213 => ?_)
        · have h95213 : z95211.toInt ≠ 1 := ti_ne h95213
          exact J93 P39 v39_6 I39 X39 W39 (by omega) (by intro b910 e910; rw [e95191] at e910; cases e910; show 0 < (pI P39 b95190 (v39_4.toInt.toNat)).toInt; omega)
        · have h95213 : z95211.toInt = 1 := congrArg Int32.toInt h95213
          refine g_aload_n C dX12_unknownOf_60 rfl 0 rfl ?_
          refine g_iload_n C dX12_unknownOf_61 rfl 1 rfl ?_
          refine g_iload C dX12_unknownOf_62 3 rfl ?_
          refine g_iload C dX12_unknownOf_64 6 rfl ?_
          refine g_aload_n C dX12_unknownOf_66 rfl 0 rfl ?_
          obtain ⟨b95214, e95215, h95216⟩ := I39.fld (h95189) 20 13 20 rfl
          refine g_getR C fi_X12_69 rfl e95215 (h95189).1 (h95189).2 dX12_unknownOf_67 ?_
          refine g_iload_n C dX12_unknownOf_70 rfl 1 rfl ?_
          refine g_iald (j := (a1.toInt.toNat)) C h95216.1 h95216.2.1 (ix_in h95216.2.2 (by omega)) dX12_unknownOf_71 ?_
          have h95217 := I39.arr e95215 rfl (a1.toInt.toNat)
          refine g_callVV (rest := []) C mv_X12_339 [.int a1, .int v39_4, .int v39_7, .int (pI P39 b95214 (a1.toInt.toNat))] (s_X12_gathers I39 (by omega) (by omega) (by omega) (fun b9 e9 => by rw [e95191] at e9; cases e9; show 1 ≤ (pI P39 b95190 (v39_4.toInt.toNat)).toInt ∧ (pI P39 b95190 (v39_4.toInt.toNat)).toInt ≤ 16; omega) W39) (h95189).1 (h95189).2 rfl rfl (by decide) (Nat.le_of_ble_eq_true rfl) (by decide) dX12_unknownOf_72 (fun Y95219 h95220 => ?_)
          obtain ⟨Iy95221, Xy95222, W95223, p95224, p95225⟩ := h95220
          have p95224 : (pI Y95219 a0 28).toInt ≤ 4 + (pI P39 b95214 (a1.toInt.toNat)).toInt := p95224
          have q95226 := Xy95222.keepA e95191 (by decide) rfl (v39_4.toInt.toNat)
          have q95227 := Xy95222.keepA e95215 (by decide) rfl (a1.toInt.toNat)
          have Xz95228 : EM [28, 29, 30, 31, 32, 33, 34] a0 P Y95219 := EM.tr ha0 X39 (Xy95222.mono (by decide))
          have e95229 := Xy95222.ref h95189 (by decide) e95191
          have e95230 := Xy95222.ref h95189 (by decide) e95215
          have h95231 := Xy95222.at h95189
          have h95232 := Xy95222.ar h95192
          have h95233 := Xy95222.ar h95216
          obtain ⟨b95234, e95235, h95236⟩ := Iy95221.fld (h95231) 22 13 800 rfl
          have p95225 := p95225 b95234 e95235
          rw [Xz95228.2.2.2 22 (by decide) rfl b95234 (EM.refB Xz95228 ha0 e95235)] at p95225
          have p95225 : (pI Y95219 a0 28).toInt ≤ 4 + kC (pI P b95234) (40 * a1.toInt).toNat v39_4.toInt ((pI P39 b95214 (a1.toInt.toNat)).toInt : Int).toNat := p95225
          have h95237 := Iy95221.rg h95231 28 rfl
          refine g_aload_n C dX12_unknownOf_75 rfl 0 rfl ?_
          refine g_callVV (rest := []) C mv_X12_343 [] (s_X12_findPeeled Iy95221 W95223) (h95231).1 (h95231).2 rfl rfl (by decide) (Nat.le_of_ble_eq_true rfl) (by decide) dX12_unknownOf_76 (fun Y95239 h95240 => ?_)
          obtain ⟨Iy95241, Xy95242, W95243⟩ := h95240
          have q95244 := Xy95242.keepA e95229 (by decide) rfl (v39_4.toInt.toNat)
          have q95245 := Xy95242.keepA e95230 (by decide) rfl (a1.toInt.toNat)
          have q95246 := Xy95242.keepF 28 (by decide)
          have Xz95247 : EM [28, 29, 30, 31, 32, 33, 34] a0 P Y95239 := EM.tr ha0 Xz95228 (Xy95242.mono (by decide))
          have e95248 := Xy95242.ref h95231 (by decide) e95229
          have e95249 := Xy95242.ref h95231 (by decide) e95230
          have h95250 := Xy95242.at h95231
          have h95251 := Xy95242.ar h95232
          have h95252 := Xy95242.ar h95233
          refine g_iload C dX12_unknownOf_79 5 rfl ?_
          refine g_iload C dX12_unknownOf_81 4 rfl ?_
          refine g_aload_n C dX12_unknownOf_83 rfl 0 rfl ?_
          refine g_getI C fi_X12_318 (by decide) (h95250).1 (h95250).2 dX12_unknownOf_84 ?_
          refine g_iconst (v := (-1)) C dX12_unknownOf_87 (by decide) ?_
          refine a_ixor C dX12_unknownOf_88 (fun z95253 => ?_)
          refine a_iand C dX12_unknownOf_89 (fun z95255 => ?_)
          refine a_ior C dX12_unknownOf_90 (fun z95257 => ?_)
          refine g_istore (lv' := [(6, .int z95257), (0, .ref a0), (1, .int a1), (3, .int v39_3), (4, .int v39_4), (5, .int v39_5), (7, .int v39_7)]) C dX12_unknownOf_91 (by decide) rfl ?_
          refine g_lv (lv' := [(0, .ref a0), (1, .int a1), (3, .int v39_3), (4, .int v39_4), (5, .int v39_5), (6, .int z95257), (7, .int v39_7)]) [1, 2, 3, 4, 5, 0, 6] rfl ?_
          exact J93 Y95239 z95257 Iy95241 Xz95247 W95243 (by omega) (by intro b910 e910; rw [e95248] at e910; cases e910; show 0 < (pI Y95239 b95190 (v39_4.toInt.toNat)).toInt; omega)
  refine g_bipush (v := 40) C dX12_unknownOf_0 (by decide) ?_
  refine g_iload_n C dX12_unknownOf_2 rfl 1 rfl ?_
  refine s_imul C dX12_unknownOf_3 (by show -2147483648 ≤ 40 * a1.toInt ∧ 40 * a1.toInt ≤ 2147483647; omega) (fun z95259 h95260 => ?_)
  have h95260 : z95259.toInt = 40 * a1.toInt := h95260
  refine g_iload_n C dX12_unknownOf_4 rfl 2 rfl ?_
  refine s_iadd C dX12_unknownOf_5 (by show -2147483648 ≤ z95259.toInt + a2.toInt ∧ z95259.toInt + a2.toInt ≤ 2147483647; omega) (fun z95261 h95262 => ?_)
  have h95262 : z95261.toInt = z95259.toInt + a2.toInt := h95262
  refine g_istore_n (lv' := [(3, .int z95261), (0, .ref a0), (1, .int a1), (2, .int a2)]) C dX12_unknownOf_6 rfl (by decide) rfl ?_
  refine g_aload_n C dX12_unknownOf_7 rfl 1 rfl ?_
  obtain ⟨b95263, e95264, h95265⟩ := I.fld (ha0) 22 13 800 rfl
  refine g_getR C fi_X12_75 rfl e95264 (ha0).1 (ha0).2 dX12_unknownOf_8 ?_
  refine g_iload_n C dX12_unknownOf_11 rfl 0 rfl ?_
  refine g_iald (j := (z95261.toInt.toNat)) C h95265.1 h95265.2.1 (ix_in h95265.2.2 (by omega)) dX12_unknownOf_12 ?_
  have h95266 := I.arr e95264 rfl (z95261.toInt.toNat)
  have hb := hb b95263 e95264
  rw [show (40 * a1.toInt + a2.toInt).toNat = z95261.toInt.toNat by omega] at hb
  refine g_topi (fun z95267 h95268 => ?_)
  have h95268 : z95267.toInt = (pI P b95263 (z95261.toInt.toNat)).toInt := congrArg Int32.toInt h95268
  refine g_istore (lv' := [(4, .int z95267), (3, .int z95261), (0, .ref a0), (1, .int a1), (2, .int a2)]) C dX12_unknownOf_13 (by decide) rfl ?_
  obtain ⟨b95269, e95270, h95271⟩ := I.fld (ha0) 10 13 2 rfl
  have ht := hW.told e95264 e95270 hb
  rw [show (pI P b95263 (z95261.toInt.toNat)).toInt = z95267.toInt by omega] at ht
  have h95272 := I.arr e95270 rfl (z95267.toInt.toNat)
  refine g_aload_n C dX12_unknownOf_15 rfl 2 rfl ?_
  refine g_callVV (rest := []) C mv_X12_336 [] (s_X12_leavesNone I hW) (ha0).1 (ha0).2 rfl rfl (by decide) (Nat.le_of_ble_eq_true rfl) (by decide) dX12_unknownOf_16 (fun Y95274 h95275 => ?_)
  obtain ⟨Iy95276, Xy95277, W95278⟩ := h95275
  have q95279 := Xy95277.keepA e95264 (by decide) rfl (z95261.toInt.toNat)
  have q95280 := Xy95277.keepA e95270 (by decide) rfl (z95267.toInt.toNat)
  have Xz95281 : EM [28, 29, 30, 31, 32, 33, 34] a0 P Y95274 := Xy95277.mono (by decide)
  have e95282 := Xy95277.ref ha0 (by decide) e95264
  have e95283 := Xy95277.ref ha0 (by decide) e95270
  have h95284 := Xy95277.at ha0
  have h95285 := Xy95277.ar h95265
  have h95286 := Xy95277.ar h95271
  refine g_aload_n C dX12_unknownOf_19 rfl 2 rfl ?_
  refine g_iload C dX12_unknownOf_20 0 rfl ?_
  refine g_aload_n C dX12_unknownOf_22 rfl 2 rfl ?_
  obtain ⟨b95287, e95288, h95289⟩ := Iy95276.fld (h95284) 21 13 800 rfl
  refine g_getR C fi_X12_72 rfl e95288 (h95284).1 (h95284).2 dX12_unknownOf_23 ?_
  refine g_iload_n C dX12_unknownOf_26 rfl 1 rfl ?_
  refine g_iald (j := (z95261.toInt.toNat)) C h95289.1 h95289.2.1 (ix_in h95289.2.2 (by omega)) dX12_unknownOf_27 ?_
  refine g_callVI (rest := []) C mv_X12_261 [.int z95267, .int (pI Y95274 b95287 (z95261.toInt.toNat))] (s_X12_setOf Iy95276 (by omega) (fun b9 e9 => by rw [e95283] at e9; cases e9; show 1 ≤ (pI Y95274 b95269 (z95267.toInt.toNat)).toInt ∧ (pI Y95274 b95269 (z95267.toInt.toNat)).toInt ≤ 16; omega) W95278) (h95284).1 (h95284).2 rfl rfl (by decide) (Nat.le_of_ble_eq_true rfl) (by decide) dX12_unknownOf_28 (fun r95290 Y95291 h95292 => ?_)
  obtain ⟨Iy95293, Xy95294, W95295, h95292⟩ := h95292
  have q95296 := Xy95294.keepA e95282 (by decide) rfl (z95261.toInt.toNat)
  have q95297 := Xy95294.keepA e95283 (by decide) rfl (z95267.toInt.toNat)
  have Xz95298 : EM [28, 29, 30, 31, 32, 33, 34] a0 P Y95291 := EM.tr ha0 Xz95281 (Xy95294.mono (by decide))
  have e95299 := Xy95294.ref h95284 (by decide) e95282
  have e95300 := Xy95294.ref h95284 (by decide) e95283
  have h95301 := Xy95294.at h95284
  have h95302 := Xy95294.ar h95285
  have h95303 := Xy95294.ar h95286
  have h95292 : True := h95292
  refine g_istore (lv' := [(5, .int r95290), (4, .int z95267), (3, .int z95261), (0, .ref a0), (1, .int a1), (2, .int a2)]) C dX12_unknownOf_31 (by decide) rfl ?_
  refine g_iconst (v := 0) C dX12_unknownOf_33 (by decide) ?_
  refine g_istore (lv' := [(6, .int 0), (5, .int r95290), (4, .int z95267), (3, .int z95261), (0, .ref a0), (1, .int a1), (2, .int a2)]) C dX12_unknownOf_34 (by decide) rfl ?_
  refine g_iconst (v := 0) C dX12_unknownOf_36 (by decide) ?_
  refine g_istore (lv' := [(7, .int 0), (6, .int 0), (5, .int r95290), (4, .int z95267), (3, .int z95261), (0, .ref a0), (1, .int a1), (2, .int a2)]) C dX12_unknownOf_37 (by decide) rfl ?_
  refine g_lv (lv' := [(0, .ref a0), (1, .int a1), (3, .int z95261), (4, .int z95267), (5, .int r95290), (6, .int 0), (7, .int 0)]) [5, 6, 4, 3, 2, 1, 0] rfl ?_
  exact J39 _ Y95291 z95261 z95267 r95290 0 0 (Nat.lt_succ_self _) Iy95293 Xz95298 W95295 (by omega) (by omega) (by decide) (by intro b910 e910; rw [e95300] at e910; cases e910; show 0 < (pI Y95291 b95269 (z95267.toInt.toNat)).toInt; omega)
theorem dX12_paper_34 : decode cX12_paper 34 = .ok (.iconst 0, 1) := by decide +kernel
theorem dX12_paper_35 : decode cX12_paper 35 = .ok (.ireturn, 1) := by decide +kernel
theorem dX12_paper_80 : decode cX12_paper 80 = .ok (.aload_n 0, 1) := by decide +kernel
theorem dX12_paper_81 : decode cX12_paper 81 = .ok (.getfield 75, 3) := by decide +kernel
theorem dX12_paper_84 : decode cX12_paper 84 = .ok (.iload 4, 2) := by decide +kernel
theorem dX12_paper_86 : decode cX12_paper 86 = .ok (.iaload, 1) := by decide +kernel
theorem dX12_paper_87 : decode cX12_paper 87 = .ok (.ireturn, 1) := by decide +kernel
theorem dX12_paper_88 : decode cX12_paper 88 = .ok (.aload_n 0, 1) := by decide +kernel
theorem dX12_paper_89 : decode cX12_paper 89 = .ok (.getfield 72, 3) := by decide +kernel
theorem dX12_paper_92 : decode cX12_paper 92 = .ok (.iload 4, 2) := by decide +kernel
theorem dX12_paper_94 : decode cX12_paper 94 = .ok (.iaload, 1) := by decide +kernel
theorem dX12_paper_95 : decode cX12_paper 95 = .ok (.ireturn, 1) := by decide +kernel
theorem dX12_paper_96 : decode cX12_paper 96 = .ok (.aload_n 0, 1) := by decide +kernel
theorem dX12_paper_97 : decode cX12_paper 97 = .ok (.getfield 78, 3) := by decide +kernel
theorem dX12_paper_100 : decode cX12_paper 100 = .ok (.iload 4, 2) := by decide +kernel
theorem dX12_paper_102 : decode cX12_paper 102 = .ok (.iaload, 1) := by decide +kernel
theorem dX12_paper_103 : decode cX12_paper 103 = .ok (.ireturn, 1) := by decide +kernel
theorem dX12_paper_104 : decode cX12_paper 104 = .ok (.aload_n 0, 1) := by decide +kernel
theorem dX12_paper_105 : decode cX12_paper 105 = .ok (.getfield 81, 3) := by decide +kernel
theorem dX12_paper_108 : decode cX12_paper 108 = .ok (.iload 4, 2) := by decide +kernel
theorem dX12_paper_110 : decode cX12_paper 110 = .ok (.iaload, 1) := by decide +kernel
theorem dX12_paper_111 : decode cX12_paper 111 = .ok (.ireturn, 1) := by decide +kernel
theorem dX12_paper_112 : decode cX12_paper 112 = .ok (.aload_n 0, 1) := by decide +kernel
theorem dX12_paper_113 : decode cX12_paper 113 = .ok (.getfield 84, 3) := by decide +kernel
theorem dX12_paper_116 : decode cX12_paper 116 = .ok (.iload 4, 2) := by decide +kernel
theorem dX12_paper_118 : decode cX12_paper 118 = .ok (.iaload, 1) := by decide +kernel
theorem dX12_paper_119 : decode cX12_paper 119 = .ok (.ireturn, 1) := by decide +kernel
theorem dX12_paper_130 : decode cX12_paper 130 = .ok (.iconst (-1), 1) := by decide +kernel
theorem dX12_paper_131 : decode cX12_paper 131 = .ok (.goto 9, 3) := by decide +kernel
theorem dX12_paper_140 : decode cX12_paper 140 = .ok (.ireturn, 1) := by decide +kernel
set_option maxHeartbeats 4000000 in
set_option maxRecDepth 100000 in
theorem s_X12_paper {P : PP} {a0 : Nat} {a1 : Int32} {a2 : Int32} {a3 : Int32} (I : IM P a0) (hW : MW P a0) : CtrI yX12_paper cX12_paper 5 (some Jvm.ClassFile.FieldType.int) ({ frames := 6, cells := 0, slots := 0, locals := 384 } : Room) 0 0 P [.ref a0, .int a1, .int a2, .int a3] (fun r P2 => IM P2 a0 ∧ EM [0, 28, 29, 30, 31, 32, 33, 34] a0 P P2 ∧ MW P2 a0 ∧ (True)) := by
  refine enI (lv := [(0, .ref a0), (1, .int a1), (2, .int a2), (3, .int a3)]) (by decide) (Nat.le_of_ble_eq_true rfl) rfl (fun E D cy C Ci0 ret => ?_)
  have ha0 := I.2.1
  have J24 : ∀ (v24_s0 : Int32), (0 ≤ v24_s0.toInt ∧ v24_s0.toInt ≤ 1) → (v24_s0.toInt ≠ 0 ∨ (0 ≤ a1.toInt ∧ a1.toInt ≤ 3 ∧ 0 ≤ a2.toInt ∧ a2.toInt ≤ 39)) → G E ({ frames := 6, cells := 0, slots := 0, locals := 384 } : Room) D cy 5 P 0 0 24 [(0, .ref a0), (1, .int a1), (2, .int a2), (3, .int a3)] [.int v24_s0, .ref a0] := by
    intro v24_s0 hv24_s0 rel24_0
    refine g_putI C fi_X12_1 rfl (ha0).1 (ha0).2 dX12_paper_24 ?_
    refine gqW (ks := [0]) (I.setI (rgOk.of rfl (by omega))) (EM.setI I (by decide)) (fun Y95366 Iy95367 Xy95368 w95369  => ?_)
    have w95369 : (pI Y95366 a0 0).toInt = v24_s0.toInt := w95369
    have W95370 := hW.keep I Xy95368 (by decide) (by decide) (by decide)
    have Xz95371 : EM [0, 28, 29, 30, 31, 32, 33, 34] a0 P Y95366 := Xy95368.mono (by decide)
    have h95372 := Xy95368.at ha0
    refine g_aload_n C dX12_paper_27 rfl 0 rfl ?_
    refine g_getI C fi_X12_1 (by decide) (h95372).1 (h95372).2 dX12_paper_28 ?_
    refine b_if_le C 36 dX12_paper_31 (by decide) (fun h95373 => ?_) (fun h95373 => ?_)
    · have h95373 : (pI Y95366 a0 0).toInt ≤ 0 := h95373
      have hz36 : (0 ≤ a1.toInt ∧ a1.toInt ≤ 3) ∧ (0 ≤ a2.toInt ∧ a2.toInt ≤ 39) := by omega
      refine g_bipush (v := 40) C dX12_paper_36 (by decide) ?_
      refine g_iload_n C dX12_paper_38 rfl 1 rfl ?_
      refine s_imul C dX12_paper_39 (by show -2147483648 ≤ 40 * a1.toInt ∧ 40 * a1.toInt ≤ 2147483647; omega) (fun z95374 h95375 => ?_)
      have h95375 : z95374.toInt = 40 * a1.toInt := h95375
      refine g_iload_n C dX12_paper_40 rfl 2 rfl ?_
      refine s_iadd C dX12_paper_41 (by show -2147483648 ≤ z95374.toInt + a2.toInt ∧ z95374.toInt + a2.toInt ≤ 2147483647; omega) (fun z95376 h95377 => ?_)
      have h95377 : z95376.toInt = z95374.toInt + a2.toInt := h95377
      refine g_istore (lv' := [(4, .int z95376), (0, .ref a0), (1, .int a1), (2, .int a2), (3, .int a3)]) C dX12_paper_42 (by decide) rfl ?_
      refine g_iload_n C dX12_paper_44 rfl 4 rfl ?_
      by_cases h95378 : a3.toInt < 0 ∨ 4 < a3.toInt
      · refine g_tableOut C 120 dX12_paper_45 h95378 (by decide) ?_
        refine g_aload_n C dX12_paper_120 rfl 1 rfl ?_
        obtain ⟨b95380, e95381, h95382⟩ := Iy95367.fld (h95372) 22 13 800 rfl
        refine g_getR C fi_X12_75 rfl e95381 (h95372).1 (h95372).2 dX12_paper_121 ?_
        refine g_iload C dX12_paper_124 0 rfl ?_
        refine g_iald (j := (z95376.toInt.toNat)) C h95382.1 h95382.2.1 (ix_in h95382.2.2 (by omega)) dX12_paper_126 ?_
        have h95383 := Iy95367.arr e95381 rfl (z95376.toInt.toNat)
        refine b_if_ge C 134 dX12_paper_127 (by decide) (fun h95384 => ?_) (fun h95384 => ?_)
        · have h95384 : 0 ≤ (pI Y95366 b95380 (z95376.toInt.toNat)).toInt := h95384
          refine g_aload_n C dX12_paper_134 rfl 1 rfl ?_
          refine g_iload_n C dX12_paper_135 rfl 2 rfl ?_
          refine g_iload_n C dX12_paper_136 rfl 3 rfl ?_
          refine g_callVI (rest := []) C mv_X12_358 [.int a1, .int a2] (s_X12_unknownOf Iy95367 (by omega) (by omega) W95370 (fun b9 e9 => by rw [e95381] at e9; cases e9; rw [show (40 * a1.toInt + a2.toInt).toNat = z95376.toInt.toNat by omega]; omega)) (h95372).1 (h95372).2 rfl rfl (by decide) (Nat.le_of_ble_eq_true rfl) (by decide) dX12_paper_137 (fun r95385 Y95386 h95387 => ?_)
          obtain ⟨Iy95388, Xy95389, W95390, h95387⟩ := h95387
          have q95391 := Xy95389.keepF 0 (by decide)
          have q95392 := Xy95389.keepA e95381 (by decide) rfl (z95376.toInt.toNat)
          have Xz95393 : EM [0, 28, 29, 30, 31, 32, 33, 34] a0 P Y95386 := EM.tr ha0 Xz95371 (Xy95389.mono (by decide))
          have e95394 := Xy95389.ref h95372 (by decide) e95381
          have h95395 := Xy95389.at h95372
          have h95396 := Xy95389.ar h95382
          have h95387 : 0 ≤ r95385.toInt ∧ r95385.toInt ≤ 20 := h95387
          exact ret _ _ _ _ _ _ dX12_paper_140 rfl (by decide) (by decide) ⟨Iy95388, Xz95393, W95390, trivial⟩
        · have h95384 : (pI Y95366 b95380 (z95376.toInt.toNat)).toInt < 0 := h95384
          refine g_iconst (v := (-1)) C dX12_paper_130 (by decide) ?_
          refine g_goto C 140 dX12_paper_131 (by decide) ?_
          exact ret _ _ _ _ _ _ dX12_paper_140 rfl (by decide) (by decide) ⟨Iy95367, Xz95371, W95370, trivial⟩
      · rcases (show a3.toInt = 0 ∨ a3.toInt = 1 ∨ a3.toInt = 2 ∨ a3.toInt = 3 ∨ a3.toInt = 4 by omega) with h95379 | h95379 | h95379 | h95379 | h95379
        · refine g_tableIn C 80 dX12_paper_45 (by omega) (by omega) (by rw [h95379]; rfl) (by decide) ?_
          refine g_aload_n C dX12_paper_80 rfl 1 rfl ?_
          obtain ⟨b95397, e95398, h95399⟩ := Iy95367.fld (h95372) 22 13 800 rfl
          refine g_getR C fi_X12_75 rfl e95398 (h95372).1 (h95372).2 dX12_paper_81 ?_
          refine g_iload C dX12_paper_84 0 rfl ?_
          refine g_iald (j := (z95376.toInt.toNat)) C h95399.1 h95399.2.1 (ix_in h95399.2.2 (by omega)) dX12_paper_86 ?_
          have h95400 := Iy95367.arr e95398 rfl (z95376.toInt.toNat)
          exact ret _ _ _ _ _ _ dX12_paper_87 rfl (by decide) (by decide) ⟨Iy95367, Xz95371, W95370, trivial⟩
        · refine g_tableIn C 88 dX12_paper_45 (by omega) (by omega) (by rw [h95379]; rfl) (by decide) ?_
          refine g_aload_n C dX12_paper_88 rfl 1 rfl ?_
          obtain ⟨b95401, e95402, h95403⟩ := Iy95367.fld (h95372) 21 13 800 rfl
          refine g_getR C fi_X12_72 rfl e95402 (h95372).1 (h95372).2 dX12_paper_89 ?_
          refine g_iload C dX12_paper_92 0 rfl ?_
          refine g_iald (j := (z95376.toInt.toNat)) C h95403.1 h95403.2.1 (ix_in h95403.2.2 (by omega)) dX12_paper_94 ?_
          exact ret _ _ _ _ _ _ dX12_paper_95 rfl (by decide) (by decide) ⟨Iy95367, Xz95371, W95370, trivial⟩
        · refine g_tableIn C 96 dX12_paper_45 (by omega) (by omega) (by rw [h95379]; rfl) (by decide) ?_
          refine g_aload_n C dX12_paper_96 rfl 1 rfl ?_
          obtain ⟨b95404, e95405, h95406⟩ := Iy95367.fld (h95372) 23 13 800 rfl
          refine g_getR C fi_X12_78 rfl e95405 (h95372).1 (h95372).2 dX12_paper_97 ?_
          refine g_iload C dX12_paper_100 0 rfl ?_
          refine g_iald (j := (z95376.toInt.toNat)) C h95406.1 h95406.2.1 (ix_in h95406.2.2 (by omega)) dX12_paper_102 ?_
          exact ret _ _ _ _ _ _ dX12_paper_103 rfl (by decide) (by decide) ⟨Iy95367, Xz95371, W95370, trivial⟩
        · refine g_tableIn C 104 dX12_paper_45 (by omega) (by omega) (by rw [h95379]; rfl) (by decide) ?_
          refine g_aload_n C dX12_paper_104 rfl 1 rfl ?_
          obtain ⟨b95407, e95408, h95409⟩ := Iy95367.fld (h95372) 24 13 800 rfl
          refine g_getR C fi_X12_81 rfl e95408 (h95372).1 (h95372).2 dX12_paper_105 ?_
          refine g_iload C dX12_paper_108 0 rfl ?_
          refine g_iald (j := (z95376.toInt.toNat)) C h95409.1 h95409.2.1 (ix_in h95409.2.2 (by omega)) dX12_paper_110 ?_
          exact ret _ _ _ _ _ _ dX12_paper_111 rfl (by decide) (by decide) ⟨Iy95367, Xz95371, W95370, trivial⟩
        · refine g_tableIn C 112 dX12_paper_45 (by omega) (by omega) (by rw [h95379]; rfl) (by decide) ?_
          refine g_aload_n C dX12_paper_112 rfl 1 rfl ?_
          obtain ⟨b95410, e95411, h95412⟩ := Iy95367.fld (h95372) 25 13 800 rfl
          refine g_getR C fi_X12_84 rfl e95411 (h95372).1 (h95372).2 dX12_paper_113 ?_
          refine g_iload C dX12_paper_116 0 rfl ?_
          refine g_iald (j := (z95376.toInt.toNat)) C h95412.1 h95412.2.1 (ix_in h95412.2.2 (by omega)) dX12_paper_118 ?_
          exact ret _ _ _ _ _ _ dX12_paper_119 rfl (by decide) (by decide) ⟨Iy95367, Xz95371, W95370, trivial⟩
    · have h95373 : 0 < (pI Y95366 a0 0).toInt := h95373
      refine g_iconst (v := 0) C dX12_paper_34 (by decide) ?_
      exact ret _ _ _ _ _ _ dX12_paper_35 rfl (by decide) (by decide) ⟨Iy95367, Xz95371, W95370, trivial⟩
  have J23 : G E ({ frames := 6, cells := 0, slots := 0, locals := 384 } : Room) D cy 5 P 0 0 23 [(0, .ref a0), (1, .int a1), (2, .int a2), (3, .int a3)] [.ref a0] := by
    refine g_iconst (v := 1) C dX12_paper_23 (by decide) ?_
    exact J24 1 (by decide) (by show 1 ≠ 0 ∨ (0 ≤ a1.toInt ∧ a1.toInt ≤ 3 ∧ 0 ≤ a2.toInt ∧ a2.toInt ≤ 39); omega)
  refine g_aload_n C dX12_paper_0 rfl 0 rfl ?_
  refine g_aload_n C dX12_paper_1 rfl 0 rfl ?_
  refine g_iload_n C dX12_paper_2 rfl 1 rfl ?_
  refine g_iload_n C dX12_paper_3 rfl 2 rfl ?_
  refine g_callVI (rest := [.ref a0]) C mv_X12_298 [.int a1, .int a2] (s_X12_isPaper I hW) (ha0).1 (ha0).2 rfl rfl (by decide) (Nat.le_of_ble_eq_true rfl) (by decide) dX12_paper_4 (fun r95413 Y95414 h95415 => ?_)
  obtain ⟨rfl, h95415⟩ := h95415
  obtain ⟨h95415, hi95416, hi95417⟩ := h95415
  have hi95416 : r95413.toInt = 0 ∨ (((0 : Int) ≤ a1.toInt ∧ a1.toInt ≤ (3 : Int)) ∧ ((0 : Int) ≤ a2.toInt ∧ a2.toInt ≤ (39 : Int))) := hi95416
  have h95415 : 0 ≤ r95413.toInt ∧ r95413.toInt ≤ 1 := h95415
  refine b_if_eq C 23 dX12_paper_7 (by decide) (fun h95418 => ?_) (fun h95418 => ?_)
  · have h95418 : r95413.toInt = 0 := congrArg Int32.toInt h95418
    clear hi95416
    exact J23 
  · have h95418 : r95413.toInt ≠ 0 := ti_ne h95418
    replace hi95416 := hi95416.resolve_left (by omega)
    obtain ⟨b95419, e95420, h95421⟩ := I.fld (ha0) 20 13 20 rfl
    have hi95417 := (hi95417.resolve_left (by omega)) b95419 e95420
    have hi95417 : a2.toInt < (pI P b95419 (a1.toInt.toNat)).toInt ∧ 0 ≤ a2.toInt := hi95417
    have h95422 := I.arr e95420 rfl (a1.toInt.toNat)
    refine g_iload_n C dX12_paper_10 rfl 3 rfl ?_
    refine g_iconst (v := 0) C dX12_paper_11 (by decide) ?_
    refine g_iconst (v := 5) C dX12_paper_12 (by decide) ?_
    refine g_callSI (b := 0) (ci := 0) (rest := [.ref a0]) C ms_X12_178 [.int a3, .int 0, .int 5] (s_X12_within I.1) rfl rfl (by decide) (Nat.le_of_ble_eq_true rfl) (by decide) dX12_paper_13 (fun r95423 Y95424 h95425 => ?_)
    obtain ⟨rfl, h95425⟩ := h95425
    obtain ⟨h95425, hi95426⟩ := h95425
    have hi95426 : r95423.toInt = 0 ∨ (0 ≤ a3.toInt ∧ a3.toInt ≤ 5) := hi95426
    have h95425 : 0 ≤ r95423.toInt ∧ r95423.toInt ≤ 1 := h95425
    refine b_if_eq C 23 dX12_paper_16 (by decide) (fun h95427 => ?_) (fun h95427 => ?_)
    · have h95427 : r95423.toInt = 0 := congrArg Int32.toInt h95427
      clear hi95426
      exact J23 
    · have h95427 : r95423.toInt ≠ 0 := ti_ne h95427
      replace hi95426 := hi95426.resolve_left (by omega)
      refine g_iconst (v := 0) C dX12_paper_19 (by decide) ?_
      refine g_goto C 24 dX12_paper_20 (by decide) ?_
      exact J24 0 (by decide) (by show 0 ≠ 0 ∨ (0 ≤ a1.toInt ∧ a1.toInt ≤ 3 ∧ 0 ≤ a2.toInt ∧ a2.toInt ≤ 39); omega)
theorem dX12_peels_0 : decode cX12_peels 0 = .ok (.aload_n 0, 1) := by decide +kernel
theorem dX12_peels_1 : decode cX12_peels 1 = .ok (.iconst 0, 1) := by decide +kernel
theorem dX12_peels_2 : decode cX12_peels 2 = .ok (.putfield 1, 3) := by decide +kernel
theorem dX12_peels_5 : decode cX12_peels 5 = .ok (.aload_n 0, 1) := by decide +kernel
theorem dX12_peels_6 : decode cX12_peels 6 = .ok (.iload_n 1, 1) := by decide +kernel
theorem dX12_peels_7 : decode cX12_peels 7 = .ok (.iload_n 2, 1) := by decide +kernel
theorem dX12_peels_8 : decode cX12_peels 8 = .ok (.iload_n 3, 1) := by decide +kernel
theorem dX12_peels_9 : decode cX12_peels 9 = .ok (.invokevirtual 333, 3) := by decide +kernel
theorem dX12_peels_12 : decode cX12_peels 12 = .ok (.ifCond .eq 13, 3) := by decide +kernel
theorem dX12_peels_15 : decode cX12_peels 15 = .ok (.iload 4, 2) := by decide +kernel
theorem dX12_peels_17 : decode cX12_peels 17 = .ok (.iconst 0, 1) := by decide +kernel
theorem dX12_peels_18 : decode cX12_peels 18 = .ok (.iconst 3, 1) := by decide +kernel
theorem dX12_peels_19 : decode cX12_peels 19 = .ok (.invokestatic 178, 3) := by decide +kernel
theorem dX12_peels_22 : decode cX12_peels 22 = .ok (.ifCond .ne 5, 3) := by decide +kernel
theorem dX12_peels_25 : decode cX12_peels 25 = .ok (.iconst (-1), 1) := by decide +kernel
theorem dX12_peels_26 : decode cX12_peels 26 = .ok (.ireturn, 1) := by decide +kernel
theorem dX12_peels_27 : decode cX12_peels 27 = .ok (.aload_n 0, 1) := by decide +kernel
theorem dX12_peels_28 : decode cX12_peels 28 = .ok (.invokevirtual 336, 3) := by decide +kernel
theorem dX12_peels_31 : decode cX12_peels 31 = .ok (.aload_n 0, 1) := by decide +kernel
theorem dX12_peels_32 : decode cX12_peels 32 = .ok (.iload_n 1, 1) := by decide +kernel
theorem dX12_peels_33 : decode cX12_peels 33 = .ok (.iload_n 2, 1) := by decide +kernel
theorem dX12_peels_34 : decode cX12_peels 34 = .ok (.iload_n 3, 1) := by decide +kernel
theorem dX12_peels_35 : decode cX12_peels 35 = .ok (.aload_n 0, 1) := by decide +kernel
theorem dX12_peels_36 : decode cX12_peels 36 = .ok (.getfield 69, 3) := by decide +kernel
theorem dX12_peels_39 : decode cX12_peels 39 = .ok (.iload_n 1, 1) := by decide +kernel
theorem dX12_peels_40 : decode cX12_peels 40 = .ok (.iaload, 1) := by decide +kernel
theorem dX12_peels_41 : decode cX12_peels 41 = .ok (.invokevirtual 339, 3) := by decide +kernel
theorem dX12_peels_44 : decode cX12_peels 44 = .ok (.aload_n 0, 1) := by decide +kernel
theorem dX12_peels_45 : decode cX12_peels 45 = .ok (.invokevirtual 343, 3) := by decide +kernel
theorem dX12_peels_48 : decode cX12_peels 48 = .ok (.iload 4, 2) := by decide +kernel
theorem dX12_peels_50 : decode cX12_peels 50 = .ok (.ifCond .ne 8, 3) := by decide +kernel
theorem dX12_peels_53 : decode cX12_peels 53 = .ok (.aload_n 0, 1) := by decide +kernel
theorem dX12_peels_54 : decode cX12_peels 54 = .ok (.getfield 318, 3) := by decide +kernel
theorem dX12_peels_57 : decode cX12_peels 57 = .ok (.ireturn, 1) := by decide +kernel
theorem dX12_peels_58 : decode cX12_peels 58 = .ok (.iconst 0, 1) := by decide +kernel
theorem dX12_peels_59 : decode cX12_peels 59 = .ok (.istore 5, 2) := by decide +kernel
theorem dX12_peels_61 : decode cX12_peels 61 = .ok (.iconst 0, 1) := by decide +kernel
theorem dX12_peels_62 : decode cX12_peels 62 = .ok (.istore 6, 2) := by decide +kernel
theorem dX12_peels_64 : decode cX12_peels 64 = .ok (.iload 6, 2) := by decide +kernel
theorem dX12_peels_66 : decode cX12_peels 66 = .ok (.aload_n 0, 1) := by decide +kernel
theorem dX12_peels_67 : decode cX12_peels 67 = .ok (.getfield 305, 3) := by decide +kernel
theorem dX12_peels_70 : decode cX12_peels 70 = .ok (.if_icmp .ge 96, 3) := by decide +kernel
theorem dX12_peels_73 : decode cX12_peels 73 = .ok (.aload_n 0, 1) := by decide +kernel
theorem dX12_peels_74 : decode cX12_peels 74 = .ok (.getfield 91, 3) := by decide +kernel
theorem dX12_peels_77 : decode cX12_peels 77 = .ok (.iload 6, 2) := by decide +kernel
theorem dX12_peels_79 : decode cX12_peels 79 = .ok (.iaload, 1) := by decide +kernel
theorem dX12_peels_80 : decode cX12_peels 80 = .ok (.aload_n 0, 1) := by decide +kernel
theorem dX12_peels_81 : decode cX12_peels 81 = .ok (.getfield 318, 3) := by decide +kernel
theorem dX12_peels_84 : decode cX12_peels 84 = .ok (.iconst (-1), 1) := by decide +kernel
theorem dX12_peels_85 : decode cX12_peels 85 = .ok (.ixor, 1) := by decide +kernel
theorem dX12_peels_86 : decode cX12_peels 86 = .ok (.iand, 1) := by decide +kernel
theorem dX12_peels_87 : decode cX12_peels 87 = .ok (.invokestatic 264, 3) := by decide +kernel
theorem dX12_peels_90 : decode cX12_peels 90 = .ok (.istore 7, 2) := by decide +kernel
theorem dX12_peels_92 : decode cX12_peels 92 = .ok (.iload 5, 2) := by decide +kernel
theorem dX12_peels_94 : decode cX12_peels 94 = .ok (.iload 4, 2) := by decide +kernel
theorem dX12_peels_96 : decode cX12_peels 96 = .ok (.iconst 1, 1) := by decide +kernel
theorem dX12_peels_97 : decode cX12_peels 97 = .ok (.if_icmp .ne 25, 3) := by decide +kernel
theorem dX12_peels_100 : decode cX12_peels 100 = .ok (.iload 7, 2) := by decide +kernel
theorem dX12_peels_102 : decode cX12_peels 102 = .ok (.ifCond .ne 16, 3) := by decide +kernel
theorem dX12_peels_105 : decode cX12_peels 105 = .ok (.aload_n 0, 1) := by decide +kernel
theorem dX12_peels_106 : decode cX12_peels 106 = .ok (.iload 6, 2) := by decide +kernel
theorem dX12_peels_108 : decode cX12_peels 108 = .ok (.invokevirtual 321, 3) := by decide +kernel
theorem dX12_peels_111 : decode cX12_peels 111 = .ok (.ifCond .eq 7, 3) := by decide +kernel
theorem dX12_peels_114 : decode cX12_peels 114 = .ok (.iconst 1, 1) := by decide +kernel
theorem dX12_peels_115 : decode cX12_peels 115 = .ok (.goto 42, 3) := by decide +kernel
theorem dX12_peels_118 : decode cX12_peels 118 = .ok (.iconst 0, 1) := by decide +kernel
theorem dX12_peels_119 : decode cX12_peels 119 = .ok (.goto 38, 3) := by decide +kernel
theorem dX12_peels_122 : decode cX12_peels 122 = .ok (.iload 4, 2) := by decide +kernel
theorem dX12_peels_124 : decode cX12_peels 124 = .ok (.iconst 2, 1) := by decide +kernel
theorem dX12_peels_125 : decode cX12_peels 125 = .ok (.if_icmp .ne 21, 3) := by decide +kernel
theorem dX12_peels_128 : decode cX12_peels 128 = .ok (.aload_n 0, 1) := by decide +kernel
theorem dX12_peels_129 : decode cX12_peels 129 = .ok (.getfield 91, 3) := by decide +kernel
theorem dX12_peels_132 : decode cX12_peels 132 = .ok (.iload 6, 2) := by decide +kernel
theorem dX12_peels_134 : decode cX12_peels 134 = .ok (.iaload, 1) := by decide +kernel
theorem dX12_peels_135 : decode cX12_peels 135 = .ok (.aload_n 0, 1) := by decide +kernel
theorem dX12_peels_136 : decode cX12_peels 136 = .ok (.getfield 318, 3) := by decide +kernel
theorem dX12_peels_139 : decode cX12_peels 139 = .ok (.iand, 1) := by decide +kernel
theorem dX12_peels_140 : decode cX12_peels 140 = .ok (.invokestatic 264, 3) := by decide +kernel
theorem dX12_peels_143 : decode cX12_peels 143 = .ok (.goto 14, 3) := by decide +kernel
theorem dX12_peels_146 : decode cX12_peels 146 = .ok (.iload 7, 2) := by decide +kernel
theorem dX12_peels_148 : decode cX12_peels 148 = .ok (.iconst 1, 1) := by decide +kernel
theorem dX12_peels_149 : decode cX12_peels 149 = .ok (.if_icmp .le 7, 3) := by decide +kernel
theorem dX12_peels_152 : decode cX12_peels 152 = .ok (.iconst 1, 1) := by decide +kernel
theorem dX12_peels_153 : decode cX12_peels 153 = .ok (.goto 4, 3) := by decide +kernel
theorem dX12_peels_156 : decode cX12_peels 156 = .ok (.iconst 0, 1) := by decide +kernel
theorem dX12_peels_157 : decode cX12_peels 157 = .ok (.iadd, 1) := by decide +kernel
theorem dX12_peels_158 : decode cX12_peels 158 = .ok (.istore 5, 2) := by decide +kernel
theorem dX12_peels_160 : decode cX12_peels 160 = .ok (.iinc 6 1, 3) := by decide +kernel
theorem dX12_peels_163 : decode cX12_peels 163 = .ok (.goto (-99), 3) := by decide +kernel
theorem dX12_peels_166 : decode cX12_peels 166 = .ok (.iload 4, 2) := by decide +kernel
theorem dX12_peels_168 : decode cX12_peels 168 = .ok (.iconst 2, 1) := by decide +kernel
theorem dX12_peels_169 : decode cX12_peels 169 = .ok (.if_icmp .ne 16, 3) := by decide +kernel
theorem dX12_peels_172 : decode cX12_peels 172 = .ok (.iload 5, 2) := by decide +kernel
theorem dX12_peels_174 : decode cX12_peels 174 = .ok (.aload_n 0, 1) := by decide +kernel
theorem dX12_peels_175 : decode cX12_peels 175 = .ok (.getfield 318, 3) := by decide +kernel
theorem dX12_peels_178 : decode cX12_peels 178 = .ok (.invokestatic 264, 3) := by decide +kernel
theorem dX12_peels_181 : decode cX12_peels 181 = .ok (.isub, 1) := by decide +kernel
theorem dX12_peels_182 : decode cX12_peels 182 = .ok (.goto 5, 3) := by decide +kernel
theorem dX12_peels_185 : decode cX12_peels 185 = .ok (.iload 5, 2) := by decide +kernel
theorem dX12_peels_187 : decode cX12_peels 187 = .ok (.ireturn, 1) := by decide +kernel
set_option maxHeartbeats 4000000 in
set_option maxRecDepth 100000 in
theorem s_X12_peels {P : PP} {a0 : Nat} {a1 : Int32} {a2 : Int32} {a3 : Int32} {a4 : Int32} (I : IM P a0) (hW : MW P a0) : CtrI yX12_peels cX12_peels 8 (some Jvm.ClassFile.FieldType.int) ({ frames := 5, cells := 0, slots := 0, locals := 320 } : Room) 0 0 P [.ref a0, .int a1, .int a2, .int a3, .int a4] (fun r P2 => IM P2 a0 ∧ EM [0, 28, 29, 30, 31, 32, 33, 34] a0 P P2 ∧ MW P2 a0 ∧ (True)) := by
  refine enI (lv := [(0, .ref a0), (1, .int a1), (2, .int a2), (3, .int a3), (4, .int a4)]) (by decide) (Nat.le_of_ble_eq_true rfl) rfl (fun E D cy C Ci0 ret => ?_)
  have ha0 := I.2.1
  have J64 : ∀ (n64 : Nat) (P64 : PP) (v64_5 : Int32) (v64_6 : Int32), (44 - v64_6.toInt).toNat < n64 → (IM P64 a0) → (EM [0, 28, 29, 30, 31, 32, 33, 34] a0 P P64) → (MW P64 a0) → (1 ≤ a4.toInt ∧ a4.toInt ≤ 3) → (0 ≤ v64_6.toInt ∧ v64_6.toInt ≤ 44) → (0 ≤ (pI P64 a0 0).toInt ∧ (pI P64 a0 0).toInt ≤ 0) → (0 ≤ (pI P64 a0 28).toInt ∧ (pI P64 a0 28).toInt ≤ 44) → (∀ b, pR P64 a0 10 = some b → 1 ≤ (pI P64 b (a2.toInt.toNat)).toInt ∧ (pI P64 b (a2.toInt.toNat)).toInt ≤ 16) → G E ({ frames := 5, cells := 0, slots := 0, locals := 320 } : Room) D cy 8 P64 0 0 64 [(0, .ref a0), (4, .int a4), (5, .int v64_5), (6, .int v64_6)] [] := by
    intro n64
    induction n64 with
    | zero => intro P64 v64_5 v64_6 hm64 I64 X64 W64 hv64_4 hv64_6 hq64_0 hq64_1 hq64_2; omega
    | succ n64 ih64 =>
      intro P64 v64_5 v64_6 hm64 I64 X64 W64 hv64_4 hv64_6 hq64_0 hq64_1 hq64_2
      have h96355 := X64.at ha0
      obtain ⟨b96356, e96357, h96358⟩ := I64.fld (h96355) 10 13 2 rfl
      have hq64_2 := hq64_2 b96356 e96357
      have J157 : ∀ (v157_s0 : Int32), (1 ≤ a4.toInt ∧ a4.toInt ≤ 3) → (0 ≤ v64_6.toInt ∧ v64_6.toInt ≤ 43) → (0 ≤ v157_s0.toInt ∧ v157_s0.toInt ≤ 20) → (0 ≤ (pI P64 a0 0).toInt ∧ (pI P64 a0 0).toInt ≤ 0) → (1 ≤ (pI P64 a0 28).toInt ∧ (pI P64 a0 28).toInt ≤ 44) → (∀ b, pR P64 a0 10 = some b → 1 ≤ (pI P64 b (a2.toInt.toNat)).toInt ∧ (pI P64 b (a2.toInt.toNat)).toInt ≤ 16) → G E ({ frames := 5, cells := 0, slots := 0, locals := 320 } : Room) D cy 8 P64 0 0 157 [(0, .ref a0), (4, .int a4), (6, .int v64_6)] [.int v157_s0, .int v64_5] := by
        intro v157_s0 hv157_4 hv157_6 hv157_s0 hq157_0 hq157_1 hq157_2
        have h96359 := X64.at ha0
        obtain ⟨b96360, e96361, h96362⟩ := I64.fld (h96359) 10 13 2 rfl
        have hq157_2 := hq157_2 b96360 e96361
        refine a_iadd C dX12_peels_157 (fun z96363 => ?_)
        refine g_istore (lv' := [(5, .int z96363), (0, .ref a0), (4, .int a4), (6, .int v64_6)]) C dX12_peels_158 (by decide) rfl ?_
        refine s_iinc (lv0 := [(5, .int z96363), (0, .ref a0), (4, .int a4)]) (m := 1) C dX12_peels_160 3 rfl (by decide) rfl (by decide) (by omega) (fun z96365 h96366 => ?_)
        have h96366 : z96365.toInt = v64_6.toInt + 1 := h96366
        refine g_goto C 64 dX12_peels_163 (by decide) ?_
        refine g_lv (lv' := [(0, .ref a0), (4, .int a4), (5, .int z96363), (6, .int z96365)]) [2, 3, 1, 0] rfl ?_
        exact ih64 P64 z96363 z96365 (by omega) I64 X64 W64 (by omega) (by omega) (by omega) (by omega) (fun b9 e9 => by rw [e96361] at e9; cases e9; omega)
      have J118 : (1 ≤ a4.toInt ∧ a4.toInt ≤ 1) → (0 ≤ v64_6.toInt ∧ v64_6.toInt ≤ 43) → (0 ≤ (pI P64 a0 0).toInt ∧ (pI P64 a0 0).toInt ≤ 0) → (1 ≤ (pI P64 a0 28).toInt ∧ (pI P64 a0 28).toInt ≤ 44) → (∀ b, pR P64 a0 10 = some b → 1 ≤ (pI P64 b (a2.toInt.toNat)).toInt ∧ (pI P64 b (a2.toInt.toNat)).toInt ≤ 16) → G E ({ frames := 5, cells := 0, slots := 0, locals := 320 } : Room) D cy 8 P64 0 0 118 [(0, .ref a0), (4, .int a4), (6, .int v64_6)] [.int v64_5] := by
        intro hv118_4 hv118_6 hq118_0 hq118_1 hq118_2
        have h96367 := X64.at ha0
        obtain ⟨b96368, e96369, h96370⟩ := I64.fld (h96367) 10 13 2 rfl
        have hq118_2 := hq118_2 b96368 e96369
        refine g_iconst (v := 0) C dX12_peels_118 (by decide) ?_
        refine g_goto C 157 dX12_peels_119 (by decide) ?_
        exact J157 0 (by omega) (by omega) (by decide) (by omega) (by omega) (fun b9 e9 => by rw [e96369] at e9; cases e9; omega)
      refine g_iload C dX12_peels_64 3 rfl ?_
      refine g_aload_n C dX12_peels_66 rfl 0 rfl ?_
      refine g_getI C fi_X12_305 (by decide) (h96355).1 (h96355).2 dX12_peels_67 ?_
      refine b_icmp_ge C 166 dX12_peels_70 (by decide) (fun h96371 => ?_) (fun h96371 => ?_)
      · have h96371 : (pI P64 a0 28).toInt ≤ v64_6.toInt := h96371
        refine g_iload C dX12_peels_166 1 rfl ?_
        refine g_iconst (v := 2) C dX12_peels_168 (by decide) ?_
        refine b_icmp_ne C 185 dX12_peels_169 (by decide) (fun h96372 => ?_) (fun h96372 => ?_)
        · have h96372 : a4.toInt ≠ 2 := ti_ne h96372
          refine g_iload C dX12_peels_185 2 rfl ?_
          exact ret _ _ _ _ _ _ dX12_peels_187 rfl (by decide) (by decide) ⟨I64, X64, W64, trivial⟩
        · have h96372 : a4.toInt = 2 := congrArg Int32.toInt h96372
          refine g_iload C dX12_peels_172 2 rfl ?_
          refine g_aload_n C dX12_peels_174 rfl 0 rfl ?_
          refine g_getI C fi_X12_318 (by decide) (h96355).1 (h96355).2 dX12_peels_175 ?_
          refine g_callSI (b := 0) (ci := 0) (rest := [.int v64_5]) C ms_X12_264 [.int (pI P64 a0 33)] (s_X12_bits I64.1) rfl rfl (by decide) (Nat.le_of_ble_eq_true rfl) (by decide) dX12_peels_178 (fun r96373 Y96374 h96375 => ?_)
          obtain ⟨rfl, h96375⟩ := h96375
          obtain ⟨h96375, hi96376⟩ := h96375
          have hi96376 : r96373.toInt = 0 ∨ (pI P64 a0 33).toInt ≠ 0 := hi96376
          have h96375 : 0 ≤ r96373.toInt ∧ r96373.toInt ≤ 20 := h96375
          refine a_isub C dX12_peels_181 (fun z96377 => ?_)
          refine g_goto C 187 dX12_peels_182 (by decide) ?_
          exact ret _ _ _ _ _ _ dX12_peels_187 rfl (by decide) (by decide) ⟨I64, X64, W64, trivial⟩
      · have h96371 : v64_6.toInt < (pI P64 a0 28).toInt := h96371
        refine g_aload_n C dX12_peels_73 rfl 0 rfl ?_
        obtain ⟨b96379, e96380, h96381⟩ := I64.fld (h96355) 29 13 64 rfl
        refine g_getR C fi_X12_91 rfl e96380 (h96355).1 (h96355).2 dX12_peels_74 ?_
        refine g_iload C dX12_peels_77 3 rfl ?_
        refine g_iald (j := (v64_6.toInt.toNat)) C h96381.1 h96381.2.1 (ix_in h96381.2.2 (by omega)) dX12_peels_79 ?_
        refine g_aload_n C dX12_peels_80 rfl 0 rfl ?_
        refine g_getI C fi_X12_318 (by decide) (h96355).1 (h96355).2 dX12_peels_81 ?_
        refine g_iconst (v := (-1)) C dX12_peels_84 (by decide) ?_
        refine a_ixor C dX12_peels_85 (fun z96382 => ?_)
        refine a_iand C dX12_peels_86 (fun z96384 => ?_)
        refine g_callSI (b := 0) (ci := 0) (rest := []) C ms_X12_264 [.int z96384] (s_X12_bits I64.1) rfl rfl (by decide) (Nat.le_of_ble_eq_true rfl) (by decide) dX12_peels_87 (fun r96386 Y96387 h96388 => ?_)
        obtain ⟨rfl, h96388⟩ := h96388
        obtain ⟨h96388, hi96389⟩ := h96388
        have hi96389 : r96386.toInt = 0 ∨ z96384.toInt ≠ 0 := hi96389
        have h96388 : 0 ≤ r96386.toInt ∧ r96386.toInt ≤ 20 := h96388
        refine g_istore (lv' := [(7, .int r96386), (0, .ref a0), (4, .int a4), (5, .int v64_5), (6, .int v64_6)]) C dX12_peels_90 (by decide) rfl ?_
        refine g_iload C dX12_peels_92 3 rfl ?_
        refine g_iload C dX12_peels_94 2 rfl ?_
        refine g_iconst (v := 1) C dX12_peels_96 (by decide) ?_
        refine b_icmp_ne C 122 dX12_peels_97 (by decide) (fun h96390 => ?_) (fun h96390 => ?_)
        · have h96390 : a4.toInt ≠ 1 := ti_ne h96390
          refine g_iload C dX12_peels_122 2 rfl ?_
          refine g_iconst (v := 2) C dX12_peels_124 (by decide) ?_
          refine b_icmp_ne C 146 dX12_peels_125 (by decide) (fun h96391 => ?_) (fun h96391 => ?_)
          · have h96391 : a4.toInt ≠ 2 := ti_ne h96391
            refine g_iload C dX12_peels_146 0 rfl ?_
            refine g_iconst (v := 1) C dX12_peels_148 (by decide) ?_
            refine b_icmp_le C 156 dX12_peels_149 (by decide) (fun h96392 => ?_) (fun h96392 => ?_)
            · have h96392 : r96386.toInt ≤ 1 := h96392
              refine g_iconst (v := 0) C dX12_peels_156 (by decide) ?_
              refine g_lv (lv' := [(0, .ref a0), (4, .int a4), (6, .int v64_6)]) [1, 2, 4] rfl ?_
              exact J157 0 (by omega) (by omega) (by decide) (by omega) (by omega) (fun b9 e9 => by rw [e96357] at e9; cases e9; omega)
            · have h96392 : 1 < r96386.toInt := h96392
              refine g_iconst (v := 1) C dX12_peels_152 (by decide) ?_
              refine g_goto C 157 dX12_peels_153 (by decide) ?_
              refine g_lv (lv' := [(0, .ref a0), (4, .int a4), (6, .int v64_6)]) [1, 2, 4] rfl ?_
              exact J157 1 (by omega) (by omega) (by decide) (by omega) (by omega) (fun b9 e9 => by rw [e96357] at e9; cases e9; omega)
          · have h96391 : a4.toInt = 2 := congrArg Int32.toInt h96391
            refine g_aload_n C dX12_peels_128 rfl 1 rfl ?_
            refine g_getR C fi_X12_91 rfl e96380 (h96355).1 (h96355).2 dX12_peels_129 ?_
            refine g_iload C dX12_peels_132 4 rfl ?_
            refine g_iald (j := (v64_6.toInt.toNat)) C h96381.1 h96381.2.1 (ix_in h96381.2.2 (by omega)) dX12_peels_134 ?_
            refine g_aload_n C dX12_peels_135 rfl 1 rfl ?_
            refine g_getI C fi_X12_318 (by decide) (h96355).1 (h96355).2 dX12_peels_136 ?_
            refine a_iand C dX12_peels_139 (fun z96393 => ?_)
            refine g_callSI (b := 0) (ci := 0) (rest := [.int v64_5]) C ms_X12_264 [.int z96393] (s_X12_bits I64.1) rfl rfl (by decide) (Nat.le_of_ble_eq_true rfl) (by decide) dX12_peels_140 (fun r96395 Y96396 h96397 => ?_)
            obtain ⟨rfl, h96397⟩ := h96397
            obtain ⟨h96397, hi96398⟩ := h96397
            have hi96398 : r96395.toInt = 0 ∨ z96393.toInt ≠ 0 := hi96398
            have h96397 : 0 ≤ r96395.toInt ∧ r96395.toInt ≤ 20 := h96397
            refine g_goto C 157 dX12_peels_143 (by decide) ?_
            refine g_lv (lv' := [(0, .ref a0), (4, .int a4), (6, .int v64_6)]) [1, 2, 4] rfl ?_
            exact J157 r96395 (by omega) (by omega) (by omega) (by omega) (by omega) (fun b9 e9 => by rw [e96357] at e9; cases e9; omega)
        · have h96390 : a4.toInt = 1 := congrArg Int32.toInt h96390
          refine g_iload C dX12_peels_100 0 rfl ?_
          refine b_if_ne C 118 dX12_peels_102 (by decide) (fun h96399 => ?_) (fun h96399 => ?_)
          · have h96399 : r96386.toInt ≠ 0 := ti_ne h96399
            refine g_lv (lv' := [(0, .ref a0), (4, .int a4), (6, .int v64_6)]) [1, 2, 4] rfl ?_
            exact J118 (by omega) (by omega) (by omega) (by omega) (fun b9 e9 => by rw [e96357] at e9; cases e9; omega)
          · have h96399 : r96386.toInt = 0 := congrArg Int32.toInt h96399
            refine g_aload_n C dX12_peels_105 rfl 1 rfl ?_
            refine g_iload C dX12_peels_106 4 rfl ?_
            refine g_callVI (rest := [.int v64_5]) C mv_X12_321 [.int v64_6] (s_X12_comesTo I64 (by omega) W64) (h96355).1 (h96355).2 rfl rfl (by decide) (Nat.le_of_ble_eq_true rfl) (by decide) dX12_peels_108 (fun r96400 Y96401 h96402 => ?_)
            obtain ⟨rfl, h96402⟩ := h96402
            have h96402 : True := h96402
            have u96404 := ti_rng r96400
            refine b_if_eq C 118 dX12_peels_111 (by decide) (fun h96403 => ?_) (fun h96403 => ?_)
            · have h96403 : r96400.toInt = 0 := congrArg Int32.toInt h96403
              refine g_lv (lv' := [(0, .ref a0), (4, .int a4), (6, .int v64_6)]) [1, 2, 4] rfl ?_
              exact J118 (by omega) (by omega) (by omega) (by omega) (fun b9 e9 => by rw [e96357] at e9; cases e9; omega)
            · have h96403 : r96400.toInt ≠ 0 := ti_ne h96403
              refine g_iconst (v := 1) C dX12_peels_114 (by decide) ?_
              refine g_goto C 157 dX12_peels_115 (by decide) ?_
              refine g_lv (lv' := [(0, .ref a0), (4, .int a4), (6, .int v64_6)]) [1, 2, 4] rfl ?_
              exact J157 1 (by omega) (by omega) (by decide) (by omega) (by omega) (fun b9 e9 => by rw [e96357] at e9; cases e9; omega)
  have J25 : ∀ (P25 : PP), (IM P25 a0) → (EM [0, 28, 29, 30, 31, 32, 33, 34] a0 P P25) → (MW P25 a0) → (0 ≤ (pI P25 a0 0).toInt ∧ (pI P25 a0 0).toInt ≤ 0) → G E ({ frames := 5, cells := 0, slots := 0, locals := 320 } : Room) D cy 8 P25 0 0 25 [] [] := by
    intro P25 I25 X25 W25 hq25_0
    have h96405 := X25.at ha0
    refine g_iconst (v := (-1)) C dX12_peels_25 (by decide) ?_
    exact ret _ _ _ _ _ _ dX12_peels_26 rfl (by decide) (by decide) ⟨I25, X25, W25, trivial⟩
  refine g_aload_n C dX12_peels_0 rfl 0 rfl ?_
  refine g_iconst (v := 0) C dX12_peels_1 (by decide) ?_
  refine g_putI C fi_X12_1 rfl (ha0).1 (ha0).2 dX12_peels_2 ?_
  refine gqW (ks := [0]) (I.setI (rgOk.of rfl (by decide))) (EM.setI I (by decide)) (fun Y96406 Iy96407 Xy96408 w96409  => ?_)
  have w96409 : (pI Y96406 a0 0).toInt = 0 := w96409
  have W96410 := hW.keep I Xy96408 (by decide) (by decide) (by decide)
  have Xz96411 : EM [0, 28, 29, 30, 31, 32, 33, 34] a0 P Y96406 := Xy96408.mono (by decide)
  have h96412 := Xy96408.at ha0
  refine g_aload_n C dX12_peels_5 rfl 0 rfl ?_
  refine g_iload_n C dX12_peels_6 rfl 1 rfl ?_
  refine g_iload_n C dX12_peels_7 rfl 2 rfl ?_
  refine g_iload_n C dX12_peels_8 rfl 3 rfl ?_
  refine g_callVI (rest := []) C mv_X12_333 [.int a1, .int a2, .int a3] (s_X12_isAsked Iy96407 W96410) (h96412).1 (h96412).2 rfl rfl (by decide) (Nat.le_of_ble_eq_true rfl) (by decide) dX12_peels_9 (fun r96413 Y96414 h96415 => ?_)
  obtain ⟨rfl, h96415⟩ := h96415
  obtain ⟨h96415, hi96416, hi96417⟩ := h96415
  have hi96416 : r96413.toInt = 0 ∨ (((0 : Int) ≤ a1.toInt ∧ a1.toInt ≤ (3 : Int)) ∧ ((0 : Int) ≤ a2.toInt ∧ a2.toInt ≤ (1 : Int)) ∧ ((0 : Int) ≤ a3.toInt ∧ a3.toInt ≤ (1 : Int))) := hi96416
  have h96415 : 0 ≤ r96413.toInt ∧ r96413.toInt ≤ 1 := h96415
  refine b_if_eq C 25 dX12_peels_12 (by decide) (fun h96418 => ?_) (fun h96418 => ?_)
  · have h96418 : r96413.toInt = 0 := congrArg Int32.toInt h96418
    clear hi96416
    refine g_lv (lv' := []) [] rfl ?_
    exact J25 Y96406 Iy96407 Xz96411 W96410 (by omega)
  · have h96418 : r96413.toInt ≠ 0 := ti_ne h96418
    replace hi96416 := hi96416.resolve_left (by omega)
    obtain ⟨b96419, e96420, h96421⟩ := Iy96407.fld (h96412) 10 13 2 rfl
    have hi96417 := (hi96417.resolve_left (by omega)) b96419 e96420
    have hi96417 : 0 < (pI Y96406 b96419 (a2.toInt.toNat)).toInt := hi96417
    have h96422 := Iy96407.arr e96420 rfl (a2.toInt.toNat)
    refine g_iload C dX12_peels_15 4 rfl ?_
    refine g_iconst (v := 0) C dX12_peels_17 (by decide) ?_
    refine g_iconst (v := 3) C dX12_peels_18 (by decide) ?_
    refine g_callSI (b := 0) (ci := 0) (rest := []) C ms_X12_178 [.int a4, .int 0, .int 3] (s_X12_within Iy96407.1) rfl rfl (by decide) (Nat.le_of_ble_eq_true rfl) (by decide) dX12_peels_19 (fun r96423 Y96424 h96425 => ?_)
    obtain ⟨rfl, h96425⟩ := h96425
    obtain ⟨h96425, hi96426⟩ := h96425
    have hi96426 : r96423.toInt = 0 ∨ (0 ≤ a4.toInt ∧ a4.toInt ≤ 3) := hi96426
    have h96425 : 0 ≤ r96423.toInt ∧ r96423.toInt ≤ 1 := h96425
    refine b_if_ne C 27 dX12_peels_22 (by decide) (fun h96427 => ?_) (fun h96427 => ?_)
    · have h96427 : r96423.toInt ≠ 0 := ti_ne h96427
      replace hi96426 := hi96426.resolve_left (by omega)
      refine g_aload_n C dX12_peels_27 rfl 0 rfl ?_
      refine g_callVV (rest := []) C mv_X12_336 [] (s_X12_leavesNone Iy96407 W96410) (h96412).1 (h96412).2 rfl rfl (by decide) (Nat.le_of_ble_eq_true rfl) (by decide) dX12_peels_28 (fun Y96429 h96430 => ?_)
      obtain ⟨Iy96431, Xy96432, W96433⟩ := h96430
      have q96434 := Xy96432.keepF 0 (by decide)
      have q96435 := Xy96432.keepA e96420 (by decide) rfl (a2.toInt.toNat)
      have Xz96436 : EM [0, 28, 29, 30, 31, 32, 33, 34] a0 P Y96429 := EM.tr ha0 Xz96411 (Xy96432.mono (by decide))
      have e96437 := Xy96432.ref h96412 (by decide) e96420
      have h96438 := Xy96432.at h96412
      have h96439 := Xy96432.ar h96421
      refine g_aload_n C dX12_peels_31 rfl 0 rfl ?_
      refine g_iload_n C dX12_peels_32 rfl 1 rfl ?_
      refine g_iload_n C dX12_peels_33 rfl 2 rfl ?_
      refine g_iload_n C dX12_peels_34 rfl 3 rfl ?_
      refine g_aload_n C dX12_peels_35 rfl 0 rfl ?_
      obtain ⟨b96440, e96441, h96442⟩ := Iy96431.fld (h96438) 20 13 20 rfl
      refine g_getR C fi_X12_69 rfl e96441 (h96438).1 (h96438).2 dX12_peels_36 ?_
      refine g_iload_n C dX12_peels_39 rfl 1 rfl ?_
      refine g_iald (j := (a1.toInt.toNat)) C h96442.1 h96442.2.1 (ix_in h96442.2.2 (by omega)) dX12_peels_40 ?_
      have h96443 := Iy96431.arr e96441 rfl (a1.toInt.toNat)
      refine g_callVV (rest := []) C mv_X12_339 [.int a1, .int a2, .int a3, .int (pI Y96429 b96440 (a1.toInt.toNat))] (s_X12_gathers Iy96431 (by omega) (by omega) (by omega) (fun b9 e9 => by rw [e96437] at e9; cases e9; show 1 ≤ (pI Y96429 b96419 (a2.toInt.toNat)).toInt ∧ (pI Y96429 b96419 (a2.toInt.toNat)).toInt ≤ 16; omega) W96433) (h96438).1 (h96438).2 rfl rfl (by decide) (Nat.le_of_ble_eq_true rfl) (by decide) dX12_peels_41 (fun Y96445 h96446 => ?_)
      obtain ⟨Iy96447, Xy96448, W96449, p96450, p96451⟩ := h96446
      have p96450 : (pI Y96445 a0 28).toInt ≤ 4 + (pI Y96429 b96440 (a1.toInt.toNat)).toInt := p96450
      have q96452 := Xy96448.keepF 0 (by decide)
      have q96453 := Xy96448.keepA e96437 (by decide) rfl (a2.toInt.toNat)
      have q96454 := Xy96448.keepA e96441 (by decide) rfl (a1.toInt.toNat)
      have Xz96455 : EM [0, 28, 29, 30, 31, 32, 33, 34] a0 P Y96445 := EM.tr ha0 Xz96436 (Xy96448.mono (by decide))
      have e96456 := Xy96448.ref h96438 (by decide) e96437
      have e96457 := Xy96448.ref h96438 (by decide) e96441
      have h96458 := Xy96448.at h96438
      have h96459 := Xy96448.ar h96439
      have h96460 := Xy96448.ar h96442
      obtain ⟨b96461, e96462, h96463⟩ := Iy96447.fld (h96458) 22 13 800 rfl
      have p96451 := p96451 b96461 e96462
      rw [Xz96455.2.2.2 22 (by decide) rfl b96461 (EM.refB Xz96455 ha0 e96462)] at p96451
      have p96451 : (pI Y96445 a0 28).toInt ≤ 4 + kC (pI P b96461) (40 * a1.toInt).toNat a2.toInt ((pI Y96429 b96440 (a1.toInt.toNat)).toInt : Int).toNat := p96451
      have h96464 := Iy96447.rg h96458 28 rfl
      refine g_aload_n C dX12_peels_44 rfl 0 rfl ?_
      refine g_callVV (rest := []) C mv_X12_343 [] (s_X12_findPeeled Iy96447 W96449) (h96458).1 (h96458).2 rfl rfl (by decide) (Nat.le_of_ble_eq_true rfl) (by decide) dX12_peels_45 (fun Y96466 h96467 => ?_)
      obtain ⟨Iy96468, Xy96469, W96470⟩ := h96467
      have q96471 := Xy96469.keepF 0 (by decide)
      have q96472 := Xy96469.keepA e96456 (by decide) rfl (a2.toInt.toNat)
      have q96473 := Xy96469.keepA e96457 (by decide) rfl (a1.toInt.toNat)
      have q96474 := Xy96469.keepF 28 (by decide)
      have Xz96475 : EM [0, 28, 29, 30, 31, 32, 33, 34] a0 P Y96466 := EM.tr ha0 Xz96455 (Xy96469.mono (by decide))
      have e96476 := Xy96469.ref h96458 (by decide) e96456
      have e96477 := Xy96469.ref h96458 (by decide) e96457
      have h96478 := Xy96469.at h96458
      have h96479 := Xy96469.ar h96459
      have h96480 := Xy96469.ar h96460
      refine g_iload C dX12_peels_48 4 rfl ?_
      refine b_if_ne C 58 dX12_peels_50 (by decide) (fun h96481 => ?_) (fun h96481 => ?_)
      · have h96481 : a4.toInt ≠ 0 := ti_ne h96481
        refine g_iconst (v := 0) C dX12_peels_58 (by decide) ?_
        refine g_istore (lv' := [(5, .int 0), (0, .ref a0), (1, .int a1), (2, .int a2), (3, .int a3), (4, .int a4)]) C dX12_peels_59 (by decide) rfl ?_
        refine g_iconst (v := 0) C dX12_peels_61 (by decide) ?_
        refine g_istore (lv' := [(6, .int 0), (5, .int 0), (0, .ref a0), (1, .int a1), (2, .int a2), (3, .int a3), (4, .int a4)]) C dX12_peels_62 (by decide) rfl ?_
        refine g_lv (lv' := [(0, .ref a0), (4, .int a4), (5, .int 0), (6, .int 0)]) [2, 6, 1, 0] rfl ?_
        exact J64 _ Y96466 0 0 (Nat.lt_succ_self _) Iy96468 Xz96475 W96470 (by omega) (by decide) (by omega) (by omega) (fun b9 e9 => by rw [e96476] at e9; cases e9; omega)
      · have h96481 : a4.toInt = 0 := congrArg Int32.toInt h96481
        refine g_aload_n C dX12_peels_53 rfl 0 rfl ?_
        refine g_getI C fi_X12_318 (by decide) (h96478).1 (h96478).2 dX12_peels_54 ?_
        exact ret _ _ _ _ _ _ dX12_peels_57 rfl (by decide) (by decide) ⟨Iy96468, Xz96475, W96470, trivial⟩
    · have h96427 : r96423.toInt = 0 := congrArg Int32.toInt h96427
      clear hi96426
      refine g_lv (lv' := []) [] rfl ?_
      exact J25 Y96406 Iy96407 Xz96411 W96410 (by omega)
theorem dX12_quarter_0 : decode cX12_quarter 0 = .ok (.aload_n 0, 1) := by decide +kernel
theorem dX12_quarter_1 : decode cX12_quarter 1 = .ok (.iconst 0, 1) := by decide +kernel
theorem dX12_quarter_2 : decode cX12_quarter 2 = .ok (.putfield 1, 3) := by decide +kernel
theorem dX12_quarter_5 : decode cX12_quarter 5 = .ok (.iload_n 1, 1) := by decide +kernel
theorem dX12_quarter_6 : decode cX12_quarter 6 = .ok (.invokestatic 278, 3) := by decide +kernel
theorem dX12_quarter_9 : decode cX12_quarter 9 = .ok (.ifCond .eq 24, 3) := by decide +kernel
theorem dX12_quarter_12 : decode cX12_quarter 12 = .ok (.iload_n 2, 1) := by decide +kernel
theorem dX12_quarter_13 : decode cX12_quarter 13 = .ok (.iconst 0, 1) := by decide +kernel
theorem dX12_quarter_14 : decode cX12_quarter 14 = .ok (.bipush 100, 2) := by decide +kernel
theorem dX12_quarter_16 : decode cX12_quarter 16 = .ok (.invokestatic 178, 3) := by decide +kernel
theorem dX12_quarter_19 : decode cX12_quarter 19 = .ok (.ifCond .eq 14, 3) := by decide +kernel
theorem dX12_quarter_22 : decode cX12_quarter 22 = .ok (.iload_n 3, 1) := by decide +kernel
theorem dX12_quarter_23 : decode cX12_quarter 23 = .ok (.iconst 0, 1) := by decide +kernel
theorem dX12_quarter_24 : decode cX12_quarter 24 = .ok (.sipush 999, 3) := by decide +kernel
theorem dX12_quarter_27 : decode cX12_quarter 27 = .ok (.invokestatic 178, 3) := by decide +kernel
theorem dX12_quarter_30 : decode cX12_quarter 30 = .ok (.ifCond .ne 5, 3) := by decide +kernel
theorem dX12_quarter_33 : decode cX12_quarter 33 = .ok (.iconst 0, 1) := by decide +kernel
theorem dX12_quarter_34 : decode cX12_quarter 34 = .ok (.ireturn, 1) := by decide +kernel
theorem dX12_quarter_35 : decode cX12_quarter 35 = .ok (.aload_n 0, 1) := by decide +kernel
theorem dX12_quarter_36 : decode cX12_quarter 36 = .ok (.getfield 127, 3) := by decide +kernel
theorem dX12_quarter_39 : decode cX12_quarter 39 = .ok (.iload_n 1, 1) := by decide +kernel
theorem dX12_quarter_40 : decode cX12_quarter 40 = .ok (.iload_n 2, 1) := by decide +kernel
theorem dX12_quarter_41 : decode cX12_quarter 41 = .ok (.iastore, 1) := by decide +kernel
theorem dX12_quarter_42 : decode cX12_quarter 42 = .ok (.aload_n 0, 1) := by decide +kernel
theorem dX12_quarter_43 : decode cX12_quarter 43 = .ok (.getfield 130, 3) := by decide +kernel
theorem dX12_quarter_46 : decode cX12_quarter 46 = .ok (.iload_n 1, 1) := by decide +kernel
theorem dX12_quarter_47 : decode cX12_quarter 47 = .ok (.iload_n 3, 1) := by decide +kernel
theorem dX12_quarter_48 : decode cX12_quarter 48 = .ok (.iastore, 1) := by decide +kernel
theorem dX12_quarter_49 : decode cX12_quarter 49 = .ok (.iconst 1, 1) := by decide +kernel
theorem dX12_quarter_50 : decode cX12_quarter 50 = .ok (.ireturn, 1) := by decide +kernel
set_option maxHeartbeats 4000000 in
set_option maxRecDepth 100000 in
theorem s_X12_quarter {P : PP} {a0 : Nat} {a1 : Int32} {a2 : Int32} {a3 : Int32} (I : IM P a0) (hW : MW P a0) : CtrI yX12_quarter cX12_quarter 4 (some Jvm.ClassFile.FieldType.boolean) ({ frames := 3, cells := 0, slots := 0, locals := 192 } : Room) 0 0 P [.ref a0, .int a1, .int a2, .int a3] (fun r P2 => IM P2 a0 ∧ EM [0, 45, 46] a0 P P2 ∧ MW P2 a0 ∧ (0 ≤ r.toInt ∧ r.toInt ≤ 1) ∧ (r.toInt = 0 ∨ (((0 : Int) ≤ a1.toInt ∧ a1.toInt ≤ (3 : Int)) ∧ ((0 : Int) ≤ a2.toInt ∧ a2.toInt ≤ (100 : Int)) ∧ ((0 : Int) ≤ a3.toInt ∧ a3.toInt ≤ (999 : Int))))) := by
  refine enI (lv := [(0, .ref a0), (1, .int a1), (2, .int a2), (3, .int a3)]) (by decide) (Nat.le_of_ble_eq_true rfl) rfl (fun E D cy C Ci0 ret => ?_)
  have ha0 := I.2.1
  have J33 : ∀ (P33 : PP), (IM P33 a0) → (EM [0, 45, 46] a0 P P33) → (MW P33 a0) → (0 ≤ (pI P33 a0 0).toInt ∧ (pI P33 a0 0).toInt ≤ 0) → G E ({ frames := 3, cells := 0, slots := 0, locals := 192 } : Room) D cy 4 P33 0 0 33 [] [] := by
    intro P33 I33 X33 W33 hq33_0
    have h96534 := X33.at ha0
    refine g_iconst (v := 0) C dX12_quarter_33 (by decide) ?_
    exact ret _ _ _ _ _ _ dX12_quarter_34 rfl (by decide) (by decide) ⟨I33, X33, W33, (by decide), Or.inl rfl⟩
  refine g_aload_n C dX12_quarter_0 rfl 0 rfl ?_
  refine g_iconst (v := 0) C dX12_quarter_1 (by decide) ?_
  refine g_putI C fi_X12_1 rfl (ha0).1 (ha0).2 dX12_quarter_2 ?_
  refine gqW (ks := [0]) (I.setI (rgOk.of rfl (by decide))) (EM.setI I (by decide)) (fun Y96535 Iy96536 Xy96537 w96538  => ?_)
  have w96538 : (pI Y96535 a0 0).toInt = 0 := w96538
  have W96539 := hW.keep I Xy96537 (by decide) (by decide) (by decide)
  have Xz96540 : EM [0, 45, 46] a0 P Y96535 := Xy96537.mono (by decide)
  have h96541 := Xy96537.at ha0
  refine g_iload_n C dX12_quarter_5 rfl 1 rfl ?_
  refine g_callSI (b := 0) (ci := 0) (rest := []) C ms_X12_278 [.int a1] (s_X12_isQuarter Iy96536.1) rfl rfl (by decide) (Nat.le_of_ble_eq_true rfl) (by decide) dX12_quarter_6 (fun r96542 Y96543 h96544 => ?_)
  obtain ⟨rfl, h96544⟩ := h96544
  obtain ⟨h96544, hi96545⟩ := h96544
  have hi96545 : r96542.toInt = 0 ∨ (((0 : Int) ≤ a1.toInt ∧ a1.toInt ≤ (3 : Int))) := hi96545
  have h96544 : 0 ≤ r96542.toInt ∧ r96542.toInt ≤ 1 := h96544
  refine b_if_eq C 33 dX12_quarter_9 (by decide) (fun h96546 => ?_) (fun h96546 => ?_)
  · have h96546 : r96542.toInt = 0 := congrArg Int32.toInt h96546
    clear hi96545
    refine g_lv (lv' := []) [] rfl ?_
    exact J33 Y96535 Iy96536 Xz96540 W96539 (by omega)
  · have h96546 : r96542.toInt ≠ 0 := ti_ne h96546
    replace hi96545 := hi96545.resolve_left (by omega)
    refine g_iload_n C dX12_quarter_12 rfl 2 rfl ?_
    refine g_iconst (v := 0) C dX12_quarter_13 (by decide) ?_
    refine g_bipush (v := 100) C dX12_quarter_14 (by decide) ?_
    refine g_callSI (b := 0) (ci := 0) (rest := []) C ms_X12_178 [.int a2, .int 0, .int 100] (s_X12_within Iy96536.1) rfl rfl (by decide) (Nat.le_of_ble_eq_true rfl) (by decide) dX12_quarter_16 (fun r96547 Y96548 h96549 => ?_)
    obtain ⟨rfl, h96549⟩ := h96549
    obtain ⟨h96549, hi96550⟩ := h96549
    have hi96550 : r96547.toInt = 0 ∨ (0 ≤ a2.toInt ∧ a2.toInt ≤ 100) := hi96550
    have h96549 : 0 ≤ r96547.toInt ∧ r96547.toInt ≤ 1 := h96549
    refine b_if_eq C 33 dX12_quarter_19 (by decide) (fun h96551 => ?_) (fun h96551 => ?_)
    · have h96551 : r96547.toInt = 0 := congrArg Int32.toInt h96551
      clear hi96550
      refine g_lv (lv' := []) [] rfl ?_
      exact J33 Y96535 Iy96536 Xz96540 W96539 (by omega)
    · have h96551 : r96547.toInt ≠ 0 := ti_ne h96551
      replace hi96550 := hi96550.resolve_left (by omega)
      refine g_iload_n C dX12_quarter_22 rfl 3 rfl ?_
      refine g_iconst (v := 0) C dX12_quarter_23 (by decide) ?_
      refine g_sipush (v := 999) C dX12_quarter_24 (by decide) ?_
      refine g_callSI (b := 0) (ci := 0) (rest := []) C ms_X12_178 [.int a3, .int 0, .int 999] (s_X12_within Iy96536.1) rfl rfl (by decide) (Nat.le_of_ble_eq_true rfl) (by decide) dX12_quarter_27 (fun r96552 Y96553 h96554 => ?_)
      obtain ⟨rfl, h96554⟩ := h96554
      obtain ⟨h96554, hi96555⟩ := h96554
      have hi96555 : r96552.toInt = 0 ∨ (0 ≤ a3.toInt ∧ a3.toInt ≤ 999) := hi96555
      have h96554 : 0 ≤ r96552.toInt ∧ r96552.toInt ≤ 1 := h96554
      refine b_if_ne C 35 dX12_quarter_30 (by decide) (fun h96556 => ?_) (fun h96556 => ?_)
      · have h96556 : r96552.toInt ≠ 0 := ti_ne h96556
        replace hi96555 := hi96555.resolve_left (by omega)
        refine g_aload_n C dX12_quarter_35 rfl 0 rfl ?_
        obtain ⟨b96557, e96558, h96559⟩ := Iy96536.fld (h96541) 45 13 4 rfl
        refine g_getR C fi_X12_127 rfl e96558 (h96541).1 (h96541).2 dX12_quarter_36 ?_
        refine g_iload_n C dX12_quarter_39 rfl 1 rfl ?_
        refine g_iload_n C dX12_quarter_40 rfl 2 rfl ?_
        refine g_iast (j := (a1.toInt.toNat)) C h96559.1 h96559.2.1 (ix_in h96559.2.2 (by omega)) dX12_quarter_41 ?_
        refine gqW (ks := [45]) (Iy96536.setA e96558 h96559 (by decide) (arOk.none rfl)) (EM.setA Iy96536 e96558 rfl (by decide)) (fun Y96560 Iy96561 Xy96562 w96563  => ?_)
        have w96563 : (pI Y96560 b96557 (a1.toInt.toNat)).toInt = a2.toInt := w96563
        have q96564 := Xy96562.keepF 0 (by decide)
        have W96565 := W96539.keep Iy96536 Xy96562 (by decide) (by decide) (by decide)
        have Xz96566 : EM [0, 45, 46] a0 P Y96560 := EM.tr ha0 Xz96540 (Xy96562.mono (by decide))
        have e96567 := Xy96562.ref h96541 (by decide) e96558
        have h96568 := Xy96562.at h96541
        have h96569 := Xy96562.ar h96559
        refine g_aload_n C dX12_quarter_42 rfl 0 rfl ?_
        obtain ⟨b96570, e96571, h96572⟩ := Iy96561.fld (h96568) 46 13 4 rfl
        refine g_getR C fi_X12_130 rfl e96571 (h96568).1 (h96568).2 dX12_quarter_43 ?_
        refine g_iload_n C dX12_quarter_46 rfl 1 rfl ?_
        refine g_iload_n C dX12_quarter_47 rfl 3 rfl ?_
        refine g_iast (j := (a1.toInt.toNat)) C h96572.1 h96572.2.1 (ix_in h96572.2.2 (by omega)) dX12_quarter_48 ?_
        refine gqW (ks := [46]) (Iy96561.setA e96571 h96572 (by decide) (arOk.none rfl)) (EM.setA Iy96561 e96571 rfl (by decide)) (fun Y96573 Iy96574 Xy96575 w96576  => ?_)
        have w96576 : (pI Y96573 b96570 (a1.toInt.toNat)).toInt = a3.toInt := w96576
        have q96577 := Xy96575.keepF 0 (by decide)
        have q96578 := Xy96575.keepA e96567 (by decide) rfl (a1.toInt.toNat)
        have W96579 := W96565.keep Iy96561 Xy96575 (by decide) (by decide) (by decide)
        have Xz96580 : EM [0, 45, 46] a0 P Y96573 := EM.tr ha0 Xz96566 (Xy96575.mono (by decide))
        have e96581 := Xy96575.ref h96568 (by decide) e96567
        have e96582 := Xy96575.ref h96568 (by decide) e96571
        have h96583 := Xy96575.at h96568
        have h96584 := Xy96575.ar h96569
        have h96585 := Xy96575.ar h96572
        refine g_iconst (v := 1) C dX12_quarter_49 (by decide) ?_
        exact ret _ _ _ _ _ _ dX12_quarter_50 rfl (by decide) (by decide) ⟨Iy96574, Xz96580, W96579, (by decide), Or.inr (by omega)⟩
      · have h96556 : r96552.toInt = 0 := congrArg Int32.toInt h96556
        clear hi96555
        refine g_lv (lv' := []) [] rfl ?_
        exact J33 Y96535 Iy96536 Xz96540 W96539 (by omega)
theorem dX12_read_0 : decode cX12_read 0 = .ok (.aload_n 0, 1) := by decide +kernel
theorem dX12_read_1 : decode cX12_read 1 = .ok (.iconst 0, 1) := by decide +kernel
theorem dX12_read_2 : decode cX12_read 2 = .ok (.putfield 1, 3) := by decide +kernel
theorem dX12_read_5 : decode cX12_read 5 = .ok (.iload_n 1, 1) := by decide +kernel
theorem dX12_read_6 : decode cX12_read 6 = .ok (.invokestatic 278, 3) := by decide +kernel
theorem dX12_read_9 : decode cX12_read 9 = .ok (.ifCond .eq 30, 3) := by decide +kernel
theorem dX12_read_12 : decode cX12_read 12 = .ok (.aload_n 0, 1) := by decide +kernel
theorem dX12_read_13 : decode cX12_read 13 = .ok (.iload_n 2, 1) := by decide +kernel
theorem dX12_read_14 : decode cX12_read 14 = .ok (.invokevirtual 192, 3) := by decide +kernel
theorem dX12_read_17 : decode cX12_read 17 = .ok (.ifCond .eq 22, 3) := by decide +kernel
theorem dX12_read_20 : decode cX12_read 20 = .ok (.aload_n 0, 1) := by decide +kernel
theorem dX12_read_21 : decode cX12_read 21 = .ok (.iload_n 2, 1) := by decide +kernel
theorem dX12_read_22 : decode cX12_read 22 = .ok (.iload_n 3, 1) := by decide +kernel
theorem dX12_read_23 : decode cX12_read 23 = .ok (.invokevirtual 352, 3) := by decide +kernel
theorem dX12_read_26 : decode cX12_read 26 = .ok (.ifCond .eq 13, 3) := by decide +kernel
theorem dX12_read_29 : decode cX12_read 29 = .ok (.iload 4, 2) := by decide +kernel
theorem dX12_read_31 : decode cX12_read 31 = .ok (.iconst 0, 1) := by decide +kernel
theorem dX12_read_32 : decode cX12_read 32 = .ok (.iconst 1, 1) := by decide +kernel
theorem dX12_read_33 : decode cX12_read 33 = .ok (.invokestatic 178, 3) := by decide +kernel
theorem dX12_read_36 : decode cX12_read 36 = .ok (.ifCond .ne 5, 3) := by decide +kernel
theorem dX12_read_41 : decode cX12_read 41 = .ok (.aload_n 0, 1) := by decide +kernel
theorem dX12_read_42 : decode cX12_read 42 = .ok (.invokevirtual 336, 3) := by decide +kernel
theorem dX12_read_45 : decode cX12_read 45 = .ok (.aload_n 0, 1) := by decide +kernel
theorem dX12_read_46 : decode cX12_read 46 = .ok (.iload_n 1, 1) := by decide +kernel
theorem dX12_read_47 : decode cX12_read 47 = .ok (.iload_n 2, 1) := by decide +kernel
theorem dX12_read_48 : decode cX12_read 48 = .ok (.iload_n 3, 1) := by decide +kernel
theorem dX12_read_49 : decode cX12_read 49 = .ok (.iload 4, 2) := by decide +kernel
theorem dX12_read_51 : decode cX12_read 51 = .ok (.aload_n 0, 1) := by decide +kernel
theorem dX12_read_52 : decode cX12_read 52 = .ok (.getfield 69, 3) := by decide +kernel
theorem dX12_read_55 : decode cX12_read 55 = .ok (.iload_n 1, 1) := by decide +kernel
theorem dX12_read_56 : decode cX12_read 56 = .ok (.iaload, 1) := by decide +kernel
theorem dX12_read_57 : decode cX12_read 57 = .ok (.invokevirtual 355, 3) := by decide +kernel
theorem dX12_readBy_0 : decode cX12_readBy 0 = .ok (.iconst 0, 1) := by decide +kernel
theorem dX12_readBy_1 : decode cX12_readBy 1 = .ok (.istore 6, 2) := by decide +kernel
theorem dX12_readBy_3 : decode cX12_readBy 3 = .ok (.iconst 0, 1) := by decide +kernel
theorem dX12_readBy_4 : decode cX12_readBy 4 = .ok (.istore 7, 2) := by decide +kernel
theorem dX12_readBy_6 : decode cX12_readBy 6 = .ok (.iload 7, 2) := by decide +kernel
theorem dX12_readBy_8 : decode cX12_readBy 8 = .ok (.iconst 2, 1) := by decide +kernel
theorem dX12_readBy_9 : decode cX12_readBy 9 = .ok (.if_icmp .ge 105, 3) := by decide +kernel
theorem dX12_readBy_12 : decode cX12_readBy 12 = .ok (.aload_n 0, 1) := by decide +kernel
theorem dX12_readBy_13 : decode cX12_readBy 13 = .ok (.iload_n 1, 1) := by decide +kernel
theorem dX12_readBy_14 : decode cX12_readBy 14 = .ok (.iload_n 2, 1) := by decide +kernel
theorem dX12_readBy_15 : decode cX12_readBy 15 = .ok (.iload 7, 2) := by decide +kernel
theorem dX12_readBy_17 : decode cX12_readBy 17 = .ok (.iload 5, 2) := by decide +kernel
theorem dX12_readBy_19 : decode cX12_readBy 19 = .ok (.invokevirtual 339, 3) := by decide +kernel
theorem dX12_readBy_22 : decode cX12_readBy 22 = .ok (.iload 4, 2) := by decide +kernel
theorem dX12_readBy_24 : decode cX12_readBy 24 = .ok (.ifCond .ne 10, 3) := by decide +kernel
theorem dX12_readBy_27 : decode cX12_readBy 27 = .ok (.aload_n 0, 1) := by decide +kernel
theorem dX12_readBy_28 : decode cX12_readBy 28 = .ok (.invokevirtual 343, 3) := by decide +kernel
theorem dX12_readBy_31 : decode cX12_readBy 31 = .ok (.goto 7, 3) := by decide +kernel
theorem dX12_readBy_34 : decode cX12_readBy 34 = .ok (.aload_n 0, 1) := by decide +kernel
theorem dX12_readBy_35 : decode cX12_readBy 35 = .ok (.invokevirtual 346, 3) := by decide +kernel
theorem dX12_readBy_38 : decode cX12_readBy 38 = .ok (.iload 4, 2) := by decide +kernel
theorem dX12_readBy_40 : decode cX12_readBy 40 = .ok (.ifCond .ne 23, 3) := by decide +kernel
theorem dX12_readBy_43 : decode cX12_readBy 43 = .ok (.aload_n 0, 1) := by decide +kernel
theorem dX12_readBy_44 : decode cX12_readBy 44 = .ok (.getfield 318, 3) := by decide +kernel
theorem dX12_readBy_47 : decode cX12_readBy 47 = .ok (.iload_n 3, 1) := by decide +kernel
theorem dX12_readBy_48 : decode cX12_readBy 48 = .ok (.ishr, 1) := by decide +kernel
theorem dX12_readBy_49 : decode cX12_readBy 49 = .ok (.iconst 1, 1) := by decide +kernel
theorem dX12_readBy_50 : decode cX12_readBy 50 = .ok (.iand, 1) := by decide +kernel
theorem dX12_readBy_51 : decode cX12_readBy 51 = .ok (.iconst 1, 1) := by decide +kernel
theorem dX12_readBy_52 : decode cX12_readBy 52 = .ok (.if_icmp .ne 7, 3) := by decide +kernel
theorem dX12_readBy_55 : decode cX12_readBy 55 = .ok (.iconst 1, 1) := by decide +kernel
theorem dX12_readBy_56 : decode cX12_readBy 56 = .ok (.goto 12, 3) := by decide +kernel
theorem dX12_readBy_59 : decode cX12_readBy 59 = .ok (.iconst 0, 1) := by decide +kernel
theorem dX12_readBy_60 : decode cX12_readBy 60 = .ok (.goto 8, 3) := by decide +kernel
theorem dX12_readBy_63 : decode cX12_readBy 63 = .ok (.aload_n 0, 1) := by decide +kernel
theorem dX12_readBy_64 : decode cX12_readBy 64 = .ok (.iload_n 3, 1) := by decide +kernel
theorem dX12_readBy_65 : decode cX12_readBy 65 = .ok (.invokevirtual 330, 3) := by decide +kernel
theorem dX12_readBy_68 : decode cX12_readBy 68 = .ok (.istore 8, 2) := by decide +kernel
theorem dX12_readBy_70 : decode cX12_readBy 70 = .ok (.iload 8, 2) := by decide +kernel
theorem dX12_readBy_72 : decode cX12_readBy 72 = .ok (.ifCond .ne 5, 3) := by decide +kernel
theorem dX12_readBy_75 : decode cX12_readBy 75 = .ok (.iconst (-1), 1) := by decide +kernel
theorem dX12_readBy_76 : decode cX12_readBy 76 = .ok (.ireturn, 1) := by decide +kernel
theorem dX12_readBy_77 : decode cX12_readBy 77 = .ok (.iload 6, 2) := by decide +kernel
theorem dX12_readBy_79 : decode cX12_readBy 79 = .ok (.iload 4, 2) := by decide +kernel
theorem dX12_readBy_81 : decode cX12_readBy 81 = .ok (.ifCond .ne 12, 3) := by decide +kernel
theorem dX12_readBy_84 : decode cX12_readBy 84 = .ok (.aload_n 0, 1) := by decide +kernel
theorem dX12_readBy_85 : decode cX12_readBy 85 = .ok (.getfield 103, 3) := by decide +kernel
theorem dX12_readBy_88 : decode cX12_readBy 88 = .ok (.iload_n 3, 1) := by decide +kernel
theorem dX12_readBy_89 : decode cX12_readBy 89 = .ok (.iaload, 1) := by decide +kernel
theorem dX12_readBy_90 : decode cX12_readBy 90 = .ok (.goto 9, 3) := by decide +kernel
theorem dX12_readBy_93 : decode cX12_readBy 93 = .ok (.aload_n 0, 1) := by decide +kernel
theorem dX12_readBy_94 : decode cX12_readBy 94 = .ok (.getfield 109, 3) := by decide +kernel
theorem dX12_readBy_97 : decode cX12_readBy 97 = .ok (.iload_n 3, 1) := by decide +kernel
theorem dX12_readBy_98 : decode cX12_readBy 98 = .ok (.iaload, 1) := by decide +kernel
theorem dX12_readBy_99 : decode cX12_readBy 99 = .ok (.bipush 8, 2) := by decide +kernel
theorem dX12_readBy_101 : decode cX12_readBy 101 = .ok (.iload 7, 2) := by decide +kernel
theorem dX12_readBy_103 : decode cX12_readBy 103 = .ok (.imul, 1) := by decide +kernel
theorem dX12_readBy_104 : decode cX12_readBy 104 = .ok (.ishl, 1) := by decide +kernel
theorem dX12_readBy_105 : decode cX12_readBy 105 = .ok (.iadd, 1) := by decide +kernel
theorem dX12_readBy_106 : decode cX12_readBy 106 = .ok (.istore 6, 2) := by decide +kernel
theorem dX12_readBy_108 : decode cX12_readBy 108 = .ok (.iinc 7 1, 3) := by decide +kernel
theorem dX12_readBy_111 : decode cX12_readBy 111 = .ok (.goto (-105), 3) := by decide +kernel
theorem dX12_readBy_114 : decode cX12_readBy 114 = .ok (.iload 6, 2) := by decide +kernel
theorem dX12_readBy_116 : decode cX12_readBy 116 = .ok (.ireturn, 1) := by decide +kernel
set_option maxHeartbeats 4000000 in
set_option maxRecDepth 100000 in
theorem s_X12_readBy {P : PP} {a0 : Nat} {a1 : Int32} {a2 : Int32} {a3 : Int32} {a4 : Int32} {a5 : Int32} (I : IM P a0) (ha1 : 0 ≤ a1.toInt ∧ a1.toInt ≤ 3) (ha2 : 0 ≤ a2.toInt ∧ a2.toInt ≤ 1) (ha3 : 0 ≤ a3.toInt ∧ a3.toInt ≤ 19) (ha5 : 0 ≤ a5.toInt ∧ a5.toInt ≤ 40) (hf0 : ∀ b, pR P a0 10 = some b → 1 ≤ (pI P b (a2.toInt.toNat)).toInt ∧ (pI P b (a2.toInt.toNat)).toInt ≤ 16) (hW : MW P a0) : CtrI yX12_readBy cX12_readBy 9 (some Jvm.ClassFile.FieldType.int) ({ frames := 5, cells := 0, slots := 0, locals := 320 } : Room) 0 0 P [.ref a0, .int a1, .int a2, .int a3, .int a4, .int a5] (fun r P2 => IM P2 a0 ∧ EM [28, 29, 30, 31, 33, 34, 35, 36, 37, 38] a0 P P2 ∧ MW P2 a0 ∧ (True)) := by
  refine enI (lv := [(0, .ref a0), (1, .int a1), (2, .int a2), (3, .int a3), (4, .int a4), (5, .int a5)]) (by decide) (Nat.le_of_ble_eq_true rfl) rfl (fun E D cy C Ci0 ret => ?_)
  have ha0 := I.2.1
  have J6 : ∀ (n6 : Nat) (P6 : PP) (v6_6 : Int32) (v6_7 : Int32), (2 - v6_7.toInt).toNat < n6 → (IM P6 a0) → (EM [28, 29, 30, 31, 33, 34, 35, 36, 37, 38] a0 P P6) → (MW P6 a0) → (0 ≤ v6_7.toInt ∧ v6_7.toInt ≤ 2) → (∀ b, pR P6 a0 10 = some b → 1 ≤ (pI P6 b (a2.toInt.toNat)).toInt ∧ (pI P6 b (a2.toInt.toNat)).toInt ≤ 16) → G E ({ frames := 5, cells := 0, slots := 0, locals := 320 } : Room) D cy 9 P6 0 0 6 [(0, .ref a0), (1, .int a1), (2, .int a2), (3, .int a3), (4, .int a4), (5, .int a5), (6, .int v6_6), (7, .int v6_7)] [] := by
    intro n6
    induction n6 with
    | zero => intro P6 v6_6 v6_7 hm6 I6 X6 W6 hv6_7 hq6_0; omega
    | succ n6 ih6 =>
      intro P6 v6_6 v6_7 hm6 I6 X6 W6 hv6_7 hq6_0
      have h96858 := X6.at ha0
      obtain ⟨b96859, e96860, h96861⟩ := I6.fld (h96858) 10 13 2 rfl
      have hq6_0 := hq6_0 b96859 e96860
      have J99 : ∀ (P99 : PP) (v99_s0 : Int32), (IM P99 a0) → (EM [28, 29, 30, 31, 33, 34, 35, 36, 37, 38] a0 P P99) → (MW P99 a0) → (0 ≤ v6_7.toInt ∧ v6_7.toInt ≤ 1) → (0 ≤ (pI P99 a0 28).toInt ∧ (pI P99 a0 28).toInt ≤ 44) → (∀ b, pR P99 a0 10 = some b → 1 ≤ (pI P99 b (a2.toInt.toNat)).toInt ∧ (pI P99 b (a2.toInt.toNat)).toInt ≤ 16) → G E ({ frames := 5, cells := 0, slots := 0, locals := 320 } : Room) D cy 9 P99 0 0 99 [(0, .ref a0), (1, .int a1), (2, .int a2), (3, .int a3), (4, .int a4), (5, .int a5), (7, .int v6_7)] [.int v99_s0, .int v6_6] := by
        intro P99 v99_s0 I99 X99 W99 hv99_7 hq99_0 hq99_1
        have h96862 := X99.at ha0
        obtain ⟨b96863, e96864, h96865⟩ := I99.fld (h96862) 10 13 2 rfl
        have hq99_1 := hq99_1 b96863 e96864
        refine g_bipush (v := 8) C dX12_readBy_99 (by decide) ?_
        refine g_iload C dX12_readBy_101 6 rfl ?_
        refine s_imul C dX12_readBy_103 (by show -2147483648 ≤ 8 * v6_7.toInt ∧ 8 * v6_7.toInt ≤ 2147483647; omega) (fun z96866 h96867 => ?_)
        have h96867 : z96866.toInt = 8 * v6_7.toInt := h96867
        refine a_ishl C dX12_readBy_104 (fun z96868 => ?_)
        refine a_iadd C dX12_readBy_105 (fun z96870 => ?_)
        refine g_istore (lv' := [(6, .int z96870), (0, .ref a0), (1, .int a1), (2, .int a2), (3, .int a3), (4, .int a4), (5, .int a5), (7, .int v6_7)]) C dX12_readBy_106 (by decide) rfl ?_
        refine s_iinc (lv0 := [(6, .int z96870), (0, .ref a0), (1, .int a1), (2, .int a2), (3, .int a3), (4, .int a4), (5, .int a5)]) (m := 1) C dX12_readBy_108 7 rfl (by decide) rfl (by decide) (by omega) (fun z96872 h96873 => ?_)
        have h96873 : z96872.toInt = v6_7.toInt + 1 := h96873
        refine g_goto C 6 dX12_readBy_111 (by decide) ?_
        refine g_lv (lv' := [(0, .ref a0), (1, .int a1), (2, .int a2), (3, .int a3), (4, .int a4), (5, .int a5), (6, .int z96870), (7, .int z96872)]) [2, 3, 4, 5, 6, 7, 1, 0] rfl ?_
        exact ih6 P99 z96870 z96872 (by omega) I99 X99 W99 (by omega) (fun b9 e9 => by rw [e96864] at e9; cases e9; omega)
      have J68 : ∀ (P68 : PP) (v68_s0 : Int32), (IM P68 a0) → (EM [28, 29, 30, 31, 33, 34, 35, 36, 37, 38] a0 P P68) → (MW P68 a0) → (0 ≤ v6_7.toInt ∧ v6_7.toInt ≤ 1) → (0 ≤ v68_s0.toInt ∧ v68_s0.toInt ≤ 1) → (0 ≤ (pI P68 a0 28).toInt ∧ (pI P68 a0 28).toInt ≤ 44) → (∀ b, pR P68 a0 10 = some b → 1 ≤ (pI P68 b (a2.toInt.toNat)).toInt ∧ (pI P68 b (a2.toInt.toNat)).toInt ≤ 16) → G E ({ frames := 5, cells := 0, slots := 0, locals := 320 } : Room) D cy 9 P68 0 0 68 [(0, .ref a0), (1, .int a1), (2, .int a2), (3, .int a3), (4, .int a4), (5, .int a5), (6, .int v6_6), (7, .int v6_7)] [.int v68_s0] := by
        intro P68 v68_s0 I68 X68 W68 hv68_7 hv68_s0 hq68_0 hq68_1
        have h96874 := X68.at ha0
        obtain ⟨b96875, e96876, h96877⟩ := I68.fld (h96874) 10 13 2 rfl
        have hq68_1 := hq68_1 b96875 e96876
        refine g_istore (lv' := [(8, .int v68_s0), (0, .ref a0), (1, .int a1), (2, .int a2), (3, .int a3), (4, .int a4), (5, .int a5), (6, .int v6_6), (7, .int v6_7)]) C dX12_readBy_68 (by decide) rfl ?_
        refine g_iload C dX12_readBy_70 0 rfl ?_
        refine b_if_ne C 77 dX12_readBy_72 (by decide) (fun h96878 => ?_) (fun h96878 => ?_)
        · have h96878 : v68_s0.toInt ≠ 0 := ti_ne h96878
          refine g_iload C dX12_readBy_77 7 rfl ?_
          refine g_iload C dX12_readBy_79 5 rfl ?_
          have u96880 := ti_rng a4
          refine b_if_ne C 93 dX12_readBy_81 (by decide) (fun h96879 => ?_) (fun h96879 => ?_)
          · have h96879 : a4.toInt ≠ 0 := ti_ne h96879
            refine g_aload_n C dX12_readBy_93 rfl 1 rfl ?_
            obtain ⟨b96881, e96882, h96883⟩ := I68.fld (h96874) 38 13 20 rfl
            refine g_getR C fi_X12_109 rfl e96882 (h96874).1 (h96874).2 dX12_readBy_94 ?_
            refine g_iload_n C dX12_readBy_97 rfl 4 rfl ?_
            refine g_iald (j := (a3.toInt.toNat)) C h96883.1 h96883.2.1 (ix_in h96883.2.2 (by omega)) dX12_readBy_98 ?_
            refine g_lv (lv' := [(0, .ref a0), (1, .int a1), (2, .int a2), (3, .int a3), (4, .int a4), (5, .int a5), (7, .int v6_7)]) [1, 2, 3, 4, 5, 6, 8] rfl ?_
            exact J99 P68 (pI P68 b96881 (a3.toInt.toNat)) I68 X68 W68 (by omega) (by omega) (fun b9 e9 => by rw [e96876] at e9; cases e9; omega)
          · have h96879 : a4.toInt = 0 := congrArg Int32.toInt h96879
            refine g_aload_n C dX12_readBy_84 rfl 1 rfl ?_
            obtain ⟨b96884, e96885, h96886⟩ := I68.fld (h96874) 34 13 20 rfl
            refine g_getR C fi_X12_103 rfl e96885 (h96874).1 (h96874).2 dX12_readBy_85 ?_
            refine g_iload_n C dX12_readBy_88 rfl 4 rfl ?_
            refine g_iald (j := (a3.toInt.toNat)) C h96886.1 h96886.2.1 (ix_in h96886.2.2 (by omega)) dX12_readBy_89 ?_
            refine g_goto C 99 dX12_readBy_90 (by decide) ?_
            refine g_lv (lv' := [(0, .ref a0), (1, .int a1), (2, .int a2), (3, .int a3), (4, .int a4), (5, .int a5), (7, .int v6_7)]) [1, 2, 3, 4, 5, 6, 8] rfl ?_
            exact J99 P68 (pI P68 b96884 (a3.toInt.toNat)) I68 X68 W68 (by omega) (by omega) (fun b9 e9 => by rw [e96876] at e9; cases e9; omega)
        · have h96878 : v68_s0.toInt = 0 := congrArg Int32.toInt h96878
          refine g_iconst (v := (-1)) C dX12_readBy_75 (by decide) ?_
          exact ret _ _ _ _ _ _ dX12_readBy_76 rfl (by decide) (by decide) ⟨I68, X68, W68, trivial⟩
      have J38 : ∀ (P38 : PP), (IM P38 a0) → (EM [28, 29, 30, 31, 33, 34, 35, 36, 37, 38] a0 P P38) → (MW P38 a0) → (0 ≤ v6_7.toInt ∧ v6_7.toInt ≤ 1) → (0 ≤ (pI P38 a0 28).toInt ∧ (pI P38 a0 28).toInt ≤ 44) → (∀ b, pR P38 a0 10 = some b → 1 ≤ (pI P38 b (a2.toInt.toNat)).toInt ∧ (pI P38 b (a2.toInt.toNat)).toInt ≤ 16) → G E ({ frames := 5, cells := 0, slots := 0, locals := 320 } : Room) D cy 9 P38 0 0 38 [(0, .ref a0), (1, .int a1), (2, .int a2), (3, .int a3), (4, .int a4), (5, .int a5), (6, .int v6_6), (7, .int v6_7)] [] := by
        intro P38 I38 X38 W38 hv38_7 hq38_0 hq38_1
        have h96887 := X38.at ha0
        obtain ⟨b96888, e96889, h96890⟩ := I38.fld (h96887) 10 13 2 rfl
        have hq38_1 := hq38_1 b96888 e96889
        refine g_iload C dX12_readBy_38 4 rfl ?_
        have u96892 := ti_rng a4
        refine b_if_ne C 63 dX12_readBy_40 (by decide) (fun h96891 => ?_) (fun h96891 => ?_)
        · have h96891 : a4.toInt ≠ 0 := ti_ne h96891
          refine g_aload_n C dX12_readBy_63 rfl 0 rfl ?_
          refine g_iload_n C dX12_readBy_64 rfl 3 rfl ?_
          refine g_callVI (rest := []) C mv_X12_330 [.int a3] (s_X12_isFixed I38 (by omega) W38) (h96887).1 (h96887).2 rfl rfl (by decide) (Nat.le_of_ble_eq_true rfl) (by decide) dX12_readBy_65 (fun r96893 Y96894 h96895 => ?_)
          obtain ⟨rfl, h96895⟩ := h96895
          have h96895 : 0 ≤ r96893.toInt ∧ r96893.toInt ≤ 1 := h96895
          exact J68 P38 r96893 I38 X38 W38 (by omega) (by omega) (by omega) (fun b9 e9 => by rw [e96889] at e9; cases e9; omega)
        · have h96891 : a4.toInt = 0 := congrArg Int32.toInt h96891
          refine g_aload_n C dX12_readBy_43 rfl 0 rfl ?_
          refine g_getI C fi_X12_318 (by decide) (h96887).1 (h96887).2 dX12_readBy_44 ?_
          refine g_iload_n C dX12_readBy_47 rfl 3 rfl ?_
          refine a_ishr C dX12_readBy_48 (fun z96896 => ?_)
          refine g_iconst (v := 1) C dX12_readBy_49 (by decide) ?_
          refine s_iand C dX12_readBy_50 (by show 0 ≤ 1; omega) (fun z96898 h96899 => ?_)
          have h96899 : 0 ≤ z96898.toInt ∧ z96898.toInt ≤ 1 := h96899
          refine g_iconst (v := 1) C dX12_readBy_51 (by decide) ?_
          refine b_icmp_ne C 59 dX12_readBy_52 (by decide) (fun h96900 => ?_) (fun h96900 => ?_)
          · have h96900 : z96898.toInt ≠ 1 := ti_ne h96900
            refine g_iconst (v := 0) C dX12_readBy_59 (by decide) ?_
            refine g_goto C 68 dX12_readBy_60 (by decide) ?_
            exact J68 P38 0 I38 X38 W38 (by omega) (by decide) (by omega) (fun b9 e9 => by rw [e96889] at e9; cases e9; omega)
          · have h96900 : z96898.toInt = 1 := congrArg Int32.toInt h96900
            refine g_iconst (v := 1) C dX12_readBy_55 (by decide) ?_
            refine g_goto C 68 dX12_readBy_56 (by decide) ?_
            exact J68 P38 1 I38 X38 W38 (by omega) (by decide) (by omega) (fun b9 e9 => by rw [e96889] at e9; cases e9; omega)
      refine g_iload C dX12_readBy_6 7 rfl ?_
      refine g_iconst (v := 2) C dX12_readBy_8 (by decide) ?_
      refine b_icmp_ge C 114 dX12_readBy_9 (by decide) (fun h96901 => ?_) (fun h96901 => ?_)
      · have h96901 : 2 ≤ v6_7.toInt := h96901
        refine g_iload C dX12_readBy_114 6 rfl ?_
        exact ret _ _ _ _ _ _ dX12_readBy_116 rfl (by decide) (by decide) ⟨I6, X6, W6, trivial⟩
      · have h96901 : v6_7.toInt < 2 := h96901
        refine g_aload_n C dX12_readBy_12 rfl 0 rfl ?_
        refine g_iload_n C dX12_readBy_13 rfl 1 rfl ?_
        refine g_iload_n C dX12_readBy_14 rfl 2 rfl ?_
        refine g_iload C dX12_readBy_15 7 rfl ?_
        refine g_iload C dX12_readBy_17 5 rfl ?_
        refine g_callVV (rest := []) C mv_X12_339 [.int a1, .int a2, .int v6_7, .int a5] (s_X12_gathers I6 (by omega) (by omega) (by omega) (fun b9 e9 => by rw [e96860] at e9; cases e9; show 1 ≤ (pI P6 b96859 (a2.toInt.toNat)).toInt ∧ (pI P6 b96859 (a2.toInt.toNat)).toInt ≤ 16; omega) W6) (h96858).1 (h96858).2 rfl rfl (by decide) (Nat.le_of_ble_eq_true rfl) (by decide) dX12_readBy_19 (fun Y96903 h96904 => ?_)
        obtain ⟨Iy96905, Xy96906, W96907, p96908, p96909⟩ := h96904
        have p96908 : (pI Y96903 a0 28).toInt ≤ 4 + a5.toInt := p96908
        have q96910 := Xy96906.keepA e96860 (by decide) rfl (a2.toInt.toNat)
        have Xz96911 : EM [28, 29, 30, 31, 33, 34, 35, 36, 37, 38] a0 P Y96903 := EM.tr ha0 X6 (Xy96906.mono (by decide))
        have e96912 := Xy96906.ref h96858 (by decide) e96860
        have h96913 := Xy96906.at h96858
        have h96914 := Xy96906.ar h96861
        obtain ⟨b96915, e96916, h96917⟩ := Iy96905.fld (h96913) 22 13 800 rfl
        have p96909 := p96909 b96915 e96916
        rw [Xz96911.2.2.2 22 (by decide) rfl b96915 (EM.refB Xz96911 ha0 e96916)] at p96909
        have p96909 : (pI Y96903 a0 28).toInt ≤ 4 + kC (pI P b96915) (40 * a1.toInt).toNat a2.toInt (a5.toInt : Int).toNat := p96909
        have h96918 := Iy96905.rg h96913 28 rfl
        refine g_iload C dX12_readBy_22 4 rfl ?_
        have u96920 := ti_rng a4
        refine b_if_ne C 34 dX12_readBy_24 (by decide) (fun h96919 => ?_) (fun h96919 => ?_)
        · have h96919 : a4.toInt ≠ 0 := ti_ne h96919
          refine g_aload_n C dX12_readBy_34 rfl 0 rfl ?_
          refine g_callVV (rest := []) C mv_X12_346 [] (s_X12_findSolved Iy96905 W96907) (h96913).1 (h96913).2 rfl rfl (by decide) (Nat.le_of_ble_eq_true rfl) (by decide) dX12_readBy_35 (fun Y96922 h96923 => ?_)
          obtain ⟨Iy96924, Xy96925, W96926⟩ := h96923
          have q96927 := Xy96925.keepA e96912 (by decide) rfl (a2.toInt.toNat)
          have q96928 := Xy96925.keepF 28 (by decide)
          have Xz96929 : EM [28, 29, 30, 31, 33, 34, 35, 36, 37, 38] a0 P Y96922 := EM.tr ha0 Xz96911 (Xy96925.mono (by decide))
          have e96930 := Xy96925.ref h96913 (by decide) e96912
          have h96931 := Xy96925.at h96913
          have h96932 := Xy96925.ar h96914
          exact J38 Y96922 Iy96924 Xz96929 W96926 (by omega) (by omega) (fun b9 e9 => by rw [e96930] at e9; cases e9; omega)
        · have h96919 : a4.toInt = 0 := congrArg Int32.toInt h96919
          refine g_aload_n C dX12_readBy_27 rfl 0 rfl ?_
          refine g_callVV (rest := []) C mv_X12_343 [] (s_X12_findPeeled Iy96905 W96907) (h96913).1 (h96913).2 rfl rfl (by decide) (Nat.le_of_ble_eq_true rfl) (by decide) dX12_readBy_28 (fun Y96934 h96935 => ?_)
          obtain ⟨Iy96936, Xy96937, W96938⟩ := h96935
          have q96939 := Xy96937.keepA e96912 (by decide) rfl (a2.toInt.toNat)
          have q96940 := Xy96937.keepF 28 (by decide)
          have Xz96941 : EM [28, 29, 30, 31, 33, 34, 35, 36, 37, 38] a0 P Y96934 := EM.tr ha0 Xz96911 (Xy96937.mono (by decide))
          have e96942 := Xy96937.ref h96913 (by decide) e96912
          have h96943 := Xy96937.at h96913
          have h96944 := Xy96937.ar h96914
          refine g_goto C 38 dX12_readBy_31 (by decide) ?_
          exact J38 Y96934 Iy96936 Xz96941 W96938 (by omega) (by omega) (fun b9 e9 => by rw [e96942] at e9; cases e9; omega)
  obtain ⟨b96945, e96946, h96947⟩ := I.fld (ha0) 10 13 2 rfl
  have hf0 := hf0 b96945 e96946
  refine g_iconst (v := 0) C dX12_readBy_0 (by decide) ?_
  refine g_istore (lv' := [(6, .int 0), (0, .ref a0), (1, .int a1), (2, .int a2), (3, .int a3), (4, .int a4), (5, .int a5)]) C dX12_readBy_1 (by decide) rfl ?_
  refine g_iconst (v := 0) C dX12_readBy_3 (by decide) ?_
  refine g_istore (lv' := [(7, .int 0), (6, .int 0), (0, .ref a0), (1, .int a1), (2, .int a2), (3, .int a3), (4, .int a4), (5, .int a5)]) C dX12_readBy_4 (by decide) rfl ?_
  refine g_lv (lv' := [(0, .ref a0), (1, .int a1), (2, .int a2), (3, .int a3), (4, .int a4), (5, .int a5), (6, .int 0), (7, .int 0)]) [2, 3, 4, 5, 6, 7, 1, 0] rfl ?_
  exact J6 _ P 0 0 (Nat.lt_succ_self _) I EM.rf hW (by decide) (fun b9 e9 => by rw [e96946] at e9; cases e9; omega)
theorem dX12_read_39 : decode cX12_read 39 = .ok (.iconst (-1), 1) := by decide +kernel
theorem dX12_read_40 : decode cX12_read 40 = .ok (.ireturn, 1) := by decide +kernel
theorem dX12_read_60 : decode cX12_read 60 = .ok (.ireturn, 1) := by decide +kernel
set_option maxHeartbeats 4000000 in
set_option maxRecDepth 100000 in
theorem s_X12_read {P : PP} {a0 : Nat} {a1 : Int32} {a2 : Int32} {a3 : Int32} {a4 : Int32} (I : IM P a0) (hW : MW P a0) : CtrI yX12_read cX12_read 5 (some Jvm.ClassFile.FieldType.int) ({ frames := 6, cells := 0, slots := 0, locals := 384 } : Room) 0 0 P [.ref a0, .int a1, .int a2, .int a3, .int a4] (fun r P2 => IM P2 a0 ∧ EM [0, 28, 29, 30, 31, 32, 33, 34, 35, 36, 37, 38] a0 P P2 ∧ MW P2 a0 ∧ (True)) := by
  refine enI (lv := [(0, .ref a0), (1, .int a1), (2, .int a2), (3, .int a3), (4, .int a4)]) (by decide) (Nat.le_of_ble_eq_true rfl) rfl (fun E D cy C Ci0 ret => ?_)
  have ha0 := I.2.1
  have J39 : ∀ (P39 : PP), (IM P39 a0) → (EM [0, 28, 29, 30, 31, 32, 33, 34, 35, 36, 37, 38] a0 P P39) → (MW P39 a0) → (0 ≤ (pI P39 a0 0).toInt ∧ (pI P39 a0 0).toInt ≤ 0) → G E ({ frames := 6, cells := 0, slots := 0, locals := 384 } : Room) D cy 5 P39 0 0 39 [] [] := by
    intro P39 I39 X39 W39 hq39_0
    have h97012 := X39.at ha0
    refine g_iconst (v := (-1)) C dX12_read_39 (by decide) ?_
    exact ret _ _ _ _ _ _ dX12_read_40 rfl (by decide) (by decide) ⟨I39, X39, W39, trivial⟩
  refine g_aload_n C dX12_read_0 rfl 0 rfl ?_
  refine g_iconst (v := 0) C dX12_read_1 (by decide) ?_
  refine g_putI C fi_X12_1 rfl (ha0).1 (ha0).2 dX12_read_2 ?_
  refine gqW (ks := [0]) (I.setI (rgOk.of rfl (by decide))) (EM.setI I (by decide)) (fun Y97013 Iy97014 Xy97015 w97016  => ?_)
  have w97016 : (pI Y97013 a0 0).toInt = 0 := w97016
  have W97017 := hW.keep I Xy97015 (by decide) (by decide) (by decide)
  have Xz97018 : EM [0, 28, 29, 30, 31, 32, 33, 34, 35, 36, 37, 38] a0 P Y97013 := Xy97015.mono (by decide)
  have h97019 := Xy97015.at ha0
  refine g_iload_n C dX12_read_5 rfl 1 rfl ?_
  refine g_callSI (b := 0) (ci := 0) (rest := []) C ms_X12_278 [.int a1] (s_X12_isQuarter Iy97014.1) rfl rfl (by decide) (Nat.le_of_ble_eq_true rfl) (by decide) dX12_read_6 (fun r97020 Y97021 h97022 => ?_)
  obtain ⟨rfl, h97022⟩ := h97022
  obtain ⟨h97022, hi97023⟩ := h97022
  have hi97023 : r97020.toInt = 0 ∨ (((0 : Int) ≤ a1.toInt ∧ a1.toInt ≤ (3 : Int))) := hi97023
  have h97022 : 0 ≤ r97020.toInt ∧ r97020.toInt ≤ 1 := h97022
  refine b_if_eq C 39 dX12_read_9 (by decide) (fun h97024 => ?_) (fun h97024 => ?_)
  · have h97024 : r97020.toInt = 0 := congrArg Int32.toInt h97024
    clear hi97023
    refine g_lv (lv' := []) [] rfl ?_
    exact J39 Y97013 Iy97014 Xz97018 W97017 (by omega)
  · have h97024 : r97020.toInt ≠ 0 := ti_ne h97024
    replace hi97023 := hi97023.resolve_left (by omega)
    refine g_aload_n C dX12_read_12 rfl 0 rfl ?_
    refine g_iload_n C dX12_read_13 rfl 2 rfl ?_
    refine g_callVI (rest := []) C mv_X12_192 [.int a2] (s_X12_isBook Iy97014 W97017) (h97019).1 (h97019).2 rfl rfl (by decide) (Nat.le_of_ble_eq_true rfl) (by decide) dX12_read_14 (fun r97025 Y97026 h97027 => ?_)
    obtain ⟨rfl, h97027⟩ := h97027
    obtain ⟨h97027, hi97028, hi97029⟩ := h97027
    have hi97028 : r97025.toInt = 0 ∨ (((0 : Int) ≤ a2.toInt ∧ a2.toInt ≤ (1 : Int))) := hi97028
    have h97027 : 0 ≤ r97025.toInt ∧ r97025.toInt ≤ 1 := h97027
    refine b_if_eq C 39 dX12_read_17 (by decide) (fun h97030 => ?_) (fun h97030 => ?_)
    · have h97030 : r97025.toInt = 0 := congrArg Int32.toInt h97030
      clear hi97028
      refine g_lv (lv' := []) [] rfl ?_
      exact J39 Y97013 Iy97014 Xz97018 W97017 (by omega)
    · have h97030 : r97025.toInt ≠ 0 := ti_ne h97030
      replace hi97028 := hi97028.resolve_left (by omega)
      obtain ⟨b97031, e97032, h97033⟩ := Iy97014.fld (h97019) 10 13 2 rfl
      have hi97029 := (hi97029.resolve_left (by omega)) b97031 e97032
      have hi97029 : 0 < (pI Y97013 b97031 (a2.toInt.toNat)).toInt := hi97029
      have h97034 := Iy97014.arr e97032 rfl (a2.toInt.toNat)
      refine g_aload_n C dX12_read_20 rfl 0 rfl ?_
      refine g_iload_n C dX12_read_21 rfl 2 rfl ?_
      refine g_iload_n C dX12_read_22 rfl 3 rfl ?_
      refine g_callVI (rest := []) C mv_X12_352 [.int a2, .int a3] (s_X12_isPage Iy97014 (by omega) W97017) (h97019).1 (h97019).2 rfl rfl (by decide) (Nat.le_of_ble_eq_true rfl) (by decide) dX12_read_23 (fun r97035 Y97036 h97037 => ?_)
      obtain ⟨rfl, h97037⟩ := h97037
      obtain ⟨h97037, hi97038⟩ := h97037
      have hi97038 : r97035.toInt = 0 ∨ (((0 : Int) ≤ a3.toInt ∧ a3.toInt ≤ (19 : Int))) := hi97038
      have h97037 : 0 ≤ r97035.toInt ∧ r97035.toInt ≤ 1 := h97037
      refine b_if_eq C 39 dX12_read_26 (by decide) (fun h97039 => ?_) (fun h97039 => ?_)
      · have h97039 : r97035.toInt = 0 := congrArg Int32.toInt h97039
        clear hi97038
        refine g_lv (lv' := []) [] rfl ?_
        exact J39 Y97013 Iy97014 Xz97018 W97017 (by omega)
      · have h97039 : r97035.toInt ≠ 0 := ti_ne h97039
        replace hi97038 := hi97038.resolve_left (by omega)
        refine g_iload C dX12_read_29 4 rfl ?_
        refine g_iconst (v := 0) C dX12_read_31 (by decide) ?_
        refine g_iconst (v := 1) C dX12_read_32 (by decide) ?_
        refine g_callSI (b := 0) (ci := 0) (rest := []) C ms_X12_178 [.int a4, .int 0, .int 1] (s_X12_within Iy97014.1) rfl rfl (by decide) (Nat.le_of_ble_eq_true rfl) (by decide) dX12_read_33 (fun r97040 Y97041 h97042 => ?_)
        obtain ⟨rfl, h97042⟩ := h97042
        obtain ⟨h97042, hi97043⟩ := h97042
        have hi97043 : r97040.toInt = 0 ∨ (0 ≤ a4.toInt ∧ a4.toInt ≤ 1) := hi97043
        have h97042 : 0 ≤ r97040.toInt ∧ r97040.toInt ≤ 1 := h97042
        refine b_if_ne C 41 dX12_read_36 (by decide) (fun h97044 => ?_) (fun h97044 => ?_)
        · have h97044 : r97040.toInt ≠ 0 := ti_ne h97044
          replace hi97043 := hi97043.resolve_left (by omega)
          refine g_aload_n C dX12_read_41 rfl 0 rfl ?_
          refine g_callVV (rest := []) C mv_X12_336 [] (s_X12_leavesNone Iy97014 W97017) (h97019).1 (h97019).2 rfl rfl (by decide) (Nat.le_of_ble_eq_true rfl) (by decide) dX12_read_42 (fun Y97046 h97047 => ?_)
          obtain ⟨Iy97048, Xy97049, W97050⟩ := h97047
          have q97051 := Xy97049.keepF 0 (by decide)
          have q97052 := Xy97049.keepA e97032 (by decide) rfl (a2.toInt.toNat)
          have Xz97053 : EM [0, 28, 29, 30, 31, 32, 33, 34, 35, 36, 37, 38] a0 P Y97046 := EM.tr ha0 Xz97018 (Xy97049.mono (by decide))
          have e97054 := Xy97049.ref h97019 (by decide) e97032
          have h97055 := Xy97049.at h97019
          have h97056 := Xy97049.ar h97033
          refine g_aload_n C dX12_read_45 rfl 0 rfl ?_
          refine g_iload_n C dX12_read_46 rfl 1 rfl ?_
          refine g_iload_n C dX12_read_47 rfl 2 rfl ?_
          refine g_iload_n C dX12_read_48 rfl 3 rfl ?_
          refine g_iload C dX12_read_49 4 rfl ?_
          refine g_aload_n C dX12_read_51 rfl 0 rfl ?_
          obtain ⟨b97057, e97058, h97059⟩ := Iy97048.fld (h97055) 20 13 20 rfl
          refine g_getR C fi_X12_69 rfl e97058 (h97055).1 (h97055).2 dX12_read_52 ?_
          refine g_iload_n C dX12_read_55 rfl 1 rfl ?_
          refine g_iald (j := (a1.toInt.toNat)) C h97059.1 h97059.2.1 (ix_in h97059.2.2 (by omega)) dX12_read_56 ?_
          have h97060 := Iy97048.arr e97058 rfl (a1.toInt.toNat)
          refine g_callVI (rest := []) C mv_X12_355 [.int a1, .int a2, .int a3, .int a4, .int (pI Y97046 b97057 (a1.toInt.toNat))] (s_X12_readBy Iy97048 (by omega) (by omega) (by omega) (by omega) (fun b9 e9 => by rw [e97054] at e9; cases e9; show 1 ≤ (pI Y97046 b97031 (a2.toInt.toNat)).toInt ∧ (pI Y97046 b97031 (a2.toInt.toNat)).toInt ≤ 16; omega) W97050) (h97055).1 (h97055).2 rfl rfl (by decide) (Nat.le_of_ble_eq_true rfl) (by decide) dX12_read_57 (fun r97061 Y97062 h97063 => ?_)
          obtain ⟨Iy97064, Xy97065, W97066, h97063⟩ := h97063
          have q97067 := Xy97065.keepF 0 (by decide)
          have q97068 := Xy97065.keepA e97054 (by decide) rfl (a2.toInt.toNat)
          have q97069 := Xy97065.keepA e97058 (by decide) rfl (a1.toInt.toNat)
          have Xz97070 : EM [0, 28, 29, 30, 31, 32, 33, 34, 35, 36, 37, 38] a0 P Y97062 := EM.tr ha0 Xz97053 (Xy97065.mono (by decide))
          have e97071 := Xy97065.ref h97055 (by decide) e97054
          have e97072 := Xy97065.ref h97055 (by decide) e97058
          have h97073 := Xy97065.at h97055
          have h97074 := Xy97065.ar h97056
          have h97075 := Xy97065.ar h97059
          have h97063 : True := h97063
          exact ret _ _ _ _ _ _ dX12_read_60 rfl (by decide) (by decide) ⟨Iy97064, Xz97070, W97066, trivial⟩
        · have h97044 : r97040.toInt = 0 := congrArg Int32.toInt h97044
          clear hi97043
          refine g_lv (lv' := []) [] rfl ?_
          exact J39 Y97013 Iy97014 Xz97018 W97017 (by omega)
theorem dX12_right_0 : decode cX12_right 0 = .ok (.aload_n 0, 1) := by decide +kernel
theorem dX12_right_1 : decode cX12_right 1 = .ok (.iconst 0, 1) := by decide +kernel
theorem dX12_right_2 : decode cX12_right 2 = .ok (.putfield 1, 3) := by decide +kernel
theorem dX12_right_5 : decode cX12_right 5 = .ok (.aload_n 0, 1) := by decide +kernel
theorem dX12_right_6 : decode cX12_right 6 = .ok (.iload_n 1, 1) := by decide +kernel
theorem dX12_right_7 : decode cX12_right 7 = .ok (.iload_n 2, 1) := by decide +kernel
theorem dX12_right_8 : decode cX12_right 8 = .ok (.iload_n 3, 1) := by decide +kernel
theorem dX12_right_9 : decode cX12_right 9 = .ok (.invokevirtual 333, 3) := by decide +kernel
theorem dX12_right_12 : decode cX12_right 12 = .ok (.ifCond .eq 23, 3) := by decide +kernel
theorem dX12_right_15 : decode cX12_right 15 = .ok (.aload_n 0, 1) := by decide +kernel
theorem dX12_right_16 : decode cX12_right 16 = .ok (.iload_n 2, 1) := by decide +kernel
theorem dX12_right_17 : decode cX12_right 17 = .ok (.iload 4, 2) := by decide +kernel
theorem dX12_right_19 : decode cX12_right 19 = .ok (.invokevirtual 352, 3) := by decide +kernel
theorem dX12_right_22 : decode cX12_right 22 = .ok (.ifCond .eq 13, 3) := by decide +kernel
theorem dX12_right_25 : decode cX12_right 25 = .ok (.aload_n 0, 1) := by decide +kernel
theorem dX12_right_26 : decode cX12_right 26 = .ok (.iload_n 1, 1) := by decide +kernel
theorem dX12_right_27 : decode cX12_right 27 = .ok (.iload_n 2, 1) := by decide +kernel
theorem dX12_right_28 : decode cX12_right 28 = .ok (.iload_n 3, 1) := by decide +kernel
theorem dX12_right_29 : decode cX12_right 29 = .ok (.invokevirtual 364, 3) := by decide +kernel
theorem dX12_right_32 : decode cX12_right 32 = .ok (.ifCond .ne 5, 3) := by decide +kernel
theorem dX12_right_35 : decode cX12_right 35 = .ok (.iconst (-1), 1) := by decide +kernel
theorem dX12_right_36 : decode cX12_right 36 = .ok (.ireturn, 1) := by decide +kernel
theorem dX12_right_37 : decode cX12_right 37 = .ok (.iconst (-1), 1) := by decide +kernel
theorem dX12_right_38 : decode cX12_right 38 = .ok (.istore 5, 2) := by decide +kernel
theorem dX12_right_40 : decode cX12_right 40 = .ok (.iconst 0, 1) := by decide +kernel
theorem dX12_right_41 : decode cX12_right 41 = .ok (.istore 6, 2) := by decide +kernel
theorem dX12_right_43 : decode cX12_right 43 = .ok (.iload 6, 2) := by decide +kernel
theorem dX12_right_45 : decode cX12_right 45 = .ok (.aload_n 0, 1) := by decide +kernel
theorem dX12_right_46 : decode cX12_right 46 = .ok (.getfield 361, 3) := by decide +kernel
theorem dX12_right_49 : decode cX12_right 49 = .ok (.if_icmp .ge 80, 3) := by decide +kernel
theorem dX12_right_52 : decode cX12_right 52 = .ok (.aload_n 0, 1) := by decide +kernel
theorem dX12_right_53 : decode cX12_right 53 = .ok (.invokevirtual 336, 3) := by decide +kernel
theorem dX12_right_56 : decode cX12_right 56 = .ok (.aload_n 0, 1) := by decide +kernel
theorem dX12_right_57 : decode cX12_right 57 = .ok (.getfield 100, 3) := by decide +kernel
theorem dX12_right_60 : decode cX12_right 60 = .ok (.aload_n 0, 1) := by decide +kernel
theorem dX12_right_61 : decode cX12_right 61 = .ok (.getfield 112, 3) := by decide +kernel
theorem dX12_right_64 : decode cX12_right 64 = .ok (.iload 6, 2) := by decide +kernel
theorem dX12_right_66 : decode cX12_right 66 = .ok (.iaload, 1) := by decide +kernel
theorem dX12_right_67 : decode cX12_right 67 = .ok (.iconst 1, 1) := by decide +kernel
theorem dX12_right_68 : decode cX12_right 68 = .ok (.bastore, 1) := by decide +kernel
theorem dX12_right_69 : decode cX12_right 69 = .ok (.aload_n 0, 1) := by decide +kernel
theorem dX12_right_70 : decode cX12_right 70 = .ok (.iload_n 1, 1) := by decide +kernel
theorem dX12_right_71 : decode cX12_right 71 = .ok (.iload_n 2, 1) := by decide +kernel
theorem dX12_right_72 : decode cX12_right 72 = .ok (.iload_n 3, 1) := by decide +kernel
theorem dX12_right_73 : decode cX12_right 73 = .ok (.aload_n 0, 1) := by decide +kernel
theorem dX12_right_74 : decode cX12_right 74 = .ok (.getfield 69, 3) := by decide +kernel
theorem dX12_right_77 : decode cX12_right 77 = .ok (.iload_n 1, 1) := by decide +kernel
theorem dX12_right_78 : decode cX12_right 78 = .ok (.iaload, 1) := by decide +kernel
theorem dX12_right_79 : decode cX12_right 79 = .ok (.invokevirtual 339, 3) := by decide +kernel
theorem dX12_right_82 : decode cX12_right 82 = .ok (.aload_n 0, 1) := by decide +kernel
theorem dX12_right_83 : decode cX12_right 83 = .ok (.invokevirtual 346, 3) := by decide +kernel
theorem dX12_right_86 : decode cX12_right 86 = .ok (.aload_n 0, 1) := by decide +kernel
theorem dX12_right_87 : decode cX12_right 87 = .ok (.iload 4, 2) := by decide +kernel
theorem dX12_right_89 : decode cX12_right 89 = .ok (.invokevirtual 330, 3) := by decide +kernel
theorem dX12_right_92 : decode cX12_right 92 = .ok (.ifCond .eq 20, 3) := by decide +kernel
theorem dX12_right_95 : decode cX12_right 95 = .ok (.iload 5, 2) := by decide +kernel
theorem dX12_right_97 : decode cX12_right 97 = .ok (.ifCond .lt 17, 3) := by decide +kernel
theorem dX12_right_100 : decode cX12_right 100 = .ok (.iload 5, 2) := by decide +kernel
theorem dX12_right_102 : decode cX12_right 102 = .ok (.aload_n 0, 1) := by decide +kernel
theorem dX12_right_103 : decode cX12_right 103 = .ok (.getfield 109, 3) := by decide +kernel
theorem dX12_right_106 : decode cX12_right 106 = .ok (.iload 4, 2) := by decide +kernel
theorem dX12_right_108 : decode cX12_right 108 = .ok (.iaload, 1) := by decide +kernel
theorem dX12_right_109 : decode cX12_right 109 = .ok (.if_icmp .eq 5, 3) := by decide +kernel
theorem dX12_right_112 : decode cX12_right 112 = .ok (.iconst (-1), 1) := by decide +kernel
theorem dX12_right_113 : decode cX12_right 113 = .ok (.ireturn, 1) := by decide +kernel
theorem dX12_right_114 : decode cX12_right 114 = .ok (.aload_n 0, 1) := by decide +kernel
theorem dX12_right_115 : decode cX12_right 115 = .ok (.getfield 109, 3) := by decide +kernel
theorem dX12_right_118 : decode cX12_right 118 = .ok (.iload 4, 2) := by decide +kernel
theorem dX12_right_120 : decode cX12_right 120 = .ok (.iaload, 1) := by decide +kernel
theorem dX12_right_121 : decode cX12_right 121 = .ok (.istore 5, 2) := by decide +kernel
theorem dX12_right_123 : decode cX12_right 123 = .ok (.iinc 6 1, 3) := by decide +kernel
theorem dX12_right_126 : decode cX12_right 126 = .ok (.goto (-83), 3) := by decide +kernel
theorem dX12_right_129 : decode cX12_right 129 = .ok (.iload 5, 2) := by decide +kernel
theorem dX12_right_131 : decode cX12_right 131 = .ok (.ireturn, 1) := by decide +kernel
set_option maxHeartbeats 4000000 in
set_option maxRecDepth 100000 in
theorem s_X12_right {P : PP} {a0 : Nat} {a1 : Int32} {a2 : Int32} {a3 : Int32} {a4 : Int32} (I : IM P a0) (hW : MW P a0) : CtrI yX12_right cX12_right 7 (some Jvm.ClassFile.FieldType.int) ({ frames := 6, cells := 0, slots := 0, locals := 384 } : Room) 0 0 P [.ref a0, .int a1, .int a2, .int a3, .int a4] (fun r P2 => IM P2 a0 ∧ EM [0, 28, 29, 30, 31, 32, 35, 36, 37, 38, 39, 40] a0 P P2 ∧ MW P2 a0 ∧ (True)) := by
  refine enI (lv := [(0, .ref a0), (1, .int a1), (2, .int a2), (3, .int a3), (4, .int a4)]) (by decide) (Nat.le_of_ble_eq_true rfl) rfl (fun E D cy C Ci0 ret => ?_)
  have ha0 := I.2.1
  have J112 : ∀ (P112 : PP), (IM P112 a0) → (EM [0, 28, 29, 30, 31, 32, 35, 36, 37, 38, 39, 40] a0 P P112) → (MW P112 a0) → (0 ≤ (pI P112 a0 0).toInt ∧ (pI P112 a0 0).toInt ≤ 0) → (0 ≤ (pI P112 a0 28).toInt ∧ (pI P112 a0 28).toInt ≤ 44) → (1 ≤ (pI P112 a0 39).toInt ∧ (pI P112 a0 39).toInt ≤ 40) → (∀ b, pR P112 a0 10 = some b → 1 ≤ (pI P112 b (a2.toInt.toNat)).toInt ∧ (pI P112 b (a2.toInt.toNat)).toInt ≤ 16) → G E ({ frames := 6, cells := 0, slots := 0, locals := 384 } : Room) D cy 7 P112 0 0 112 [] [] := by
    intro P112 I112 X112 W112 hq112_0 hq112_1 hq112_2 hq112_3
    have h98804 := X112.at ha0
    obtain ⟨b98805, e98806, h98807⟩ := I112.fld (h98804) 10 13 2 rfl
    have hq112_3 := hq112_3 b98805 e98806
    refine g_iconst (v := (-1)) C dX12_right_112 (by decide) ?_
    exact ret _ _ _ _ _ _ dX12_right_113 rfl (by decide) (by decide) ⟨I112, X112, W112, trivial⟩
  have J43 : ∀ (n43 : Nat) (P43 : PP) (v43_5 : Int32) (v43_6 : Int32), (40 - v43_6.toInt).toNat < n43 → (IM P43 a0) → (EM [0, 28, 29, 30, 31, 32, 35, 36, 37, 38, 39, 40] a0 P P43) → (MW P43 a0) → (0 ≤ a1.toInt ∧ a1.toInt ≤ 3) → (0 ≤ a2.toInt ∧ a2.toInt ≤ 1) → (0 ≤ a3.toInt ∧ a3.toInt ≤ 1) → (0 ≤ a4.toInt ∧ a4.toInt ≤ 19) → (0 ≤ v43_6.toInt ∧ v43_6.toInt ≤ 40) → (0 ≤ (pI P43 a0 0).toInt ∧ (pI P43 a0 0).toInt ≤ 0) → (∀ b, pR P43 a0 10 = some b → 1 ≤ (pI P43 b (a2.toInt.toNat)).toInt ∧ (pI P43 b (a2.toInt.toNat)).toInt ≤ 16) → G E ({ frames := 6, cells := 0, slots := 0, locals := 384 } : Room) D cy 7 P43 0 0 43 [(0, .ref a0), (1, .int a1), (2, .int a2), (3, .int a3), (4, .int a4), (5, .int v43_5), (6, .int v43_6)] [] := by
    intro n43
    induction n43 with
    | zero => intro P43 v43_5 v43_6 hm43 I43 X43 W43 hv43_1 hv43_2 hv43_3 hv43_4 hv43_6 hq43_0 hq43_1; omega
    | succ n43 ih43 =>
      intro P43 v43_5 v43_6 hm43 I43 X43 W43 hv43_1 hv43_2 hv43_3 hv43_4 hv43_6 hq43_0 hq43_1
      have h98808 := X43.at ha0
      obtain ⟨b98809, e98810, h98811⟩ := I43.fld (h98808) 10 13 2 rfl
      have hq43_1 := hq43_1 b98809 e98810
      have J114 : ∀ (P114 : PP), (IM P114 a0) → (EM [0, 28, 29, 30, 31, 32, 35, 36, 37, 38, 39, 40] a0 P P114) → (MW P114 a0) → (0 ≤ a1.toInt ∧ a1.toInt ≤ 3) → (0 ≤ a2.toInt ∧ a2.toInt ≤ 1) → (0 ≤ a3.toInt ∧ a3.toInt ≤ 1) → (0 ≤ a4.toInt ∧ a4.toInt ≤ 19) → (0 ≤ v43_6.toInt ∧ v43_6.toInt ≤ 39) → (0 ≤ (pI P114 a0 0).toInt ∧ (pI P114 a0 0).toInt ≤ 0) → (0 ≤ (pI P114 a0 28).toInt ∧ (pI P114 a0 28).toInt ≤ 44) → (1 ≤ (pI P114 a0 39).toInt ∧ (pI P114 a0 39).toInt ≤ 40) → (∀ b, pR P114 a0 10 = some b → 1 ≤ (pI P114 b (a2.toInt.toNat)).toInt ∧ (pI P114 b (a2.toInt.toNat)).toInt ≤ 16) → G E ({ frames := 6, cells := 0, slots := 0, locals := 384 } : Room) D cy 7 P114 0 0 114 [(0, .ref a0), (1, .int a1), (2, .int a2), (3, .int a3), (4, .int a4), (6, .int v43_6)] [] := by
        intro P114 I114 X114 W114 hv114_1 hv114_2 hv114_3 hv114_4 hv114_6 hq114_0 hq114_1 hq114_2 hq114_3
        have h98812 := X114.at ha0
        obtain ⟨b98813, e98814, h98815⟩ := I114.fld (h98812) 10 13 2 rfl
        have hq114_3 := hq114_3 b98813 e98814
        refine g_aload_n C dX12_right_114 rfl 0 rfl ?_
        obtain ⟨b98816, e98817, h98818⟩ := I114.fld (h98812) 38 13 20 rfl
        refine g_getR C fi_X12_109 rfl e98817 (h98812).1 (h98812).2 dX12_right_115 ?_
        refine g_iload C dX12_right_118 4 rfl ?_
        refine g_iald (j := (a4.toInt.toNat)) C h98818.1 h98818.2.1 (ix_in h98818.2.2 (by omega)) dX12_right_120 ?_
        refine g_topi (fun z98819 h98820 => ?_)
        have h98820 : z98819.toInt = (pI P114 b98816 (a4.toInt.toNat)).toInt := congrArg Int32.toInt h98820
        refine g_istore (lv' := [(5, .int z98819), (0, .ref a0), (1, .int a1), (2, .int a2), (3, .int a3), (4, .int a4), (6, .int v43_6)]) C dX12_right_121 (by decide) rfl ?_
        refine s_iinc (lv0 := [(5, .int z98819), (0, .ref a0), (1, .int a1), (2, .int a2), (3, .int a3), (4, .int a4)]) (m := 1) C dX12_right_123 6 rfl (by decide) rfl (by decide) (by omega) (fun z98821 h98822 => ?_)
        have h98822 : z98821.toInt = v43_6.toInt + 1 := h98822
        refine g_goto C 43 dX12_right_126 (by decide) ?_
        refine g_lv (lv' := [(0, .ref a0), (1, .int a1), (2, .int a2), (3, .int a3), (4, .int a4), (5, .int z98819), (6, .int z98821)]) [2, 3, 4, 5, 6, 1, 0] rfl ?_
        exact ih43 P114 z98819 z98821 (by omega) I114 X114 W114 (by omega) (by omega) (by omega) (by omega) (by omega) (by omega) (fun b9 e9 => by rw [e98814] at e9; cases e9; omega)
      refine g_iload C dX12_right_43 6 rfl ?_
      refine g_aload_n C dX12_right_45 rfl 0 rfl ?_
      refine g_getI C fi_X12_361 (by decide) (h98808).1 (h98808).2 dX12_right_46 ?_
      have h98823 := I43.rg (h98808) 39 rfl
      refine b_icmp_ge C 129 dX12_right_49 (by decide) (fun h98824 => ?_) (fun h98824 => ?_)
      · have h98824 : (pI P43 a0 39).toInt ≤ v43_6.toInt := h98824
        refine g_iload C dX12_right_129 5 rfl ?_
        exact ret _ _ _ _ _ _ dX12_right_131 rfl (by decide) (by decide) ⟨I43, X43, W43, trivial⟩
      · have h98824 : v43_6.toInt < (pI P43 a0 39).toInt := h98824
        refine g_aload_n C dX12_right_52 rfl 0 rfl ?_
        refine g_callVV (rest := []) C mv_X12_336 [] (s_X12_leavesNone I43 W43) (h98808).1 (h98808).2 rfl rfl (by decide) (Nat.le_of_ble_eq_true rfl) (by decide) dX12_right_53 (fun Y98826 h98827 => ?_)
        obtain ⟨Iy98828, Xy98829, W98830⟩ := h98827
        have q98831 := Xy98829.keepF 0 (by decide)
        have q98832 := Xy98829.keepA e98810 (by decide) rfl (a2.toInt.toNat)
        have q98833 := Xy98829.keepF 39 (by decide)
        have Xz98834 : EM [0, 28, 29, 30, 31, 32, 35, 36, 37, 38, 39, 40] a0 P Y98826 := EM.tr ha0 X43 (Xy98829.mono (by decide))
        have e98835 := Xy98829.ref h98808 (by decide) e98810
        have h98836 := Xy98829.at h98808
        have h98837 := Xy98829.ar h98811
        refine g_aload_n C dX12_right_56 rfl 0 rfl ?_
        obtain ⟨b98838, e98839, h98840⟩ := Iy98828.fld (h98836) 32 15 40 rfl
        refine g_getR C fi_X12_100 rfl e98839 (h98836).1 (h98836).2 dX12_right_57 ?_
        refine g_aload_n C dX12_right_60 rfl 0 rfl ?_
        obtain ⟨b98841, e98842, h98843⟩ := Iy98828.fld (h98836) 40 13 40 rfl
        refine g_getR C fi_X12_112 rfl e98842 (h98836).1 (h98836).2 dX12_right_61 ?_
        refine g_iload C dX12_right_64 6 rfl ?_
        refine g_iald (j := (v43_6.toInt.toNat)) C h98843.1 h98843.2.1 (ix_in h98843.2.2 (by omega)) dX12_right_66 ?_
        have h98844 := Iy98828.arr e98842 rfl (v43_6.toInt.toNat)
        refine g_iconst (v := 1) C dX12_right_67 (by decide) ?_
        refine g_zast (j := ((pI Y98826 b98841 (v43_6.toInt.toNat)).toInt.toNat)) C h98840.1 h98840.2.1 (ix_in h98840.2.2 (by omega)) (Or.inr rfl) dX12_right_68 ?_
        refine gqW (ks := [32]) (Iy98828.setA e98839 h98840 (by decide) (arOk.none rfl)) (EM.setA Iy98828 e98839 rfl (by decide)) (fun Y98845 Iy98846 Xy98847 w98848  => ?_)
        have w98848 : (pI Y98845 b98838 ((pI Y98826 b98841 (v43_6.toInt.toNat)).toInt.toNat)).toInt = 1 := w98848
        have q98849 := Xy98847.keepF 0 (by decide)
        have q98850 := Xy98847.keepA e98835 (by decide) rfl (a2.toInt.toNat)
        have q98851 := Xy98847.keepF 39 (by decide)
        have q98852 := Xy98847.keepA e98842 (by decide) rfl (v43_6.toInt.toNat)
        have W98853 := W98830.keep Iy98828 Xy98847 (by decide) (by decide) (by decide)
        have Xz98854 : EM [0, 28, 29, 30, 31, 32, 35, 36, 37, 38, 39, 40] a0 P Y98845 := EM.tr ha0 Xz98834 (Xy98847.mono (by decide))
        have e98855 := Xy98847.ref h98836 (by decide) e98835
        have e98856 := Xy98847.ref h98836 (by decide) e98842
        have h98857 := Xy98847.at h98836
        have h98858 := Xy98847.ar h98837
        have h98859 := Xy98847.ar h98843
        refine g_aload_n C dX12_right_69 rfl 0 rfl ?_
        refine g_iload_n C dX12_right_70 rfl 1 rfl ?_
        refine g_iload_n C dX12_right_71 rfl 2 rfl ?_
        refine g_iload_n C dX12_right_72 rfl 3 rfl ?_
        refine g_aload_n C dX12_right_73 rfl 0 rfl ?_
        obtain ⟨b98860, e98861, h98862⟩ := Iy98846.fld (h98857) 20 13 20 rfl
        refine g_getR C fi_X12_69 rfl e98861 (h98857).1 (h98857).2 dX12_right_74 ?_
        refine g_iload_n C dX12_right_77 rfl 1 rfl ?_
        refine g_iald (j := (a1.toInt.toNat)) C h98862.1 h98862.2.1 (ix_in h98862.2.2 (by omega)) dX12_right_78 ?_
        have h98863 := Iy98846.arr e98861 rfl (a1.toInt.toNat)
        refine g_callVV (rest := []) C mv_X12_339 [.int a1, .int a2, .int a3, .int (pI Y98845 b98860 (a1.toInt.toNat))] (s_X12_gathers Iy98846 (by omega) (by omega) (by omega) (fun b9 e9 => by rw [e98855] at e9; cases e9; show 1 ≤ (pI Y98845 b98809 (a2.toInt.toNat)).toInt ∧ (pI Y98845 b98809 (a2.toInt.toNat)).toInt ≤ 16; omega) W98853) (h98857).1 (h98857).2 rfl rfl (by decide) (Nat.le_of_ble_eq_true rfl) (by decide) dX12_right_79 (fun Y98865 h98866 => ?_)
        obtain ⟨Iy98867, Xy98868, W98869, p98870, p98871⟩ := h98866
        have p98870 : (pI Y98865 a0 28).toInt ≤ 4 + (pI Y98845 b98860 (a1.toInt.toNat)).toInt := p98870
        have q98872 := Xy98868.keepF 0 (by decide)
        have q98873 := Xy98868.keepA e98855 (by decide) rfl (a2.toInt.toNat)
        have q98874 := Xy98868.keepF 39 (by decide)
        have q98875 := Xy98868.keepA e98856 (by decide) rfl (v43_6.toInt.toNat)
        have q98876 := Xy98868.keepA e98861 (by decide) rfl (a1.toInt.toNat)
        have Xz98877 : EM [0, 28, 29, 30, 31, 32, 35, 36, 37, 38, 39, 40] a0 P Y98865 := EM.tr ha0 Xz98854 (Xy98868.mono (by decide))
        have e98878 := Xy98868.ref h98857 (by decide) e98855
        have e98879 := Xy98868.ref h98857 (by decide) e98856
        have e98880 := Xy98868.ref h98857 (by decide) e98861
        have h98881 := Xy98868.at h98857
        have h98882 := Xy98868.ar h98858
        have h98883 := Xy98868.ar h98859
        have h98884 := Xy98868.ar h98862
        obtain ⟨b98885, e98886, h98887⟩ := Iy98867.fld (h98881) 22 13 800 rfl
        have p98871 := p98871 b98885 e98886
        rw [Xz98877.2.2.2 22 (by decide) rfl b98885 (EM.refB Xz98877 ha0 e98886)] at p98871
        have p98871 : (pI Y98865 a0 28).toInt ≤ 4 + kC (pI P b98885) (40 * a1.toInt).toNat a2.toInt ((pI Y98845 b98860 (a1.toInt.toNat)).toInt : Int).toNat := p98871
        have h98888 := Iy98867.rg h98881 28 rfl
        refine g_aload_n C dX12_right_82 rfl 0 rfl ?_
        refine g_callVV (rest := []) C mv_X12_346 [] (s_X12_findSolved Iy98867 W98869) (h98881).1 (h98881).2 rfl rfl (by decide) (Nat.le_of_ble_eq_true rfl) (by decide) dX12_right_83 (fun Y98890 h98891 => ?_)
        obtain ⟨Iy98892, Xy98893, W98894⟩ := h98891
        have q98895 := Xy98893.keepF 0 (by decide)
        have q98896 := Xy98893.keepA e98878 (by decide) rfl (a2.toInt.toNat)
        have q98897 := Xy98893.keepF 39 (by decide)
        have q98898 := Xy98893.keepA e98879 (by decide) rfl (v43_6.toInt.toNat)
        have q98899 := Xy98893.keepA e98880 (by decide) rfl (a1.toInt.toNat)
        have q98900 := Xy98893.keepF 28 (by decide)
        have Xz98901 : EM [0, 28, 29, 30, 31, 32, 35, 36, 37, 38, 39, 40] a0 P Y98890 := EM.tr ha0 Xz98877 (Xy98893.mono (by decide))
        have e98902 := Xy98893.ref h98881 (by decide) e98878
        have e98903 := Xy98893.ref h98881 (by decide) e98879
        have e98904 := Xy98893.ref h98881 (by decide) e98880
        have h98905 := Xy98893.at h98881
        have h98906 := Xy98893.ar h98882
        have h98907 := Xy98893.ar h98883
        have h98908 := Xy98893.ar h98884
        refine g_aload_n C dX12_right_86 rfl 0 rfl ?_
        refine g_iload C dX12_right_87 4 rfl ?_
        refine g_callVI (rest := []) C mv_X12_330 [.int a4] (s_X12_isFixed Iy98892 (by omega) W98894) (h98905).1 (h98905).2 rfl rfl (by decide) (Nat.le_of_ble_eq_true rfl) (by decide) dX12_right_89 (fun r98909 Y98910 h98911 => ?_)
        obtain ⟨rfl, h98911⟩ := h98911
        have h98911 : 0 ≤ r98909.toInt ∧ r98909.toInt ≤ 1 := h98911
        refine b_if_eq C 112 dX12_right_92 (by decide) (fun h98912 => ?_) (fun h98912 => ?_)
        · have h98912 : r98909.toInt = 0 := congrArg Int32.toInt h98912
          refine g_lv (lv' := []) [] rfl ?_
          exact J112 Y98890 Iy98892 Xz98901 W98894 (by omega) (by omega) (by omega) (fun b9 e9 => by rw [e98902] at e9; cases e9; omega)
        · have h98912 : r98909.toInt ≠ 0 := ti_ne h98912
          refine g_iload C dX12_right_95 5 rfl ?_
          have u98914 := ti_rng v43_5
          refine b_if_lt C 114 dX12_right_97 (by decide) (fun h98913 => ?_) (fun h98913 => ?_)
          · have h98913 : v43_5.toInt < 0 := h98913
            refine g_lv (lv' := [(0, .ref a0), (1, .int a1), (2, .int a2), (3, .int a3), (4, .int a4), (6, .int v43_6)]) [0, 1, 2, 3, 4, 6] rfl ?_
            exact J114 Y98890 Iy98892 Xz98901 W98894 (by omega) (by omega) (by omega) (by omega) (by omega) (by omega) (by omega) (by omega) (fun b9 e9 => by rw [e98902] at e9; cases e9; omega)
          · have h98913 : 0 ≤ v43_5.toInt := h98913
            refine g_iload C dX12_right_100 5 rfl ?_
            refine g_aload_n C dX12_right_102 rfl 0 rfl ?_
            obtain ⟨b98915, e98916, h98917⟩ := Iy98892.fld (h98905) 38 13 20 rfl
            refine g_getR C fi_X12_109 rfl e98916 (h98905).1 (h98905).2 dX12_right_103 ?_
            refine g_iload C dX12_right_106 4 rfl ?_
            refine g_iald (j := (a4.toInt.toNat)) C h98917.1 h98917.2.1 (ix_in h98917.2.2 (by omega)) dX12_right_108 ?_
            have u98919 := ti_rng v43_5
            have u98920 := ti_rng (pI Y98890 b98915 (a4.toInt.toNat))
            refine b_icmp_eq C 114 dX12_right_109 (by decide) (fun h98918 => ?_) (fun h98918 => ?_)
            · have h98918 : v43_5.toInt = (pI Y98890 b98915 (a4.toInt.toNat)).toInt := congrArg Int32.toInt h98918
              refine g_lv (lv' := [(0, .ref a0), (1, .int a1), (2, .int a2), (3, .int a3), (4, .int a4), (6, .int v43_6)]) [0, 1, 2, 3, 4, 6] rfl ?_
              exact J114 Y98890 Iy98892 Xz98901 W98894 (by omega) (by omega) (by omega) (by omega) (by omega) (by omega) (by omega) (by omega) (fun b9 e9 => by rw [e98902] at e9; cases e9; omega)
            · have h98918 : v43_5.toInt ≠ (pI Y98890 b98915 (a4.toInt.toNat)).toInt := ti_ne h98918
              refine g_lv (lv' := []) [] rfl ?_
              exact J112 Y98890 Iy98892 Xz98901 W98894 (by omega) (by omega) (by omega) (fun b9 e9 => by rw [e98902] at e9; cases e9; omega)
  have J35 : ∀ (P35 : PP), (IM P35 a0) → (EM [0, 28, 29, 30, 31, 32, 35, 36, 37, 38, 39, 40] a0 P P35) → (MW P35 a0) → (0 ≤ (pI P35 a0 0).toInt ∧ (pI P35 a0 0).toInt ≤ 0) → G E ({ frames := 6, cells := 0, slots := 0, locals := 384 } : Room) D cy 7 P35 0 0 35 [] [] := by
    intro P35 I35 X35 W35 hq35_0
    have h98921 := X35.at ha0
    refine g_iconst (v := (-1)) C dX12_right_35 (by decide) ?_
    exact ret _ _ _ _ _ _ dX12_right_36 rfl (by decide) (by decide) ⟨I35, X35, W35, trivial⟩
  refine g_aload_n C dX12_right_0 rfl 0 rfl ?_
  refine g_iconst (v := 0) C dX12_right_1 (by decide) ?_
  refine g_putI C fi_X12_1 rfl (ha0).1 (ha0).2 dX12_right_2 ?_
  refine gqW (ks := [0]) (I.setI (rgOk.of rfl (by decide))) (EM.setI I (by decide)) (fun Y98922 Iy98923 Xy98924 w98925  => ?_)
  have w98925 : (pI Y98922 a0 0).toInt = 0 := w98925
  have W98926 := hW.keep I Xy98924 (by decide) (by decide) (by decide)
  have Xz98927 : EM [0, 28, 29, 30, 31, 32, 35, 36, 37, 38, 39, 40] a0 P Y98922 := Xy98924.mono (by decide)
  have h98928 := Xy98924.at ha0
  refine g_aload_n C dX12_right_5 rfl 0 rfl ?_
  refine g_iload_n C dX12_right_6 rfl 1 rfl ?_
  refine g_iload_n C dX12_right_7 rfl 2 rfl ?_
  refine g_iload_n C dX12_right_8 rfl 3 rfl ?_
  refine g_callVI (rest := []) C mv_X12_333 [.int a1, .int a2, .int a3] (s_X12_isAsked Iy98923 W98926) (h98928).1 (h98928).2 rfl rfl (by decide) (Nat.le_of_ble_eq_true rfl) (by decide) dX12_right_9 (fun r98929 Y98930 h98931 => ?_)
  obtain ⟨rfl, h98931⟩ := h98931
  obtain ⟨h98931, hi98932, hi98933⟩ := h98931
  have hi98932 : r98929.toInt = 0 ∨ (((0 : Int) ≤ a1.toInt ∧ a1.toInt ≤ (3 : Int)) ∧ ((0 : Int) ≤ a2.toInt ∧ a2.toInt ≤ (1 : Int)) ∧ ((0 : Int) ≤ a3.toInt ∧ a3.toInt ≤ (1 : Int))) := hi98932
  have h98931 : 0 ≤ r98929.toInt ∧ r98929.toInt ≤ 1 := h98931
  refine b_if_eq C 35 dX12_right_12 (by decide) (fun h98934 => ?_) (fun h98934 => ?_)
  · have h98934 : r98929.toInt = 0 := congrArg Int32.toInt h98934
    clear hi98932
    refine g_lv (lv' := []) [] rfl ?_
    exact J35 Y98922 Iy98923 Xz98927 W98926 (by omega)
  · have h98934 : r98929.toInt ≠ 0 := ti_ne h98934
    replace hi98932 := hi98932.resolve_left (by omega)
    obtain ⟨b98935, e98936, h98937⟩ := Iy98923.fld (h98928) 10 13 2 rfl
    have hi98933 := (hi98933.resolve_left (by omega)) b98935 e98936
    have hi98933 : 0 < (pI Y98922 b98935 (a2.toInt.toNat)).toInt := hi98933
    have h98938 := Iy98923.arr e98936 rfl (a2.toInt.toNat)
    refine g_aload_n C dX12_right_15 rfl 0 rfl ?_
    refine g_iload_n C dX12_right_16 rfl 2 rfl ?_
    refine g_iload C dX12_right_17 4 rfl ?_
    refine g_callVI (rest := []) C mv_X12_352 [.int a2, .int a4] (s_X12_isPage Iy98923 (by omega) W98926) (h98928).1 (h98928).2 rfl rfl (by decide) (Nat.le_of_ble_eq_true rfl) (by decide) dX12_right_19 (fun r98939 Y98940 h98941 => ?_)
    obtain ⟨rfl, h98941⟩ := h98941
    obtain ⟨h98941, hi98942⟩ := h98941
    have hi98942 : r98939.toInt = 0 ∨ (((0 : Int) ≤ a4.toInt ∧ a4.toInt ≤ (19 : Int))) := hi98942
    have h98941 : 0 ≤ r98939.toInt ∧ r98939.toInt ≤ 1 := h98941
    refine b_if_eq C 35 dX12_right_22 (by decide) (fun h98943 => ?_) (fun h98943 => ?_)
    · have h98943 : r98939.toInt = 0 := congrArg Int32.toInt h98943
      clear hi98942
      refine g_lv (lv' := []) [] rfl ?_
      exact J35 Y98922 Iy98923 Xz98927 W98926 (by omega)
    · have h98943 : r98939.toInt ≠ 0 := ti_ne h98943
      replace hi98942 := hi98942.resolve_left (by omega)
      refine g_aload_n C dX12_right_25 rfl 0 rfl ?_
      refine g_iload_n C dX12_right_26 rfl 1 rfl ?_
      refine g_iload_n C dX12_right_27 rfl 2 rfl ?_
      refine g_iload_n C dX12_right_28 rfl 3 rfl ?_
      refine g_callVI (rest := []) C mv_X12_364 [.int a1, .int a2, .int a3] (s_X12_findSlipped Iy98923 (by omega) (by omega) (by omega) (fun b9 e9 => by rw [e98936] at e9; cases e9; show 1 ≤ (pI Y98922 b98935 (a2.toInt.toNat)).toInt ∧ (pI Y98922 b98935 (a2.toInt.toNat)).toInt ≤ 16; omega) W98926) (h98928).1 (h98928).2 rfl rfl (by decide) (Nat.le_of_ble_eq_true rfl) (by decide) dX12_right_29 (fun r98944 Y98945 h98946 => ?_)
      obtain ⟨Iy98947, Xy98948, W98949, h98946⟩ := h98946
      have q98950 := Xy98948.keepF 0 (by decide)
      have q98951 := Xy98948.keepA e98936 (by decide) rfl (a2.toInt.toNat)
      have Xz98952 : EM [0, 28, 29, 30, 31, 32, 35, 36, 37, 38, 39, 40] a0 P Y98945 := EM.tr ha0 Xz98927 (Xy98948.mono (by decide))
      have e98953 := Xy98948.ref h98928 (by decide) e98936
      have h98954 := Xy98948.at h98928
      have h98955 := Xy98948.ar h98937
      have h98946 : 0 ≤ r98944.toInt ∧ r98944.toInt ≤ 1 := h98946
      refine b_if_ne C 37 dX12_right_32 (by decide) (fun h98956 => ?_) (fun h98956 => ?_)
      · have h98956 : r98944.toInt ≠ 0 := ti_ne h98956
        refine g_iconst (v := (-1)) C dX12_right_37 (by decide) ?_
        refine g_istore (lv' := [(5, .int (-1)), (0, .ref a0), (1, .int a1), (2, .int a2), (3, .int a3), (4, .int a4)]) C dX12_right_38 (by decide) rfl ?_
        refine g_iconst (v := 0) C dX12_right_40 (by decide) ?_
        refine g_istore (lv' := [(6, .int 0), (5, .int (-1)), (0, .ref a0), (1, .int a1), (2, .int a2), (3, .int a3), (4, .int a4)]) C dX12_right_41 (by decide) rfl ?_
        refine g_lv (lv' := [(0, .ref a0), (1, .int a1), (2, .int a2), (3, .int a3), (4, .int a4), (5, .int (-1)), (6, .int 0)]) [2, 3, 4, 5, 6, 1, 0] rfl ?_
        exact J43 _ Y98945 (-1) 0 (Nat.lt_succ_self _) Iy98947 Xz98952 W98949 (by omega) (by omega) (by omega) (by omega) (by decide) (by omega) (fun b9 e9 => by rw [e98953] at e9; cases e9; omega)
      · have h98956 : r98944.toInt = 0 := congrArg Int32.toInt h98956
        refine g_lv (lv' := []) [] rfl ?_
        exact J35 Y98945 Iy98947 Xz98952 W98949 (by omega)
