theorem dX12_count_0 : decode cX12_count 0 = .ok (.aload_n 0, 1) := by decide +kernel
theorem dX12_count_1 : decode cX12_count 1 = .ok (.iconst 0, 1) := by decide +kernel
theorem dX12_count_2 : decode cX12_count 2 = .ok (.putfield 1, 3) := by decide +kernel
theorem dX12_count_5 : decode cX12_count 5 = .ok (.iload_n 1, 1) := by decide +kernel
theorem dX12_count_6 : decode cX12_count 6 = .ok (.iconst 0, 1) := by decide +kernel
theorem dX12_count_7 : decode cX12_count 7 = .ok (.iconst 3, 1) := by decide +kernel
theorem dX12_count_8 : decode cX12_count 8 = .ok (.invokestatic 178, 3) := by decide +kernel
theorem dX12_count_11 : decode cX12_count 11 = .ok (.ifCond .eq 10, 3) := by decide +kernel
theorem dX12_count_14 : decode cX12_count 14 = .ok (.aload_n 0, 1) := by decide +kernel
theorem dX12_count_15 : decode cX12_count 15 = .ok (.getfield 69, 3) := by decide +kernel
theorem dX12_count_18 : decode cX12_count 18 = .ok (.iload_n 1, 1) := by decide +kernel
theorem dX12_count_19 : decode cX12_count 19 = .ok (.iaload, 1) := by decide +kernel
theorem dX12_count_20 : decode cX12_count 20 = .ok (.ireturn, 1) := by decide +kernel
theorem dX12_count_21 : decode cX12_count 21 = .ok (.iload_n 1, 1) := by decide +kernel
theorem dX12_count_22 : decode cX12_count 22 = .ok (.tableswitch 61 4 8 #[34, 40, 46, 51, 56], 34) := by decide +kernel
theorem dX12_count_56 : decode cX12_count 56 = .ok (.aload_n 0, 1) := by decide +kernel
theorem dX12_count_57 : decode cX12_count 57 = .ok (.iconst 0, 1) := by decide +kernel
theorem dX12_count_58 : decode cX12_count 58 = .ok (.invokevirtual 238, 3) := by decide +kernel
theorem dX12_count_61 : decode cX12_count 61 = .ok (.ireturn, 1) := by decide +kernel
theorem dX12_count_62 : decode cX12_count 62 = .ok (.aload_n 0, 1) := by decide +kernel
theorem dX12_count_63 : decode cX12_count 63 = .ok (.iconst 1, 1) := by decide +kernel
theorem dX12_count_64 : decode cX12_count 64 = .ok (.invokevirtual 238, 3) := by decide +kernel
theorem dX12_count_67 : decode cX12_count 67 = .ok (.ireturn, 1) := by decide +kernel
theorem dX12_count_68 : decode cX12_count 68 = .ok (.aload_n 0, 1) := by decide +kernel
theorem dX12_count_69 : decode cX12_count 69 = .ok (.getfield 11, 3) := by decide +kernel
theorem dX12_count_72 : decode cX12_count 72 = .ok (.ireturn, 1) := by decide +kernel
theorem dX12_count_73 : decode cX12_count 73 = .ok (.aload_n 0, 1) := by decide +kernel
theorem dX12_count_74 : decode cX12_count 74 = .ok (.getfield 288, 3) := by decide +kernel
theorem dX12_count_77 : decode cX12_count 77 = .ok (.ireturn, 1) := by decide +kernel
theorem dX12_count_78 : decode cX12_count 78 = .ok (.aload_n 0, 1) := by decide +kernel
theorem dX12_count_79 : decode cX12_count 79 = .ok (.invokevirtual 411, 3) := by decide +kernel
theorem dX12_count_82 : decode cX12_count 82 = .ok (.ireturn, 1) := by decide +kernel
theorem dX12_count_83 : decode cX12_count 83 = .ok (.iconst (-1), 1) := by decide +kernel
theorem dX12_count_84 : decode cX12_count 84 = .ok (.ireturn, 1) := by decide +kernel
set_option maxHeartbeats 4000000 in
set_option maxRecDepth 100000 in
theorem s_X12_count {P : PP} {a0 : Nat} {a1 : Int32} (I : IM P a0) (hW : MW P a0) : CtrI yX12_count cX12_count 2 (some Jvm.ClassFile.FieldType.int) ({ frames := 2, cells := 0, slots := 0, locals := 128 } : Room) 0 0 P [.ref a0, .int a1] (fun r P2 => IM P2 a0 ∧ EM [0] a0 P P2 ∧ MW P2 a0 ∧ (True)) := by
  refine enI (lv := [(0, .ref a0), (1, .int a1)]) (by decide) (Nat.le_of_ble_eq_true rfl) rfl (fun E D cy C Ci0 ret => ?_)
  have ha0 := I.2.1
  refine g_aload_n C dX12_count_0 rfl 0 rfl ?_
  refine g_iconst (v := 0) C dX12_count_1 (by decide) ?_
  refine g_putI C fi_X12_1 rfl (ha0).1 (ha0).2 dX12_count_2 ?_
  refine gqW (ks := [0]) (I.setI (rgOk.of rfl (by decide))) (EM.setI I (by decide)) (fun Y28988 Iy28989 Xy28990 w28991 => ?_)
  have w28991 : (pI Y28988 a0 0).toInt = 0 := w28991
  have W28992 := hW.keep I Xy28990 (by decide) (by decide) (by decide)
  have Xz28993 : EM [0] a0 P Y28988 := Xy28990.mono (by decide)
  have h28994 := Xy28990.at ha0
  refine g_iload_n C dX12_count_5 rfl 1 rfl ?_
  refine g_iconst (v := 0) C dX12_count_6 (by decide) ?_
  refine g_iconst (v := 3) C dX12_count_7 (by decide) ?_
  refine g_callSI (b := 0) (ci := 0) (rest := []) C ms_X12_178 [.int a1, .int 0, .int 3] (s_X12_within Iy28989.1) rfl rfl (by decide) (Nat.le_of_ble_eq_true rfl) (by decide) dX12_count_8 (fun r28995 Y28996 h28997 => ?_)
  obtain ⟨rfl, h28997⟩ := h28997
  obtain ⟨h28997, hi28998⟩ := h28997
  have hi28998 : r28995.toInt = 0 ∨ (0 ≤ a1.toInt ∧ a1.toInt ≤ 3) := hi28998
  have h28997 : 0 ≤ r28995.toInt ∧ r28995.toInt ≤ 1 := h28997
  refine b_if_eq C 21 dX12_count_11 (by decide) (fun h28999 => ?_) (fun h28999 => ?_)
  · have h28999 : r28995.toInt = 0 := congrArg Int32.toInt h28999
    clear hi28998
    refine g_iload_n C dX12_count_21 rfl 1 rfl ?_
    by_cases h29000 : a1.toInt < 4 ∨ 8 < a1.toInt
    · refine g_tableOut C 83 dX12_count_22 h29000 (by decide) ?_
      refine g_iconst (v := (-1)) C dX12_count_83 (by decide) ?_
      exact ret _ _ _ _ _ _ dX12_count_84 rfl (by decide) (by decide) ⟨Iy28989, Xz28993, W28992, trivial⟩
    · rcases (show a1.toInt = 4 ∨ a1.toInt = 5 ∨ a1.toInt = 6 ∨ a1.toInt = 7 ∨ a1.toInt = 8 by omega) with h29001 | h29001 | h29001 | h29001 | h29001
      · refine g_tableIn C 56 dX12_count_22 (by omega) (by omega) (by rw [h29001]; rfl) (by decide) ?_
        refine g_aload_n C dX12_count_56 rfl 0 rfl ?_
        refine g_iconst (v := 0) C dX12_count_57 (by decide) ?_
        refine g_callVI (rest := []) C mv_X12_238 [.int 0] (s_X12_allOf Iy28989 (by decide) W28992) (h28994).1 (h28994).2 rfl rfl (by decide) (Nat.le_of_ble_eq_true rfl) (by decide) dX12_count_58 (fun r29002 Y29003 h29004 => ?_)
        obtain ⟨rfl, h29004⟩ := h29004
        obtain ⟨h29004, hi29005⟩ := h29004
        obtain ⟨b29006, e29007, h29008⟩ := Iy28989.fld (h28994) 10 13 2 rfl
        obtain ⟨b29009, e29010, h29011⟩ := Iy28989.fld (h28994) 15 13 3 rfl
        have hi29005 : r29002.toInt = 0 ∨ r29002.toInt = (pI Y28988 b29006 0).toInt + (pI Y28988 b29009 0).toInt := hi29005.imp id (fun z9 => z9 b29006 b29009 e29007 e29010)
        have h29012 := Iy28989.arr e29007 rfl 0
        have h29013 := Iy28989.arr e29010 rfl 0
        have h29004 : 0 ≤ r29002.toInt ∧ r29002.toInt ≤ 20 := h29004
        exact ret _ _ _ _ _ _ dX12_count_61 rfl (by decide) (by decide) ⟨Iy28989, Xz28993, W28992, trivial⟩
      · refine g_tableIn C 62 dX12_count_22 (by omega) (by omega) (by rw [h29001]; rfl) (by decide) ?_
        refine g_aload_n C dX12_count_62 rfl 0 rfl ?_
        refine g_iconst (v := 1) C dX12_count_63 (by decide) ?_
        refine g_callVI (rest := []) C mv_X12_238 [.int 1] (s_X12_allOf Iy28989 (by decide) W28992) (h28994).1 (h28994).2 rfl rfl (by decide) (Nat.le_of_ble_eq_true rfl) (by decide) dX12_count_64 (fun r29014 Y29015 h29016 => ?_)
        obtain ⟨rfl, h29016⟩ := h29016
        obtain ⟨h29016, hi29017⟩ := h29016
        obtain ⟨b29018, e29019, h29020⟩ := Iy28989.fld (h28994) 10 13 2 rfl
        obtain ⟨b29021, e29022, h29023⟩ := Iy28989.fld (h28994) 15 13 3 rfl
        have hi29017 : r29014.toInt = 0 ∨ r29014.toInt = (pI Y28988 b29018 1).toInt + (pI Y28988 b29021 1).toInt := hi29017.imp id (fun z9 => z9 b29018 b29021 e29019 e29022)
        have h29024 := Iy28989.arr e29019 rfl 1
        have h29025 := Iy28989.arr e29022 rfl 1
        have h29016 : 0 ≤ r29014.toInt ∧ r29014.toInt ≤ 20 := h29016
        exact ret _ _ _ _ _ _ dX12_count_67 rfl (by decide) (by decide) ⟨Iy28989, Xz28993, W28992, trivial⟩
      · refine g_tableIn C 68 dX12_count_22 (by omega) (by omega) (by rw [h29001]; rfl) (by decide) ?_
        refine g_aload_n C dX12_count_68 rfl 0 rfl ?_
        refine g_getI C fi_X12_11 (by decide) (h28994).1 (h28994).2 dX12_count_69 ?_
        have h29026 := Iy28989.rg (h28994) 2 rfl
        exact ret _ _ _ _ _ _ dX12_count_72 rfl (by decide) (by decide) ⟨Iy28989, Xz28993, W28992, trivial⟩
      · refine g_tableIn C 73 dX12_count_22 (by omega) (by omega) (by rw [h29001]; rfl) (by decide) ?_
        refine g_aload_n C dX12_count_73 rfl 0 rfl ?_
        refine g_getI C fi_X12_288 (by decide) (h28994).1 (h28994).2 dX12_count_74 ?_
        exact ret _ _ _ _ _ _ dX12_count_77 rfl (by decide) (by decide) ⟨Iy28989, Xz28993, W28992, trivial⟩
      · refine g_tableIn C 78 dX12_count_22 (by omega) (by omega) (by rw [h29001]; rfl) (by decide) ?_
        refine g_aload_n C dX12_count_78 rfl 0 rfl ?_
        refine g_callVI (rest := []) C mv_X12_411 [] (s_X12_allHouses Iy28989 W28992) (h28994).1 (h28994).2 rfl rfl (by decide) (Nat.le_of_ble_eq_true rfl) (by decide) dX12_count_79 (fun r29027 Y29028 h29029 => ?_)
        obtain ⟨rfl, h29029⟩ := h29029
        have h29029 : True := h29029
        exact ret _ _ _ _ _ _ dX12_count_82 rfl (by decide) (by decide) ⟨Iy28989, Xz28993, W28992, trivial⟩
  · have h28999 : r28995.toInt ≠ 0 := ti_ne h28999
    replace hi28998 := hi28998.resolve_left (by omega)
    refine g_aload_n C dX12_count_14 rfl 0 rfl ?_
    obtain ⟨b29030, e29031, h29032⟩ := Iy28989.fld (h28994) 20 13 20 rfl
    refine g_getR C fi_X12_69 rfl e29031 (h28994).1 (h28994).2 dX12_count_15 ?_
    refine g_iload_n C dX12_count_18 rfl 1 rfl ?_
    refine g_iald (j := (a1.toInt.toNat)) C h29032.1 h29032.2.1 (ix_in h29032.2.2 (by omega)) dX12_count_19 ?_
    have h29033 := Iy28989.arr e29031 rfl (a1.toInt.toNat)
    exact ret _ _ _ _ _ _ dX12_count_20 rfl (by decide) (by decide) ⟨Iy28989, Xz28993, W28992, trivial⟩
theorem dX12_cutAll_0 : decode cX12_cutAll 0 = .ok (.aload_n 0, 1) := by decide +kernel
theorem dX12_cutAll_1 : decode cX12_cutAll 1 = .ok (.aload_n 0, 1) := by decide +kernel
theorem dX12_cutAll_2 : decode cX12_cutAll 2 = .ok (.getfield 11, 3) := by decide +kernel
theorem dX12_cutAll_5 : decode cX12_cutAll 5 = .ok (.putfield 140, 3) := by decide +kernel
theorem dX12_cutAll_8 : decode cX12_cutAll 8 = .ok (.aload_n 0, 1) := by decide +kernel
theorem dX12_cutAll_9 : decode cX12_cutAll 9 = .ok (.iconst 0, 1) := by decide +kernel
theorem dX12_cutAll_10 : decode cX12_cutAll 10 = .ok (.putfield 11, 3) := by decide +kernel
theorem dX12_cutAll_13 : decode cX12_cutAll 13 = .ok (.iconst 0, 1) := by decide +kernel
theorem dX12_cutAll_14 : decode cX12_cutAll 14 = .ok (.istore_n 1, 1) := by decide +kernel
theorem dX12_cutAll_15 : decode cX12_cutAll 15 = .ok (.iconst 0, 1) := by decide +kernel
theorem dX12_cutAll_16 : decode cX12_cutAll 16 = .ok (.istore_n 2, 1) := by decide +kernel
theorem dX12_cutAll_17 : decode cX12_cutAll 17 = .ok (.iload_n 2, 1) := by decide +kernel
theorem dX12_cutAll_18 : decode cX12_cutAll 18 = .ok (.aload_n 0, 1) := by decide +kernel
theorem dX12_cutAll_19 : decode cX12_cutAll 19 = .ok (.getfield 140, 3) := by decide +kernel
theorem dX12_cutAll_22 : decode cX12_cutAll 22 = .ok (.if_icmp .ge 257, 3) := by decide +kernel
theorem dX12_cutAll_25 : decode cX12_cutAll 25 = .ok (.aload_n 0, 1) := by decide +kernel
theorem dX12_cutAll_26 : decode cX12_cutAll 26 = .ok (.getfield 14, 3) := by decide +kernel
theorem dX12_cutAll_29 : decode cX12_cutAll 29 = .ok (.iload_n 2, 1) := by decide +kernel
theorem dX12_cutAll_30 : decode cX12_cutAll 30 = .ok (.iaload, 1) := by decide +kernel
theorem dX12_cutAll_31 : decode cX12_cutAll 31 = .ok (.istore_n 3, 1) := by decide +kernel
theorem dX12_cutAll_32 : decode cX12_cutAll 32 = .ok (.iload_n 3, 1) := by decide +kernel
theorem dX12_cutAll_33 : decode cX12_cutAll 33 = .ok (.bipush 10, 2) := by decide +kernel
theorem dX12_cutAll_35 : decode cX12_cutAll 35 = .ok (.if_icmp .eq 9, 3) := by decide +kernel
theorem dX12_cutAll_38 : decode cX12_cutAll 38 = .ok (.iload_n 3, 1) := by decide +kernel
theorem dX12_cutAll_39 : decode cX12_cutAll 39 = .ok (.bipush 32, 2) := by decide +kernel
theorem dX12_cutAll_41 : decode cX12_cutAll 41 = .ok (.if_icmp .ne 9, 3) := by decide +kernel
theorem dX12_cutAll_50 : decode cX12_cutAll 50 = .ok (.iload_n 2, 1) := by decide +kernel
theorem dX12_cutAll_51 : decode cX12_cutAll 51 = .ok (.istore 4, 2) := by decide +kernel
theorem dX12_cutAll_53 : decode cX12_cutAll 53 = .ok (.lconst 0, 1) := by decide +kernel
theorem dX12_cutAll_54 : decode cX12_cutAll 54 = .ok (.lstore 5, 2) := by decide +kernel
theorem dX12_cutAll_56 : decode cX12_cutAll 56 = .ok (.aload_n 0, 1) := by decide +kernel
theorem dX12_cutAll_57 : decode cX12_cutAll 57 = .ok (.getfield 27, 3) := by decide +kernel
theorem dX12_cutAll_60 : decode cX12_cutAll 60 = .ok (.iload_n 1, 1) := by decide +kernel
theorem dX12_cutAll_61 : decode cX12_cutAll 61 = .ok (.iload_n 2, 1) := by decide +kernel
theorem dX12_cutAll_62 : decode cX12_cutAll 62 = .ok (.iastore, 1) := by decide +kernel
theorem dX12_cutAll_63 : decode cX12_cutAll 63 = .ok (.iload_n 3, 1) := by decide +kernel
theorem dX12_cutAll_64 : decode cX12_cutAll 64 = .ok (.invokestatic 136, 3) := by decide +kernel
theorem dX12_cutAll_279 : decode cX12_cutAll 279 = .ok (.aload_n 0, 1) := by decide +kernel
theorem dX12_cutAll_280 : decode cX12_cutAll 280 = .ok (.getfield 24, 3) := by decide +kernel
theorem dX12_cutAll_283 : decode cX12_cutAll 283 = .ok (.iload_n 1, 1) := by decide +kernel
theorem dX12_cutAll_284 : decode cX12_cutAll 284 = .ok (.iconst 0, 1) := by decide +kernel
theorem dX12_cutAll_285 : decode cX12_cutAll 285 = .ok (.iastore, 1) := by decide +kernel
theorem dX12_cutAll_286 : decode cX12_cutAll 286 = .ok (.aload_n 0, 1) := by decide +kernel
theorem dX12_cutAll_287 : decode cX12_cutAll 287 = .ok (.getfield 27, 3) := by decide +kernel
theorem dX12_cutAll_290 : decode cX12_cutAll 290 = .ok (.iload_n 1, 1) := by decide +kernel
theorem dX12_cutAll_291 : decode cX12_cutAll 291 = .ok (.aload_n 0, 1) := by decide +kernel
theorem dX12_cutAll_292 : decode cX12_cutAll 292 = .ok (.getfield 140, 3) := by decide +kernel
theorem dX12_cutAll_295 : decode cX12_cutAll 295 = .ok (.iastore, 1) := by decide +kernel
theorem dX12_cutAll_296 : decode cX12_cutAll 296 = .ok (.aload_n 0, 1) := by decide +kernel
theorem dX12_cutAll_297 : decode cX12_cutAll 297 = .ok (.iconst 0, 1) := by decide +kernel
theorem dX12_cutAll_298 : decode cX12_cutAll 298 = .ok (.putfield 159, 3) := by decide +kernel
theorem dX12_cutAll_301 : decode cX12_cutAll 301 = .ok (.aload_n 0, 1) := by decide +kernel
theorem dX12_cutAll_302 : decode cX12_cutAll 302 = .ok (.iconst 0, 1) := by decide +kernel
theorem dX12_cutAll_303 : decode cX12_cutAll 303 = .ok (.putfield 162, 3) := by decide +kernel
theorem dX12_cutAll_306 : decode cX12_cutAll 306 = .ok (.return_, 1) := by decide +kernel
theorem dX12_isLetter_0 : decode cX12_isLetter 0 = .ok (.iload_n 0, 1) := by decide +kernel
theorem dX12_isLetter_1 : decode cX12_isLetter 1 = .ok (.bipush 97, 2) := by decide +kernel
theorem dX12_isLetter_3 : decode cX12_isLetter 3 = .ok (.if_icmp .lt 13, 3) := by decide +kernel
theorem dX12_isLetter_6 : decode cX12_isLetter 6 = .ok (.iload_n 0, 1) := by decide +kernel
theorem dX12_isLetter_7 : decode cX12_isLetter 7 = .ok (.bipush 122, 2) := by decide +kernel
theorem dX12_isLetter_9 : decode cX12_isLetter 9 = .ok (.if_icmp .gt 7, 3) := by decide +kernel
theorem dX12_isLetter_12 : decode cX12_isLetter 12 = .ok (.iconst 1, 1) := by decide +kernel
theorem dX12_isLetter_13 : decode cX12_isLetter 13 = .ok (.goto 4, 3) := by decide +kernel
theorem dX12_isLetter_16 : decode cX12_isLetter 16 = .ok (.iconst 0, 1) := by decide +kernel
theorem dX12_isLetter_17 : decode cX12_isLetter 17 = .ok (.ireturn, 1) := by decide +kernel
set_option maxHeartbeats 4000000 in
set_option maxRecDepth 100000 in
theorem s_X12_isLetter {P : PP} {a0 : Int32} (I : IV P) : CtrI yX12_isLetter cX12_isLetter 1 (some Jvm.ClassFile.FieldType.boolean) ({ frames := 1, cells := 0, slots := 0, locals := 64 } : Room) 0 0 P [.int a0] (fun r P2 => P = P2 ∧ (0 ≤ r.toInt ∧ r.toInt ≤ 1) ∧ (r.toInt = 0 ∨ (((97 : Int) ≤ a0.toInt ∧ a0.toInt ≤ (122 : Int)))) ∧ (r.toInt ≠ 0 ∨ a0.toInt < 97 ∨ 122 < a0.toInt)) := by
  refine enI (lv := [(0, .int a0)]) (by decide) (Nat.le_of_ble_eq_true rfl) rfl (fun E D cy C Ci0 ret => ?_)
  have J16 : (a0.toInt < 97 ∨ 122 < a0.toInt) → G E ({ frames := 1, cells := 0, slots := 0, locals := 64 } : Room) D cy 1 P 0 0 16 [] [] := by
    intro rel16_0
    refine g_iconst (v := 0) C dX12_isLetter_16 (by decide) ?_
    exact ret _ _ _ _ _ _ dX12_isLetter_17 rfl (by decide) (by decide) ⟨rfl, (by decide), Or.inl rfl, (by show (0 : Int) ≠ 0 ∨ a0.toInt < 97 ∨ 122 < a0.toInt; omega)⟩
  refine g_iload_n C dX12_isLetter_0 rfl 0 rfl ?_
  refine g_bipush (v := 97) C dX12_isLetter_1 (by decide) ?_
  have u29147 := ti_rng a0
  refine b_icmp_lt C 16 dX12_isLetter_3 (by decide) (fun h29146 => ?_) (fun h29146 => ?_)
  · have h29146 : a0.toInt < 97 := h29146
    refine g_lv (lv' := []) [] rfl ?_
    exact J16 (by show a0.toInt < 97 ∨ 122 < a0.toInt; omega)
  · have h29146 : 97 ≤ a0.toInt := h29146
    refine g_iload_n C dX12_isLetter_6 rfl 0 rfl ?_
    refine g_bipush (v := 122) C dX12_isLetter_7 (by decide) ?_
    have u29149 := ti_rng a0
    refine b_icmp_gt C 16 dX12_isLetter_9 (by decide) (fun h29148 => ?_) (fun h29148 => ?_)
    · have h29148 : 122 < a0.toInt := h29148
      refine g_lv (lv' := []) [] rfl ?_
      exact J16 (by show a0.toInt < 97 ∨ 122 < a0.toInt; omega)
    · have h29148 : a0.toInt ≤ 122 := h29148
      refine g_iconst (v := 1) C dX12_isLetter_12 (by decide) ?_
      refine g_goto C 17 dX12_isLetter_13 (by decide) ?_
      exact ret _ _ _ _ _ _ dX12_isLetter_17 rfl (by decide) (by decide) ⟨rfl, (by decide), Or.inr (by omega), (by show (1 : Int) ≠ 0 ∨ a0.toInt < 97 ∨ 122 < a0.toInt; omega)⟩
theorem dX12_cutAll_67 : decode cX12_cutAll 67 = .ok (.ifCond .eq 85, 3) := by decide +kernel
theorem dX12_cutAll_152 : decode cX12_cutAll 152 = .ok (.iload_n 3, 1) := by decide +kernel
theorem dX12_cutAll_153 : decode cX12_cutAll 153 = .ok (.invokestatic 149, 3) := by decide +kernel
theorem dX12_isDigit_0 : decode cX12_isDigit 0 = .ok (.iload_n 0, 1) := by decide +kernel
theorem dX12_isDigit_1 : decode cX12_isDigit 1 = .ok (.bipush 48, 2) := by decide +kernel
theorem dX12_isDigit_3 : decode cX12_isDigit 3 = .ok (.if_icmp .lt 13, 3) := by decide +kernel
theorem dX12_isDigit_6 : decode cX12_isDigit 6 = .ok (.iload_n 0, 1) := by decide +kernel
theorem dX12_isDigit_7 : decode cX12_isDigit 7 = .ok (.bipush 57, 2) := by decide +kernel
theorem dX12_isDigit_9 : decode cX12_isDigit 9 = .ok (.if_icmp .gt 7, 3) := by decide +kernel
theorem dX12_isDigit_12 : decode cX12_isDigit 12 = .ok (.iconst 1, 1) := by decide +kernel
theorem dX12_isDigit_13 : decode cX12_isDigit 13 = .ok (.goto 4, 3) := by decide +kernel
theorem dX12_isDigit_16 : decode cX12_isDigit 16 = .ok (.iconst 0, 1) := by decide +kernel
theorem dX12_isDigit_17 : decode cX12_isDigit 17 = .ok (.ireturn, 1) := by decide +kernel
set_option maxHeartbeats 4000000 in
set_option maxRecDepth 100000 in
theorem s_X12_isDigit {P : PP} {a0 : Int32} (I : IV P) : CtrI yX12_isDigit cX12_isDigit 1 (some Jvm.ClassFile.FieldType.boolean) ({ frames := 1, cells := 0, slots := 0, locals := 64 } : Room) 0 0 P [.int a0] (fun r P2 => P = P2 ∧ (0 ≤ r.toInt ∧ r.toInt ≤ 1) ∧ (r.toInt = 0 ∨ (((48 : Int) ≤ a0.toInt ∧ a0.toInt ≤ (57 : Int)))) ∧ (r.toInt ≠ 0 ∨ a0.toInt < 48 ∨ 57 < a0.toInt)) := by
  refine enI (lv := [(0, .int a0)]) (by decide) (Nat.le_of_ble_eq_true rfl) rfl (fun E D cy C Ci0 ret => ?_)
  have J16 : (a0.toInt < 48 ∨ 57 < a0.toInt) → G E ({ frames := 1, cells := 0, slots := 0, locals := 64 } : Room) D cy 1 P 0 0 16 [] [] := by
    intro rel16_0
    refine g_iconst (v := 0) C dX12_isDigit_16 (by decide) ?_
    exact ret _ _ _ _ _ _ dX12_isDigit_17 rfl (by decide) (by decide) ⟨rfl, (by decide), Or.inl rfl, (by show (0 : Int) ≠ 0 ∨ a0.toInt < 48 ∨ 57 < a0.toInt; omega)⟩
  refine g_iload_n C dX12_isDigit_0 rfl 0 rfl ?_
  refine g_bipush (v := 48) C dX12_isDigit_1 (by decide) ?_
  have u29269 := ti_rng a0
  refine b_icmp_lt C 16 dX12_isDigit_3 (by decide) (fun h29268 => ?_) (fun h29268 => ?_)
  · have h29268 : a0.toInt < 48 := h29268
    refine g_lv (lv' := []) [] rfl ?_
    exact J16 (by show a0.toInt < 48 ∨ 57 < a0.toInt; omega)
  · have h29268 : 48 ≤ a0.toInt := h29268
    refine g_iload_n C dX12_isDigit_6 rfl 0 rfl ?_
    refine g_bipush (v := 57) C dX12_isDigit_7 (by decide) ?_
    have u29271 := ti_rng a0
    refine b_icmp_gt C 16 dX12_isDigit_9 (by decide) (fun h29270 => ?_) (fun h29270 => ?_)
    · have h29270 : 57 < a0.toInt := h29270
      refine g_lv (lv' := []) [] rfl ?_
      exact J16 (by show a0.toInt < 48 ∨ 57 < a0.toInt; omega)
    · have h29270 : a0.toInt ≤ 57 := h29270
      refine g_iconst (v := 1) C dX12_isDigit_12 (by decide) ?_
      refine g_goto C 17 dX12_isDigit_13 (by decide) ?_
      exact ret _ _ _ _ _ _ dX12_isDigit_17 rfl (by decide) (by decide) ⟨rfl, (by decide), Or.inr (by omega), (by show (1 : Int) ≠ 0 ∨ a0.toInt < 48 ∨ 57 < a0.toInt; omega)⟩
theorem dX12_cutAll_156 : decode cX12_cutAll 156 = .ok (.ifCond .eq 84, 3) := by decide +kernel
theorem dX12_cutAll_240 : decode cX12_cutAll 240 = .ok (.iload_n 3, 1) := by decide +kernel
theorem dX12_cutAll_241 : decode cX12_cutAll 241 = .ok (.i2l, 1) := by decide +kernel
theorem dX12_cutAll_242 : decode cX12_cutAll 242 = .ok (.lstore 5, 2) := by decide +kernel
theorem dX12_cutAll_244 : decode cX12_cutAll 244 = .ok (.aload_n 0, 1) := by decide +kernel
theorem dX12_cutAll_245 : decode cX12_cutAll 245 = .ok (.getfield 24, 3) := by decide +kernel
theorem dX12_cutAll_248 : decode cX12_cutAll 248 = .ok (.iload_n 1, 1) := by decide +kernel
theorem dX12_cutAll_249 : decode cX12_cutAll 249 = .ok (.iload_n 3, 1) := by decide +kernel
theorem dX12_cutAll_250 : decode cX12_cutAll 250 = .ok (.invokestatic 156, 3) := by decide +kernel
theorem dX12_isSignOf_0 : decode cX12_isSignOf 0 = .ok (.iload_n 0, 1) := by decide +kernel
theorem dX12_isSignOf_1 : decode cX12_isSignOf 1 = .ok (.bipush 59, 2) := by decide +kernel
theorem dX12_isSignOf_3 : decode cX12_isSignOf 3 = .ok (.if_icmp .ne 7, 3) := by decide +kernel
theorem dX12_isSignOf_6 : decode cX12_isSignOf 6 = .ok (.iconst 1, 1) := by decide +kernel
theorem dX12_isSignOf_7 : decode cX12_isSignOf 7 = .ok (.goto 4, 3) := by decide +kernel
theorem dX12_isSignOf_10 : decode cX12_isSignOf 10 = .ok (.iconst 0, 1) := by decide +kernel
theorem dX12_isSignOf_11 : decode cX12_isSignOf 11 = .ok (.ireturn, 1) := by decide +kernel
set_option maxHeartbeats 4000000 in
set_option maxRecDepth 100000 in
theorem s_X12_isSignOf {P : PP} {a0 : Int32} (I : IV P) : CtrI yX12_isSignOf cX12_isSignOf 1 (some Jvm.ClassFile.FieldType.boolean) ({ frames := 1, cells := 0, slots := 0, locals := 64 } : Room) 0 0 P [.int a0] (fun r P2 => P = P2 ∧ (0 ≤ r.toInt ∧ r.toInt ≤ 1) ∧ (r.toInt = 0 ∨ (((59 : Int) ≤ a0.toInt ∧ a0.toInt ≤ (59 : Int))))) := by
  refine enI (lv := [(0, .int a0)]) (by decide) (Nat.le_of_ble_eq_true rfl) rfl (fun E D cy C Ci0 ret => ?_)
  refine g_iload_n C dX12_isSignOf_0 rfl 0 rfl ?_
  refine g_bipush (v := 59) C dX12_isSignOf_1 (by decide) ?_
  have u29399 := ti_rng a0
  refine b_icmp_ne C 10 dX12_isSignOf_3 (by decide) (fun h29398 => ?_) (fun h29398 => ?_)
  · have h29398 : a0.toInt ≠ 59 := ti_ne h29398
    refine g_iconst (v := 0) C dX12_isSignOf_10 (by decide) ?_
    exact ret _ _ _ _ _ _ dX12_isSignOf_11 rfl (by decide) (by decide) ⟨rfl, (by decide), Or.inl rfl⟩
  · have h29398 : a0.toInt = 59 := congrArg Int32.toInt h29398
    refine g_iconst (v := 1) C dX12_isSignOf_6 (by decide) ?_
    refine g_goto C 11 dX12_isSignOf_7 (by decide) ?_
    exact ret _ _ _ _ _ _ dX12_isSignOf_11 rfl (by decide) (by decide) ⟨rfl, (by decide), Or.inr (by omega)⟩
theorem dX12_cutAll_44 : decode cX12_cutAll 44 = .ok (.iinc 2 1, 3) := by decide +kernel
theorem dX12_cutAll_47 : decode cX12_cutAll 47 = .ok (.goto (-30), 3) := by decide +kernel
theorem dX12_cutAll_70 : decode cX12_cutAll 70 = .ok (.iload_n 2, 1) := by decide +kernel
theorem dX12_cutAll_71 : decode cX12_cutAll 71 = .ok (.aload_n 0, 1) := by decide +kernel
theorem dX12_cutAll_72 : decode cX12_cutAll 72 = .ok (.getfield 140, 3) := by decide +kernel
theorem dX12_cutAll_75 : decode cX12_cutAll 75 = .ok (.if_icmp .ge 54, 3) := by decide +kernel
theorem dX12_cutAll_78 : decode cX12_cutAll 78 = .ok (.aload_n 0, 1) := by decide +kernel
theorem dX12_cutAll_79 : decode cX12_cutAll 79 = .ok (.getfield 14, 3) := by decide +kernel
theorem dX12_cutAll_82 : decode cX12_cutAll 82 = .ok (.iload_n 2, 1) := by decide +kernel
theorem dX12_cutAll_83 : decode cX12_cutAll 83 = .ok (.iaload, 1) := by decide +kernel
theorem dX12_cutAll_84 : decode cX12_cutAll 84 = .ok (.invokestatic 136, 3) := by decide +kernel
theorem dX12_cutAll_87 : decode cX12_cutAll 87 = .ok (.ifCond .eq 42, 3) := by decide +kernel
theorem dX12_cutAll_90 : decode cX12_cutAll 90 = .ok (.iload_n 2, 1) := by decide +kernel
theorem dX12_cutAll_91 : decode cX12_cutAll 91 = .ok (.iload 4, 2) := by decide +kernel
theorem dX12_cutAll_93 : decode cX12_cutAll 93 = .ok (.isub, 1) := by decide +kernel
theorem dX12_cutAll_94 : decode cX12_cutAll 94 = .ok (.bipush 8, 2) := by decide +kernel
theorem dX12_cutAll_96 : decode cX12_cutAll 96 = .ok (.if_icmp .ge 23, 3) := by decide +kernel
theorem dX12_cutAll_99 : decode cX12_cutAll 99 = .ok (.ldc2_w 143, 3) := by decide +kernel
theorem dX12_cutAll_102 : decode cX12_cutAll 102 = .ok (.lload 5, 2) := by decide +kernel
theorem dX12_cutAll_104 : decode cX12_cutAll 104 = .ok (.lmul, 1) := by decide +kernel
theorem dX12_cutAll_105 : decode cX12_cutAll 105 = .ok (.aload_n 0, 1) := by decide +kernel
theorem dX12_cutAll_106 : decode cX12_cutAll 106 = .ok (.getfield 14, 3) := by decide +kernel
theorem dX12_cutAll_109 : decode cX12_cutAll 109 = .ok (.iload_n 2, 1) := by decide +kernel
theorem dX12_cutAll_110 : decode cX12_cutAll 110 = .ok (.iaload, 1) := by decide +kernel
theorem dX12_cutAll_111 : decode cX12_cutAll 111 = .ok (.invokestatic 145, 3) := by decide +kernel
theorem dX12_cutAll_159 : decode cX12_cutAll 159 = .ok (.iload_n 2, 1) := by decide +kernel
theorem dX12_cutAll_160 : decode cX12_cutAll 160 = .ok (.aload_n 0, 1) := by decide +kernel
theorem dX12_cutAll_161 : decode cX12_cutAll 161 = .ok (.getfield 140, 3) := by decide +kernel
theorem dX12_cutAll_164 : decode cX12_cutAll 164 = .ok (.if_icmp .ge 54, 3) := by decide +kernel
theorem dX12_cutAll_167 : decode cX12_cutAll 167 = .ok (.aload_n 0, 1) := by decide +kernel
theorem dX12_cutAll_168 : decode cX12_cutAll 168 = .ok (.getfield 14, 3) := by decide +kernel
theorem dX12_cutAll_171 : decode cX12_cutAll 171 = .ok (.iload_n 2, 1) := by decide +kernel
theorem dX12_cutAll_172 : decode cX12_cutAll 172 = .ok (.iaload, 1) := by decide +kernel
theorem dX12_cutAll_173 : decode cX12_cutAll 173 = .ok (.invokestatic 149, 3) := by decide +kernel
theorem dX12_cutAll_176 : decode cX12_cutAll 176 = .ok (.ifCond .eq 42, 3) := by decide +kernel
theorem dX12_cutAll_179 : decode cX12_cutAll 179 = .ok (.iload_n 2, 1) := by decide +kernel
theorem dX12_cutAll_180 : decode cX12_cutAll 180 = .ok (.iload 4, 2) := by decide +kernel
theorem dX12_cutAll_182 : decode cX12_cutAll 182 = .ok (.isub, 1) := by decide +kernel
theorem dX12_cutAll_183 : decode cX12_cutAll 183 = .ok (.iconst 4, 1) := by decide +kernel
theorem dX12_cutAll_184 : decode cX12_cutAll 184 = .ok (.if_icmp .ge 24, 3) := by decide +kernel
theorem dX12_cutAll_187 : decode cX12_cutAll 187 = .ok (.ldc2_w 152, 3) := by decide +kernel
theorem dX12_cutAll_190 : decode cX12_cutAll 190 = .ok (.lload 5, 2) := by decide +kernel
theorem dX12_cutAll_192 : decode cX12_cutAll 192 = .ok (.lmul, 1) := by decide +kernel
theorem dX12_cutAll_193 : decode cX12_cutAll 193 = .ok (.aload_n 0, 1) := by decide +kernel
theorem dX12_cutAll_194 : decode cX12_cutAll 194 = .ok (.getfield 14, 3) := by decide +kernel
theorem dX12_cutAll_197 : decode cX12_cutAll 197 = .ok (.iload_n 2, 1) := by decide +kernel
theorem dX12_cutAll_198 : decode cX12_cutAll 198 = .ok (.iaload, 1) := by decide +kernel
theorem dX12_cutAll_199 : decode cX12_cutAll 199 = .ok (.i2l, 1) := by decide +kernel
theorem dX12_cutAll_200 : decode cX12_cutAll 200 = .ok (.ladd, 1) := by decide +kernel
theorem dX12_cutAll_201 : decode cX12_cutAll 201 = .ok (.ldc2_w 154, 3) := by decide +kernel
theorem dX12_cutAll_204 : decode cX12_cutAll 204 = .ok (.lsub, 1) := by decide +kernel
theorem dX12_cutAll_205 : decode cX12_cutAll 205 = .ok (.goto 5, 3) := by decide +kernel
theorem dX12_cutAll_253 : decode cX12_cutAll 253 = .ok (.ifCond .eq 7, 3) := by decide +kernel
theorem dX12_cutAll_256 : decode cX12_cutAll 256 = .ok (.iconst 3, 1) := by decide +kernel
theorem dX12_cutAll_257 : decode cX12_cutAll 257 = .ok (.goto 4, 3) := by decide +kernel
theorem dX12_cutAll_260 : decode cX12_cutAll 260 = .ok (.iconst 4, 1) := by decide +kernel
theorem dX12_cutAll_261 : decode cX12_cutAll 261 = .ok (.iastore, 1) := by decide +kernel
theorem dX12_cutAll_262 : decode cX12_cutAll 262 = .ok (.iinc 2 1, 3) := by decide +kernel
theorem dX12_rank_0 : decode cX12_rank 0 = .ok (.iload_n 0, 1) := by decide +kernel
theorem dX12_rank_1 : decode cX12_rank 1 = .ok (.invokestatic 136, 3) := by decide +kernel
theorem dX12_rank_4 : decode cX12_rank 4 = .ok (.ifCond .eq 10, 3) := by decide +kernel
theorem dX12_rank_7 : decode cX12_rank 7 = .ok (.iload_n 0, 1) := by decide +kernel
theorem dX12_rank_8 : decode cX12_rank 8 = .ok (.bipush 96, 2) := by decide +kernel
theorem dX12_rank_10 : decode cX12_rank 10 = .ok (.isub, 1) := by decide +kernel
theorem dX12_rank_11 : decode cX12_rank 11 = .ok (.goto 7, 3) := by decide +kernel
theorem dX12_rank_14 : decode cX12_rank 14 = .ok (.iload_n 0, 1) := by decide +kernel
theorem dX12_rank_15 : decode cX12_rank 15 = .ok (.bipush 21, 2) := by decide +kernel
theorem dX12_rank_17 : decode cX12_rank 17 = .ok (.isub, 1) := by decide +kernel
theorem dX12_rank_18 : decode cX12_rank 18 = .ok (.ireturn, 1) := by decide +kernel
set_option maxHeartbeats 4000000 in
set_option maxRecDepth 100000 in
theorem s_X12_rank {P : PP} {a0 : Int32} (I : IV P) : CtrI yX12_rank cX12_rank 1 (some Jvm.ClassFile.FieldType.int) ({ frames := 2, cells := 0, slots := 0, locals := 128 } : Room) 0 0 P [.int a0] (fun r P2 => P = P2 ∧ (True)) := by
  refine enI (lv := [(0, .int a0)]) (by decide) (Nat.le_of_ble_eq_true rfl) rfl (fun E D cy C Ci0 ret => ?_)
  refine g_iload_n C dX12_rank_0 rfl 0 rfl ?_
  refine g_callSI (b := 0) (ci := 0) (rest := []) C ms_X12_136 [.int a0] (s_X12_isLetter I) rfl rfl (by decide) (Nat.le_of_ble_eq_true rfl) (by decide) dX12_rank_1 (fun r29604 Y29605 h29606 => ?_)
  obtain ⟨rfl, h29606⟩ := h29606
  obtain ⟨h29606, hi29607, hi29608⟩ := h29606
  have hi29607 : r29604.toInt = 0 ∨ (((97 : Int) ≤ a0.toInt ∧ a0.toInt ≤ (122 : Int))) := hi29607
  have hi29608 : r29604.toInt ≠ 0 ∨ a0.toInt < 97 ∨ 122 < a0.toInt := hi29608
  have h29606 : 0 ≤ r29604.toInt ∧ r29604.toInt ≤ 1 := h29606
  refine b_if_eq C 14 dX12_rank_4 (by decide) (fun h29609 => ?_) (fun h29609 => ?_)
  · have h29609 : r29604.toInt = 0 := congrArg Int32.toInt h29609
    clear hi29607
    refine g_iload_n C dX12_rank_14 rfl 0 rfl ?_
    refine g_bipush (v := 21) C dX12_rank_15 (by decide) ?_
    refine a_isub C dX12_rank_17 (fun z29610 => ?_)
    exact ret _ _ _ _ _ _ dX12_rank_18 rfl (by decide) (by decide) ⟨rfl, trivial⟩
  · have h29609 : r29604.toInt ≠ 0 := ti_ne h29609
    replace hi29607 := hi29607.resolve_left (by omega)
    refine g_iload_n C dX12_rank_7 rfl 0 rfl ?_
    refine g_bipush (v := 96) C dX12_rank_8 (by decide) ?_
    refine s_isub C dX12_rank_10 (by show -2147483648 ≤ a0.toInt - 96 ∧ a0.toInt - 96 ≤ 2147483647; omega) (fun z29612 h29613 => ?_)
    have h29613 : z29612.toInt = a0.toInt - 96 := h29613
    refine g_goto C 18 dX12_rank_11 (by decide) ?_
    exact ret _ _ _ _ _ _ dX12_rank_18 rfl (by decide) (by decide) ⟨rfl, trivial⟩
theorem dX12_cutAll_114 : decode cX12_cutAll 114 = .ok (.i2l, 1) := by decide +kernel
theorem dX12_cutAll_115 : decode cX12_cutAll 115 = .ok (.ladd, 1) := by decide +kernel
theorem dX12_cutAll_116 : decode cX12_cutAll 116 = .ok (.goto 5, 3) := by decide +kernel
theorem dX12_cutAll_119 : decode cX12_cutAll 119 = .ok (.lload 5, 2) := by decide +kernel
theorem dX12_cutAll_121 : decode cX12_cutAll 121 = .ok (.lstore 5, 2) := by decide +kernel
theorem dX12_cutAll_123 : decode cX12_cutAll 123 = .ok (.iinc 2 1, 3) := by decide +kernel
theorem dX12_cutAll_126 : decode cX12_cutAll 126 = .ok (.goto (-56), 3) := by decide +kernel
theorem dX12_cutAll_129 : decode cX12_cutAll 129 = .ok (.aload_n 0, 1) := by decide +kernel
theorem dX12_cutAll_130 : decode cX12_cutAll 130 = .ok (.getfield 24, 3) := by decide +kernel
theorem dX12_cutAll_133 : decode cX12_cutAll 133 = .ok (.iload_n 1, 1) := by decide +kernel
theorem dX12_cutAll_134 : decode cX12_cutAll 134 = .ok (.iload_n 2, 1) := by decide +kernel
theorem dX12_cutAll_135 : decode cX12_cutAll 135 = .ok (.iload 4, 2) := by decide +kernel
theorem dX12_cutAll_137 : decode cX12_cutAll 137 = .ok (.isub, 1) := by decide +kernel
theorem dX12_cutAll_138 : decode cX12_cutAll 138 = .ok (.bipush 8, 2) := by decide +kernel
theorem dX12_cutAll_140 : decode cX12_cutAll 140 = .ok (.if_icmp .le 7, 3) := by decide +kernel
theorem dX12_cutAll_143 : decode cX12_cutAll 143 = .ok (.iconst 4, 1) := by decide +kernel
theorem dX12_cutAll_144 : decode cX12_cutAll 144 = .ok (.goto 4, 3) := by decide +kernel
theorem dX12_cutAll_147 : decode cX12_cutAll 147 = .ok (.iconst 1, 1) := by decide +kernel
theorem dX12_cutAll_148 : decode cX12_cutAll 148 = .ok (.iastore, 1) := by decide +kernel
theorem dX12_cutAll_149 : decode cX12_cutAll 149 = .ok (.goto 116, 3) := by decide +kernel
theorem dX12_cutAll_208 : decode cX12_cutAll 208 = .ok (.lload 5, 2) := by decide +kernel
theorem dX12_cutAll_210 : decode cX12_cutAll 210 = .ok (.lstore 5, 2) := by decide +kernel
theorem dX12_cutAll_212 : decode cX12_cutAll 212 = .ok (.iinc 2 1, 3) := by decide +kernel
theorem dX12_cutAll_215 : decode cX12_cutAll 215 = .ok (.goto (-56), 3) := by decide +kernel
theorem dX12_cutAll_218 : decode cX12_cutAll 218 = .ok (.aload_n 0, 1) := by decide +kernel
theorem dX12_cutAll_219 : decode cX12_cutAll 219 = .ok (.getfield 24, 3) := by decide +kernel
theorem dX12_cutAll_222 : decode cX12_cutAll 222 = .ok (.iload_n 1, 1) := by decide +kernel
theorem dX12_cutAll_223 : decode cX12_cutAll 223 = .ok (.iload_n 2, 1) := by decide +kernel
theorem dX12_cutAll_224 : decode cX12_cutAll 224 = .ok (.iload 4, 2) := by decide +kernel
theorem dX12_cutAll_226 : decode cX12_cutAll 226 = .ok (.isub, 1) := by decide +kernel
theorem dX12_cutAll_227 : decode cX12_cutAll 227 = .ok (.iconst 4, 1) := by decide +kernel
theorem dX12_cutAll_228 : decode cX12_cutAll 228 = .ok (.if_icmp .le 7, 3) := by decide +kernel
theorem dX12_cutAll_231 : decode cX12_cutAll 231 = .ok (.iconst 4, 1) := by decide +kernel
theorem dX12_cutAll_232 : decode cX12_cutAll 232 = .ok (.goto 4, 3) := by decide +kernel
theorem dX12_cutAll_235 : decode cX12_cutAll 235 = .ok (.iconst 2, 1) := by decide +kernel
theorem dX12_cutAll_236 : decode cX12_cutAll 236 = .ok (.iastore, 1) := by decide +kernel
theorem dX12_cutAll_237 : decode cX12_cutAll 237 = .ok (.goto 28, 3) := by decide +kernel
theorem dX12_cutAll_265 : decode cX12_cutAll 265 = .ok (.aload_n 0, 1) := by decide +kernel
theorem dX12_cutAll_266 : decode cX12_cutAll 266 = .ok (.getfield 30, 3) := by decide +kernel
theorem dX12_cutAll_269 : decode cX12_cutAll 269 = .ok (.iload_n 1, 1) := by decide +kernel
theorem dX12_cutAll_270 : decode cX12_cutAll 270 = .ok (.lload 5, 2) := by decide +kernel
theorem dX12_cutAll_272 : decode cX12_cutAll 272 = .ok (.lastore, 1) := by decide +kernel
theorem dX12_cutAll_273 : decode cX12_cutAll 273 = .ok (.iinc 1 1, 3) := by decide +kernel
theorem dX12_cutAll_276 : decode cX12_cutAll 276 = .ok (.goto (-259), 3) := by decide +kernel
set_option maxHeartbeats 4000000 in
set_option maxRecDepth 100000 in
theorem s_X12_cutAll {P : PP} {a0 : Nat} (I : IM P a0) (hW : MW P a0) : CtrV yX12_cutAll cX12_cutAll 7 none ({ frames := 3, cells := 0, slots := 0, locals := 192 } : Room) 0 0 P [.ref a0] (fun P2 => IM P2 a0 ∧ EM [2, 3, 4, 5, 7, 8] a0 P P2 ∧ MW P2 a0) := by
  refine enV (lv := [(0, .ref a0)]) (by decide) (Nat.le_of_ble_eq_true rfl) rfl (fun E D cy C Ci0 ret => ?_)
  have ha0 := I.2.1
  have J17 : ∀ (n17 : Nat) (P17 : PP) (v17_1 : Int32) (v17_2 : Int32), (1000 - v17_2.toInt).toNat < n17 → (IM P17 a0) → (EM [2, 3, 4, 5, 7, 8] a0 P P17) → (MW P17 a0) → (0 ≤ v17_1.toInt ∧ v17_1.toInt ≤ 1000) → (0 ≤ v17_2.toInt ∧ v17_2.toInt ≤ 1000) → (0 ≤ (pI P17 a0 2).toInt ∧ (pI P17 a0 2).toInt ≤ 0) → (v17_1.toInt ≤ v17_2.toInt) → G E ({ frames := 3, cells := 0, slots := 0, locals := 192 } : Room) D cy 7 P17 0 0 17 [(0, .ref a0), (1, .int v17_1), (2, .int v17_2)] [] := by
    intro n17
    induction n17 with
    | zero => intro P17 v17_1 v17_2 hm17 I17 X17 W17 hv17_1 hv17_2 hq17_0 rel17_0; omega
    | succ n17 ih17 =>
      intro P17 v17_1 v17_2 hm17 I17 X17 W17 hv17_1 hv17_2 hq17_0 rel17_0
      have h40911 := X17.at ha0
      have J265 : ∀ (P265 : PP) (v265_2 : Int32) (l265_5 : Int64), (IM P265 a0) → (EM [2, 3, 4, 5, 7, 8] a0 P P265) → (MW P265 a0) → (0 ≤ v265_2.toInt ∧ v265_2.toInt ≤ 1000) → (0 ≤ (pI P265 a0 2).toInt ∧ (pI P265 a0 2).toInt ≤ 0) → (1 ≤ (pI P265 a0 3).toInt ∧ (pI P265 a0 3).toInt ≤ 1000) → (∀ b, pR P265 a0 4 = some b → 1 ≤ (pI P265 b (v17_1.toInt.toNat)).toInt ∧ (pI P265 b (v17_1.toInt.toNat)).toInt ≤ 4) → (∀ b, pR P265 a0 5 = some b → 0 ≤ (pI P265 b (v17_1.toInt.toNat)).toInt ∧ (pI P265 b (v17_1.toInt.toNat)).toInt ≤ 999) → (v17_1.toInt < v265_2.toInt) → (v17_2.toInt < v265_2.toInt) → G E ({ frames := 3, cells := 0, slots := 0, locals := 192 } : Room) D cy 7 P265 0 0 265 [(0, .ref a0), (1, .int v17_1), (2, .int v265_2), (5, .long l265_5)] [] := by
        intro P265 v265_2 l265_5 I265 X265 W265 hv265_2 hq265_0 hq265_1 hq265_2 hq265_3 rel265_0 rel265_1
        have h40912 := X265.at ha0
        obtain ⟨b40913, e40914, h40915⟩ := I265.fld (h40912) 4 13 1002 rfl
        have hq265_2 := hq265_2 b40913 e40914
        obtain ⟨b40916, e40917, h40918⟩ := I265.fld (h40912) 5 13 1002 rfl
        have hq265_3 := hq265_3 b40916 e40917
        refine g_aload_n C dX12_cutAll_265 rfl 0 rfl ?_
        obtain ⟨b40919, e40920, h40921⟩ := I265.fld (h40912) 6 14 1002 rfl
        refine g_getR C fi_X12_30 rfl e40920 (h40912).1 (h40912).2 dX12_cutAll_266 ?_
        refine g_iload_n C dX12_cutAll_269 rfl 1 rfl ?_
        refine g_lload C dX12_cutAll_270 3 rfl ?_
        refine g_last (j := (v17_1.toInt.toNat)) C h40921.1 h40921.2.1 (ix_in h40921.2.2 (by omega)) dX12_cutAll_272 ?_
        refine gq (ks := []) (I265.setJ) (EM.setJ) (fun Y40922 Iy40923 Xy40924 => ?_)
        have q40925 := Xy40924.keepF 2 (by decide)
        have q40926 := Xy40924.keepF 3 (by decide)
        have q40927 := Xy40924.keepA e40914 (by decide) rfl (v17_1.toInt.toNat)
        have q40928 := Xy40924.keepA e40917 (by decide) rfl (v17_1.toInt.toNat)
        have W40929 := W265.keep I265 Xy40924 (by decide) (by decide) (by decide)
        have Xz40930 : EM [2, 3, 4, 5, 7, 8] a0 P Y40922 := EM.tr ha0 X265 (Xy40924.mono (by decide))
        have e40931 := Xy40924.ref h40912 (by decide) e40914
        have e40932 := Xy40924.ref h40912 (by decide) e40917
        have h40933 := Xy40924.at h40912
        have h40934 := Xy40924.ar h40915
        have h40935 := Xy40924.ar h40918
        refine s_iinc (lv0 := [(0, .ref a0), (2, .int v265_2), (5, .long l265_5)]) (m := 1) C dX12_cutAll_273 1 rfl (by decide) rfl (by decide) (by omega) (fun z40936 h40937 => ?_)
        have h40937 : z40936.toInt = v17_1.toInt + 1 := h40937
        refine g_goto C 17 dX12_cutAll_276 (by decide) ?_
        refine g_lv (lv' := [(0, .ref a0), (1, .int z40936), (2, .int v265_2)]) [1, 0, 2] rfl ?_
        exact ih17 Y40922 z40936 v265_2 (by omega) Iy40923 Xz40930 W40929 (by omega) (by omega) (by omega) (by show z40936.toInt ≤ v265_2.toInt; omega)
      have J261 : ∀ (P261 : PP) (l261_5 : Int64) (v261_s0 : Int32) (b261_s2 : Nat), (IM P261 a0) → (EM [2, 3, 4, 5, 7, 8] a0 P P261) → (MW P261 a0) → (0 ≤ v17_2.toInt ∧ v17_2.toInt ≤ 999) → (3 ≤ v261_s0.toInt ∧ v261_s0.toInt ≤ 4) → (Ar P261 b261_s2 13 1002) → (pR P261 a0 4 = some b261_s2) → (0 ≤ (pI P261 a0 2).toInt ∧ (pI P261 a0 2).toInt ≤ 0) → (1 ≤ (pI P261 a0 3).toInt ∧ (pI P261 a0 3).toInt ≤ 1000) → (∀ b, pR P261 a0 5 = some b → 0 ≤ (pI P261 b (v17_1.toInt.toNat)).toInt ∧ (pI P261 b (v17_1.toInt.toNat)).toInt ≤ 999) → (v17_1.toInt ≤ v17_2.toInt) → (v17_2.toInt = v17_2.toInt) → G E ({ frames := 3, cells := 0, slots := 0, locals := 192 } : Room) D cy 7 P261 0 0 261 [(0, .ref a0), (1, .int v17_1), (2, .int v17_2), (5, .long l261_5)] [.int v261_s0, .int v17_1, .ref b261_s2] := by
        intro P261 l261_5 v261_s0 b261_s2 I261 X261 W261 hv261_2 hv261_s0 hb261_s2 eb261_s2 hq261_0 hq261_1 hq261_2 rel261_0 rel261_1
        have h40938 := X261.at ha0
        obtain ⟨b40939, e40940, h40941⟩ := I261.fld (h40938) 5 13 1002 rfl
        have hq261_2 := hq261_2 b40939 e40940
        refine g_iast (j := (v17_1.toInt.toNat)) C hb261_s2.1 hb261_s2.2.1 (ix_in hb261_s2.2.2 (by omega)) dX12_cutAll_261 ?_
        refine gqW (ks := [4]) (I261.setA eb261_s2 hb261_s2 (by decide) (arOk.of rfl (by omega))) (EM.setA I261 eb261_s2 rfl (by decide)) (fun Y40942 Iy40943 Xy40944 w40945 => ?_)
        have w40945 : (pI Y40942 b261_s2 (v17_1.toInt.toNat)).toInt = v261_s0.toInt := w40945
        have q40946 := Xy40944.keepF 2 (by decide)
        have q40947 := Xy40944.keepF 3 (by decide)
        have q40948 := Xy40944.keepA e40940 (by decide) rfl (v17_1.toInt.toNat)
        have W40949 := W261.keep I261 Xy40944 (by decide) (by decide) (by decide)
        have Xz40950 : EM [2, 3, 4, 5, 7, 8] a0 P Y40942 := EM.tr ha0 X261 (Xy40944.mono (by decide))
        have e40951 := Xy40944.ref h40938 (by decide) eb261_s2
        have e40952 := Xy40944.ref h40938 (by decide) e40940
        have h40953 := Xy40944.at h40938
        have h40954 := Xy40944.ar hb261_s2
        have h40955 := Xy40944.ar h40941
        refine s_iinc (lv0 := [(0, .ref a0), (1, .int v17_1), (5, .long l261_5)]) (m := 1) C dX12_cutAll_262 2 rfl (by decide) rfl (by decide) (by omega) (fun z40956 h40957 => ?_)
        have h40957 : z40956.toInt = v17_2.toInt + 1 := h40957
        refine g_lv (lv' := [(0, .ref a0), (1, .int v17_1), (2, .int z40956), (5, .long l261_5)]) [1, 2, 0, 3] rfl ?_
        exact J265 Y40942 z40956 l261_5 Iy40943 Xz40950 W40949 (by omega) (by omega) (by omega) (fun b9 e9 => by rw [e40951] at e9; cases e9; omega) (fun b9 e9 => by rw [e40952] at e9; cases e9; omega) (by show v17_1.toInt < z40956.toInt; omega) (by show v17_2.toInt < z40956.toInt; omega)
      have J236 : ∀ (P236 : PP) (v236_2 : Int32) (l236_5 : Int64) (v236_s0 : Int32) (b236_s2 : Nat), (IM P236 a0) → (EM [2, 3, 4, 5, 7, 8] a0 P P236) → (MW P236 a0) → (0 ≤ v236_2.toInt ∧ v236_2.toInt ≤ 1000) → (2 ≤ v236_s0.toInt ∧ v236_s0.toInt ≤ 4) → (Ar P236 b236_s2 13 1002) → (pR P236 a0 4 = some b236_s2) → (0 ≤ (pI P236 a0 2).toInt ∧ (pI P236 a0 2).toInt ≤ 0) → (1 ≤ (pI P236 a0 3).toInt ∧ (pI P236 a0 3).toInt ≤ 1000) → (∀ b, pR P236 a0 5 = some b → 0 ≤ (pI P236 b (v17_1.toInt.toNat)).toInt ∧ (pI P236 b (v17_1.toInt.toNat)).toInt ≤ 999) → (v17_1.toInt < v236_2.toInt) → (v17_2.toInt < v236_2.toInt) → G E ({ frames := 3, cells := 0, slots := 0, locals := 192 } : Room) D cy 7 P236 0 0 236 [(0, .ref a0), (1, .int v17_1), (2, .int v236_2), (5, .long l236_5)] [.int v236_s0, .int v17_1, .ref b236_s2] := by
        intro P236 v236_2 l236_5 v236_s0 b236_s2 I236 X236 W236 hv236_2 hv236_s0 hb236_s2 eb236_s2 hq236_0 hq236_1 hq236_2 rel236_0 rel236_1
        have h40958 := X236.at ha0
        obtain ⟨b40959, e40960, h40961⟩ := I236.fld (h40958) 5 13 1002 rfl
        have hq236_2 := hq236_2 b40959 e40960
        refine g_iast (j := (v17_1.toInt.toNat)) C hb236_s2.1 hb236_s2.2.1 (ix_in hb236_s2.2.2 (by omega)) dX12_cutAll_236 ?_
        refine gqW (ks := [4]) (I236.setA eb236_s2 hb236_s2 (by decide) (arOk.of rfl (by omega))) (EM.setA I236 eb236_s2 rfl (by decide)) (fun Y40962 Iy40963 Xy40964 w40965 => ?_)
        have w40965 : (pI Y40962 b236_s2 (v17_1.toInt.toNat)).toInt = v236_s0.toInt := w40965
        have q40966 := Xy40964.keepF 2 (by decide)
        have q40967 := Xy40964.keepF 3 (by decide)
        have q40968 := Xy40964.keepA e40960 (by decide) rfl (v17_1.toInt.toNat)
        have W40969 := W236.keep I236 Xy40964 (by decide) (by decide) (by decide)
        have Xz40970 : EM [2, 3, 4, 5, 7, 8] a0 P Y40962 := EM.tr ha0 X236 (Xy40964.mono (by decide))
        have e40971 := Xy40964.ref h40958 (by decide) eb236_s2
        have e40972 := Xy40964.ref h40958 (by decide) e40960
        have h40973 := Xy40964.at h40958
        have h40974 := Xy40964.ar hb236_s2
        have h40975 := Xy40964.ar h40961
        refine g_goto C 265 dX12_cutAll_237 (by decide) ?_
        exact J265 Y40962 v236_2 l236_5 Iy40963 Xz40970 W40969 (by omega) (by omega) (by omega) (fun b9 e9 => by rw [e40971] at e9; cases e9; omega) (fun b9 e9 => by rw [e40972] at e9; cases e9; omega) (by show v17_1.toInt < v236_2.toInt; omega) (by show v17_2.toInt < v236_2.toInt; omega)
      have J218 : ∀ (P218 : PP) (v218_2 : Int32) (l218_5 : Int64), (IM P218 a0) → (EM [2, 3, 4, 5, 7, 8] a0 P P218) → (MW P218 a0) → (0 ≤ v218_2.toInt ∧ v218_2.toInt ≤ 1000) → (0 ≤ v17_2.toInt ∧ v17_2.toInt ≤ 999) → (0 ≤ (pI P218 a0 2).toInt ∧ (pI P218 a0 2).toInt ≤ 0) → (1 ≤ (pI P218 a0 3).toInt ∧ (pI P218 a0 3).toInt ≤ 1000) → (∀ b, pR P218 a0 5 = some b → 0 ≤ (pI P218 b (v17_1.toInt.toNat)).toInt ∧ (pI P218 b (v17_1.toInt.toNat)).toInt ≤ 999) → (v17_1.toInt ≤ v17_2.toInt) → (v17_2.toInt < v218_2.toInt) → (v17_2.toInt < v218_2.toInt) → G E ({ frames := 3, cells := 0, slots := 0, locals := 192 } : Room) D cy 7 P218 0 0 218 [(0, .ref a0), (1, .int v17_1), (2, .int v218_2), (4, .int v17_2), (5, .long l218_5)] [] := by
        intro P218 v218_2 l218_5 I218 X218 W218 hv218_2 hv218_4 hq218_0 hq218_1 hq218_2 rel218_0 rel218_1 rel218_2
        have h40976 := X218.at ha0
        obtain ⟨b40977, e40978, h40979⟩ := I218.fld (h40976) 5 13 1002 rfl
        have hq218_2 := hq218_2 b40977 e40978
        refine g_aload_n C dX12_cutAll_218 rfl 0 rfl ?_
        obtain ⟨b40980, e40981, h40982⟩ := I218.fld (h40976) 4 13 1002 rfl
        refine g_getR C fi_X12_24 rfl e40981 (h40976).1 (h40976).2 dX12_cutAll_219 ?_
        refine g_iload_n C dX12_cutAll_222 rfl 1 rfl ?_
        refine g_iload_n C dX12_cutAll_223 rfl 2 rfl ?_
        refine g_iload C dX12_cutAll_224 3 rfl ?_
        refine s_isub C dX12_cutAll_226 (by show -2147483648 ≤ v218_2.toInt - v17_2.toInt ∧ v218_2.toInt - v17_2.toInt ≤ 2147483647; omega) (fun z40983 h40984 => ?_)
        have h40984 : z40983.toInt = v218_2.toInt - v17_2.toInt := h40984
        refine g_iconst (v := 4) C dX12_cutAll_227 (by decide) ?_
        refine b_icmp_le C 235 dX12_cutAll_228 (by decide) (fun h40985 => ?_) (fun h40985 => ?_)
        · have h40985 : z40983.toInt ≤ 4 := h40985
          refine g_iconst (v := 2) C dX12_cutAll_235 (by decide) ?_
          refine g_lv (lv' := [(0, .ref a0), (1, .int v17_1), (2, .int v218_2), (5, .long l218_5)]) [0, 1, 2, 4] rfl ?_
          exact J236 P218 v218_2 l218_5 2 b40980 I218 X218 W218 (by omega) (by decide) h40982 e40981 (by omega) (by omega) (fun b9 e9 => by rw [e40978] at e9; cases e9; omega) (by show v17_1.toInt < v218_2.toInt; omega) (by show v17_2.toInt < v218_2.toInt; omega)
        · have h40985 : 4 < z40983.toInt := h40985
          refine g_iconst (v := 4) C dX12_cutAll_231 (by decide) ?_
          refine g_goto C 236 dX12_cutAll_232 (by decide) ?_
          refine g_lv (lv' := [(0, .ref a0), (1, .int v17_1), (2, .int v218_2), (5, .long l218_5)]) [0, 1, 2, 4] rfl ?_
          exact J236 P218 v218_2 l218_5 4 b40980 I218 X218 W218 (by omega) (by decide) h40982 e40981 (by omega) (by omega) (fun b9 e9 => by rw [e40978] at e9; cases e9; omega) (by show v17_1.toInt < v218_2.toInt; omega) (by show v17_2.toInt < v218_2.toInt; omega)
      have J159 : ∀ (n159 : Nat) (P159 : PP) (v159_2 : Int32) (l159_5 : Int64), (1000 - v159_2.toInt).toNat < n159 → (IM P159 a0) → (EM [2, 3, 4, 5, 7, 8] a0 P P159) → (MW P159 a0) → (0 ≤ v159_2.toInt ∧ v159_2.toInt ≤ 1000) → (0 ≤ v17_2.toInt ∧ v17_2.toInt ≤ 999) → (0 ≤ (pI P159 a0 2).toInt ∧ (pI P159 a0 2).toInt ≤ 0) → (1 ≤ (pI P159 a0 3).toInt ∧ (pI P159 a0 3).toInt ≤ 1000) → (∀ b, pR P159 a0 5 = some b → 0 ≤ (pI P159 b (v17_1.toInt.toNat)).toInt ∧ (pI P159 b (v17_1.toInt.toNat)).toInt ≤ 999) → (v17_1.toInt ≤ v17_2.toInt) → (∀ b91, pR P159 a0 1 = some b91 → v17_2.toInt < v159_2.toInt ∨ (v17_2.toInt = v159_2.toInt ∧ v159_2.toInt < (pI P159 a0 3).toInt ∧ 48 ≤ (pI P159 b91 (v159_2.toInt.toNat)).toInt ∧ (pI P159 b91 (v159_2.toInt.toNat)).toInt ≤ 57)) → (v17_2.toInt = v17_2.toInt) → G E ({ frames := 3, cells := 0, slots := 0, locals := 192 } : Room) D cy 7 P159 0 0 159 [(0, .ref a0), (1, .int v17_1), (2, .int v159_2), (4, .int v17_2), (5, .long l159_5)] [] := by
        intro n159
        induction n159 with
        | zero => intro P159 v159_2 l159_5 hm159 I159 X159 W159 hv159_2 hv159_4 hq159_0 hq159_1 hq159_2 rel159_0 rel159_1 rel159_2; omega
        | succ n159 ih159 =>
          intro P159 v159_2 l159_5 hm159 I159 X159 W159 hv159_2 hv159_4 hq159_0 hq159_1 hq159_2 rel159_0 rel159_1 rel159_2
          have h40986 := X159.at ha0
          obtain ⟨b40987, e40988, h40989⟩ := I159.fld (h40986) 5 13 1002 rfl
          have hq159_2 := hq159_2 b40987 e40988
          obtain ⟨b40990, e40991, h40992⟩ := I159.fld (h40986) 1 13 1000 rfl
          have rel159_1 := rel159_1 b40990 e40991
          have J210 : ∀ (l210_s0 : Int64), (0 ≤ v159_2.toInt ∧ v159_2.toInt ≤ 999) → (0 ≤ v17_2.toInt ∧ v17_2.toInt ≤ 999) → (0 ≤ (pI P159 a0 2).toInt ∧ (pI P159 a0 2).toInt ≤ 0) → (1 ≤ (pI P159 a0 3).toInt ∧ (pI P159 a0 3).toInt ≤ 1000) → (∀ b, pR P159 a0 1 = some b → 48 ≤ (pI P159 b (v159_2.toInt.toNat)).toInt ∧ (pI P159 b (v159_2.toInt.toNat)).toInt ≤ 57) → (∀ b, pR P159 a0 5 = some b → 0 ≤ (pI P159 b (v17_1.toInt.toNat)).toInt ∧ (pI P159 b (v17_1.toInt.toNat)).toInt ≤ 999) → (v17_1.toInt ≤ v17_2.toInt) → (v17_2.toInt ≤ v159_2.toInt) → (v17_2.toInt = v17_2.toInt) → G E ({ frames := 3, cells := 0, slots := 0, locals := 192 } : Room) D cy 7 P159 0 0 210 [(0, .ref a0), (1, .int v17_1), (2, .int v159_2), (4, .int v17_2)] [.long l210_s0] := by
            intro l210_s0 hv210_2 hv210_4 hq210_0 hq210_1 hq210_2 hq210_3 rel210_0 rel210_1 rel210_2
            have h40993 := X159.at ha0
            obtain ⟨b40994, e40995, h40996⟩ := I159.fld (h40993) 1 13 1000 rfl
            have hq210_2 := hq210_2 b40994 e40995
            obtain ⟨b40997, e40998, h40999⟩ := I159.fld (h40993) 5 13 1002 rfl
            have hq210_3 := hq210_3 b40997 e40998
            refine g_lstore (lv' := [(5, .long l210_s0), (0, .ref a0), (1, .int v17_1), (2, .int v159_2), (4, .int v17_2)]) C dX12_cutAll_210 (by decide) rfl ?_
            refine s_iinc (lv0 := [(5, .long l210_s0), (0, .ref a0), (1, .int v17_1), (4, .int v17_2)]) (m := 1) C dX12_cutAll_212 3 rfl (by decide) rfl (by decide) (by omega) (fun z41000 h41001 => ?_)
            have h41001 : z41000.toInt = v159_2.toInt + 1 := h41001
            refine g_goto C 159 dX12_cutAll_215 (by decide) ?_
            refine g_lv (lv' := [(0, .ref a0), (1, .int v17_1), (2, .int z41000), (4, .int v17_2), (5, .long l210_s0)]) [2, 3, 0, 4, 1] rfl ?_
            exact ih159 P159 z41000 l210_s0 (by omega) I159 X159 W159 (by omega) (by omega) (by omega) (by omega) (fun b9 e9 => by rw [e40998] at e9; cases e9; omega) (by show v17_1.toInt ≤ v17_2.toInt; omega) (by intro b91 e91; rw [e40995] at e91; cases e91; show v17_2.toInt < z41000.toInt ∨ (v17_2.toInt = z41000.toInt ∧ z41000.toInt < (pI P159 a0 3).toInt ∧ 48 ≤ (pI P159 b40994 (z41000.toInt.toNat)).toInt ∧ (pI P159 b40994 (z41000.toInt.toNat)).toInt ≤ 57); omega) (by show v17_2.toInt = v17_2.toInt; omega)
          refine g_iload_n C dX12_cutAll_159 rfl 2 rfl ?_
          refine g_aload_n C dX12_cutAll_160 rfl 0 rfl ?_
          refine g_getI C fi_X12_140 (by decide) (h40986).1 (h40986).2 dX12_cutAll_161 ?_
          refine b_icmp_ge C 218 dX12_cutAll_164 (by decide) (fun h41002 => ?_) (fun h41002 => ?_)
          · have h41002 : (pI P159 a0 3).toInt ≤ v159_2.toInt := h41002
            exact J218 P159 v159_2 l159_5 I159 X159 W159 (by omega) (by omega) (by omega) (by omega) (fun b9 e9 => by rw [e40988] at e9; cases e9; omega) (by show v17_1.toInt ≤ v17_2.toInt; omega) (by show v17_2.toInt < v159_2.toInt; omega) (by show v17_2.toInt < v159_2.toInt; omega)
          · have h41002 : v159_2.toInt < (pI P159 a0 3).toInt := h41002
            refine g_aload_n C dX12_cutAll_167 rfl 0 rfl ?_
            refine g_getR C fi_X12_14 rfl e40991 (h40986).1 (h40986).2 dX12_cutAll_168 ?_
            refine g_iload_n C dX12_cutAll_171 rfl 2 rfl ?_
            refine g_iald (j := (v159_2.toInt.toNat)) C h40992.1 h40992.2.1 (ix_in h40992.2.2 (by omega)) dX12_cutAll_172 ?_
            refine g_callSI (b := 0) (ci := 0) (rest := []) C ms_X12_149 [.int (pI P159 b40990 (v159_2.toInt.toNat))] (s_X12_isDigit I159.1) rfl rfl (by decide) (Nat.le_of_ble_eq_true rfl) (by decide) dX12_cutAll_173 (fun r41003 Y41004 h41005 => ?_)
            obtain ⟨rfl, h41005⟩ := h41005
            obtain ⟨h41005, hi41006, hi41007⟩ := h41005
            have hi41006 : r41003.toInt = 0 ∨ (((48 : Int) ≤ (pI P159 b40990 (v159_2.toInt.toNat)).toInt ∧ (pI P159 b40990 (v159_2.toInt.toNat)).toInt ≤ (57 : Int))) := hi41006
            have hi41007 : r41003.toInt ≠ 0 ∨ (pI P159 b40990 (v159_2.toInt.toNat)).toInt < 48 ∨ 57 < (pI P159 b40990 (v159_2.toInt.toNat)).toInt := hi41007
            have h41005 : 0 ≤ r41003.toInt ∧ r41003.toInt ≤ 1 := h41005
            refine b_if_eq C 218 dX12_cutAll_176 (by decide) (fun h41008 => ?_) (fun h41008 => ?_)
            · have h41008 : r41003.toInt = 0 := congrArg Int32.toInt h41008
              clear hi41006
              exact J218 P159 v159_2 l159_5 I159 X159 W159 (by omega) (by omega) (by omega) (by omega) (fun b9 e9 => by rw [e40988] at e9; cases e9; omega) (by show v17_1.toInt ≤ v17_2.toInt; omega) (by show v17_2.toInt < v159_2.toInt; omega) (by show v17_2.toInt < v159_2.toInt; omega)
            · have h41008 : r41003.toInt ≠ 0 := ti_ne h41008
              replace hi41006 := hi41006.resolve_left (by omega)
              refine g_iload_n C dX12_cutAll_179 rfl 2 rfl ?_
              refine g_iload C dX12_cutAll_180 3 rfl ?_
              refine s_isub C dX12_cutAll_182 (by show -2147483648 ≤ v159_2.toInt - v17_2.toInt ∧ v159_2.toInt - v17_2.toInt ≤ 2147483647; omega) (fun z41009 h41010 => ?_)
              have h41010 : z41009.toInt = v159_2.toInt - v17_2.toInt := h41010
              refine g_iconst (v := 4) C dX12_cutAll_183 (by decide) ?_
              refine b_icmp_ge C 208 dX12_cutAll_184 (by decide) (fun h41011 => ?_) (fun h41011 => ?_)
              · have h41011 : 4 ≤ z41009.toInt := h41011
                refine g_lload C dX12_cutAll_208 4 rfl ?_
                refine g_lv (lv' := [(0, .ref a0), (1, .int v17_1), (2, .int v159_2), (4, .int v17_2)]) [0, 1, 2, 3] rfl ?_
                exact J210 l159_5 (by omega) (by omega) (by omega) (by omega) (fun b9 e9 => by rw [e40991] at e9; cases e9; omega) (fun b9 e9 => by rw [e40988] at e9; cases e9; omega) (by show v17_1.toInt ≤ v17_2.toInt; omega) (by show v17_2.toInt ≤ v159_2.toInt; omega) (by show v17_2.toInt = v17_2.toInt; omega)
              · have h41011 : z41009.toInt < 4 := h41011
                refine g_ldc2 (v := 10) C kl_X12_152 dX12_cutAll_187 ?_
                refine g_topl (fun l41012 el41012 => ?_)
                have hz_l41012 : ¬ l41012 = 0 := by rw [el41012]; decide
                refine g_lload C dX12_cutAll_190 4 rfl ?_
                refine a_lmul C dX12_cutAll_192 (fun l41013 => ?_)
                refine g_aload_n C dX12_cutAll_193 rfl 0 rfl ?_
                refine g_getR C fi_X12_14 rfl e40991 (h40986).1 (h40986).2 dX12_cutAll_194 ?_
                refine g_iload_n C dX12_cutAll_197 rfl 2 rfl ?_
                refine g_iald (j := (v159_2.toInt.toNat)) C h40992.1 h40992.2.1 (ix_in h40992.2.2 (by omega)) dX12_cutAll_198 ?_
                refine a_i2l C dX12_cutAll_199 (fun l41014 => ?_)
                refine a_ladd C dX12_cutAll_200 (fun l41015 => ?_)
                refine g_ldc2 (v := 48) C kl_X12_154 dX12_cutAll_201 ?_
                refine g_topl (fun l41016 el41016 => ?_)
                have hz_l41016 : ¬ l41016 = 0 := by rw [el41016]; decide
                refine a_lsub C dX12_cutAll_204 (fun l41017 => ?_)
                refine g_goto C 210 dX12_cutAll_205 (by decide) ?_
                refine g_lv (lv' := [(0, .ref a0), (1, .int v17_1), (2, .int v159_2), (4, .int v17_2)]) [0, 1, 2, 3] rfl ?_
                exact J210 l41017 (by omega) (by omega) (by omega) (by omega) (fun b9 e9 => by rw [e40991] at e9; cases e9; omega) (fun b9 e9 => by rw [e40988] at e9; cases e9; omega) (by show v17_1.toInt ≤ v17_2.toInt; omega) (by show v17_2.toInt ≤ v159_2.toInt; omega) (by show v17_2.toInt = v17_2.toInt; omega)
      have J148 : ∀ (P148 : PP) (v148_2 : Int32) (l148_5 : Int64) (v148_s0 : Int32) (b148_s2 : Nat), (IM P148 a0) → (EM [2, 3, 4, 5, 7, 8] a0 P P148) → (MW P148 a0) → (0 ≤ v148_2.toInt ∧ v148_2.toInt ≤ 1000) → (1 ≤ v148_s0.toInt ∧ v148_s0.toInt ≤ 4) → (Ar P148 b148_s2 13 1002) → (pR P148 a0 4 = some b148_s2) → (0 ≤ (pI P148 a0 2).toInt ∧ (pI P148 a0 2).toInt ≤ 0) → (1 ≤ (pI P148 a0 3).toInt ∧ (pI P148 a0 3).toInt ≤ 1000) → (∀ b, pR P148 a0 5 = some b → 0 ≤ (pI P148 b (v17_1.toInt.toNat)).toInt ∧ (pI P148 b (v17_1.toInt.toNat)).toInt ≤ 999) → (v17_1.toInt < v148_2.toInt) → (v17_2.toInt < v148_2.toInt) → G E ({ frames := 3, cells := 0, slots := 0, locals := 192 } : Room) D cy 7 P148 0 0 148 [(0, .ref a0), (1, .int v17_1), (2, .int v148_2), (5, .long l148_5)] [.int v148_s0, .int v17_1, .ref b148_s2] := by
        intro P148 v148_2 l148_5 v148_s0 b148_s2 I148 X148 W148 hv148_2 hv148_s0 hb148_s2 eb148_s2 hq148_0 hq148_1 hq148_2 rel148_0 rel148_1
        have h41018 := X148.at ha0
        obtain ⟨b41019, e41020, h41021⟩ := I148.fld (h41018) 5 13 1002 rfl
        have hq148_2 := hq148_2 b41019 e41020
        refine g_iast (j := (v17_1.toInt.toNat)) C hb148_s2.1 hb148_s2.2.1 (ix_in hb148_s2.2.2 (by omega)) dX12_cutAll_148 ?_
        refine gqW (ks := [4]) (I148.setA eb148_s2 hb148_s2 (by decide) (arOk.of rfl (by omega))) (EM.setA I148 eb148_s2 rfl (by decide)) (fun Y41022 Iy41023 Xy41024 w41025 => ?_)
        have w41025 : (pI Y41022 b148_s2 (v17_1.toInt.toNat)).toInt = v148_s0.toInt := w41025
        have q41026 := Xy41024.keepF 2 (by decide)
        have q41027 := Xy41024.keepF 3 (by decide)
        have q41028 := Xy41024.keepA e41020 (by decide) rfl (v17_1.toInt.toNat)
        have W41029 := W148.keep I148 Xy41024 (by decide) (by decide) (by decide)
        have Xz41030 : EM [2, 3, 4, 5, 7, 8] a0 P Y41022 := EM.tr ha0 X148 (Xy41024.mono (by decide))
        have e41031 := Xy41024.ref h41018 (by decide) eb148_s2
        have e41032 := Xy41024.ref h41018 (by decide) e41020
        have h41033 := Xy41024.at h41018
        have h41034 := Xy41024.ar hb148_s2
        have h41035 := Xy41024.ar h41021
        refine g_goto C 265 dX12_cutAll_149 (by decide) ?_
        exact J265 Y41022 v148_2 l148_5 Iy41023 Xz41030 W41029 (by omega) (by omega) (by omega) (fun b9 e9 => by rw [e41031] at e9; cases e9; omega) (fun b9 e9 => by rw [e41032] at e9; cases e9; omega) (by show v17_1.toInt < v148_2.toInt; omega) (by show v17_2.toInt < v148_2.toInt; omega)
      have J129 : ∀ (P129 : PP) (v129_2 : Int32) (l129_5 : Int64), (IM P129 a0) → (EM [2, 3, 4, 5, 7, 8] a0 P P129) → (MW P129 a0) → (0 ≤ v129_2.toInt ∧ v129_2.toInt ≤ 1000) → (0 ≤ v17_2.toInt ∧ v17_2.toInt ≤ 999) → (0 ≤ (pI P129 a0 2).toInt ∧ (pI P129 a0 2).toInt ≤ 0) → (1 ≤ (pI P129 a0 3).toInt ∧ (pI P129 a0 3).toInt ≤ 1000) → (∀ b, pR P129 a0 5 = some b → 0 ≤ (pI P129 b (v17_1.toInt.toNat)).toInt ∧ (pI P129 b (v17_1.toInt.toNat)).toInt ≤ 999) → (v17_1.toInt ≤ v17_2.toInt) → (v17_2.toInt < v129_2.toInt) → (v17_2.toInt < v129_2.toInt) → G E ({ frames := 3, cells := 0, slots := 0, locals := 192 } : Room) D cy 7 P129 0 0 129 [(0, .ref a0), (1, .int v17_1), (2, .int v129_2), (4, .int v17_2), (5, .long l129_5)] [] := by
        intro P129 v129_2 l129_5 I129 X129 W129 hv129_2 hv129_4 hq129_0 hq129_1 hq129_2 rel129_0 rel129_1 rel129_2
        have h41036 := X129.at ha0
        obtain ⟨b41037, e41038, h41039⟩ := I129.fld (h41036) 5 13 1002 rfl
        have hq129_2 := hq129_2 b41037 e41038
        refine g_aload_n C dX12_cutAll_129 rfl 0 rfl ?_
        obtain ⟨b41040, e41041, h41042⟩ := I129.fld (h41036) 4 13 1002 rfl
        refine g_getR C fi_X12_24 rfl e41041 (h41036).1 (h41036).2 dX12_cutAll_130 ?_
        refine g_iload_n C dX12_cutAll_133 rfl 1 rfl ?_
        refine g_iload_n C dX12_cutAll_134 rfl 2 rfl ?_
        refine g_iload C dX12_cutAll_135 3 rfl ?_
        refine s_isub C dX12_cutAll_137 (by show -2147483648 ≤ v129_2.toInt - v17_2.toInt ∧ v129_2.toInt - v17_2.toInt ≤ 2147483647; omega) (fun z41043 h41044 => ?_)
        have h41044 : z41043.toInt = v129_2.toInt - v17_2.toInt := h41044
        refine g_bipush (v := 8) C dX12_cutAll_138 (by decide) ?_
        refine b_icmp_le C 147 dX12_cutAll_140 (by decide) (fun h41045 => ?_) (fun h41045 => ?_)
        · have h41045 : z41043.toInt ≤ 8 := h41045
          refine g_iconst (v := 1) C dX12_cutAll_147 (by decide) ?_
          refine g_lv (lv' := [(0, .ref a0), (1, .int v17_1), (2, .int v129_2), (5, .long l129_5)]) [0, 1, 2, 4] rfl ?_
          exact J148 P129 v129_2 l129_5 1 b41040 I129 X129 W129 (by omega) (by decide) h41042 e41041 (by omega) (by omega) (fun b9 e9 => by rw [e41038] at e9; cases e9; omega) (by show v17_1.toInt < v129_2.toInt; omega) (by show v17_2.toInt < v129_2.toInt; omega)
        · have h41045 : 8 < z41043.toInt := h41045
          refine g_iconst (v := 4) C dX12_cutAll_143 (by decide) ?_
          refine g_goto C 148 dX12_cutAll_144 (by decide) ?_
          refine g_lv (lv' := [(0, .ref a0), (1, .int v17_1), (2, .int v129_2), (5, .long l129_5)]) [0, 1, 2, 4] rfl ?_
          exact J148 P129 v129_2 l129_5 4 b41040 I129 X129 W129 (by omega) (by decide) h41042 e41041 (by omega) (by omega) (fun b9 e9 => by rw [e41038] at e9; cases e9; omega) (by show v17_1.toInt < v129_2.toInt; omega) (by show v17_2.toInt < v129_2.toInt; omega)
      have J70 : ∀ (n70 : Nat) (P70 : PP) (v70_2 : Int32) (l70_5 : Int64), (1000 - v70_2.toInt).toNat < n70 → (IM P70 a0) → (EM [2, 3, 4, 5, 7, 8] a0 P P70) → (MW P70 a0) → (0 ≤ v70_2.toInt ∧ v70_2.toInt ≤ 1000) → (0 ≤ v17_2.toInt ∧ v17_2.toInt ≤ 999) → (0 ≤ (pI P70 a0 2).toInt ∧ (pI P70 a0 2).toInt ≤ 0) → (1 ≤ (pI P70 a0 3).toInt ∧ (pI P70 a0 3).toInt ≤ 1000) → (∀ b, pR P70 a0 5 = some b → 0 ≤ (pI P70 b (v17_1.toInt.toNat)).toInt ∧ (pI P70 b (v17_1.toInt.toNat)).toInt ≤ 999) → (v17_1.toInt ≤ v17_2.toInt) → (∀ b91, pR P70 a0 1 = some b91 → v17_2.toInt < v70_2.toInt ∨ (v17_2.toInt = v70_2.toInt ∧ v70_2.toInt < (pI P70 a0 3).toInt ∧ 97 ≤ (pI P70 b91 (v70_2.toInt.toNat)).toInt ∧ (pI P70 b91 (v70_2.toInt.toNat)).toInt ≤ 122)) → (v17_2.toInt = v17_2.toInt) → G E ({ frames := 3, cells := 0, slots := 0, locals := 192 } : Room) D cy 7 P70 0 0 70 [(0, .ref a0), (1, .int v17_1), (2, .int v70_2), (4, .int v17_2), (5, .long l70_5)] [] := by
        intro n70
        induction n70 with
        | zero => intro P70 v70_2 l70_5 hm70 I70 X70 W70 hv70_2 hv70_4 hq70_0 hq70_1 hq70_2 rel70_0 rel70_1 rel70_2; omega
        | succ n70 ih70 =>
          intro P70 v70_2 l70_5 hm70 I70 X70 W70 hv70_2 hv70_4 hq70_0 hq70_1 hq70_2 rel70_0 rel70_1 rel70_2
          have h41046 := X70.at ha0
          obtain ⟨b41047, e41048, h41049⟩ := I70.fld (h41046) 5 13 1002 rfl
          have hq70_2 := hq70_2 b41047 e41048
          obtain ⟨b41050, e41051, h41052⟩ := I70.fld (h41046) 1 13 1000 rfl
          have rel70_1 := rel70_1 b41050 e41051
          have J121 : ∀ (l121_s0 : Int64), (0 ≤ v70_2.toInt ∧ v70_2.toInt ≤ 999) → (0 ≤ v17_2.toInt ∧ v17_2.toInt ≤ 999) → (0 ≤ (pI P70 a0 2).toInt ∧ (pI P70 a0 2).toInt ≤ 0) → (1 ≤ (pI P70 a0 3).toInt ∧ (pI P70 a0 3).toInt ≤ 1000) → (∀ b, pR P70 a0 1 = some b → 97 ≤ (pI P70 b (v70_2.toInt.toNat)).toInt ∧ (pI P70 b (v70_2.toInt.toNat)).toInt ≤ 122) → (∀ b, pR P70 a0 5 = some b → 0 ≤ (pI P70 b (v17_1.toInt.toNat)).toInt ∧ (pI P70 b (v17_1.toInt.toNat)).toInt ≤ 999) → (v17_1.toInt ≤ v17_2.toInt) → (v17_2.toInt ≤ v70_2.toInt) → (v17_2.toInt = v17_2.toInt) → G E ({ frames := 3, cells := 0, slots := 0, locals := 192 } : Room) D cy 7 P70 0 0 121 [(0, .ref a0), (1, .int v17_1), (2, .int v70_2), (4, .int v17_2)] [.long l121_s0] := by
            intro l121_s0 hv121_2 hv121_4 hq121_0 hq121_1 hq121_2 hq121_3 rel121_0 rel121_1 rel121_2
            have h41053 := X70.at ha0
            obtain ⟨b41054, e41055, h41056⟩ := I70.fld (h41053) 1 13 1000 rfl
            have hq121_2 := hq121_2 b41054 e41055
            obtain ⟨b41057, e41058, h41059⟩ := I70.fld (h41053) 5 13 1002 rfl
            have hq121_3 := hq121_3 b41057 e41058
            refine g_lstore (lv' := [(5, .long l121_s0), (0, .ref a0), (1, .int v17_1), (2, .int v70_2), (4, .int v17_2)]) C dX12_cutAll_121 (by decide) rfl ?_
            refine s_iinc (lv0 := [(5, .long l121_s0), (0, .ref a0), (1, .int v17_1), (4, .int v17_2)]) (m := 1) C dX12_cutAll_123 3 rfl (by decide) rfl (by decide) (by omega) (fun z41060 h41061 => ?_)
            have h41061 : z41060.toInt = v70_2.toInt + 1 := h41061
            refine g_goto C 70 dX12_cutAll_126 (by decide) ?_
            refine g_lv (lv' := [(0, .ref a0), (1, .int v17_1), (2, .int z41060), (4, .int v17_2), (5, .long l121_s0)]) [2, 3, 0, 4, 1] rfl ?_
            exact ih70 P70 z41060 l121_s0 (by omega) I70 X70 W70 (by omega) (by omega) (by omega) (by omega) (fun b9 e9 => by rw [e41058] at e9; cases e9; omega) (by show v17_1.toInt ≤ v17_2.toInt; omega) (by intro b91 e91; rw [e41055] at e91; cases e91; show v17_2.toInt < z41060.toInt ∨ (v17_2.toInt = z41060.toInt ∧ z41060.toInt < (pI P70 a0 3).toInt ∧ 97 ≤ (pI P70 b41054 (z41060.toInt.toNat)).toInt ∧ (pI P70 b41054 (z41060.toInt.toNat)).toInt ≤ 122); omega) (by show v17_2.toInt = v17_2.toInt; omega)
          refine g_iload_n C dX12_cutAll_70 rfl 2 rfl ?_
          refine g_aload_n C dX12_cutAll_71 rfl 0 rfl ?_
          refine g_getI C fi_X12_140 (by decide) (h41046).1 (h41046).2 dX12_cutAll_72 ?_
          refine b_icmp_ge C 129 dX12_cutAll_75 (by decide) (fun h41062 => ?_) (fun h41062 => ?_)
          · have h41062 : (pI P70 a0 3).toInt ≤ v70_2.toInt := h41062
            exact J129 P70 v70_2 l70_5 I70 X70 W70 (by omega) (by omega) (by omega) (by omega) (fun b9 e9 => by rw [e41048] at e9; cases e9; omega) (by show v17_1.toInt ≤ v17_2.toInt; omega) (by show v17_2.toInt < v70_2.toInt; omega) (by show v17_2.toInt < v70_2.toInt; omega)
          · have h41062 : v70_2.toInt < (pI P70 a0 3).toInt := h41062
            refine g_aload_n C dX12_cutAll_78 rfl 0 rfl ?_
            refine g_getR C fi_X12_14 rfl e41051 (h41046).1 (h41046).2 dX12_cutAll_79 ?_
            refine g_iload_n C dX12_cutAll_82 rfl 2 rfl ?_
            refine g_iald (j := (v70_2.toInt.toNat)) C h41052.1 h41052.2.1 (ix_in h41052.2.2 (by omega)) dX12_cutAll_83 ?_
            refine g_callSI (b := 0) (ci := 0) (rest := []) C ms_X12_136 [.int (pI P70 b41050 (v70_2.toInt.toNat))] (s_X12_isLetter I70.1) rfl rfl (by decide) (Nat.le_of_ble_eq_true rfl) (by decide) dX12_cutAll_84 (fun r41063 Y41064 h41065 => ?_)
            obtain ⟨rfl, h41065⟩ := h41065
            obtain ⟨h41065, hi41066, hi41067⟩ := h41065
            have hi41066 : r41063.toInt = 0 ∨ (((97 : Int) ≤ (pI P70 b41050 (v70_2.toInt.toNat)).toInt ∧ (pI P70 b41050 (v70_2.toInt.toNat)).toInt ≤ (122 : Int))) := hi41066
            have hi41067 : r41063.toInt ≠ 0 ∨ (pI P70 b41050 (v70_2.toInt.toNat)).toInt < 97 ∨ 122 < (pI P70 b41050 (v70_2.toInt.toNat)).toInt := hi41067
            have h41065 : 0 ≤ r41063.toInt ∧ r41063.toInt ≤ 1 := h41065
            refine b_if_eq C 129 dX12_cutAll_87 (by decide) (fun h41068 => ?_) (fun h41068 => ?_)
            · have h41068 : r41063.toInt = 0 := congrArg Int32.toInt h41068
              clear hi41066
              exact J129 P70 v70_2 l70_5 I70 X70 W70 (by omega) (by omega) (by omega) (by omega) (fun b9 e9 => by rw [e41048] at e9; cases e9; omega) (by show v17_1.toInt ≤ v17_2.toInt; omega) (by show v17_2.toInt < v70_2.toInt; omega) (by show v17_2.toInt < v70_2.toInt; omega)
            · have h41068 : r41063.toInt ≠ 0 := ti_ne h41068
              replace hi41066 := hi41066.resolve_left (by omega)
              refine g_iload_n C dX12_cutAll_90 rfl 2 rfl ?_
              refine g_iload C dX12_cutAll_91 3 rfl ?_
              refine s_isub C dX12_cutAll_93 (by show -2147483648 ≤ v70_2.toInt - v17_2.toInt ∧ v70_2.toInt - v17_2.toInt ≤ 2147483647; omega) (fun z41069 h41070 => ?_)
              have h41070 : z41069.toInt = v70_2.toInt - v17_2.toInt := h41070
              refine g_bipush (v := 8) C dX12_cutAll_94 (by decide) ?_
              refine b_icmp_ge C 119 dX12_cutAll_96 (by decide) (fun h41071 => ?_) (fun h41071 => ?_)
              · have h41071 : 8 ≤ z41069.toInt := h41071
                refine g_lload C dX12_cutAll_119 4 rfl ?_
                refine g_lv (lv' := [(0, .ref a0), (1, .int v17_1), (2, .int v70_2), (4, .int v17_2)]) [0, 1, 2, 3] rfl ?_
                exact J121 l70_5 (by omega) (by omega) (by omega) (by omega) (fun b9 e9 => by rw [e41051] at e9; cases e9; omega) (fun b9 e9 => by rw [e41048] at e9; cases e9; omega) (by show v17_1.toInt ≤ v17_2.toInt; omega) (by show v17_2.toInt ≤ v70_2.toInt; omega) (by show v17_2.toInt = v17_2.toInt; omega)
              · have h41071 : z41069.toInt < 8 := h41071
                refine g_ldc2 (v := 37) C kl_X12_143 dX12_cutAll_99 ?_
                refine g_topl (fun l41072 el41072 => ?_)
                have hz_l41072 : ¬ l41072 = 0 := by rw [el41072]; decide
                refine g_lload C dX12_cutAll_102 4 rfl ?_
                refine a_lmul C dX12_cutAll_104 (fun l41073 => ?_)
                refine g_aload_n C dX12_cutAll_105 rfl 0 rfl ?_
                refine g_getR C fi_X12_14 rfl e41051 (h41046).1 (h41046).2 dX12_cutAll_106 ?_
                refine g_iload_n C dX12_cutAll_109 rfl 2 rfl ?_
                refine g_iald (j := (v70_2.toInt.toNat)) C h41052.1 h41052.2.1 (ix_in h41052.2.2 (by omega)) dX12_cutAll_110 ?_
                refine g_callSI (b := 0) (ci := 0) (rest := [.long l41073]) C ms_X12_145 [.int (pI P70 b41050 (v70_2.toInt.toNat))] (s_X12_rank I70.1) rfl rfl (by decide) (Nat.le_of_ble_eq_true rfl) (by decide) dX12_cutAll_111 (fun r41074 Y41075 h41076 => ?_)
                obtain ⟨rfl, h41076⟩ := h41076
                have h41076 : True := h41076
                refine a_i2l C dX12_cutAll_114 (fun l41077 => ?_)
                refine a_ladd C dX12_cutAll_115 (fun l41078 => ?_)
                refine g_goto C 121 dX12_cutAll_116 (by decide) ?_
                refine g_lv (lv' := [(0, .ref a0), (1, .int v17_1), (2, .int v70_2), (4, .int v17_2)]) [0, 1, 2, 3] rfl ?_
                exact J121 l41078 (by omega) (by omega) (by omega) (by omega) (fun b9 e9 => by rw [e41051] at e9; cases e9; omega) (fun b9 e9 => by rw [e41048] at e9; cases e9; omega) (by show v17_1.toInt ≤ v17_2.toInt; omega) (by show v17_2.toInt ≤ v70_2.toInt; omega) (by show v17_2.toInt = v17_2.toInt; omega)
      have J44 : (0 ≤ v17_2.toInt ∧ v17_2.toInt ≤ 999) → (0 ≤ (pI P17 a0 2).toInt ∧ (pI P17 a0 2).toInt ≤ 0) → (1 ≤ (pI P17 a0 3).toInt ∧ (pI P17 a0 3).toInt ≤ 1000) → G E ({ frames := 3, cells := 0, slots := 0, locals := 192 } : Room) D cy 7 P17 0 0 44 [(0, .ref a0), (1, .int v17_1), (2, .int v17_2)] [] := by
        intro hv44_2 hq44_0 hq44_1
        have h41079 := X17.at ha0
        refine s_iinc (lv0 := [(0, .ref a0), (1, .int v17_1)]) (m := 1) C dX12_cutAll_44 2 rfl (by decide) rfl (by decide) (by omega) (fun z41080 h41081 => ?_)
        have h41081 : z41080.toInt = v17_2.toInt + 1 := h41081
        refine g_goto C 17 dX12_cutAll_47 (by decide) ?_
        refine g_lv (lv' := [(0, .ref a0), (1, .int v17_1), (2, .int z41080)]) [1, 2, 0] rfl ?_
        exact ih17 P17 v17_1 z41080 (by omega) I17 X17 W17 (by omega) (by omega) (by omega) (by show v17_1.toInt ≤ z41080.toInt; omega)
      refine g_iload_n C dX12_cutAll_17 rfl 2 rfl ?_
      refine g_aload_n C dX12_cutAll_18 rfl 0 rfl ?_
      refine g_getI C fi_X12_140 (by decide) (h40911).1 (h40911).2 dX12_cutAll_19 ?_
      have h41082 := I17.rg (h40911) 3 rfl
      refine b_icmp_ge C 279 dX12_cutAll_22 (by decide) (fun h41083 => ?_) (fun h41083 => ?_)
      · have h41083 : (pI P17 a0 3).toInt ≤ v17_2.toInt := h41083
        refine g_aload_n C dX12_cutAll_279 rfl 0 rfl ?_
        obtain ⟨b41084, e41085, h41086⟩ := I17.fld (h40911) 4 13 1002 rfl
        refine g_getR C fi_X12_24 rfl e41085 (h40911).1 (h40911).2 dX12_cutAll_280 ?_
        refine g_iload_n C dX12_cutAll_283 rfl 1 rfl ?_
        refine g_iconst (v := 0) C dX12_cutAll_284 (by decide) ?_
        refine g_iast (j := (v17_1.toInt.toNat)) C h41086.1 h41086.2.1 (ix_in h41086.2.2 (by omega)) dX12_cutAll_285 ?_
        refine gqW (ks := [4]) (I17.setA e41085 h41086 (by decide) (arOk.of rfl (by decide))) (EM.setA I17 e41085 rfl (by decide)) (fun Y41087 Iy41088 Xy41089 w41090 => ?_)
        have w41090 : (pI Y41087 b41084 (v17_1.toInt.toNat)).toInt = 0 := w41090
        have q41091 := Xy41089.keepF 2 (by decide)
        have q41092 := Xy41089.keepF 3 (by decide)
        have W41093 := W17.keep I17 Xy41089 (by decide) (by decide) (by decide)
        have Xz41094 : EM [2, 3, 4, 5, 7, 8] a0 P Y41087 := EM.tr ha0 X17 (Xy41089.mono (by decide))
        have e41095 := Xy41089.ref h40911 (by decide) e41085
        have h41096 := Xy41089.at h40911
        have h41097 := Xy41089.ar h41086
        refine g_aload_n C dX12_cutAll_286 rfl 0 rfl ?_
        obtain ⟨b41098, e41099, h41100⟩ := Iy41088.fld (h41096) 5 13 1002 rfl
        refine g_getR C fi_X12_27 rfl e41099 (h41096).1 (h41096).2 dX12_cutAll_287 ?_
        refine g_iload_n C dX12_cutAll_290 rfl 1 rfl ?_
        refine g_aload_n C dX12_cutAll_291 rfl 0 rfl ?_
        refine g_getI C fi_X12_140 (by decide) (h41096).1 (h41096).2 dX12_cutAll_292 ?_
        refine g_iast (j := (v17_1.toInt.toNat)) C h41100.1 h41100.2.1 (ix_in h41100.2.2 (by omega)) dX12_cutAll_295 ?_
        refine gqW (ks := [5]) (Iy41088.setA e41099 h41100 (by decide) (arOk.of rfl (by omega))) (EM.setA Iy41088 e41099 rfl (by decide)) (fun Y41101 Iy41102 Xy41103 w41104 => ?_)
        have w41104 : (pI Y41101 b41098 (v17_1.toInt.toNat)).toInt = (pI Y41087 a0 3).toInt := w41104
        have q41105 := Xy41103.keepF 2 (by decide)
        have q41106 := Xy41103.keepF 3 (by decide)
        have q41107 := Xy41103.keepA e41095 (by decide) rfl (v17_1.toInt.toNat)
        have W41108 := W41093.keep Iy41088 Xy41103 (by decide) (by decide) (by decide)
        have Xz41109 : EM [2, 3, 4, 5, 7, 8] a0 P Y41101 := EM.tr ha0 Xz41094 (Xy41103.mono (by decide))
        have e41110 := Xy41103.ref h41096 (by decide) e41095
        have e41111 := Xy41103.ref h41096 (by decide) e41099
        have h41112 := Xy41103.at h41096
        have h41113 := Xy41103.ar h41097
        have h41114 := Xy41103.ar h41100
        refine g_aload_n C dX12_cutAll_296 rfl 0 rfl ?_
        refine g_iconst (v := 0) C dX12_cutAll_297 (by decide) ?_
        refine g_putI C fi_X12_159 rfl (h41112).1 (h41112).2 dX12_cutAll_298 ?_
        refine gqW (ks := [7]) (Iy41102.setI (rgOk.of rfl (by decide))) (EM.setI Iy41102 (by decide)) (fun Y41115 Iy41116 Xy41117 w41118 => ?_)
        have w41118 : (pI Y41115 a0 7).toInt = 0 := w41118
        have q41119 := Xy41117.keepF 2 (by decide)
        have q41120 := Xy41117.keepF 3 (by decide)
        have q41121 := Xy41117.keepA e41110 (by decide) rfl (v17_1.toInt.toNat)
        have q41122 := Xy41117.keepA e41111 (by decide) rfl (v17_1.toInt.toNat)
        have W41123 := W41108.keep Iy41102 Xy41117 (by decide) (by decide) (by decide)
        have Xz41124 : EM [2, 3, 4, 5, 7, 8] a0 P Y41115 := EM.tr ha0 Xz41109 (Xy41117.mono (by decide))
        have e41125 := Xy41117.ref h41112 (by decide) e41110
        have e41126 := Xy41117.ref h41112 (by decide) e41111
        have h41127 := Xy41117.at h41112
        have h41128 := Xy41117.ar h41113
        have h41129 := Xy41117.ar h41114
        refine g_aload_n C dX12_cutAll_301 rfl 0 rfl ?_
        refine g_iconst (v := 0) C dX12_cutAll_302 (by decide) ?_
        refine g_putI C fi_X12_162 rfl (h41127).1 (h41127).2 dX12_cutAll_303 ?_
        refine gqW (ks := [8]) (Iy41116.setI (rgOk.of rfl (by decide))) (EM.setI Iy41116 (by decide)) (fun Y41130 Iy41131 Xy41132 w41133 => ?_)
        have w41133 : (pI Y41130 a0 8).toInt = 0 := w41133
        have q41134 := Xy41132.keepF 2 (by decide)
        have q41135 := Xy41132.keepF 3 (by decide)
        have q41136 := Xy41132.keepA e41125 (by decide) rfl (v17_1.toInt.toNat)
        have q41137 := Xy41132.keepA e41126 (by decide) rfl (v17_1.toInt.toNat)
        have q41138 := Xy41132.keepF 7 (by decide)
        have W41139 := W41123.keep Iy41116 Xy41132 (by decide) (by decide) (by decide)
        have Xz41140 : EM [2, 3, 4, 5, 7, 8] a0 P Y41130 := EM.tr ha0 Xz41124 (Xy41132.mono (by decide))
        have e41141 := Xy41132.ref h41127 (by decide) e41125
        have e41142 := Xy41132.ref h41127 (by decide) e41126
        have h41143 := Xy41132.at h41127
        have h41144 := Xy41132.ar h41128
        have h41145 := Xy41132.ar h41129
        exact ret _ _ _ _ _ dX12_cutAll_306 (by decide) (by decide) ⟨Iy41131, Xz41140, W41139⟩
      · have h41083 : v17_2.toInt < (pI P17 a0 3).toInt := h41083
        refine g_aload_n C dX12_cutAll_25 rfl 0 rfl ?_
        obtain ⟨b41146, e41147, h41148⟩ := I17.fld (h40911) 1 13 1000 rfl
        refine g_getR C fi_X12_14 rfl e41147 (h40911).1 (h40911).2 dX12_cutAll_26 ?_
        refine g_iload_n C dX12_cutAll_29 rfl 2 rfl ?_
        refine g_iald (j := (v17_2.toInt.toNat)) C h41148.1 h41148.2.1 (ix_in h41148.2.2 (by omega)) dX12_cutAll_30 ?_
        refine g_topi (fun z41149 h41150 => ?_)
        have h41150 : z41149.toInt = (pI P17 b41146 (v17_2.toInt.toNat)).toInt := congrArg Int32.toInt h41150
        refine g_istore_n (lv' := [(3, .int z41149), (0, .ref a0), (1, .int v17_1), (2, .int v17_2)]) C dX12_cutAll_31 rfl (by decide) rfl ?_
        refine g_iload_n C dX12_cutAll_32 rfl 0 rfl ?_
        refine g_bipush (v := 10) C dX12_cutAll_33 (by decide) ?_
        have u41152 := ti_rng z41149
        refine b_icmp_eq C 44 dX12_cutAll_35 (by decide) (fun h41151 => ?_) (fun h41151 => ?_)
        · have h41151 : z41149.toInt = 10 := congrArg Int32.toInt h41151
          refine g_lv (lv' := [(0, .ref a0), (1, .int v17_1), (2, .int v17_2)]) [1, 2, 3] rfl ?_
          exact J44 (by omega) (by omega) (by omega)
        · have h41151 : z41149.toInt ≠ 10 := ti_ne h41151
          refine g_iload_n C dX12_cutAll_38 rfl 0 rfl ?_
          refine g_bipush (v := 32) C dX12_cutAll_39 (by decide) ?_
          have u41154 := ti_rng z41149
          refine b_icmp_ne C 50 dX12_cutAll_41 (by decide) (fun h41153 => ?_) (fun h41153 => ?_)
          · have h41153 : z41149.toInt ≠ 32 := ti_ne h41153
            refine g_iload_n C dX12_cutAll_50 rfl 3 rfl ?_
            refine g_istore (lv' := [(4, .int v17_2), (3, .int z41149), (0, .ref a0), (1, .int v17_1), (2, .int v17_2)]) C dX12_cutAll_51 (by decide) rfl ?_
            refine g_lconst (v := 0) C dX12_cutAll_53 (by decide) ?_
            refine g_lstore (lv' := [(5, .long 0), (4, .int v17_2), (3, .int z41149), (0, .ref a0), (1, .int v17_1), (2, .int v17_2)]) C dX12_cutAll_54 (by decide) rfl ?_
            refine g_aload_n C dX12_cutAll_56 rfl 3 rfl ?_
            obtain ⟨b41155, e41156, h41157⟩ := I17.fld (h40911) 5 13 1002 rfl
            refine g_getR C fi_X12_27 rfl e41156 (h40911).1 (h40911).2 dX12_cutAll_57 ?_
            refine g_iload_n C dX12_cutAll_60 rfl 4 rfl ?_
            refine g_iload_n C dX12_cutAll_61 rfl 5 rfl ?_
            refine g_iast (j := (v17_1.toInt.toNat)) C h41157.1 h41157.2.1 (ix_in h41157.2.2 (by omega)) dX12_cutAll_62 ?_
            refine gqW (ks := [5]) (I17.setA e41156 h41157 (by decide) (arOk.of rfl (by omega))) (EM.setA I17 e41156 rfl (by decide)) (fun Y41158 Iy41159 Xy41160 w41161 => ?_)
            have w41161 : (pI Y41158 b41155 (v17_1.toInt.toNat)).toInt = v17_2.toInt := w41161
            have q41162 := Xy41160.keepF 2 (by decide)
            have q41163 := Xy41160.keepF 3 (by decide)
            have q41164 := Xy41160.keepA e41147 (by decide) rfl (v17_2.toInt.toNat)
            have W41165 := W17.keep I17 Xy41160 (by decide) (by decide) (by decide)
            have Xz41166 : EM [2, 3, 4, 5, 7, 8] a0 P Y41158 := EM.tr ha0 X17 (Xy41160.mono (by decide))
            have e41167 := Xy41160.ref h40911 (by decide) e41147
            have e41168 := Xy41160.ref h40911 (by decide) e41156
            have h41169 := Xy41160.at h40911
            have h41170 := Xy41160.ar h41148
            have h41171 := Xy41160.ar h41157
            refine g_iload_n C dX12_cutAll_63 rfl 2 rfl ?_
            refine g_callSI (b := 0) (ci := 0) (rest := []) C ms_X12_136 [.int z41149] (s_X12_isLetter Iy41159.1) rfl rfl (by decide) (Nat.le_of_ble_eq_true rfl) (by decide) dX12_cutAll_64 (fun r41172 Y41173 h41174 => ?_)
            obtain ⟨rfl, h41174⟩ := h41174
            obtain ⟨h41174, hi41175, hi41176⟩ := h41174
            have hi41175 : r41172.toInt = 0 ∨ (((97 : Int) ≤ z41149.toInt ∧ z41149.toInt ≤ (122 : Int))) := hi41175
            have hi41176 : r41172.toInt ≠ 0 ∨ z41149.toInt < 97 ∨ 122 < z41149.toInt := hi41176
            have h41174 : 0 ≤ r41172.toInt ∧ r41172.toInt ≤ 1 := h41174
            refine b_if_eq C 152 dX12_cutAll_67 (by decide) (fun h41177 => ?_) (fun h41177 => ?_)
            · have h41177 : r41172.toInt = 0 := congrArg Int32.toInt h41177
              clear hi41175
              refine g_iload_n C dX12_cutAll_152 rfl 2 rfl ?_
              refine g_callSI (b := 0) (ci := 0) (rest := []) C ms_X12_149 [.int z41149] (s_X12_isDigit Iy41159.1) rfl rfl (by decide) (Nat.le_of_ble_eq_true rfl) (by decide) dX12_cutAll_153 (fun r41178 Y41179 h41180 => ?_)
              obtain ⟨rfl, h41180⟩ := h41180
              obtain ⟨h41180, hi41181, hi41182⟩ := h41180
              have hi41181 : r41178.toInt = 0 ∨ (((48 : Int) ≤ z41149.toInt ∧ z41149.toInt ≤ (57 : Int))) := hi41181
              have hi41182 : r41178.toInt ≠ 0 ∨ z41149.toInt < 48 ∨ 57 < z41149.toInt := hi41182
              have h41180 : 0 ≤ r41178.toInt ∧ r41178.toInt ≤ 1 := h41180
              refine b_if_eq C 240 dX12_cutAll_156 (by decide) (fun h41183 => ?_) (fun h41183 => ?_)
              · have h41183 : r41178.toInt = 0 := congrArg Int32.toInt h41183
                clear hi41181
                refine g_iload_n C dX12_cutAll_240 rfl 2 rfl ?_
                refine a_i2l C dX12_cutAll_241 (fun l41184 => ?_)
                refine g_lstore (lv' := [(5, .long l41184), (4, .int v17_2), (3, .int z41149), (0, .ref a0), (1, .int v17_1), (2, .int v17_2)]) C dX12_cutAll_242 (by decide) rfl ?_
                refine g_aload_n C dX12_cutAll_244 rfl 3 rfl ?_
                obtain ⟨b41185, e41186, h41187⟩ := Iy41159.fld (h41169) 4 13 1002 rfl
                refine g_getR C fi_X12_24 rfl e41186 (h41169).1 (h41169).2 dX12_cutAll_245 ?_
                refine g_iload_n C dX12_cutAll_248 rfl 4 rfl ?_
                refine g_iload_n C dX12_cutAll_249 rfl 2 rfl ?_
                refine g_callSI (b := 0) (ci := 0) (rest := [.int v17_1, .ref b41185]) C ms_X12_156 [.int z41149] (s_X12_isSignOf Iy41159.1) rfl rfl (by decide) (Nat.le_of_ble_eq_true rfl) (by decide) dX12_cutAll_250 (fun r41188 Y41189 h41190 => ?_)
                obtain ⟨rfl, h41190⟩ := h41190
                obtain ⟨h41190, hi41191⟩ := h41190
                have hi41191 : r41188.toInt = 0 ∨ (((59 : Int) ≤ z41149.toInt ∧ z41149.toInt ≤ (59 : Int))) := hi41191
                have h41190 : 0 ≤ r41188.toInt ∧ r41188.toInt ≤ 1 := h41190
                refine b_if_eq C 260 dX12_cutAll_253 (by decide) (fun h41192 => ?_) (fun h41192 => ?_)
                · have h41192 : r41188.toInt = 0 := congrArg Int32.toInt h41192
                  clear hi41191
                  refine g_iconst (v := 4) C dX12_cutAll_260 (by decide) ?_
                  refine g_lv (lv' := [(0, .ref a0), (1, .int v17_1), (2, .int v17_2), (5, .long l41184)]) [3, 4, 5, 0] rfl ?_
                  exact J261 Y41158 l41184 4 b41185 Iy41159 Xz41166 W41165 (by omega) (by decide) h41187 e41186 (by omega) (by omega) (fun b9 e9 => by rw [e41168] at e9; cases e9; omega) (by show v17_1.toInt ≤ v17_2.toInt; omega) (by show v17_2.toInt = v17_2.toInt; omega)
                · have h41192 : r41188.toInt ≠ 0 := ti_ne h41192
                  replace hi41191 := hi41191.resolve_left (by omega)
                  refine g_iconst (v := 3) C dX12_cutAll_256 (by decide) ?_
                  refine g_goto C 261 dX12_cutAll_257 (by decide) ?_
                  refine g_lv (lv' := [(0, .ref a0), (1, .int v17_1), (2, .int v17_2), (5, .long l41184)]) [3, 4, 5, 0] rfl ?_
                  exact J261 Y41158 l41184 3 b41185 Iy41159 Xz41166 W41165 (by omega) (by decide) h41187 e41186 (by omega) (by omega) (fun b9 e9 => by rw [e41168] at e9; cases e9; omega) (by show v17_1.toInt ≤ v17_2.toInt; omega) (by show v17_2.toInt = v17_2.toInt; omega)
              · have h41183 : r41178.toInt ≠ 0 := ti_ne h41183
                replace hi41181 := hi41181.resolve_left (by omega)
                refine g_lv (lv' := [(0, .ref a0), (1, .int v17_1), (2, .int v17_2), (4, .int v17_2), (5, .long 0)]) [3, 4, 5, 1, 0] rfl ?_
                exact J159 _ Y41158 v17_2 0 (Nat.lt_succ_self _) Iy41159 Xz41166 W41165 (by omega) (by omega) (by omega) (by omega) (fun b9 e9 => by rw [e41168] at e9; cases e9; omega) (by show v17_1.toInt ≤ v17_2.toInt; omega) (by intro b91 e91; rw [e41167] at e91; cases e91; show v17_2.toInt < v17_2.toInt ∨ (v17_2.toInt = v17_2.toInt ∧ v17_2.toInt < (pI Y41158 a0 3).toInt ∧ 48 ≤ (pI Y41158 b41146 (v17_2.toInt.toNat)).toInt ∧ (pI Y41158 b41146 (v17_2.toInt.toNat)).toInt ≤ 57); omega) (by show v17_2.toInt = v17_2.toInt; omega)
            · have h41177 : r41172.toInt ≠ 0 := ti_ne h41177
              replace hi41175 := hi41175.resolve_left (by omega)
              refine g_lv (lv' := [(0, .ref a0), (1, .int v17_1), (2, .int v17_2), (4, .int v17_2), (5, .long 0)]) [3, 4, 5, 1, 0] rfl ?_
              exact J70 _ Y41158 v17_2 0 (Nat.lt_succ_self _) Iy41159 Xz41166 W41165 (by omega) (by omega) (by omega) (by omega) (fun b9 e9 => by rw [e41168] at e9; cases e9; omega) (by show v17_1.toInt ≤ v17_2.toInt; omega) (by intro b91 e91; rw [e41167] at e91; cases e91; show v17_2.toInt < v17_2.toInt ∨ (v17_2.toInt = v17_2.toInt ∧ v17_2.toInt < (pI Y41158 a0 3).toInt ∧ 97 ≤ (pI Y41158 b41146 (v17_2.toInt.toNat)).toInt ∧ (pI Y41158 b41146 (v17_2.toInt.toNat)).toInt ≤ 122); omega) (by show v17_2.toInt = v17_2.toInt; omega)
          · have h41153 : z41149.toInt = 32 := congrArg Int32.toInt h41153
            refine g_lv (lv' := [(0, .ref a0), (1, .int v17_1), (2, .int v17_2)]) [1, 2, 3] rfl ?_
            exact J44 (by omega) (by omega) (by omega)
  refine g_aload_n C dX12_cutAll_0 rfl 0 rfl ?_
  refine g_aload_n C dX12_cutAll_1 rfl 0 rfl ?_
  refine g_getI C fi_X12_11 (by decide) (ha0).1 (ha0).2 dX12_cutAll_2 ?_
  have h41193 := I.rg (ha0) 2 rfl
  refine g_putI C fi_X12_140 rfl (ha0).1 (ha0).2 dX12_cutAll_5 ?_
  refine gqW (ks := [3]) (I.setI (rgOk.of rfl (by omega))) (EM.setI I (by decide)) (fun Y41194 Iy41195 Xy41196 w41197 => ?_)
  have w41197 : (pI Y41194 a0 3).toInt = (pI P a0 2).toInt := w41197
  have q41198 := Xy41196.keepF 2 (by decide)
  have W41199 := hW.keep I Xy41196 (by decide) (by decide) (by decide)
  have Xz41200 : EM [2, 3, 4, 5, 7, 8] a0 P Y41194 := Xy41196.mono (by decide)
  have h41201 := Xy41196.at ha0
  refine g_aload_n C dX12_cutAll_8 rfl 0 rfl ?_
  refine g_iconst (v := 0) C dX12_cutAll_9 (by decide) ?_
  refine g_putI C fi_X12_11 rfl (h41201).1 (h41201).2 dX12_cutAll_10 ?_
  refine gqW (ks := [2]) (Iy41195.setI (rgOk.of rfl (by decide))) (EM.setI Iy41195 (by decide)) (fun Y41202 Iy41203 Xy41204 w41205 => ?_)
  have w41205 : (pI Y41202 a0 2).toInt = 0 := w41205
  have q41206 := Xy41204.keepF 3 (by decide)
  have W41207 := W41199.keep Iy41195 Xy41204 (by decide) (by decide) (by decide)
  have Xz41208 : EM [2, 3, 4, 5, 7, 8] a0 P Y41202 := EM.tr ha0 Xz41200 (Xy41204.mono (by decide))
  have h41209 := Xy41204.at h41201
  refine g_iconst (v := 0) C dX12_cutAll_13 (by decide) ?_
  refine g_istore_n (lv' := [(1, .int 0), (0, .ref a0)]) C dX12_cutAll_14 rfl (by decide) rfl ?_
  refine g_iconst (v := 0) C dX12_cutAll_15 (by decide) ?_
  refine g_istore_n (lv' := [(2, .int 0), (1, .int 0), (0, .ref a0)]) C dX12_cutAll_16 rfl (by decide) rfl ?_
  refine g_lv (lv' := [(0, .ref a0), (1, .int 0), (2, .int 0)]) [2, 1, 0] rfl ?_
  exact J17 _ Y41202 0 0 (Nat.lt_succ_self _) Iy41203 Xz41208 W41207 (by decide) (by decide) (by omega) (by show 0 ≤ 0; omega)
theorem dX12_degree_0 : decode cX12_degree 0 = .ok (.aload_n 0, 1) := by decide +kernel
theorem dX12_degree_1 : decode cX12_degree 1 = .ok (.iconst 0, 1) := by decide +kernel
theorem dX12_degree_2 : decode cX12_degree 2 = .ok (.putfield 1, 3) := by decide +kernel
theorem dX12_degree_5 : decode cX12_degree 5 = .ok (.aload_n 0, 1) := by decide +kernel
theorem dX12_degree_6 : decode cX12_degree 6 = .ok (.iload_n 1, 1) := by decide +kernel
theorem dX12_degree_7 : decode cX12_degree 7 = .ok (.iload_n 2, 1) := by decide +kernel
theorem dX12_degree_8 : decode cX12_degree 8 = .ok (.iload 4, 2) := by decide +kernel
theorem dX12_degree_10 : decode cX12_degree 10 = .ok (.invokevirtual 377, 3) := by decide +kernel
theorem dX12_degree_13 : decode cX12_degree 13 = .ok (.ifCond .eq 12, 3) := by decide +kernel
theorem dX12_degree_16 : decode cX12_degree 16 = .ok (.iload_n 3, 1) := by decide +kernel
theorem dX12_degree_17 : decode cX12_degree 17 = .ok (.iconst 0, 1) := by decide +kernel
theorem dX12_degree_18 : decode cX12_degree 18 = .ok (.iload_n 2, 1) := by decide +kernel
theorem dX12_degree_19 : decode cX12_degree 19 = .ok (.invokestatic 178, 3) := by decide +kernel
theorem dX12_degree_22 : decode cX12_degree 22 = .ok (.ifCond .ne 5, 3) := by decide +kernel
theorem dX12_degree_25 : decode cX12_degree 25 = .ok (.iconst (-1), 1) := by decide +kernel
theorem dX12_degree_26 : decode cX12_degree 26 = .ok (.ireturn, 1) := by decide +kernel
theorem dX12_degree_27 : decode cX12_degree 27 = .ok (.iconst 0, 1) := by decide +kernel
theorem dX12_degree_28 : decode cX12_degree 28 = .ok (.istore 5, 2) := by decide +kernel
theorem dX12_degree_30 : decode cX12_degree 30 = .ok (.iload 5, 2) := by decide +kernel
theorem dX12_degree_32 : decode cX12_degree 32 = .ok (.bipush 21, 2) := by decide +kernel
theorem dX12_degree_34 : decode cX12_degree 34 = .ok (.if_icmp .ge 41, 3) := by decide +kernel
theorem dX12_degree_37 : decode cX12_degree 37 = .ok (.aload_n 0, 1) := by decide +kernel
theorem dX12_degree_38 : decode cX12_degree 38 = .ok (.getfield 124, 3) := by decide +kernel
theorem dX12_degree_41 : decode cX12_degree 41 = .ok (.iload 5, 2) := by decide +kernel
theorem dX12_degree_43 : decode cX12_degree 43 = .ok (.aload_n 0, 1) := by decide +kernel
theorem dX12_degree_44 : decode cX12_degree 44 = .ok (.getfield 51, 3) := by decide +kernel
theorem dX12_degree_47 : decode cX12_degree 47 = .ok (.bipush 21, 2) := by decide +kernel
theorem dX12_degree_49 : decode cX12_degree 49 = .ok (.iload_n 1, 1) := by decide +kernel
theorem dX12_degree_50 : decode cX12_degree 50 = .ok (.imul, 1) := by decide +kernel
theorem dX12_degree_51 : decode cX12_degree 51 = .ok (.iload 5, 2) := by decide +kernel
theorem dX12_degree_53 : decode cX12_degree 53 = .ok (.iadd, 1) := by decide +kernel
theorem dX12_degree_54 : decode cX12_degree 54 = .ok (.iaload, 1) := by decide +kernel
theorem dX12_degree_55 : decode cX12_degree 55 = .ok (.iastore, 1) := by decide +kernel
theorem dX12_degree_56 : decode cX12_degree 56 = .ok (.aload_n 0, 1) := by decide +kernel
theorem dX12_degree_57 : decode cX12_degree 57 = .ok (.getfield 51, 3) := by decide +kernel
theorem dX12_degree_60 : decode cX12_degree 60 = .ok (.bipush 21, 2) := by decide +kernel
theorem dX12_degree_62 : decode cX12_degree 62 = .ok (.iload_n 1, 1) := by decide +kernel
theorem dX12_degree_63 : decode cX12_degree 63 = .ok (.imul, 1) := by decide +kernel
theorem dX12_degree_64 : decode cX12_degree 64 = .ok (.iload 5, 2) := by decide +kernel
theorem dX12_degree_66 : decode cX12_degree 66 = .ok (.iadd, 1) := by decide +kernel
theorem dX12_degree_67 : decode cX12_degree 67 = .ok (.iconst (-1), 1) := by decide +kernel
theorem dX12_degree_68 : decode cX12_degree 68 = .ok (.iastore, 1) := by decide +kernel
theorem dX12_degree_69 : decode cX12_degree 69 = .ok (.iinc 5 1, 3) := by decide +kernel
theorem dX12_degree_72 : decode cX12_degree 72 = .ok (.goto (-42), 3) := by decide +kernel
theorem dX12_degree_75 : decode cX12_degree 75 = .ok (.iconst (-1), 1) := by decide +kernel
theorem dX12_degree_76 : decode cX12_degree 76 = .ok (.istore 5, 2) := by decide +kernel
theorem dX12_degree_78 : decode cX12_degree 78 = .ok (.iconst (-1), 1) := by decide +kernel
theorem dX12_degree_79 : decode cX12_degree 79 = .ok (.istore 6, 2) := by decide +kernel
theorem dX12_degree_81 : decode cX12_degree 81 = .ok (.iconst 1, 1) := by decide +kernel
theorem dX12_degree_82 : decode cX12_degree 82 = .ok (.istore 7, 2) := by decide +kernel
theorem dX12_degree_84 : decode cX12_degree 84 = .ok (.iload 7, 2) := by decide +kernel
theorem dX12_degree_86 : decode cX12_degree 86 = .ok (.aload_n 0, 1) := by decide +kernel
theorem dX12_degree_87 : decode cX12_degree 87 = .ok (.iload_n 1, 1) := by decide +kernel
theorem dX12_degree_88 : decode cX12_degree 88 = .ok (.invokevirtual 238, 3) := by decide +kernel
theorem dX12_degree_91 : decode cX12_degree 91 = .ok (.if_icmp .gt 67, 3) := by decide +kernel
theorem dX12_degree_94 : decode cX12_degree 94 = .ok (.aload_n 0, 1) := by decide +kernel
theorem dX12_degree_95 : decode cX12_degree 95 = .ok (.getfield 51, 3) := by decide +kernel
theorem dX12_degree_98 : decode cX12_degree 98 = .ok (.bipush 21, 2) := by decide +kernel
theorem dX12_degree_100 : decode cX12_degree 100 = .ok (.iload_n 1, 1) := by decide +kernel
theorem dX12_degree_101 : decode cX12_degree 101 = .ok (.imul, 1) := by decide +kernel
theorem dX12_degree_102 : decode cX12_degree 102 = .ok (.iload 7, 2) := by decide +kernel
theorem dX12_degree_104 : decode cX12_degree 104 = .ok (.iadd, 1) := by decide +kernel
theorem dX12_degree_105 : decode cX12_degree 105 = .ok (.iconst 1, 1) := by decide +kernel
theorem dX12_degree_106 : decode cX12_degree 106 = .ok (.iastore, 1) := by decide +kernel
theorem dX12_degree_107 : decode cX12_degree 107 = .ok (.aload_n 0, 1) := by decide +kernel
theorem dX12_degree_108 : decode cX12_degree 108 = .ok (.iload_n 1, 1) := by decide +kernel
theorem dX12_degree_109 : decode cX12_degree 109 = .ok (.iload_n 2, 1) := by decide +kernel
theorem dX12_degree_110 : decode cX12_degree 110 = .ok (.invokevirtual 380, 3) := by decide +kernel
theorem dX12_degree_113 : decode cX12_degree 113 = .ok (.aload_n 0, 1) := by decide +kernel
theorem dX12_degree_114 : decode cX12_degree 114 = .ok (.iload_n 1, 1) := by decide +kernel
theorem dX12_degree_115 : decode cX12_degree 115 = .ok (.iload_n 2, 1) := by decide +kernel
theorem dX12_degree_116 : decode cX12_degree 116 = .ok (.iload_n 3, 1) := by decide +kernel
theorem dX12_degree_117 : decode cX12_degree 117 = .ok (.iload 4, 2) := by decide +kernel
theorem dX12_degree_119 : decode cX12_degree 119 = .ok (.invokevirtual 383, 3) := by decide +kernel
theorem dX12_degree_122 : decode cX12_degree 122 = .ok (.istore 8, 2) := by decide +kernel
theorem dX12_degree_124 : decode cX12_degree 124 = .ok (.aload_n 0, 1) := by decide +kernel
theorem dX12_degree_125 : decode cX12_degree 125 = .ok (.getfield 51, 3) := by decide +kernel
theorem dX12_degree_128 : decode cX12_degree 128 = .ok (.bipush 21, 2) := by decide +kernel
theorem dX12_degree_130 : decode cX12_degree 130 = .ok (.iload_n 1, 1) := by decide +kernel
theorem dX12_degree_131 : decode cX12_degree 131 = .ok (.imul, 1) := by decide +kernel
theorem dX12_degree_132 : decode cX12_degree 132 = .ok (.iload 7, 2) := by decide +kernel
theorem dX12_degree_134 : decode cX12_degree 134 = .ok (.iadd, 1) := by decide +kernel
theorem dX12_degree_135 : decode cX12_degree 135 = .ok (.iconst (-1), 1) := by decide +kernel
theorem dX12_degree_136 : decode cX12_degree 136 = .ok (.iastore, 1) := by decide +kernel
theorem dX12_degree_137 : decode cX12_degree 137 = .ok (.iload 8, 2) := by decide +kernel
theorem dX12_degree_139 : decode cX12_degree 139 = .ok (.iload 6, 2) := by decide +kernel
theorem dX12_degree_141 : decode cX12_degree 141 = .ok (.if_icmp .le 11, 3) := by decide +kernel
theorem dX12_degree_144 : decode cX12_degree 144 = .ok (.iload 8, 2) := by decide +kernel
theorem dX12_degree_146 : decode cX12_degree 146 = .ok (.istore 6, 2) := by decide +kernel
theorem dX12_degree_148 : decode cX12_degree 148 = .ok (.iload 7, 2) := by decide +kernel
theorem dX12_degree_150 : decode cX12_degree 150 = .ok (.istore 5, 2) := by decide +kernel
theorem dX12_degree_152 : decode cX12_degree 152 = .ok (.iinc 7 1, 3) := by decide +kernel
theorem dX12_degree_155 : decode cX12_degree 155 = .ok (.goto (-71), 3) := by decide +kernel
theorem dX12_degree_158 : decode cX12_degree 158 = .ok (.iconst 0, 1) := by decide +kernel
theorem dX12_degree_159 : decode cX12_degree 159 = .ok (.istore 7, 2) := by decide +kernel
theorem dX12_degree_161 : decode cX12_degree 161 = .ok (.iload 7, 2) := by decide +kernel
theorem dX12_degree_163 : decode cX12_degree 163 = .ok (.bipush 21, 2) := by decide +kernel
theorem dX12_degree_165 : decode cX12_degree 165 = .ok (.if_icmp .ge 28, 3) := by decide +kernel
theorem dX12_degree_168 : decode cX12_degree 168 = .ok (.aload_n 0, 1) := by decide +kernel
theorem dX12_degree_169 : decode cX12_degree 169 = .ok (.getfield 51, 3) := by decide +kernel
theorem dX12_degree_172 : decode cX12_degree 172 = .ok (.bipush 21, 2) := by decide +kernel
theorem dX12_degree_174 : decode cX12_degree 174 = .ok (.iload_n 1, 1) := by decide +kernel
theorem dX12_degree_175 : decode cX12_degree 175 = .ok (.imul, 1) := by decide +kernel
theorem dX12_degree_176 : decode cX12_degree 176 = .ok (.iload 7, 2) := by decide +kernel
theorem dX12_degree_178 : decode cX12_degree 178 = .ok (.iadd, 1) := by decide +kernel
theorem dX12_degree_179 : decode cX12_degree 179 = .ok (.aload_n 0, 1) := by decide +kernel
theorem dX12_degree_180 : decode cX12_degree 180 = .ok (.getfield 124, 3) := by decide +kernel
theorem dX12_degree_183 : decode cX12_degree 183 = .ok (.iload 7, 2) := by decide +kernel
theorem dX12_degree_185 : decode cX12_degree 185 = .ok (.iaload, 1) := by decide +kernel
theorem dX12_degree_186 : decode cX12_degree 186 = .ok (.iastore, 1) := by decide +kernel
theorem dX12_degree_187 : decode cX12_degree 187 = .ok (.iinc 7 1, 3) := by decide +kernel
theorem dX12_degree_190 : decode cX12_degree 190 = .ok (.goto (-29), 3) := by decide +kernel
theorem dX12_degree_193 : decode cX12_degree 193 = .ok (.iload 5, 2) := by decide +kernel
theorem dX12_degree_195 : decode cX12_degree 195 = .ok (.ireturn, 1) := by decide +kernel
set_option maxHeartbeats 4000000 in
set_option maxRecDepth 100000 in
theorem s_X12_degree {P : PP} {a0 : Nat} {a1 : Int32} {a2 : Int32} {a3 : Int32} {a4 : Int32} (I : IM P a0) (hW : MW P a0) : CtrI yX12_degree cX12_degree 9 (some Jvm.ClassFile.FieldType.int) ({ frames := 7, cells := 0, slots := 0, locals := 448 } : Room) 0 0 P [.ref a0, .int a1, .int a2, .int a3, .int a4] (fun r P2 => IM P2 a0 ∧ EM [0, 12, 28, 29, 30, 31, 33, 34, 35, 36, 37, 38, 43, 44] a0 P P2 ∧ MW P2 a0 ∧ (-1 ≤ r.toInt ∧ r.toInt ≤ 20)) := by
  refine enI (lv := [(0, .ref a0), (1, .int a1), (2, .int a2), (3, .int a3), (4, .int a4)]) (by decide) (Nat.le_of_ble_eq_true rfl) rfl (fun E D cy C Ci0 ret => ?_)
  have ha0 := I.2.1
  have J161 : ∀ (n161 : Nat) (P161 : PP) (v161_5 : Int32) (v161_7 : Int32), (21 - v161_7.toInt).toNat < n161 → (IM P161 a0) → (EM [0, 12, 28, 29, 30, 31, 33, 34, 35, 36, 37, 38, 43, 44] a0 P P161) → (MW P161 a0) → (0 ≤ a1.toInt ∧ a1.toInt ≤ 1) → (-1 ≤ v161_5.toInt ∧ v161_5.toInt ≤ 20) → (0 ≤ v161_7.toInt ∧ v161_7.toInt ≤ 21) → (0 ≤ (pI P161 a0 0).toInt ∧ (pI P161 a0 0).toInt ≤ 0) → (∀ b, pR P161 a0 10 = some b → 1 ≤ (pI P161 b (a1.toInt.toNat)).toInt ∧ (pI P161 b (a1.toInt.toNat)).toInt ≤ 16) → G E ({ frames := 7, cells := 0, slots := 0, locals := 448 } : Room) D cy 9 P161 0 0 161 [(0, .ref a0), (1, .int a1), (5, .int v161_5), (7, .int v161_7)] [] := by
    intro n161
    induction n161 with
    | zero => intro P161 v161_5 v161_7 hm161 I161 X161 W161 hv161_1 hv161_5 hv161_7 hq161_0 hq161_1; omega
    | succ n161 ih161 =>
      intro P161 v161_5 v161_7 hm161 I161 X161 W161 hv161_1 hv161_5 hv161_7 hq161_0 hq161_1
      have h43881 := X161.at ha0
      obtain ⟨b43882, e43883, h43884⟩ := I161.fld (h43881) 10 13 2 rfl
      have hq161_1 := hq161_1 b43882 e43883
      refine g_iload C dX12_degree_161 3 rfl ?_
      refine g_bipush (v := 21) C dX12_degree_163 (by decide) ?_
      refine b_icmp_ge C 193 dX12_degree_165 (by decide) (fun h43885 => ?_) (fun h43885 => ?_)
      · have h43885 : 21 ≤ v161_7.toInt := h43885
        refine g_iload C dX12_degree_193 2 rfl ?_
        exact ret _ _ _ _ _ _ dX12_degree_195 rfl (by decide) (by decide) ⟨I161, X161, W161, (by omega)⟩
      · have h43885 : v161_7.toInt < 21 := h43885
        refine g_aload_n C dX12_degree_168 rfl 0 rfl ?_
        obtain ⟨b43886, e43887, h43888⟩ := I161.fld (h43881) 12 13 63 rfl
        refine g_getR C fi_X12_51 rfl e43887 (h43881).1 (h43881).2 dX12_degree_169 ?_
        refine g_bipush (v := 21) C dX12_degree_172 (by decide) ?_
        refine g_iload_n C dX12_degree_174 rfl 1 rfl ?_
        refine s_imul C dX12_degree_175 (by show -2147483648 ≤ 21 * a1.toInt ∧ 21 * a1.toInt ≤ 2147483647; omega) (fun z43889 h43890 => ?_)
        have h43890 : z43889.toInt = 21 * a1.toInt := h43890
        refine g_iload C dX12_degree_176 3 rfl ?_
        refine s_iadd C dX12_degree_178 (by show -2147483648 ≤ z43889.toInt + v161_7.toInt ∧ z43889.toInt + v161_7.toInt ≤ 2147483647; omega) (fun z43891 h43892 => ?_)
        have h43892 : z43891.toInt = z43889.toInt + v161_7.toInt := h43892
        refine g_aload_n C dX12_degree_179 rfl 0 rfl ?_
        obtain ⟨b43893, e43894, h43895⟩ := I161.fld (h43881) 44 13 21 rfl
        refine g_getR C fi_X12_124 rfl e43894 (h43881).1 (h43881).2 dX12_degree_180 ?_
        refine g_iload C dX12_degree_183 3 rfl ?_
        refine g_iald (j := (v161_7.toInt.toNat)) C h43895.1 h43895.2.1 (ix_in h43895.2.2 (by omega)) dX12_degree_185 ?_
        refine g_iast (j := (z43891.toInt.toNat)) C h43888.1 h43888.2.1 (ix_in h43888.2.2 (by omega)) dX12_degree_186 ?_
        refine gqW (ks := [12]) (I161.setA e43887 h43888 (by decide) (arOk.none rfl)) (EM.setA I161 e43887 rfl (by decide)) (fun Y43896 Iy43897 Xy43898 w43899 => ?_)
        have w43899 : (pI Y43896 b43886 (z43891.toInt.toNat)).toInt = (pI P161 b43893 (v161_7.toInt.toNat)).toInt := w43899
        have q43900 := Xy43898.keepF 0 (by decide)
        have q43901 := Xy43898.keepA e43883 (by decide) rfl (a1.toInt.toNat)
        have W43902 := W161.keep I161 Xy43898 (by decide) (by decide) (by decide)
        have Xz43903 : EM [0, 12, 28, 29, 30, 31, 33, 34, 35, 36, 37, 38, 43, 44] a0 P Y43896 := EM.tr ha0 X161 (Xy43898.mono (by decide))
        have e43904 := Xy43898.ref h43881 (by decide) e43883
        have e43905 := Xy43898.ref h43881 (by decide) e43887
        have h43906 := Xy43898.at h43881
        have h43907 := Xy43898.ar h43884
        have h43908 := Xy43898.ar h43888
        refine s_iinc (lv0 := [(0, .ref a0), (1, .int a1), (5, .int v161_5)]) (m := 1) C dX12_degree_187 3 rfl (by decide) rfl (by decide) (by omega) (fun z43909 h43910 => ?_)
        have h43910 : z43909.toInt = v161_7.toInt + 1 := h43910
        refine g_goto C 161 dX12_degree_190 (by decide) ?_
        refine g_lv (lv' := [(0, .ref a0), (1, .int a1), (5, .int v161_5), (7, .int z43909)]) [1, 2, 3, 0] rfl ?_
        exact ih161 Y43896 v161_5 z43909 (by omega) Iy43897 Xz43903 W43902 (by omega) (by omega) (by omega) (by omega) (fun b9 e9 => by rw [e43904] at e9; cases e9; omega)
  have J84 : ∀ (n84 : Nat) (P84 : PP) (v84_5 : Int32) (v84_6 : Int32) (v84_7 : Int32), (21 - v84_7.toInt).toNat < n84 → (IM P84 a0) → (EM [0, 12, 28, 29, 30, 31, 33, 34, 35, 36, 37, 38, 43, 44] a0 P P84) → (MW P84 a0) → (0 ≤ a1.toInt ∧ a1.toInt ≤ 1) → (1 ≤ a2.toInt ∧ a2.toInt ≤ 11) → (0 ≤ a3.toInt ∧ a3.toInt ≤ 11) → (0 ≤ a4.toInt ∧ a4.toInt ≤ 1) → (-1 ≤ v84_5.toInt ∧ v84_5.toInt ≤ 20) → (-1 ≤ v84_6.toInt) → (1 ≤ v84_7.toInt ∧ v84_7.toInt ≤ 21) → (0 ≤ (pI P84 a0 0).toInt ∧ (pI P84 a0 0).toInt ≤ 0) → (∀ b, pR P84 a0 10 = some b → 1 ≤ (pI P84 b (a1.toInt.toNat)).toInt ∧ (pI P84 b (a1.toInt.toNat)).toInt ≤ 16) → G E ({ frames := 7, cells := 0, slots := 0, locals := 448 } : Room) D cy 9 P84 0 0 84 [(0, .ref a0), (1, .int a1), (2, .int a2), (3, .int a3), (4, .int a4), (5, .int v84_5), (6, .int v84_6), (7, .int v84_7)] [] := by
    intro n84
    induction n84 with
    | zero => intro P84 v84_5 v84_6 v84_7 hm84 I84 X84 W84 hv84_1 hv84_2 hv84_3 hv84_4 hv84_5 hv84_6 hv84_7 hq84_0 hq84_1; omega
    | succ n84 ih84 =>
      intro P84 v84_5 v84_6 v84_7 hm84 I84 X84 W84 hv84_1 hv84_2 hv84_3 hv84_4 hv84_5 hv84_6 hv84_7 hq84_0 hq84_1
      have h43911 := X84.at ha0
      obtain ⟨b43912, e43913, h43914⟩ := I84.fld (h43911) 10 13 2 rfl
      have hq84_1 := hq84_1 b43912 e43913
      have J152 : ∀ (P152 : PP) (v152_5 : Int32) (v152_6 : Int32), (IM P152 a0) → (EM [0, 12, 28, 29, 30, 31, 33, 34, 35, 36, 37, 38, 43, 44] a0 P P152) → (MW P152 a0) → (0 ≤ a1.toInt ∧ a1.toInt ≤ 1) → (1 ≤ a2.toInt ∧ a2.toInt ≤ 11) → (0 ≤ a3.toInt ∧ a3.toInt ≤ 11) → (0 ≤ a4.toInt ∧ a4.toInt ≤ 1) → (-1 ≤ v152_5.toInt ∧ v152_5.toInt ≤ 20) → (-1 ≤ v152_6.toInt) → (1 ≤ v84_7.toInt ∧ v84_7.toInt ≤ 20) → (0 ≤ (pI P152 a0 0).toInt ∧ (pI P152 a0 0).toInt ≤ 0) → (∀ b, pR P152 a0 10 = some b → 1 ≤ (pI P152 b (a1.toInt.toNat)).toInt ∧ (pI P152 b (a1.toInt.toNat)).toInt ≤ 16) → G E ({ frames := 7, cells := 0, slots := 0, locals := 448 } : Room) D cy 9 P152 0 0 152 [(0, .ref a0), (1, .int a1), (2, .int a2), (3, .int a3), (4, .int a4), (5, .int v152_5), (6, .int v152_6), (7, .int v84_7)] [] := by
        intro P152 v152_5 v152_6 I152 X152 W152 hv152_1 hv152_2 hv152_3 hv152_4 hv152_5 hv152_6 hv152_7 hq152_0 hq152_1
        have h43915 := X152.at ha0
        obtain ⟨b43916, e43917, h43918⟩ := I152.fld (h43915) 10 13 2 rfl
        have hq152_1 := hq152_1 b43916 e43917
        refine s_iinc (lv0 := [(0, .ref a0), (1, .int a1), (2, .int a2), (3, .int a3), (4, .int a4), (5, .int v152_5), (6, .int v152_6)]) (m := 1) C dX12_degree_152 7 rfl (by decide) rfl (by decide) (by omega) (fun z43919 h43920 => ?_)
        have h43920 : z43919.toInt = v84_7.toInt + 1 := h43920
        refine g_goto C 84 dX12_degree_155 (by decide) ?_
        refine g_lv (lv' := [(0, .ref a0), (1, .int a1), (2, .int a2), (3, .int a3), (4, .int a4), (5, .int v152_5), (6, .int v152_6), (7, .int z43919)]) [1, 2, 3, 4, 5, 6, 7, 0] rfl ?_
        exact ih84 P152 v152_5 v152_6 z43919 (by omega) I152 X152 W152 (by omega) (by omega) (by omega) (by omega) (by omega) (by omega) (by omega) (by omega) (fun b9 e9 => by rw [e43917] at e9; cases e9; omega)
      refine g_iload C dX12_degree_84 7 rfl ?_
      refine g_aload_n C dX12_degree_86 rfl 0 rfl ?_
      refine g_iload_n C dX12_degree_87 rfl 1 rfl ?_
      refine g_callVI (rest := [.int v84_7]) C mv_X12_238 [.int a1] (s_X12_allOf I84 (by omega) W84) (h43911).1 (h43911).2 rfl rfl (by decide) (Nat.le_of_ble_eq_true rfl) (by decide) dX12_degree_88 (fun r43921 Y43922 h43923 => ?_)
      obtain ⟨rfl, h43923⟩ := h43923
      obtain ⟨h43923, hi43924⟩ := h43923
      obtain ⟨b43925, e43926, h43927⟩ := I84.fld (h43911) 15 13 3 rfl
      have hi43924 : r43921.toInt = 0 ∨ r43921.toInt = (pI P84 b43912 (a1.toInt.toNat)).toInt + (pI P84 b43925 (a1.toInt.toNat)).toInt := hi43924.imp id (fun z9 => z9 b43912 b43925 e43913 e43926)
      have h43928 := I84.arr e43926 rfl (a1.toInt.toNat)
      have h43923 : 0 ≤ r43921.toInt ∧ r43921.toInt ≤ 20 := h43923
      refine b_icmp_gt C 158 dX12_degree_91 (by decide) (fun h43929 => ?_) (fun h43929 => ?_)
      · have h43929 : r43921.toInt < v84_7.toInt := h43929
        refine g_iconst (v := 0) C dX12_degree_158 (by decide) ?_
        refine g_istore (lv' := [(7, .int 0), (0, .ref a0), (1, .int a1), (2, .int a2), (3, .int a3), (4, .int a4), (5, .int v84_5), (6, .int v84_6)]) C dX12_degree_159 (by decide) rfl ?_
        refine g_lv (lv' := [(0, .ref a0), (1, .int a1), (5, .int v84_5), (7, .int 0)]) [1, 2, 6, 0] rfl ?_
        exact J161 _ P84 v84_5 0 (Nat.lt_succ_self _) I84 X84 W84 (by omega) (by omega) (by decide) (by omega) (fun b9 e9 => by rw [e43913] at e9; cases e9; omega)
      · have h43929 : v84_7.toInt ≤ r43921.toInt := h43929
        refine g_aload_n C dX12_degree_94 rfl 0 rfl ?_
        obtain ⟨b43930, e43931, h43932⟩ := I84.fld (h43911) 12 13 63 rfl
        refine g_getR C fi_X12_51 rfl e43931 (h43911).1 (h43911).2 dX12_degree_95 ?_
        refine g_bipush (v := 21) C dX12_degree_98 (by decide) ?_
        refine g_iload_n C dX12_degree_100 rfl 1 rfl ?_
        refine s_imul C dX12_degree_101 (by show -2147483648 ≤ 21 * a1.toInt ∧ 21 * a1.toInt ≤ 2147483647; omega) (fun z43933 h43934 => ?_)
        have h43934 : z43933.toInt = 21 * a1.toInt := h43934
        refine g_iload C dX12_degree_102 7 rfl ?_
        refine s_iadd C dX12_degree_104 (by show -2147483648 ≤ z43933.toInt + v84_7.toInt ∧ z43933.toInt + v84_7.toInt ≤ 2147483647; omega) (fun z43935 h43936 => ?_)
        have h43936 : z43935.toInt = z43933.toInt + v84_7.toInt := h43936
        refine g_iconst (v := 1) C dX12_degree_105 (by decide) ?_
        refine g_iast (j := (z43935.toInt.toNat)) C h43932.1 h43932.2.1 (ix_in h43932.2.2 (by omega)) dX12_degree_106 ?_
        refine gqW (ks := [12]) (I84.setA e43931 h43932 (by decide) (arOk.none rfl)) (EM.setA I84 e43931 rfl (by decide)) (fun Y43937 Iy43938 Xy43939 w43940 => ?_)
        have w43940 : (pI Y43937 b43930 (z43935.toInt.toNat)).toInt = 1 := w43940
        have q43941 := Xy43939.keepF 0 (by decide)
        have q43942 := Xy43939.keepA e43913 (by decide) rfl (a1.toInt.toNat)
        have q43943 := Xy43939.keepA e43926 (by decide) rfl (a1.toInt.toNat)
        have W43944 := W84.keep I84 Xy43939 (by decide) (by decide) (by decide)
        have Xz43945 : EM [0, 12, 28, 29, 30, 31, 33, 34, 35, 36, 37, 38, 43, 44] a0 P Y43937 := EM.tr ha0 X84 (Xy43939.mono (by decide))
        have e43946 := Xy43939.ref h43911 (by decide) e43913
        have e43947 := Xy43939.ref h43911 (by decide) e43926
        have e43948 := Xy43939.ref h43911 (by decide) e43931
        have h43949 := Xy43939.at h43911
        have h43950 := Xy43939.ar h43914
        have h43951 := Xy43939.ar h43927
        have h43952 := Xy43939.ar h43932
        refine g_aload_n C dX12_degree_107 rfl 0 rfl ?_
        refine g_iload_n C dX12_degree_108 rfl 1 rfl ?_
        refine g_iload_n C dX12_degree_109 rfl 2 rfl ?_
        refine g_callVV (rest := []) C mv_X12_380 [.int a1, .int a2] (s_X12_keepsSets Iy43938 (by omega) (by omega) (fun b9 e9 => by rw [e43946] at e9; cases e9; show 1 ≤ (pI Y43937 b43912 (a1.toInt.toNat)).toInt ∧ (pI Y43937 b43912 (a1.toInt.toNat)).toInt ≤ 16; omega) W43944) (h43949).1 (h43949).2 rfl rfl (by decide) (Nat.le_of_ble_eq_true rfl) (by decide) dX12_degree_110 (fun Y43954 h43955 => ?_)
        obtain ⟨Iy43956, Xy43957, W43958⟩ := h43955
        have q43959 := Xy43957.keepF 0 (by decide)
        have q43960 := Xy43957.keepA e43946 (by decide) rfl (a1.toInt.toNat)
        have q43961 := Xy43957.keepA e43947 (by decide) rfl (a1.toInt.toNat)
        have q43962 := Xy43957.keepA e43948 (by decide) rfl (z43935.toInt.toNat)
        have Xz43963 : EM [0, 12, 28, 29, 30, 31, 33, 34, 35, 36, 37, 38, 43, 44] a0 P Y43954 := EM.tr ha0 Xz43945 (Xy43957.mono (by decide))
        have e43964 := Xy43957.ref h43949 (by decide) e43946
        have e43965 := Xy43957.ref h43949 (by decide) e43947
        have e43966 := Xy43957.ref h43949 (by decide) e43948
        have h43967 := Xy43957.at h43949
        have h43968 := Xy43957.ar h43950
        have h43969 := Xy43957.ar h43951
        have h43970 := Xy43957.ar h43952
        refine g_aload_n C dX12_degree_113 rfl 0 rfl ?_
        refine g_iload_n C dX12_degree_114 rfl 1 rfl ?_
        refine g_iload_n C dX12_degree_115 rfl 2 rfl ?_
        refine g_iload_n C dX12_degree_116 rfl 3 rfl ?_
        refine g_iload C dX12_degree_117 4 rfl ?_
        refine g_callVI (rest := []) C mv_X12_383 [.int a1, .int a2, .int a3, .int a4] (s_X12_chancesOf Iy43956 (by omega) (by omega) (fun b9 e9 => by rw [e43964] at e9; cases e9; show 1 ≤ (pI Y43954 b43912 (a1.toInt.toNat)).toInt ∧ (pI Y43954 b43912 (a1.toInt.toNat)).toInt ≤ 16; omega) W43958) (h43967).1 (h43967).2 rfl rfl (by decide) (Nat.le_of_ble_eq_true rfl) (by decide) dX12_degree_119 (fun r43971 Y43972 h43973 => ?_)
        obtain ⟨Iy43974, Xy43975, W43976, h43973⟩ := h43973
        have q43977 := Xy43975.keepF 0 (by decide)
        have q43978 := Xy43975.keepA e43964 (by decide) rfl (a1.toInt.toNat)
        have q43979 := Xy43975.keepA e43965 (by decide) rfl (a1.toInt.toNat)
        have q43980 := Xy43975.keepA e43966 (by decide) rfl (z43935.toInt.toNat)
        have Xz43981 : EM [0, 12, 28, 29, 30, 31, 33, 34, 35, 36, 37, 38, 43, 44] a0 P Y43972 := EM.tr ha0 Xz43963 (Xy43975.mono (by decide))
        have e43982 := Xy43975.ref h43967 (by decide) e43964
        have e43983 := Xy43975.ref h43967 (by decide) e43965
        have e43984 := Xy43975.ref h43967 (by decide) e43966
        have h43985 := Xy43975.at h43967
        have h43986 := Xy43975.ar h43968
        have h43987 := Xy43975.ar h43969
        have h43988 := Xy43975.ar h43970
        have h43973 : True := h43973
        refine g_istore (lv' := [(8, .int r43971), (0, .ref a0), (1, .int a1), (2, .int a2), (3, .int a3), (4, .int a4), (5, .int v84_5), (6, .int v84_6), (7, .int v84_7)]) C dX12_degree_122 (by decide) rfl ?_
        refine g_aload_n C dX12_degree_124 rfl 1 rfl ?_
        refine g_getR C fi_X12_51 rfl e43984 (h43985).1 (h43985).2 dX12_degree_125 ?_
        refine g_bipush (v := 21) C dX12_degree_128 (by decide) ?_
        refine g_iload_n C dX12_degree_130 rfl 2 rfl ?_
        refine s_imul C dX12_degree_131 (by show -2147483648 ≤ 21 * a1.toInt ∧ 21 * a1.toInt ≤ 2147483647; omega) (fun z43989 h43990 => ?_)
        have h43990 : z43989.toInt = 21 * a1.toInt := h43990
        refine g_iload C dX12_degree_132 8 rfl ?_
        refine s_iadd C dX12_degree_134 (by show -2147483648 ≤ z43989.toInt + v84_7.toInt ∧ z43989.toInt + v84_7.toInt ≤ 2147483647; omega) (fun z43991 h43992 => ?_)
        have h43992 : z43991.toInt = z43989.toInt + v84_7.toInt := h43992
        refine g_iconst (v := (-1)) C dX12_degree_135 (by decide) ?_
        refine g_iast (j := (z43991.toInt.toNat)) C h43988.1 h43988.2.1 (ix_in h43988.2.2 (by omega)) dX12_degree_136 ?_
        refine gqW (ks := [12]) (Iy43974.setA e43984 h43988 (by decide) (arOk.none rfl)) (EM.setA Iy43974 e43984 rfl (by decide)) (fun Y43993 Iy43994 Xy43995 w43996 => ?_)
        have w43996 : (pI Y43993 b43930 (z43991.toInt.toNat)).toInt = (-1) := w43996
        have q43997 := Xy43995.keepF 0 (by decide)
        have q43998 := Xy43995.keepA e43982 (by decide) rfl (a1.toInt.toNat)
        have q43999 := Xy43995.keepA e43983 (by decide) rfl (a1.toInt.toNat)
        have W44000 := W43976.keep Iy43974 Xy43995 (by decide) (by decide) (by decide)
        have Xz44001 : EM [0, 12, 28, 29, 30, 31, 33, 34, 35, 36, 37, 38, 43, 44] a0 P Y43993 := EM.tr ha0 Xz43981 (Xy43995.mono (by decide))
        have e44002 := Xy43995.ref h43985 (by decide) e43982
        have e44003 := Xy43995.ref h43985 (by decide) e43983
        have e44004 := Xy43995.ref h43985 (by decide) e43984
        have h44005 := Xy43995.at h43985
        have h44006 := Xy43995.ar h43986
        have h44007 := Xy43995.ar h43987
        have h44008 := Xy43995.ar h43988
        refine g_iload C dX12_degree_137 0 rfl ?_
        refine g_iload C dX12_degree_139 7 rfl ?_
        have u44010 := ti_rng r43971
        have u44011 := ti_rng v84_6
        refine b_icmp_le C 152 dX12_degree_141 (by decide) (fun h44009 => ?_) (fun h44009 => ?_)
        · have h44009 : r43971.toInt ≤ v84_6.toInt := h44009
          refine g_lv (lv' := [(0, .ref a0), (1, .int a1), (2, .int a2), (3, .int a3), (4, .int a4), (5, .int v84_5), (6, .int v84_6), (7, .int v84_7)]) [1, 2, 3, 4, 5, 6, 7, 8] rfl ?_
          exact J152 Y43993 v84_5 v84_6 Iy43994 Xz44001 W44000 (by omega) (by omega) (by omega) (by omega) (by omega) (by omega) (by omega) (by omega) (fun b9 e9 => by rw [e44002] at e9; cases e9; omega)
        · have h44009 : v84_6.toInt < r43971.toInt := h44009
          refine g_iload C dX12_degree_144 0 rfl ?_
          refine g_istore (lv' := [(6, .int r43971), (8, .int r43971), (0, .ref a0), (1, .int a1), (2, .int a2), (3, .int a3), (4, .int a4), (5, .int v84_5), (7, .int v84_7)]) C dX12_degree_146 (by decide) rfl ?_
          refine g_iload C dX12_degree_148 8 rfl ?_
          refine g_istore (lv' := [(5, .int v84_7), (6, .int r43971), (8, .int r43971), (0, .ref a0), (1, .int a1), (2, .int a2), (3, .int a3), (4, .int a4), (7, .int v84_7)]) C dX12_degree_150 (by decide) rfl ?_
          refine g_lv (lv' := [(0, .ref a0), (1, .int a1), (2, .int a2), (3, .int a3), (4, .int a4), (5, .int v84_7), (6, .int r43971), (7, .int v84_7)]) [3, 4, 5, 6, 7, 0, 1, 8] rfl ?_
          exact J152 Y43993 v84_7 r43971 Iy43994 Xz44001 W44000 (by omega) (by omega) (by omega) (by omega) (by omega) (by omega) (by omega) (by omega) (fun b9 e9 => by rw [e44002] at e9; cases e9; omega)
  have J30 : ∀ (n30 : Nat) (P30 : PP) (v30_5 : Int32), (21 - v30_5.toInt).toNat < n30 → (IM P30 a0) → (EM [0, 12, 28, 29, 30, 31, 33, 34, 35, 36, 37, 38, 43, 44] a0 P P30) → (MW P30 a0) → (0 ≤ a1.toInt ∧ a1.toInt ≤ 1) → (1 ≤ a2.toInt ∧ a2.toInt ≤ 11) → (0 ≤ a3.toInt ∧ a3.toInt ≤ 11) → (0 ≤ a4.toInt ∧ a4.toInt ≤ 1) → (0 ≤ v30_5.toInt ∧ v30_5.toInt ≤ 21) → (0 ≤ (pI P30 a0 0).toInt ∧ (pI P30 a0 0).toInt ≤ 0) → (∀ b, pR P30 a0 10 = some b → 1 ≤ (pI P30 b (a1.toInt.toNat)).toInt ∧ (pI P30 b (a1.toInt.toNat)).toInt ≤ 16) → G E ({ frames := 7, cells := 0, slots := 0, locals := 448 } : Room) D cy 9 P30 0 0 30 [(0, .ref a0), (1, .int a1), (2, .int a2), (3, .int a3), (4, .int a4), (5, .int v30_5)] [] := by
    intro n30
    induction n30 with
    | zero => intro P30 v30_5 hm30 I30 X30 W30 hv30_1 hv30_2 hv30_3 hv30_4 hv30_5 hq30_0 hq30_1; omega
    | succ n30 ih30 =>
      intro P30 v30_5 hm30 I30 X30 W30 hv30_1 hv30_2 hv30_3 hv30_4 hv30_5 hq30_0 hq30_1
      have h44012 := X30.at ha0
      obtain ⟨b44013, e44014, h44015⟩ := I30.fld (h44012) 10 13 2 rfl
      have hq30_1 := hq30_1 b44013 e44014
      refine g_iload C dX12_degree_30 5 rfl ?_
      refine g_bipush (v := 21) C dX12_degree_32 (by decide) ?_
      refine b_icmp_ge C 75 dX12_degree_34 (by decide) (fun h44016 => ?_) (fun h44016 => ?_)
      · have h44016 : 21 ≤ v30_5.toInt := h44016
        refine g_iconst (v := (-1)) C dX12_degree_75 (by decide) ?_
        refine g_istore (lv' := [(5, .int (-1)), (0, .ref a0), (1, .int a1), (2, .int a2), (3, .int a3), (4, .int a4)]) C dX12_degree_76 (by decide) rfl ?_
        refine g_iconst (v := (-1)) C dX12_degree_78 (by decide) ?_
        refine g_istore (lv' := [(6, .int (-1)), (5, .int (-1)), (0, .ref a0), (1, .int a1), (2, .int a2), (3, .int a3), (4, .int a4)]) C dX12_degree_79 (by decide) rfl ?_
        refine g_iconst (v := 1) C dX12_degree_81 (by decide) ?_
        refine g_istore (lv' := [(7, .int 1), (6, .int (-1)), (5, .int (-1)), (0, .ref a0), (1, .int a1), (2, .int a2), (3, .int a3), (4, .int a4)]) C dX12_degree_82 (by decide) rfl ?_
        refine g_lv (lv' := [(0, .ref a0), (1, .int a1), (2, .int a2), (3, .int a3), (4, .int a4), (5, .int (-1)), (6, .int (-1)), (7, .int 1)]) [3, 4, 5, 6, 7, 2, 1, 0] rfl ?_
        exact J84 _ P30 (-1) (-1) 1 (Nat.lt_succ_self _) I30 X30 W30 (by omega) (by omega) (by omega) (by omega) (by decide) (by decide) (by decide) (by omega) (fun b9 e9 => by rw [e44014] at e9; cases e9; omega)
      · have h44016 : v30_5.toInt < 21 := h44016
        refine g_aload_n C dX12_degree_37 rfl 0 rfl ?_
        obtain ⟨b44017, e44018, h44019⟩ := I30.fld (h44012) 44 13 21 rfl
        refine g_getR C fi_X12_124 rfl e44018 (h44012).1 (h44012).2 dX12_degree_38 ?_
        refine g_iload C dX12_degree_41 5 rfl ?_
        refine g_aload_n C dX12_degree_43 rfl 0 rfl ?_
        obtain ⟨b44020, e44021, h44022⟩ := I30.fld (h44012) 12 13 63 rfl
        refine g_getR C fi_X12_51 rfl e44021 (h44012).1 (h44012).2 dX12_degree_44 ?_
        refine g_bipush (v := 21) C dX12_degree_47 (by decide) ?_
        refine g_iload_n C dX12_degree_49 rfl 1 rfl ?_
        refine s_imul C dX12_degree_50 (by show -2147483648 ≤ 21 * a1.toInt ∧ 21 * a1.toInt ≤ 2147483647; omega) (fun z44023 h44024 => ?_)
        have h44024 : z44023.toInt = 21 * a1.toInt := h44024
        refine g_iload C dX12_degree_51 5 rfl ?_
        refine s_iadd C dX12_degree_53 (by show -2147483648 ≤ z44023.toInt + v30_5.toInt ∧ z44023.toInt + v30_5.toInt ≤ 2147483647; omega) (fun z44025 h44026 => ?_)
        have h44026 : z44025.toInt = z44023.toInt + v30_5.toInt := h44026
        refine g_iald (j := (z44025.toInt.toNat)) C h44022.1 h44022.2.1 (ix_in h44022.2.2 (by omega)) dX12_degree_54 ?_
        refine g_iast (j := (v30_5.toInt.toNat)) C h44019.1 h44019.2.1 (ix_in h44019.2.2 (by omega)) dX12_degree_55 ?_
        refine gqW (ks := [44]) (I30.setA e44018 h44019 (by decide) (arOk.none rfl)) (EM.setA I30 e44018 rfl (by decide)) (fun Y44027 Iy44028 Xy44029 w44030 => ?_)
        have w44030 : (pI Y44027 b44017 (v30_5.toInt.toNat)).toInt = (pI P30 b44020 (z44025.toInt.toNat)).toInt := w44030
        have q44031 := Xy44029.keepF 0 (by decide)
        have q44032 := Xy44029.keepA e44014 (by decide) rfl (a1.toInt.toNat)
        have W44033 := W30.keep I30 Xy44029 (by decide) (by decide) (by decide)
        have Xz44034 : EM [0, 12, 28, 29, 30, 31, 33, 34, 35, 36, 37, 38, 43, 44] a0 P Y44027 := EM.tr ha0 X30 (Xy44029.mono (by decide))
        have e44035 := Xy44029.ref h44012 (by decide) e44014
        have e44036 := Xy44029.ref h44012 (by decide) e44018
        have h44037 := Xy44029.at h44012
        have h44038 := Xy44029.ar h44015
        have h44039 := Xy44029.ar h44019
        refine g_aload_n C dX12_degree_56 rfl 0 rfl ?_
        obtain ⟨b44040, e44041, h44042⟩ := Iy44028.fld (h44037) 12 13 63 rfl
        refine g_getR C fi_X12_51 rfl e44041 (h44037).1 (h44037).2 dX12_degree_57 ?_
        refine g_bipush (v := 21) C dX12_degree_60 (by decide) ?_
        refine g_iload_n C dX12_degree_62 rfl 1 rfl ?_
        refine s_imul C dX12_degree_63 (by show -2147483648 ≤ 21 * a1.toInt ∧ 21 * a1.toInt ≤ 2147483647; omega) (fun z44043 h44044 => ?_)
        have h44044 : z44043.toInt = 21 * a1.toInt := h44044
        refine g_iload C dX12_degree_64 5 rfl ?_
        refine s_iadd C dX12_degree_66 (by show -2147483648 ≤ z44043.toInt + v30_5.toInt ∧ z44043.toInt + v30_5.toInt ≤ 2147483647; omega) (fun z44045 h44046 => ?_)
        have h44046 : z44045.toInt = z44043.toInt + v30_5.toInt := h44046
        refine g_iconst (v := (-1)) C dX12_degree_67 (by decide) ?_
        refine g_iast (j := (z44045.toInt.toNat)) C h44042.1 h44042.2.1 (ix_in h44042.2.2 (by omega)) dX12_degree_68 ?_
        refine gqW (ks := [12]) (Iy44028.setA e44041 h44042 (by decide) (arOk.none rfl)) (EM.setA Iy44028 e44041 rfl (by decide)) (fun Y44047 Iy44048 Xy44049 w44050 => ?_)
        have w44050 : (pI Y44047 b44040 (z44045.toInt.toNat)).toInt = (-1) := w44050
        have q44051 := Xy44049.keepF 0 (by decide)
        have q44052 := Xy44049.keepA e44035 (by decide) rfl (a1.toInt.toNat)
        have q44053 := Xy44049.keepA e44036 (by decide) rfl (v30_5.toInt.toNat)
        have W44054 := W44033.keep Iy44028 Xy44049 (by decide) (by decide) (by decide)
        have Xz44055 : EM [0, 12, 28, 29, 30, 31, 33, 34, 35, 36, 37, 38, 43, 44] a0 P Y44047 := EM.tr ha0 Xz44034 (Xy44049.mono (by decide))
        have e44056 := Xy44049.ref h44037 (by decide) e44035
        have e44057 := Xy44049.ref h44037 (by decide) e44036
        have e44058 := Xy44049.ref h44037 (by decide) e44041
        have h44059 := Xy44049.at h44037
        have h44060 := Xy44049.ar h44038
        have h44061 := Xy44049.ar h44039
        have h44062 := Xy44049.ar h44042
        refine s_iinc (lv0 := [(0, .ref a0), (1, .int a1), (2, .int a2), (3, .int a3), (4, .int a4)]) (m := 1) C dX12_degree_69 5 rfl (by decide) rfl (by decide) (by omega) (fun z44063 h44064 => ?_)
        have h44064 : z44063.toInt = v30_5.toInt + 1 := h44064
        refine g_goto C 30 dX12_degree_72 (by decide) ?_
        refine g_lv (lv' := [(0, .ref a0), (1, .int a1), (2, .int a2), (3, .int a3), (4, .int a4), (5, .int z44063)]) [1, 2, 3, 4, 5, 0] rfl ?_
        exact ih30 Y44047 z44063 (by omega) Iy44048 Xz44055 W44054 (by omega) (by omega) (by omega) (by omega) (by omega) (by omega) (fun b9 e9 => by rw [e44056] at e9; cases e9; omega)
  have J25 : ∀ (P25 : PP), (IM P25 a0) → (EM [0, 12, 28, 29, 30, 31, 33, 34, 35, 36, 37, 38, 43, 44] a0 P P25) → (MW P25 a0) → (0 ≤ (pI P25 a0 0).toInt ∧ (pI P25 a0 0).toInt ≤ 0) → G E ({ frames := 7, cells := 0, slots := 0, locals := 448 } : Room) D cy 9 P25 0 0 25 [] [] := by
    intro P25 I25 X25 W25 hq25_0
    have h44065 := X25.at ha0
    refine g_iconst (v := (-1)) C dX12_degree_25 (by decide) ?_
    exact ret _ _ _ _ _ _ dX12_degree_26 rfl (by decide) (by decide) ⟨I25, X25, W25, (by decide)⟩
  refine g_aload_n C dX12_degree_0 rfl 0 rfl ?_
  refine g_iconst (v := 0) C dX12_degree_1 (by decide) ?_
  refine g_putI C fi_X12_1 rfl (ha0).1 (ha0).2 dX12_degree_2 ?_
  refine gqW (ks := [0]) (I.setI (rgOk.of rfl (by decide))) (EM.setI I (by decide)) (fun Y44066 Iy44067 Xy44068 w44069 => ?_)
  have w44069 : (pI Y44066 a0 0).toInt = 0 := w44069
  have W44070 := hW.keep I Xy44068 (by decide) (by decide) (by decide)
  have Xz44071 : EM [0, 12, 28, 29, 30, 31, 33, 34, 35, 36, 37, 38, 43, 44] a0 P Y44066 := Xy44068.mono (by decide)
  have h44072 := Xy44068.at ha0
  refine g_aload_n C dX12_degree_5 rfl 0 rfl ?_
  refine g_iload_n C dX12_degree_6 rfl 1 rfl ?_
  refine g_iload_n C dX12_degree_7 rfl 2 rfl ?_
  refine g_iload C dX12_degree_8 4 rfl ?_
  refine g_callVI (rest := []) C mv_X12_377 [.int a1, .int a2, .int a4] (s_X12_areChances Iy44067 W44070) (h44072).1 (h44072).2 rfl rfl (by decide) (Nat.le_of_ble_eq_true rfl) (by decide) dX12_degree_10 (fun r44073 Y44074 h44075 => ?_)
  obtain ⟨rfl, h44075⟩ := h44075
  obtain ⟨h44075, hi44076, hi44077⟩ := h44075
  have hi44076 : r44073.toInt = 0 ∨ (((0 : Int) ≤ a1.toInt ∧ a1.toInt ≤ (1 : Int)) ∧ ((1 : Int) ≤ a2.toInt ∧ a2.toInt ≤ (11 : Int)) ∧ ((0 : Int) ≤ a4.toInt ∧ a4.toInt ≤ (1 : Int))) := hi44076
  have h44075 : 0 ≤ r44073.toInt ∧ r44073.toInt ≤ 1 := h44075
  refine b_if_eq C 25 dX12_degree_13 (by decide) (fun h44078 => ?_) (fun h44078 => ?_)
  · have h44078 : r44073.toInt = 0 := congrArg Int32.toInt h44078
    clear hi44076
    refine g_lv (lv' := []) [] rfl ?_
    exact J25 Y44066 Iy44067 Xz44071 W44070 (by omega)
  · have h44078 : r44073.toInt ≠ 0 := ti_ne h44078
    replace hi44076 := hi44076.resolve_left (by omega)
    obtain ⟨b44079, e44080, h44081⟩ := Iy44067.fld (h44072) 10 13 2 rfl
    have hi44077 := (hi44077.resolve_left (by omega)) b44079 e44080
    have hi44077 : 0 < (pI Y44066 b44079 (a1.toInt.toNat)).toInt := hi44077
    have h44082 := Iy44067.arr e44080 rfl (a1.toInt.toNat)
    refine g_iload_n C dX12_degree_16 rfl 3 rfl ?_
    refine g_iconst (v := 0) C dX12_degree_17 (by decide) ?_
    refine g_iload_n C dX12_degree_18 rfl 2 rfl ?_
    refine g_callSI (b := 0) (ci := 0) (rest := []) C ms_X12_178 [.int a3, .int 0, .int a2] (s_X12_within Iy44067.1) rfl rfl (by decide) (Nat.le_of_ble_eq_true rfl) (by decide) dX12_degree_19 (fun r44083 Y44084 h44085 => ?_)
    obtain ⟨rfl, h44085⟩ := h44085
    obtain ⟨h44085, hi44086⟩ := h44085
    have hi44086 : r44083.toInt = 0 ∨ (0 ≤ a3.toInt ∧ a3.toInt ≤ a2.toInt) := hi44086
    have h44085 : 0 ≤ r44083.toInt ∧ r44083.toInt ≤ 1 := h44085
    refine b_if_ne C 27 dX12_degree_22 (by decide) (fun h44087 => ?_) (fun h44087 => ?_)
    · have h44087 : r44083.toInt ≠ 0 := ti_ne h44087
      replace hi44086 := hi44086.resolve_left (by omega)
      refine g_iconst (v := 0) C dX12_degree_27 (by decide) ?_
      refine g_istore (lv' := [(5, .int 0), (0, .ref a0), (1, .int a1), (2, .int a2), (3, .int a3), (4, .int a4)]) C dX12_degree_28 (by decide) rfl ?_
      refine g_lv (lv' := [(0, .ref a0), (1, .int a1), (2, .int a2), (3, .int a3), (4, .int a4), (5, .int 0)]) [1, 2, 3, 4, 5, 0] rfl ?_
      exact J30 _ Y44066 0 (Nat.lt_succ_self _) Iy44067 Xz44071 W44070 (by omega) (by omega) (by omega) (by omega) (by decide) (by omega) (fun b9 e9 => by rw [e44080] at e9; cases e9; omega)
    · have h44087 : r44083.toInt = 0 := congrArg Int32.toInt h44087
      clear hi44086
      refine g_lv (lv' := []) [] rfl ?_
      exact J25 Y44066 Iy44067 Xz44071 W44070 (by omega)
theorem dX12_doubles_0 : decode cX12_doubles 0 = .ok (.aload_n 0, 1) := by decide +kernel
theorem dX12_doubles_1 : decode cX12_doubles 1 = .ok (.iconst 0, 1) := by decide +kernel
theorem dX12_doubles_2 : decode cX12_doubles 2 = .ok (.putfield 1, 3) := by decide +kernel
theorem dX12_doubles_5 : decode cX12_doubles 5 = .ok (.aload_n 0, 1) := by decide +kernel
theorem dX12_doubles_6 : decode cX12_doubles 6 = .ok (.iload_n 1, 1) := by decide +kernel
theorem dX12_doubles_7 : decode cX12_doubles 7 = .ok (.iload_n 2, 1) := by decide +kernel
theorem dX12_doubles_8 : decode cX12_doubles 8 = .ok (.iload_n 3, 1) := by decide +kernel
theorem dX12_doubles_9 : decode cX12_doubles 9 = .ok (.invokevirtual 333, 3) := by decide +kernel
theorem dX12_isAsked_0 : decode cX12_isAsked 0 = .ok (.iload_n 1, 1) := by decide +kernel
theorem dX12_isAsked_1 : decode cX12_isAsked 1 = .ok (.invokestatic 278, 3) := by decide +kernel
theorem dX12_isAsked_4 : decode cX12_isAsked 4 = .ok (.ifCond .eq 24, 3) := by decide +kernel
theorem dX12_isAsked_7 : decode cX12_isAsked 7 = .ok (.aload_n 0, 1) := by decide +kernel
theorem dX12_isAsked_8 : decode cX12_isAsked 8 = .ok (.iload_n 2, 1) := by decide +kernel
theorem dX12_isAsked_9 : decode cX12_isAsked 9 = .ok (.invokevirtual 192, 3) := by decide +kernel
theorem dX12_isAsked_12 : decode cX12_isAsked 12 = .ok (.ifCond .eq 16, 3) := by decide +kernel
theorem dX12_isAsked_15 : decode cX12_isAsked 15 = .ok (.iload_n 3, 1) := by decide +kernel
theorem dX12_isAsked_16 : decode cX12_isAsked 16 = .ok (.iconst 0, 1) := by decide +kernel
theorem dX12_isAsked_17 : decode cX12_isAsked 17 = .ok (.iconst 1, 1) := by decide +kernel
theorem dX12_isAsked_18 : decode cX12_isAsked 18 = .ok (.invokestatic 178, 3) := by decide +kernel
theorem dX12_isAsked_21 : decode cX12_isAsked 21 = .ok (.ifCond .eq 7, 3) := by decide +kernel
theorem dX12_isAsked_24 : decode cX12_isAsked 24 = .ok (.iconst 1, 1) := by decide +kernel
theorem dX12_isAsked_25 : decode cX12_isAsked 25 = .ok (.goto 4, 3) := by decide +kernel
theorem dX12_isAsked_28 : decode cX12_isAsked 28 = .ok (.iconst 0, 1) := by decide +kernel
theorem dX12_isAsked_29 : decode cX12_isAsked 29 = .ok (.ireturn, 1) := by decide +kernel
set_option maxHeartbeats 4000000 in
set_option maxRecDepth 100000 in
theorem s_X12_isAsked {P : PP} {a0 : Nat} {a1 : Int32} {a2 : Int32} {a3 : Int32} (I : IM P a0) (hW : MW P a0) : CtrI yX12_isAsked cX12_isAsked 4 (some Jvm.ClassFile.FieldType.boolean) ({ frames := 3, cells := 0, slots := 0, locals := 192 } : Room) 0 0 P [.ref a0, .int a1, .int a2, .int a3] (fun r P2 => P = P2 ∧ (0 ≤ r.toInt ∧ r.toInt ≤ 1) ∧ (r.toInt = 0 ∨ (((0 : Int) ≤ a1.toInt ∧ a1.toInt ≤ (3 : Int)) ∧ ((0 : Int) ≤ a2.toInt ∧ a2.toInt ≤ (1 : Int)) ∧ ((0 : Int) ≤ a3.toInt ∧ a3.toInt ≤ (1 : Int)))) ∧ (r.toInt = 0 ∨ ∀ b, pR P2 a0 10 = some b → 0 < (pI P2 b (a2.toInt.toNat)).toInt)) := by
  refine enI (lv := [(0, .ref a0), (1, .int a1), (2, .int a2), (3, .int a3)]) (by decide) (Nat.le_of_ble_eq_true rfl) rfl (fun E D cy C Ci0 ret => ?_)
  have ha0 := I.2.1
  have J28 : G E ({ frames := 3, cells := 0, slots := 0, locals := 192 } : Room) D cy 4 P 0 0 28 [] [] := by
    refine g_iconst (v := 0) C dX12_isAsked_28 (by decide) ?_
    exact ret _ _ _ _ _ _ dX12_isAsked_29 rfl (by decide) (by decide) ⟨rfl, (by decide), Or.inl rfl, Or.inl rfl⟩
  refine g_iload_n C dX12_isAsked_0 rfl 1 rfl ?_
  refine g_callSI (b := 0) (ci := 0) (rest := []) C ms_X12_278 [.int a1] (s_X12_isQuarter I.1) rfl rfl (by decide) (Nat.le_of_ble_eq_true rfl) (by decide) dX12_isAsked_1 (fun r44115 Y44116 h44117 => ?_)
  obtain ⟨rfl, h44117⟩ := h44117
  obtain ⟨h44117, hi44118⟩ := h44117
  have hi44118 : r44115.toInt = 0 ∨ (((0 : Int) ≤ a1.toInt ∧ a1.toInt ≤ (3 : Int))) := hi44118
  have h44117 : 0 ≤ r44115.toInt ∧ r44115.toInt ≤ 1 := h44117
  refine b_if_eq C 28 dX12_isAsked_4 (by decide) (fun h44119 => ?_) (fun h44119 => ?_)
  · have h44119 : r44115.toInt = 0 := congrArg Int32.toInt h44119
    clear hi44118
    refine g_lv (lv' := []) [] rfl ?_
    exact J28 
  · have h44119 : r44115.toInt ≠ 0 := ti_ne h44119
    replace hi44118 := hi44118.resolve_left (by omega)
    refine g_aload_n C dX12_isAsked_7 rfl 0 rfl ?_
    refine g_iload_n C dX12_isAsked_8 rfl 2 rfl ?_
    refine g_callVI (rest := []) C mv_X12_192 [.int a2] (s_X12_isBook I hW) (ha0).1 (ha0).2 rfl rfl (by decide) (Nat.le_of_ble_eq_true rfl) (by decide) dX12_isAsked_9 (fun r44120 Y44121 h44122 => ?_)
    obtain ⟨rfl, h44122⟩ := h44122
    obtain ⟨h44122, hi44123, hi44124⟩ := h44122
    have hi44123 : r44120.toInt = 0 ∨ (((0 : Int) ≤ a2.toInt ∧ a2.toInt ≤ (1 : Int))) := hi44123
    have h44122 : 0 ≤ r44120.toInt ∧ r44120.toInt ≤ 1 := h44122
    refine b_if_eq C 28 dX12_isAsked_12 (by decide) (fun h44125 => ?_) (fun h44125 => ?_)
    · have h44125 : r44120.toInt = 0 := congrArg Int32.toInt h44125
      clear hi44123
      refine g_lv (lv' := []) [] rfl ?_
      exact J28 
    · have h44125 : r44120.toInt ≠ 0 := ti_ne h44125
      replace hi44123 := hi44123.resolve_left (by omega)
      obtain ⟨b44126, e44127, h44128⟩ := I.fld (ha0) 10 13 2 rfl
      have hi44124 := (hi44124.resolve_left (by omega)) b44126 e44127
      have hi44124 : 0 < (pI P b44126 (a2.toInt.toNat)).toInt := hi44124
      have h44129 := I.arr e44127 rfl (a2.toInt.toNat)
      refine g_iload_n C dX12_isAsked_15 rfl 3 rfl ?_
      refine g_iconst (v := 0) C dX12_isAsked_16 (by decide) ?_
      refine g_iconst (v := 1) C dX12_isAsked_17 (by decide) ?_
      refine g_callSI (b := 0) (ci := 0) (rest := []) C ms_X12_178 [.int a3, .int 0, .int 1] (s_X12_within I.1) rfl rfl (by decide) (Nat.le_of_ble_eq_true rfl) (by decide) dX12_isAsked_18 (fun r44130 Y44131 h44132 => ?_)
      obtain ⟨rfl, h44132⟩ := h44132
      obtain ⟨h44132, hi44133⟩ := h44132
      have hi44133 : r44130.toInt = 0 ∨ (0 ≤ a3.toInt ∧ a3.toInt ≤ 1) := hi44133
      have h44132 : 0 ≤ r44130.toInt ∧ r44130.toInt ≤ 1 := h44132
      refine b_if_eq C 28 dX12_isAsked_21 (by decide) (fun h44134 => ?_) (fun h44134 => ?_)
      · have h44134 : r44130.toInt = 0 := congrArg Int32.toInt h44134
        clear hi44133
        refine g_lv (lv' := []) [] rfl ?_
        exact J28 
      · have h44134 : r44130.toInt ≠ 0 := ti_ne h44134
        replace hi44133 := hi44133.resolve_left (by omega)
        refine g_iconst (v := 1) C dX12_isAsked_24 (by decide) ?_
        refine g_goto C 29 dX12_isAsked_25 (by decide) ?_
        exact ret _ _ _ _ _ _ dX12_isAsked_29 rfl (by decide) (by decide) ⟨rfl, (by decide), Or.inr (by omega), Or.inr (fun b9 e9 => by rw [e44127] at e9; cases e9; show 0 < (pI P b44126 (a2.toInt.toNat)).toInt; omega)⟩
theorem dX12_doubles_12 : decode cX12_doubles 12 = .ok (.ifCond .ne 5, 3) := by decide +kernel
theorem dX12_doubles_17 : decode cX12_doubles 17 = .ok (.aload_n 0, 1) := by decide +kernel
theorem dX12_doubles_18 : decode cX12_doubles 18 = .ok (.invokevirtual 336, 3) := by decide +kernel
theorem dX12_doubles_21 : decode cX12_doubles 21 = .ok (.aload_n 0, 1) := by decide +kernel
theorem dX12_doubles_22 : decode cX12_doubles 22 = .ok (.iload_n 1, 1) := by decide +kernel
theorem dX12_doubles_23 : decode cX12_doubles 23 = .ok (.iload_n 2, 1) := by decide +kernel
theorem dX12_doubles_24 : decode cX12_doubles 24 = .ok (.iload_n 3, 1) := by decide +kernel
theorem dX12_doubles_25 : decode cX12_doubles 25 = .ok (.aload_n 0, 1) := by decide +kernel
theorem dX12_doubles_26 : decode cX12_doubles 26 = .ok (.getfield 69, 3) := by decide +kernel
theorem dX12_doubles_29 : decode cX12_doubles 29 = .ok (.iload_n 1, 1) := by decide +kernel
theorem dX12_doubles_30 : decode cX12_doubles 30 = .ok (.iaload, 1) := by decide +kernel
theorem dX12_doubles_31 : decode cX12_doubles 31 = .ok (.invokevirtual 339, 3) := by decide +kernel
theorem dX12_gathers_0 : decode cX12_gathers 0 = .ok (.aload_n 0, 1) := by decide +kernel
theorem dX12_gathers_1 : decode cX12_gathers 1 = .ok (.iload_n 2, 1) := by decide +kernel
theorem dX12_gathers_2 : decode cX12_gathers 2 = .ok (.invokevirtual 312, 3) := by decide +kernel
theorem dX12_gathers_5 : decode cX12_gathers 5 = .ok (.iconst 0, 1) := by decide +kernel
theorem dX12_gathers_6 : decode cX12_gathers 6 = .ok (.istore 5, 2) := by decide +kernel
theorem dX12_gathers_8 : decode cX12_gathers 8 = .ok (.iload 5, 2) := by decide +kernel
theorem dX12_gathers_10 : decode cX12_gathers 10 = .ok (.iload 4, 2) := by decide +kernel
theorem dX12_gathers_12 : decode cX12_gathers 12 = .ok (.if_icmp .ge 83, 3) := by decide +kernel
theorem dX12_gathers_15 : decode cX12_gathers 15 = .ok (.bipush 40, 2) := by decide +kernel
theorem dX12_gathers_17 : decode cX12_gathers 17 = .ok (.iload_n 1, 1) := by decide +kernel
theorem dX12_gathers_18 : decode cX12_gathers 18 = .ok (.imul, 1) := by decide +kernel
theorem dX12_gathers_19 : decode cX12_gathers 19 = .ok (.iload 5, 2) := by decide +kernel
theorem dX12_gathers_21 : decode cX12_gathers 21 = .ok (.iadd, 1) := by decide +kernel
theorem dX12_gathers_22 : decode cX12_gathers 22 = .ok (.istore 6, 2) := by decide +kernel
theorem dX12_gathers_24 : decode cX12_gathers 24 = .ok (.aload_n 0, 1) := by decide +kernel
theorem dX12_gathers_25 : decode cX12_gathers 25 = .ok (.getfield 75, 3) := by decide +kernel
theorem dX12_gathers_28 : decode cX12_gathers 28 = .ok (.iload 6, 2) := by decide +kernel
theorem dX12_gathers_30 : decode cX12_gathers 30 = .ok (.iaload, 1) := by decide +kernel
theorem dX12_gathers_31 : decode cX12_gathers 31 = .ok (.iload_n 2, 1) := by decide +kernel
theorem dX12_gathers_32 : decode cX12_gathers 32 = .ok (.if_icmp .ne 57, 3) := by decide +kernel
theorem dX12_gathers_35 : decode cX12_gathers 35 = .ok (.aload_n 0, 1) := by decide +kernel
theorem dX12_gathers_36 : decode cX12_gathers 36 = .ok (.getfield 81, 3) := by decide +kernel
theorem dX12_gathers_39 : decode cX12_gathers 39 = .ok (.iload 6, 2) := by decide +kernel
theorem dX12_gathers_41 : decode cX12_gathers 41 = .ok (.iaload, 1) := by decide +kernel
theorem dX12_gathers_42 : decode cX12_gathers 42 = .ok (.iload_n 3, 1) := by decide +kernel
theorem dX12_gathers_43 : decode cX12_gathers 43 = .ok (.ishr, 1) := by decide +kernel
theorem dX12_gathers_44 : decode cX12_gathers 44 = .ok (.iconst 1, 1) := by decide +kernel
theorem dX12_gathers_45 : decode cX12_gathers 45 = .ok (.iand, 1) := by decide +kernel
theorem dX12_gathers_46 : decode cX12_gathers 46 = .ok (.iconst 1, 1) := by decide +kernel
theorem dX12_gathers_47 : decode cX12_gathers 47 = .ok (.if_icmp .ne 42, 3) := by decide +kernel
theorem dX12_gathers_50 : decode cX12_gathers 50 = .ok (.aload_n 0, 1) := by decide +kernel
theorem dX12_gathers_51 : decode cX12_gathers 51 = .ok (.getfield 100, 3) := by decide +kernel
theorem dX12_gathers_54 : decode cX12_gathers 54 = .ok (.iload 5, 2) := by decide +kernel
theorem dX12_gathers_56 : decode cX12_gathers 56 = .ok (.baload, 1) := by decide +kernel
theorem dX12_gathers_57 : decode cX12_gathers 57 = .ok (.ifCond .ne 32, 3) := by decide +kernel
theorem dX12_gathers_60 : decode cX12_gathers 60 = .ok (.aload_n 0, 1) := by decide +kernel
theorem dX12_gathers_61 : decode cX12_gathers 61 = .ok (.aload_n 0, 1) := by decide +kernel
theorem dX12_gathers_62 : decode cX12_gathers 62 = .ok (.iload_n 2, 1) := by decide +kernel
theorem dX12_gathers_63 : decode cX12_gathers 63 = .ok (.aload_n 0, 1) := by decide +kernel
theorem dX12_gathers_64 : decode cX12_gathers 64 = .ok (.getfield 72, 3) := by decide +kernel
theorem dX12_gathers_67 : decode cX12_gathers 67 = .ok (.iload 6, 2) := by decide +kernel
theorem dX12_gathers_69 : decode cX12_gathers 69 = .ok (.iaload, 1) := by decide +kernel
theorem dX12_gathers_70 : decode cX12_gathers 70 = .ok (.invokevirtual 261, 3) := by decide +kernel
theorem dX12_gathers_73 : decode cX12_gathers 73 = .ok (.aload_n 0, 1) := by decide +kernel
theorem dX12_gathers_74 : decode cX12_gathers 74 = .ok (.getfield 78, 3) := by decide +kernel
theorem dX12_gathers_77 : decode cX12_gathers 77 = .ok (.iload 6, 2) := by decide +kernel
theorem dX12_gathers_79 : decode cX12_gathers 79 = .ok (.iaload, 1) := by decide +kernel
theorem dX12_gathers_80 : decode cX12_gathers 80 = .ok (.iload_n 3, 1) := by decide +kernel
theorem dX12_gathers_81 : decode cX12_gathers 81 = .ok (.invokestatic 315, 3) := by decide +kernel
theorem dX12_gathers_84 : decode cX12_gathers 84 = .ok (.iload 5, 2) := by decide +kernel
theorem dX12_gathers_86 : decode cX12_gathers 86 = .ok (.invokevirtual 308, 3) := by decide +kernel
theorem dX12_gathers_89 : decode cX12_gathers 89 = .ok (.iinc 5 1, 3) := by decide +kernel
theorem dX12_gathers_92 : decode cX12_gathers 92 = .ok (.goto (-84), 3) := by decide +kernel
theorem dX12_gathers_95 : decode cX12_gathers 95 = .ok (.return_, 1) := by decide +kernel
set_option maxHeartbeats 4000000 in
set_option maxRecDepth 100000 in
theorem s_X12_gathers {P : PP} {a0 : Nat} {a1 : Int32} {a2 : Int32} {a3 : Int32} {a4 : Int32} (I : IM P a0) (ha1 : 0 ≤ a1.toInt ∧ a1.toInt ≤ 3) (ha2 : 0 ≤ a2.toInt ∧ a2.toInt ≤ 1) (ha4 : 0 ≤ a4.toInt ∧ a4.toInt ≤ 40) (hf0 : ∀ b, pR P a0 10 = some b → 1 ≤ (pI P b (a2.toInt.toNat)).toInt ∧ (pI P b (a2.toInt.toNat)).toInt ≤ 16) (hW : MW P a0) : CtrV yX12_gathers cX12_gathers 7 none ({ frames := 6, cells := 0, slots := 0, locals := 384 } : Room) 0 0 P [.ref a0, .int a1, .int a2, .int a3, .int a4] (fun P2 => IM P2 a0 ∧ EM [28, 29, 30, 31] a0 P P2 ∧ MW P2 a0 ∧ ((pI P2 a0 28).toInt ≤ 4 + a4.toInt)) := by
  refine enV (lv := [(0, .ref a0), (1, .int a1), (2, .int a2), (3, .int a3), (4, .int a4)]) (by decide) (Nat.le_of_ble_eq_true rfl) rfl (fun E D cy C Ci0 ret => ?_)
  have ha0 := I.2.1
  have J8 : ∀ (n8 : Nat) (P8 : PP) (v8_5 : Int32), (40 - v8_5.toInt).toNat < n8 → (IM P8 a0) → (EM [28, 29, 30, 31] a0 P P8) → (MW P8 a0) → (0 ≤ v8_5.toInt ∧ v8_5.toInt ≤ 40) → (∀ b, pR P8 a0 10 = some b → 1 ≤ (pI P8 b (a2.toInt.toNat)).toInt ∧ (pI P8 b (a2.toInt.toNat)).toInt ≤ 16) → ((pI P8 a0 28).toInt ≤ 4 + v8_5.toInt) → (v8_5.toInt ≤ a4.toInt) → G E ({ frames := 6, cells := 0, slots := 0, locals := 384 } : Room) D cy 7 P8 0 0 8 [(0, .ref a0), (1, .int a1), (2, .int a2), (3, .int a3), (4, .int a4), (5, .int v8_5)] [] := by
    intro n8
    induction n8 with
    | zero => intro P8 v8_5 hm8 I8 X8 W8 hv8_5 hq8_0 rel8_0 rel8_1; omega
    | succ n8 ih8 =>
      intro P8 v8_5 hm8 I8 X8 W8 hv8_5 hq8_0 rel8_0 rel8_1
      have h45681 := X8.at ha0
      obtain ⟨b45682, e45683, h45684⟩ := I8.fld (h45681) 10 13 2 rfl
      have hq8_0 := hq8_0 b45682 e45683
      have h45685 := I8.rg h45681 28 rfl
      have J89 : ∀ (P89 : PP), (IM P89 a0) → (EM [28, 29, 30, 31] a0 P P89) → (MW P89 a0) → (1 ≤ a4.toInt ∧ a4.toInt ≤ 40) → (0 ≤ v8_5.toInt ∧ v8_5.toInt ≤ 39) → (∀ b, pR P89 a0 10 = some b → 1 ≤ (pI P89 b (a2.toInt.toNat)).toInt ∧ (pI P89 b (a2.toInt.toNat)).toInt ≤ 16) → ((pI P89 a0 28).toInt ≤ 5 + v8_5.toInt) → (v8_5.toInt < a4.toInt) → G E ({ frames := 6, cells := 0, slots := 0, locals := 384 } : Room) D cy 7 P89 0 0 89 [(0, .ref a0), (1, .int a1), (2, .int a2), (3, .int a3), (4, .int a4), (5, .int v8_5)] [] := by
        intro P89 I89 X89 W89 hv89_4 hv89_5 hq89_0 rel89_0 rel89_1
        have h45686 := X89.at ha0
        obtain ⟨b45687, e45688, h45689⟩ := I89.fld (h45686) 10 13 2 rfl
        have hq89_0 := hq89_0 b45687 e45688
        have h45690 := I89.rg h45686 28 rfl
        refine s_iinc (lv0 := [(0, .ref a0), (1, .int a1), (2, .int a2), (3, .int a3), (4, .int a4)]) (m := 1) C dX12_gathers_89 5 rfl (by decide) rfl (by decide) (by omega) (fun z45691 h45692 => ?_)
        have h45692 : z45691.toInt = v8_5.toInt + 1 := h45692
        refine g_goto C 8 dX12_gathers_92 (by decide) ?_
        refine g_lv (lv' := [(0, .ref a0), (1, .int a1), (2, .int a2), (3, .int a3), (4, .int a4), (5, .int z45691)]) [1, 2, 3, 4, 5, 0] rfl ?_
        exact ih8 P89 z45691 (by omega) I89 X89 W89 (by omega) (fun b9 e9 => by rw [e45688] at e9; cases e9; omega) (by show (pI P89 a0 28).toInt ≤ 4 + z45691.toInt; omega) (by show z45691.toInt ≤ a4.toInt; omega)
      refine g_iload C dX12_gathers_8 5 rfl ?_
      refine g_iload C dX12_gathers_10 4 rfl ?_
      refine b_icmp_ge C 95 dX12_gathers_12 (by decide) (fun h45693 => ?_) (fun h45693 => ?_)
      · have h45693 : a4.toInt ≤ v8_5.toInt := h45693
        exact ret _ _ _ _ _ dX12_gathers_95 (by decide) (by decide) ⟨I8, X8, W8, (by show (pI P8 a0 28).toInt ≤ 4 + a4.toInt; omega)⟩
      · have h45693 : v8_5.toInt < a4.toInt := h45693
        refine g_bipush (v := 40) C dX12_gathers_15 (by decide) ?_
        refine g_iload_n C dX12_gathers_17 rfl 1 rfl ?_
        refine s_imul C dX12_gathers_18 (by show -2147483648 ≤ 40 * a1.toInt ∧ 40 * a1.toInt ≤ 2147483647; omega) (fun z45694 h45695 => ?_)
        have h45695 : z45694.toInt = 40 * a1.toInt := h45695
        refine g_iload C dX12_gathers_19 5 rfl ?_
        refine s_iadd C dX12_gathers_21 (by show -2147483648 ≤ z45694.toInt + v8_5.toInt ∧ z45694.toInt + v8_5.toInt ≤ 2147483647; omega) (fun z45696 h45697 => ?_)
        have h45697 : z45696.toInt = z45694.toInt + v8_5.toInt := h45697
        refine g_istore (lv' := [(6, .int z45696), (0, .ref a0), (1, .int a1), (2, .int a2), (3, .int a3), (4, .int a4), (5, .int v8_5)]) C dX12_gathers_22 (by decide) rfl ?_
        refine g_aload_n C dX12_gathers_24 rfl 1 rfl ?_
        obtain ⟨b45698, e45699, h45700⟩ := I8.fld (h45681) 22 13 800 rfl
        refine g_getR C fi_X12_75 rfl e45699 (h45681).1 (h45681).2 dX12_gathers_25 ?_
        refine g_iload C dX12_gathers_28 0 rfl ?_
        refine g_iald (j := (z45696.toInt.toNat)) C h45700.1 h45700.2.1 (ix_in h45700.2.2 (by omega)) dX12_gathers_30 ?_
        have h45701 := I8.arr e45699 rfl (z45696.toInt.toNat)
        refine g_iload_n C dX12_gathers_31 rfl 3 rfl ?_
        refine b_icmp_ne C 89 dX12_gathers_32 (by decide) (fun h45702 => ?_) (fun h45702 => ?_)
        · have h45702 : (pI P8 b45698 (z45696.toInt.toNat)).toInt ≠ a2.toInt := ti_ne h45702
          refine g_lv (lv' := [(0, .ref a0), (1, .int a1), (2, .int a2), (3, .int a3), (4, .int a4), (5, .int v8_5)]) [1, 2, 3, 4, 5, 6] rfl ?_
          exact J89 P8 I8 X8 W8 (by omega) (by omega) (fun b9 e9 => by rw [e45683] at e9; cases e9; omega) (by show (pI P8 a0 28).toInt ≤ 5 + v8_5.toInt; omega) (by show v8_5.toInt < a4.toInt; omega)
        · have h45702 : (pI P8 b45698 (z45696.toInt.toNat)).toInt = a2.toInt := congrArg Int32.toInt h45702
          refine g_aload_n C dX12_gathers_35 rfl 1 rfl ?_
          obtain ⟨b45703, e45704, h45705⟩ := I8.fld (h45681) 24 13 800 rfl
          refine g_getR C fi_X12_81 rfl e45704 (h45681).1 (h45681).2 dX12_gathers_36 ?_
          refine g_iload C dX12_gathers_39 0 rfl ?_
          refine g_iald (j := (z45696.toInt.toNat)) C h45705.1 h45705.2.1 (ix_in h45705.2.2 (by omega)) dX12_gathers_41 ?_
          refine g_iload_n C dX12_gathers_42 rfl 4 rfl ?_
          refine a_ishr C dX12_gathers_43 (fun z45706 => ?_)
          refine g_iconst (v := 1) C dX12_gathers_44 (by decide) ?_
          refine s_iand C dX12_gathers_45 (by show 0 ≤ 1; omega) (fun z45708 h45709 => ?_)
          have h45709 : 0 ≤ z45708.toInt ∧ z45708.toInt ≤ 1 := h45709
          refine g_iconst (v := 1) C dX12_gathers_46 (by decide) ?_
          refine b_icmp_ne C 89 dX12_gathers_47 (by decide) (fun h45710 => ?_) (fun h45710 => ?_)
          · have h45710 : z45708.toInt ≠ 1 := ti_ne h45710
            refine g_lv (lv' := [(0, .ref a0), (1, .int a1), (2, .int a2), (3, .int a3), (4, .int a4), (5, .int v8_5)]) [1, 2, 3, 4, 5, 6] rfl ?_
            exact J89 P8 I8 X8 W8 (by omega) (by omega) (fun b9 e9 => by rw [e45683] at e9; cases e9; omega) (by show (pI P8 a0 28).toInt ≤ 5 + v8_5.toInt; omega) (by show v8_5.toInt < a4.toInt; omega)
          · have h45710 : z45708.toInt = 1 := congrArg Int32.toInt h45710
            refine g_aload_n C dX12_gathers_50 rfl 1 rfl ?_
            obtain ⟨b45711, e45712, h45713⟩ := I8.fld (h45681) 32 15 40 rfl
            refine g_getR C fi_X12_100 rfl e45712 (h45681).1 (h45681).2 dX12_gathers_51 ?_
            refine g_iload C dX12_gathers_54 6 rfl ?_
            refine g_zald (j := (v8_5.toInt.toNat)) C h45713.1 h45713.2.1 (ix_in h45713.2.2 (by omega)) dX12_gathers_56 ?_
            have u45715 := ti_rng (pI P8 b45711 (v8_5.toInt.toNat))
            refine b_if_ne C 89 dX12_gathers_57 (by decide) (fun h45714 => ?_) (fun h45714 => ?_)
            · have h45714 : (pI P8 b45711 (v8_5.toInt.toNat)).toInt ≠ 0 := ti_ne h45714
              refine g_lv (lv' := [(0, .ref a0), (1, .int a1), (2, .int a2), (3, .int a3), (4, .int a4), (5, .int v8_5)]) [1, 2, 3, 4, 5, 6] rfl ?_
              exact J89 P8 I8 X8 W8 (by omega) (by omega) (fun b9 e9 => by rw [e45683] at e9; cases e9; omega) (by show (pI P8 a0 28).toInt ≤ 5 + v8_5.toInt; omega) (by show v8_5.toInt < a4.toInt; omega)
            · have h45714 : (pI P8 b45711 (v8_5.toInt.toNat)).toInt = 0 := congrArg Int32.toInt h45714
              refine g_aload_n C dX12_gathers_60 rfl 1 rfl ?_
              refine g_aload_n C dX12_gathers_61 rfl 1 rfl ?_
              refine g_iload_n C dX12_gathers_62 rfl 3 rfl ?_
              refine g_aload_n C dX12_gathers_63 rfl 1 rfl ?_
              obtain ⟨b45716, e45717, h45718⟩ := I8.fld (h45681) 21 13 800 rfl
              refine g_getR C fi_X12_72 rfl e45717 (h45681).1 (h45681).2 dX12_gathers_64 ?_
              refine g_iload C dX12_gathers_67 0 rfl ?_
              refine g_iald (j := (z45696.toInt.toNat)) C h45718.1 h45718.2.1 (ix_in h45718.2.2 (by omega)) dX12_gathers_69 ?_
              refine g_callVI (rest := [.ref a0]) C mv_X12_261 [.int a2, .int (pI P8 b45716 (z45696.toInt.toNat))] (s_X12_setOf I8 (by omega) (fun b9 e9 => by rw [e45683] at e9; cases e9; show 1 ≤ (pI P8 b45682 (a2.toInt.toNat)).toInt ∧ (pI P8 b45682 (a2.toInt.toNat)).toInt ≤ 16; omega) W8) (h45681).1 (h45681).2 rfl rfl (by decide) (Nat.le_of_ble_eq_true rfl) (by decide) dX12_gathers_70 (fun r45719 Y45720 h45721 => ?_)
              obtain ⟨Iy45722, Xy45723, W45724, h45721⟩ := h45721
              have q45725 := Xy45723.keepA e45683 (by decide) rfl (a2.toInt.toNat)
              have q45726 := Xy45723.keepF 28 (by decide)
              have q45727 := Xy45723.keepA e45699 (by decide) rfl (z45696.toInt.toNat)
              have q45728 := Xy45723.keepA e45712 (by decide) rfl (v8_5.toInt.toNat)
              have Xz45729 : EM [28, 29, 30, 31] a0 P Y45720 := EM.tr ha0 X8 (Xy45723.mono (by decide))
              have e45730 := Xy45723.ref h45681 (by decide) e45683
              have e45731 := Xy45723.ref h45681 (by decide) e45699
              have e45732 := Xy45723.ref h45681 (by decide) e45712
              have h45733 := Xy45723.at h45681
              have h45734 := Xy45723.ar h45684
              have h45735 := Xy45723.ar h45700
              have h45736 := Xy45723.ar h45713
              have h45721 : True := h45721
              refine g_aload_n C dX12_gathers_73 rfl 1 rfl ?_
              obtain ⟨b45737, e45738, h45739⟩ := Iy45722.fld (h45733) 23 13 800 rfl
              refine g_getR C fi_X12_78 rfl e45738 (h45733).1 (h45733).2 dX12_gathers_74 ?_
              refine g_iload C dX12_gathers_77 0 rfl ?_
              refine g_iald (j := (z45696.toInt.toNat)) C h45739.1 h45739.2.1 (ix_in h45739.2.2 (by omega)) dX12_gathers_79 ?_
              refine g_iload_n C dX12_gathers_80 rfl 4 rfl ?_
              refine g_callSI (b := 0) (ci := 0) (rest := [.int r45719, .ref a0]) C ms_X12_315 [.int (pI Y45720 b45737 (z45696.toInt.toNat)), .int a3] (s_X12_byteOf Iy45722.1) rfl rfl (by decide) (Nat.le_of_ble_eq_true rfl) (by decide) dX12_gathers_81 (fun r45740 Y45741 h45742 => ?_)
              obtain ⟨rfl, h45742⟩ := h45742
              have h45742 : 0 ≤ r45740.toInt ∧ r45740.toInt ≤ 255 := h45742
              refine g_iload C dX12_gathers_84 6 rfl ?_
              refine g_callVV (rest := []) C mv_X12_308 [.int r45719, .int r45740, .int v8_5] (s_X12_adds Iy45722 (by omega) W45724) (h45733).1 (h45733).2 rfl rfl (by decide) (Nat.le_of_ble_eq_true rfl) (by decide) dX12_gathers_86 (fun Y45744 h45745 => ?_)
              obtain ⟨Iy45746, Xy45747, W45748, p45749⟩ := h45745
              have p45749 : (pI Y45744 a0 28).toInt = (pI Y45720 a0 28).toInt + 1 := p45749
              have q45750 := Xy45747.keepA e45730 (by decide) rfl (a2.toInt.toNat)
              have q45751 := Xy45747.keepA e45731 (by decide) rfl (z45696.toInt.toNat)
              have q45752 := Xy45747.keepA e45732 (by decide) rfl (v8_5.toInt.toNat)
              have Xz45753 : EM [28, 29, 30, 31] a0 P Y45744 := EM.tr ha0 Xz45729 (Xy45747.mono (by decide))
              have e45754 := Xy45747.ref h45733 (by decide) e45730
              have e45755 := Xy45747.ref h45733 (by decide) e45731
              have e45756 := Xy45747.ref h45733 (by decide) e45732
              have h45757 := Xy45747.at h45733
              have h45758 := Xy45747.ar h45734
              have h45759 := Xy45747.ar h45735
              have h45760 := Xy45747.ar h45736
              have h45761 := Iy45746.rg h45757 28 rfl
              refine g_lv (lv' := [(0, .ref a0), (1, .int a1), (2, .int a2), (3, .int a3), (4, .int a4), (5, .int v8_5)]) [1, 2, 3, 4, 5, 6] rfl ?_
              exact J89 Y45744 Iy45746 Xz45753 W45748 (by omega) (by omega) (fun b9 e9 => by rw [e45754] at e9; cases e9; omega) (by show (pI Y45744 a0 28).toInt ≤ 5 + v8_5.toInt; omega) (by show v8_5.toInt < a4.toInt; omega)
  obtain ⟨b45762, e45763, h45764⟩ := I.fld (ha0) 10 13 2 rfl
  have hf0 := hf0 b45762 e45763
  refine g_aload_n C dX12_gathers_0 rfl 0 rfl ?_
  refine g_iload_n C dX12_gathers_1 rfl 2 rfl ?_
  refine g_callVV (rest := []) C mv_X12_312 [.int a2] (s_X12_begins I (by omega) hW) (ha0).1 (ha0).2 rfl rfl (by decide) (Nat.le_of_ble_eq_true rfl) (by decide) dX12_gathers_2 (fun Y45766 h45767 => ?_)
  obtain ⟨Iy45768, Xy45769, W45770, p45771⟩ := h45767
  have p45771 : (pI Y45766 a0 28).toInt ≤ 4 := p45771
  have q45772 := Xy45769.keepA e45763 (by decide) rfl (a2.toInt.toNat)
  have Xz45773 : EM [28, 29, 30, 31] a0 P Y45766 := Xy45769.mono (by decide)
  have e45774 := Xy45769.ref ha0 (by decide) e45763
  have h45775 := Xy45769.at ha0
  have h45776 := Xy45769.ar h45764
  have h45777 := Iy45768.rg h45775 28 rfl
  refine g_iconst (v := 0) C dX12_gathers_5 (by decide) ?_
  refine g_istore (lv' := [(5, .int 0), (0, .ref a0), (1, .int a1), (2, .int a2), (3, .int a3), (4, .int a4)]) C dX12_gathers_6 (by decide) rfl ?_
  refine g_lv (lv' := [(0, .ref a0), (1, .int a1), (2, .int a2), (3, .int a3), (4, .int a4), (5, .int 0)]) [1, 2, 3, 4, 5, 0] rfl ?_
  exact J8 _ Y45766 0 (Nat.lt_succ_self _) Iy45768 Xz45773 W45770 (by decide) (fun b9 e9 => by rw [e45774] at e9; cases e9; omega) (by show (pI Y45766 a0 28).toInt ≤ 4 + 0; omega) (by show 0 ≤ a4.toInt; omega)
theorem dX12_doubles_15 : decode cX12_doubles 15 = .ok (.iconst (-1), 1) := by decide +kernel
theorem dX12_doubles_16 : decode cX12_doubles 16 = .ok (.ireturn, 1) := by decide +kernel
theorem dX12_doubles_34 : decode cX12_doubles 34 = .ok (.aload_n 0, 1) := by decide +kernel
theorem dX12_doubles_35 : decode cX12_doubles 35 = .ok (.invokevirtual 346, 3) := by decide +kernel
theorem dX12_doubles_38 : decode cX12_doubles 38 = .ok (.aload_n 0, 1) := by decide +kernel
theorem dX12_doubles_39 : decode cX12_doubles 39 = .ok (.getfield 324, 3) := by decide +kernel
theorem dX12_doubles_42 : decode cX12_doubles 42 = .ok (.istore 4, 2) := by decide +kernel
theorem dX12_doubles_44 : decode cX12_doubles 44 = .ok (.iconst 0, 1) := by decide +kernel
theorem dX12_doubles_45 : decode cX12_doubles 45 = .ok (.istore 5, 2) := by decide +kernel
theorem dX12_doubles_47 : decode cX12_doubles 47 = .ok (.iconst 0, 1) := by decide +kernel
theorem dX12_doubles_48 : decode cX12_doubles 48 = .ok (.istore 6, 2) := by decide +kernel
theorem dX12_doubles_50 : decode cX12_doubles 50 = .ok (.iload 6, 2) := by decide +kernel
theorem dX12_doubles_52 : decode cX12_doubles 52 = .ok (.aload_n 0, 1) := by decide +kernel
theorem dX12_doubles_53 : decode cX12_doubles 53 = .ok (.getfield 69, 3) := by decide +kernel
theorem dX12_doubles_56 : decode cX12_doubles 56 = .ok (.iload_n 1, 1) := by decide +kernel
theorem dX12_doubles_57 : decode cX12_doubles 57 = .ok (.iaload, 1) := by decide +kernel
theorem dX12_doubles_58 : decode cX12_doubles 58 = .ok (.if_icmp .ge 96, 3) := by decide +kernel
theorem dX12_doubles_61 : decode cX12_doubles 61 = .ok (.bipush 40, 2) := by decide +kernel
theorem dX12_doubles_63 : decode cX12_doubles 63 = .ok (.iload_n 1, 1) := by decide +kernel
theorem dX12_doubles_64 : decode cX12_doubles 64 = .ok (.imul, 1) := by decide +kernel
theorem dX12_doubles_65 : decode cX12_doubles 65 = .ok (.iload 6, 2) := by decide +kernel
theorem dX12_doubles_67 : decode cX12_doubles 67 = .ok (.iadd, 1) := by decide +kernel
theorem dX12_doubles_68 : decode cX12_doubles 68 = .ok (.istore 7, 2) := by decide +kernel
theorem dX12_doubles_70 : decode cX12_doubles 70 = .ok (.aload_n 0, 1) := by decide +kernel
theorem dX12_doubles_71 : decode cX12_doubles 71 = .ok (.getfield 75, 3) := by decide +kernel
theorem dX12_doubles_74 : decode cX12_doubles 74 = .ok (.iload 7, 2) := by decide +kernel
theorem dX12_doubles_76 : decode cX12_doubles 76 = .ok (.iaload, 1) := by decide +kernel
theorem dX12_doubles_77 : decode cX12_doubles 77 = .ok (.iload_n 2, 1) := by decide +kernel
theorem dX12_doubles_78 : decode cX12_doubles 78 = .ok (.if_icmp .ne 70, 3) := by decide +kernel
theorem dX12_doubles_81 : decode cX12_doubles 81 = .ok (.aload_n 0, 1) := by decide +kernel
theorem dX12_doubles_82 : decode cX12_doubles 82 = .ok (.getfield 81, 3) := by decide +kernel
theorem dX12_doubles_85 : decode cX12_doubles 85 = .ok (.iload 7, 2) := by decide +kernel
theorem dX12_doubles_87 : decode cX12_doubles 87 = .ok (.iaload, 1) := by decide +kernel
theorem dX12_doubles_88 : decode cX12_doubles 88 = .ok (.iload_n 3, 1) := by decide +kernel
theorem dX12_doubles_89 : decode cX12_doubles 89 = .ok (.ishr, 1) := by decide +kernel
theorem dX12_doubles_90 : decode cX12_doubles 90 = .ok (.iconst 1, 1) := by decide +kernel
theorem dX12_doubles_91 : decode cX12_doubles 91 = .ok (.iand, 1) := by decide +kernel
theorem dX12_doubles_92 : decode cX12_doubles 92 = .ok (.iconst 1, 1) := by decide +kernel
theorem dX12_doubles_93 : decode cX12_doubles 93 = .ok (.if_icmp .ne 55, 3) := by decide +kernel
theorem dX12_doubles_96 : decode cX12_doubles 96 = .ok (.aload_n 0, 1) := by decide +kernel
theorem dX12_doubles_97 : decode cX12_doubles 97 = .ok (.getfield 100, 3) := by decide +kernel
theorem dX12_doubles_100 : decode cX12_doubles 100 = .ok (.iload 6, 2) := by decide +kernel
theorem dX12_doubles_102 : decode cX12_doubles 102 = .ok (.iconst 1, 1) := by decide +kernel
theorem dX12_doubles_103 : decode cX12_doubles 103 = .ok (.bastore, 1) := by decide +kernel
theorem dX12_doubles_104 : decode cX12_doubles 104 = .ok (.aload_n 0, 1) := by decide +kernel
theorem dX12_doubles_105 : decode cX12_doubles 105 = .ok (.iload_n 1, 1) := by decide +kernel
theorem dX12_doubles_106 : decode cX12_doubles 106 = .ok (.iload_n 2, 1) := by decide +kernel
theorem dX12_doubles_107 : decode cX12_doubles 107 = .ok (.iload_n 3, 1) := by decide +kernel
theorem dX12_doubles_108 : decode cX12_doubles 108 = .ok (.aload_n 0, 1) := by decide +kernel
theorem dX12_doubles_109 : decode cX12_doubles 109 = .ok (.getfield 69, 3) := by decide +kernel
theorem dX12_doubles_112 : decode cX12_doubles 112 = .ok (.iload_n 1, 1) := by decide +kernel
theorem dX12_doubles_113 : decode cX12_doubles 113 = .ok (.iaload, 1) := by decide +kernel
theorem dX12_doubles_114 : decode cX12_doubles 114 = .ok (.invokevirtual 339, 3) := by decide +kernel
theorem dX12_doubles_117 : decode cX12_doubles 117 = .ok (.aload_n 0, 1) := by decide +kernel
theorem dX12_doubles_118 : decode cX12_doubles 118 = .ok (.invokevirtual 346, 3) := by decide +kernel
theorem dX12_doubles_121 : decode cX12_doubles 121 = .ok (.iload 5, 2) := by decide +kernel
theorem dX12_doubles_123 : decode cX12_doubles 123 = .ok (.aload_n 0, 1) := by decide +kernel
theorem dX12_doubles_124 : decode cX12_doubles 124 = .ok (.getfield 324, 3) := by decide +kernel
theorem dX12_doubles_127 : decode cX12_doubles 127 = .ok (.iload 4, 2) := by decide +kernel
theorem dX12_doubles_129 : decode cX12_doubles 129 = .ok (.if_icmp .ne 7, 3) := by decide +kernel
theorem dX12_doubles_132 : decode cX12_doubles 132 = .ok (.iconst 1, 1) := by decide +kernel
theorem dX12_doubles_133 : decode cX12_doubles 133 = .ok (.goto 4, 3) := by decide +kernel
theorem dX12_doubles_136 : decode cX12_doubles 136 = .ok (.iconst 0, 1) := by decide +kernel
theorem dX12_doubles_137 : decode cX12_doubles 137 = .ok (.iadd, 1) := by decide +kernel
theorem dX12_doubles_138 : decode cX12_doubles 138 = .ok (.istore 5, 2) := by decide +kernel
theorem dX12_doubles_140 : decode cX12_doubles 140 = .ok (.aload_n 0, 1) := by decide +kernel
theorem dX12_doubles_141 : decode cX12_doubles 141 = .ok (.getfield 100, 3) := by decide +kernel
theorem dX12_doubles_144 : decode cX12_doubles 144 = .ok (.iload 6, 2) := by decide +kernel
theorem dX12_doubles_146 : decode cX12_doubles 146 = .ok (.iconst 0, 1) := by decide +kernel
theorem dX12_doubles_147 : decode cX12_doubles 147 = .ok (.bastore, 1) := by decide +kernel
theorem dX12_doubles_148 : decode cX12_doubles 148 = .ok (.iinc 6 1, 3) := by decide +kernel
theorem dX12_doubles_151 : decode cX12_doubles 151 = .ok (.goto (-101), 3) := by decide +kernel
theorem dX12_doubles_154 : decode cX12_doubles 154 = .ok (.iload 5, 2) := by decide +kernel
theorem dX12_doubles_156 : decode cX12_doubles 156 = .ok (.ireturn, 1) := by decide +kernel
set_option maxHeartbeats 4000000 in
set_option maxRecDepth 100000 in
theorem s_X12_doubles {P : PP} {a0 : Nat} {a1 : Int32} {a2 : Int32} {a3 : Int32} (I : IM P a0) (hW : MW P a0) : CtrI yX12_doubles cX12_doubles 8 (some Jvm.ClassFile.FieldType.int) ({ frames := 7, cells := 0, slots := 0, locals := 448 } : Room) 0 0 P [.ref a0, .int a1, .int a2, .int a3] (fun r P2 => IM P2 a0 ∧ EM [0, 28, 29, 30, 31, 32, 35, 36, 37, 38] a0 P P2 ∧ MW P2 a0 ∧ (True)) := by
  refine enI (lv := [(0, .ref a0), (1, .int a1), (2, .int a2), (3, .int a3)]) (by decide) (Nat.le_of_ble_eq_true rfl) rfl (fun E D cy C Ci0 ret => ?_)
  have ha0 := I.2.1
  have J50 : ∀ (n50 : Nat) (P50 : PP) (v50_4 : Int32) (v50_5 : Int32) (v50_6 : Int32), (40 - v50_6.toInt).toNat < n50 → (IM P50 a0) → (EM [0, 28, 29, 30, 31, 32, 35, 36, 37, 38] a0 P P50) → (MW P50 a0) → (0 ≤ a1.toInt ∧ a1.toInt ≤ 3) → (0 ≤ a2.toInt ∧ a2.toInt ≤ 1) → (0 ≤ a3.toInt ∧ a3.toInt ≤ 1) → (0 ≤ v50_6.toInt ∧ v50_6.toInt ≤ 40) → (0 ≤ (pI P50 a0 0).toInt ∧ (pI P50 a0 0).toInt ≤ 0) → (0 ≤ (pI P50 a0 28).toInt ∧ (pI P50 a0 28).toInt ≤ 44) → (∀ b, pR P50 a0 10 = some b → 1 ≤ (pI P50 b (a2.toInt.toNat)).toInt ∧ (pI P50 b (a2.toInt.toNat)).toInt ≤ 16) → G E ({ frames := 7, cells := 0, slots := 0, locals := 448 } : Room) D cy 8 P50 0 0 50 [(0, .ref a0), (1, .int a1), (2, .int a2), (3, .int a3), (4, .int v50_4), (5, .int v50_5), (6, .int v50_6)] [] := by
    intro n50
    induction n50 with
    | zero => intro P50 v50_4 v50_5 v50_6 hm50 I50 X50 W50 hv50_1 hv50_2 hv50_3 hv50_6 hq50_0 hq50_1 hq50_2; omega
    | succ n50 ih50 =>
      intro P50 v50_4 v50_5 v50_6 hm50 I50 X50 W50 hv50_1 hv50_2 hv50_3 hv50_6 hq50_0 hq50_1 hq50_2
      have h51516 := X50.at ha0
      obtain ⟨b51517, e51518, h51519⟩ := I50.fld (h51516) 10 13 2 rfl
      have hq50_2 := hq50_2 b51517 e51518
      have J148 : ∀ (P148 : PP) (v148_5 : Int32), (IM P148 a0) → (EM [0, 28, 29, 30, 31, 32, 35, 36, 37, 38] a0 P P148) → (MW P148 a0) → (0 ≤ a1.toInt ∧ a1.toInt ≤ 3) → (0 ≤ a2.toInt ∧ a2.toInt ≤ 1) → (0 ≤ a3.toInt ∧ a3.toInt ≤ 1) → (0 ≤ v50_6.toInt ∧ v50_6.toInt ≤ 39) → (0 ≤ (pI P148 a0 0).toInt ∧ (pI P148 a0 0).toInt ≤ 0) → (0 ≤ (pI P148 a0 28).toInt ∧ (pI P148 a0 28).toInt ≤ 44) → (∀ b, pR P148 a0 10 = some b → 1 ≤ (pI P148 b (a2.toInt.toNat)).toInt ∧ (pI P148 b (a2.toInt.toNat)).toInt ≤ 16) → (∀ b, pR P148 a0 20 = some b → 1 ≤ (pI P148 b (a1.toInt.toNat)).toInt ∧ (pI P148 b (a1.toInt.toNat)).toInt ≤ 40) → G E ({ frames := 7, cells := 0, slots := 0, locals := 448 } : Room) D cy 8 P148 0 0 148 [(0, .ref a0), (1, .int a1), (2, .int a2), (3, .int a3), (4, .int v50_4), (5, .int v148_5), (6, .int v50_6)] [] := by
        intro P148 v148_5 I148 X148 W148 hv148_1 hv148_2 hv148_3 hv148_6 hq148_0 hq148_1 hq148_2 hq148_3
        have h51520 := X148.at ha0
        obtain ⟨b51521, e51522, h51523⟩ := I148.fld (h51520) 10 13 2 rfl
        have hq148_2 := hq148_2 b51521 e51522
        obtain ⟨b51524, e51525, h51526⟩ := I148.fld (h51520) 20 13 20 rfl
        have hq148_3 := hq148_3 b51524 e51525
        refine s_iinc (lv0 := [(0, .ref a0), (1, .int a1), (2, .int a2), (3, .int a3), (4, .int v50_4), (5, .int v148_5)]) (m := 1) C dX12_doubles_148 6 rfl (by decide) rfl (by decide) (by omega) (fun z51527 h51528 => ?_)
        have h51528 : z51527.toInt = v50_6.toInt + 1 := h51528
        refine g_goto C 50 dX12_doubles_151 (by decide) ?_
        refine g_lv (lv' := [(0, .ref a0), (1, .int a1), (2, .int a2), (3, .int a3), (4, .int v50_4), (5, .int v148_5), (6, .int z51527)]) [1, 2, 3, 4, 5, 6, 0] rfl ?_
        exact ih50 P148 v50_4 v148_5 z51527 (by omega) I148 X148 W148 (by omega) (by omega) (by omega) (by omega) (by omega) (by omega) (fun b9 e9 => by rw [e51522] at e9; cases e9; omega)
      have J137 : ∀ (P137 : PP) (v137_s0 : Int32), (IM P137 a0) → (EM [0, 28, 29, 30, 31, 32, 35, 36, 37, 38] a0 P P137) → (MW P137 a0) → (0 ≤ a1.toInt ∧ a1.toInt ≤ 3) → (0 ≤ a2.toInt ∧ a2.toInt ≤ 1) → (0 ≤ a3.toInt ∧ a3.toInt ≤ 1) → (0 ≤ v50_6.toInt ∧ v50_6.toInt ≤ 39) → (0 ≤ v137_s0.toInt ∧ v137_s0.toInt ≤ 1) → (0 ≤ (pI P137 a0 0).toInt ∧ (pI P137 a0 0).toInt ≤ 0) → (0 ≤ (pI P137 a0 28).toInt ∧ (pI P137 a0 28).toInt ≤ 44) → (∀ b, pR P137 a0 10 = some b → 1 ≤ (pI P137 b (a2.toInt.toNat)).toInt ∧ (pI P137 b (a2.toInt.toNat)).toInt ≤ 16) → (∀ b, pR P137 a0 20 = some b → 1 ≤ (pI P137 b (a1.toInt.toNat)).toInt ∧ (pI P137 b (a1.toInt.toNat)).toInt ≤ 40) → (∀ b, pR P137 a0 32 = some b → 1 ≤ (pI P137 b (v50_6.toInt.toNat)).toInt ∧ (pI P137 b (v50_6.toInt.toNat)).toInt ≤ 1) → G E ({ frames := 7, cells := 0, slots := 0, locals := 448 } : Room) D cy 8 P137 0 0 137 [(0, .ref a0), (1, .int a1), (2, .int a2), (3, .int a3), (4, .int v50_4), (6, .int v50_6)] [.int v137_s0, .int v50_5] := by
        intro P137 v137_s0 I137 X137 W137 hv137_1 hv137_2 hv137_3 hv137_6 hv137_s0 hq137_0 hq137_1 hq137_2 hq137_3 hq137_4
        have h51529 := X137.at ha0
        obtain ⟨b51530, e51531, h51532⟩ := I137.fld (h51529) 10 13 2 rfl
        have hq137_2 := hq137_2 b51530 e51531
        obtain ⟨b51533, e51534, h51535⟩ := I137.fld (h51529) 20 13 20 rfl
        have hq137_3 := hq137_3 b51533 e51534
        obtain ⟨b51536, e51537, h51538⟩ := I137.fld (h51529) 32 15 40 rfl
        have hq137_4 := hq137_4 b51536 e51537
        refine a_iadd C dX12_doubles_137 (fun z51539 => ?_)
        refine g_istore (lv' := [(5, .int z51539), (0, .ref a0), (1, .int a1), (2, .int a2), (3, .int a3), (4, .int v50_4), (6, .int v50_6)]) C dX12_doubles_138 (by decide) rfl ?_
        refine g_aload_n C dX12_doubles_140 rfl 1 rfl ?_
        refine g_getR C fi_X12_100 rfl e51537 (h51529).1 (h51529).2 dX12_doubles_141 ?_
        refine g_iload C dX12_doubles_144 6 rfl ?_
        refine g_iconst (v := 0) C dX12_doubles_146 (by decide) ?_
        refine g_zast (j := (v50_6.toInt.toNat)) C h51538.1 h51538.2.1 (ix_in h51538.2.2 (by omega)) (Or.inl rfl) dX12_doubles_147 ?_
        refine gqW (ks := [32]) (I137.setA e51537 h51538 (by decide) (arOk.none rfl)) (EM.setA I137 e51537 rfl (by decide)) (fun Y51541 Iy51542 Xy51543 w51544 => ?_)
        have w51544 : (pI Y51541 b51536 (v50_6.toInt.toNat)).toInt = 0 := w51544
        have q51545 := Xy51543.keepF 0 (by decide)
        have q51546 := Xy51543.keepF 28 (by decide)
        have q51547 := Xy51543.keepA e51531 (by decide) rfl (a2.toInt.toNat)
        have q51548 := Xy51543.keepA e51534 (by decide) rfl (a1.toInt.toNat)
        have W51549 := W137.keep I137 Xy51543 (by decide) (by decide) (by decide)
        have Xz51550 : EM [0, 28, 29, 30, 31, 32, 35, 36, 37, 38] a0 P Y51541 := EM.tr ha0 X137 (Xy51543.mono (by decide))
        have e51551 := Xy51543.ref h51529 (by decide) e51531
        have e51552 := Xy51543.ref h51529 (by decide) e51534
        have e51553 := Xy51543.ref h51529 (by decide) e51537
        have h51554 := Xy51543.at h51529
        have h51555 := Xy51543.ar h51532
        have h51556 := Xy51543.ar h51535
        have h51557 := Xy51543.ar h51538
        refine g_lv (lv' := [(0, .ref a0), (1, .int a1), (2, .int a2), (3, .int a3), (4, .int v50_4), (5, .int z51539), (6, .int v50_6)]) [1, 2, 3, 4, 5, 0, 6] rfl ?_
        exact J148 Y51541 z51539 Iy51542 Xz51550 W51549 (by omega) (by omega) (by omega) (by omega) (by omega) (by omega) (fun b9 e9 => by rw [e51551] at e9; cases e9; omega) (fun b9 e9 => by rw [e51552] at e9; cases e9; omega)
      refine g_iload C dX12_doubles_50 6 rfl ?_
      refine g_aload_n C dX12_doubles_52 rfl 0 rfl ?_
      obtain ⟨b51558, e51559, h51560⟩ := I50.fld (h51516) 20 13 20 rfl
      refine g_getR C fi_X12_69 rfl e51559 (h51516).1 (h51516).2 dX12_doubles_53 ?_
      refine g_iload_n C dX12_doubles_56 rfl 1 rfl ?_
      refine g_iald (j := (a1.toInt.toNat)) C h51560.1 h51560.2.1 (ix_in h51560.2.2 (by omega)) dX12_doubles_57 ?_
      have h51561 := I50.arr e51559 rfl (a1.toInt.toNat)
      refine b_icmp_ge C 154 dX12_doubles_58 (by decide) (fun h51562 => ?_) (fun h51562 => ?_)
      · have h51562 : (pI P50 b51558 (a1.toInt.toNat)).toInt ≤ v50_6.toInt := h51562
        refine g_iload C dX12_doubles_154 5 rfl ?_
        exact ret _ _ _ _ _ _ dX12_doubles_156 rfl (by decide) (by decide) ⟨I50, X50, W50, trivial⟩
      · have h51562 : v50_6.toInt < (pI P50 b51558 (a1.toInt.toNat)).toInt := h51562
        refine g_bipush (v := 40) C dX12_doubles_61 (by decide) ?_
        refine g_iload_n C dX12_doubles_63 rfl 1 rfl ?_
        refine s_imul C dX12_doubles_64 (by show -2147483648 ≤ 40 * a1.toInt ∧ 40 * a1.toInt ≤ 2147483647; omega) (fun z51563 h51564 => ?_)
        have h51564 : z51563.toInt = 40 * a1.toInt := h51564
        refine g_iload C dX12_doubles_65 6 rfl ?_
        refine s_iadd C dX12_doubles_67 (by show -2147483648 ≤ z51563.toInt + v50_6.toInt ∧ z51563.toInt + v50_6.toInt ≤ 2147483647; omega) (fun z51565 h51566 => ?_)
        have h51566 : z51565.toInt = z51563.toInt + v50_6.toInt := h51566
        refine g_istore (lv' := [(7, .int z51565), (0, .ref a0), (1, .int a1), (2, .int a2), (3, .int a3), (4, .int v50_4), (5, .int v50_5), (6, .int v50_6)]) C dX12_doubles_68 (by decide) rfl ?_
        refine g_aload_n C dX12_doubles_70 rfl 1 rfl ?_
        obtain ⟨b51567, e51568, h51569⟩ := I50.fld (h51516) 22 13 800 rfl
        refine g_getR C fi_X12_75 rfl e51568 (h51516).1 (h51516).2 dX12_doubles_71 ?_
        refine g_iload C dX12_doubles_74 0 rfl ?_
        refine g_iald (j := (z51565.toInt.toNat)) C h51569.1 h51569.2.1 (ix_in h51569.2.2 (by omega)) dX12_doubles_76 ?_
        have h51570 := I50.arr e51568 rfl (z51565.toInt.toNat)
        refine g_iload_n C dX12_doubles_77 rfl 3 rfl ?_
        refine b_icmp_ne C 148 dX12_doubles_78 (by decide) (fun h51571 => ?_) (fun h51571 => ?_)
        · have h51571 : (pI P50 b51567 (z51565.toInt.toNat)).toInt ≠ a2.toInt := ti_ne h51571
          refine g_lv (lv' := [(0, .ref a0), (1, .int a1), (2, .int a2), (3, .int a3), (4, .int v50_4), (5, .int v50_5), (6, .int v50_6)]) [1, 2, 3, 4, 5, 6, 7] rfl ?_
          exact J148 P50 v50_5 I50 X50 W50 (by omega) (by omega) (by omega) (by omega) (by omega) (by omega) (fun b9 e9 => by rw [e51518] at e9; cases e9; omega) (fun b9 e9 => by rw [e51559] at e9; cases e9; omega)
        · have h51571 : (pI P50 b51567 (z51565.toInt.toNat)).toInt = a2.toInt := congrArg Int32.toInt h51571
          refine g_aload_n C dX12_doubles_81 rfl 1 rfl ?_
          obtain ⟨b51572, e51573, h51574⟩ := I50.fld (h51516) 24 13 800 rfl
          refine g_getR C fi_X12_81 rfl e51573 (h51516).1 (h51516).2 dX12_doubles_82 ?_
          refine g_iload C dX12_doubles_85 0 rfl ?_
          refine g_iald (j := (z51565.toInt.toNat)) C h51574.1 h51574.2.1 (ix_in h51574.2.2 (by omega)) dX12_doubles_87 ?_
          refine g_iload_n C dX12_doubles_88 rfl 4 rfl ?_
          refine a_ishr C dX12_doubles_89 (fun z51575 => ?_)
          refine g_iconst (v := 1) C dX12_doubles_90 (by decide) ?_
          refine s_iand C dX12_doubles_91 (by show 0 ≤ 1; omega) (fun z51577 h51578 => ?_)
          have h51578 : 0 ≤ z51577.toInt ∧ z51577.toInt ≤ 1 := h51578
          refine g_iconst (v := 1) C dX12_doubles_92 (by decide) ?_
          refine b_icmp_ne C 148 dX12_doubles_93 (by decide) (fun h51579 => ?_) (fun h51579 => ?_)
          · have h51579 : z51577.toInt ≠ 1 := ti_ne h51579
            refine g_lv (lv' := [(0, .ref a0), (1, .int a1), (2, .int a2), (3, .int a3), (4, .int v50_4), (5, .int v50_5), (6, .int v50_6)]) [1, 2, 3, 4, 5, 6, 7] rfl ?_
            exact J148 P50 v50_5 I50 X50 W50 (by omega) (by omega) (by omega) (by omega) (by omega) (by omega) (fun b9 e9 => by rw [e51518] at e9; cases e9; omega) (fun b9 e9 => by rw [e51559] at e9; cases e9; omega)
          · have h51579 : z51577.toInt = 1 := congrArg Int32.toInt h51579
            refine g_aload_n C dX12_doubles_96 rfl 1 rfl ?_
            obtain ⟨b51580, e51581, h51582⟩ := I50.fld (h51516) 32 15 40 rfl
            refine g_getR C fi_X12_100 rfl e51581 (h51516).1 (h51516).2 dX12_doubles_97 ?_
            refine g_iload C dX12_doubles_100 7 rfl ?_
            refine g_iconst (v := 1) C dX12_doubles_102 (by decide) ?_
            refine g_zast (j := (v50_6.toInt.toNat)) C h51582.1 h51582.2.1 (ix_in h51582.2.2 (by omega)) (Or.inr rfl) dX12_doubles_103 ?_
            refine gqW (ks := [32]) (I50.setA e51581 h51582 (by decide) (arOk.none rfl)) (EM.setA I50 e51581 rfl (by decide)) (fun Y51583 Iy51584 Xy51585 w51586 => ?_)
            have w51586 : (pI Y51583 b51580 (v50_6.toInt.toNat)).toInt = 1 := w51586
            have q51587 := Xy51585.keepF 0 (by decide)
            have q51588 := Xy51585.keepF 28 (by decide)
            have q51589 := Xy51585.keepA e51518 (by decide) rfl (a2.toInt.toNat)
            have q51590 := Xy51585.keepA e51559 (by decide) rfl (a1.toInt.toNat)
            have q51591 := Xy51585.keepA e51568 (by decide) rfl (z51565.toInt.toNat)
            have W51592 := W50.keep I50 Xy51585 (by decide) (by decide) (by decide)
            have Xz51593 : EM [0, 28, 29, 30, 31, 32, 35, 36, 37, 38] a0 P Y51583 := EM.tr ha0 X50 (Xy51585.mono (by decide))
            have e51594 := Xy51585.ref h51516 (by decide) e51518
            have e51595 := Xy51585.ref h51516 (by decide) e51559
            have e51596 := Xy51585.ref h51516 (by decide) e51568
            have e51597 := Xy51585.ref h51516 (by decide) e51581
            have h51598 := Xy51585.at h51516
            have h51599 := Xy51585.ar h51519
            have h51600 := Xy51585.ar h51560
            have h51601 := Xy51585.ar h51569
            have h51602 := Xy51585.ar h51582
            refine g_aload_n C dX12_doubles_104 rfl 1 rfl ?_
            refine g_iload_n C dX12_doubles_105 rfl 2 rfl ?_
            refine g_iload_n C dX12_doubles_106 rfl 3 rfl ?_
            refine g_iload_n C dX12_doubles_107 rfl 4 rfl ?_
            refine g_aload_n C dX12_doubles_108 rfl 1 rfl ?_
            refine g_getR C fi_X12_69 rfl e51595 (h51598).1 (h51598).2 dX12_doubles_109 ?_
            refine g_iload_n C dX12_doubles_112 rfl 2 rfl ?_
            refine g_iald (j := (a1.toInt.toNat)) C h51600.1 h51600.2.1 (ix_in h51600.2.2 (by omega)) dX12_doubles_113 ?_
            refine g_callVV (rest := []) C mv_X12_339 [.int a1, .int a2, .int a3, .int (pI Y51583 b51558 (a1.toInt.toNat))] (s_X12_gathers Iy51584 (by omega) (by omega) (by omega) (fun b9 e9 => by rw [e51594] at e9; cases e9; show 1 ≤ (pI Y51583 b51517 (a2.toInt.toNat)).toInt ∧ (pI Y51583 b51517 (a2.toInt.toNat)).toInt ≤ 16; omega) W51592) (h51598).1 (h51598).2 rfl rfl (by decide) (Nat.le_of_ble_eq_true rfl) (by decide) dX12_doubles_114 (fun Y51604 h51605 => ?_)
            obtain ⟨Iy51606, Xy51607, W51608, p51609⟩ := h51605
            have p51609 : (pI Y51604 a0 28).toInt ≤ 4 + (pI Y51583 b51558 (a1.toInt.toNat)).toInt := p51609
            have q51610 := Xy51607.keepF 0 (by decide)
            have q51611 := Xy51607.keepA e51594 (by decide) rfl (a2.toInt.toNat)
            have q51612 := Xy51607.keepA e51595 (by decide) rfl (a1.toInt.toNat)
            have q51613 := Xy51607.keepA e51596 (by decide) rfl (z51565.toInt.toNat)
            have q51614 := Xy51607.keepA e51597 (by decide) rfl (v50_6.toInt.toNat)
            have Xz51615 : EM [0, 28, 29, 30, 31, 32, 35, 36, 37, 38] a0 P Y51604 := EM.tr ha0 Xz51593 (Xy51607.mono (by decide))
            have e51616 := Xy51607.ref h51598 (by decide) e51594
            have e51617 := Xy51607.ref h51598 (by decide) e51595
            have e51618 := Xy51607.ref h51598 (by decide) e51596
            have e51619 := Xy51607.ref h51598 (by decide) e51597
            have h51620 := Xy51607.at h51598
            have h51621 := Xy51607.ar h51599
            have h51622 := Xy51607.ar h51600
            have h51623 := Xy51607.ar h51601
            have h51624 := Xy51607.ar h51602
            have h51625 := Iy51606.rg h51620 28 rfl
            refine g_aload_n C dX12_doubles_117 rfl 1 rfl ?_
            refine g_callVV (rest := []) C mv_X12_346 [] (s_X12_findSolved Iy51606 W51608) (h51620).1 (h51620).2 rfl rfl (by decide) (Nat.le_of_ble_eq_true rfl) (by decide) dX12_doubles_118 (fun Y51627 h51628 => ?_)
            obtain ⟨Iy51629, Xy51630, W51631⟩ := h51628
            have q51632 := Xy51630.keepF 0 (by decide)
            have q51633 := Xy51630.keepA e51616 (by decide) rfl (a2.toInt.toNat)
            have q51634 := Xy51630.keepA e51617 (by decide) rfl (a1.toInt.toNat)
            have q51635 := Xy51630.keepA e51618 (by decide) rfl (z51565.toInt.toNat)
            have q51636 := Xy51630.keepA e51619 (by decide) rfl (v50_6.toInt.toNat)
            have q51637 := Xy51630.keepF 28 (by decide)
            have Xz51638 : EM [0, 28, 29, 30, 31, 32, 35, 36, 37, 38] a0 P Y51627 := EM.tr ha0 Xz51615 (Xy51630.mono (by decide))
            have e51639 := Xy51630.ref h51620 (by decide) e51616
            have e51640 := Xy51630.ref h51620 (by decide) e51617
            have e51641 := Xy51630.ref h51620 (by decide) e51618
            have e51642 := Xy51630.ref h51620 (by decide) e51619
            have h51643 := Xy51630.at h51620
            have h51644 := Xy51630.ar h51621
            have h51645 := Xy51630.ar h51622
            have h51646 := Xy51630.ar h51623
            have h51647 := Xy51630.ar h51624
            refine g_iload C dX12_doubles_121 6 rfl ?_
            refine g_aload_n C dX12_doubles_123 rfl 1 rfl ?_
            refine g_getI C fi_X12_324 (by decide) (h51643).1 (h51643).2 dX12_doubles_124 ?_
            refine g_iload C dX12_doubles_127 5 rfl ?_
            have u51649 := ti_rng (pI Y51627 a0 35)
            have u51650 := ti_rng v50_4
            refine b_icmp_ne C 136 dX12_doubles_129 (by decide) (fun h51648 => ?_) (fun h51648 => ?_)
            · have h51648 : (pI Y51627 a0 35).toInt ≠ v50_4.toInt := ti_ne h51648
              refine g_iconst (v := 0) C dX12_doubles_136 (by decide) ?_
              refine g_lv (lv' := [(0, .ref a0), (1, .int a1), (2, .int a2), (3, .int a3), (4, .int v50_4), (6, .int v50_6)]) [1, 2, 3, 4, 5, 7] rfl ?_
              exact J137 Y51627 0 Iy51629 Xz51638 W51631 (by omega) (by omega) (by omega) (by omega) (by decide) (by omega) (by omega) (fun b9 e9 => by rw [e51639] at e9; cases e9; omega) (fun b9 e9 => by rw [e51640] at e9; cases e9; omega) (fun b9 e9 => by rw [e51642] at e9; cases e9; omega)
            · have h51648 : (pI Y51627 a0 35).toInt = v50_4.toInt := congrArg Int32.toInt h51648
              refine g_iconst (v := 1) C dX12_doubles_132 (by decide) ?_
              refine g_goto C 137 dX12_doubles_133 (by decide) ?_
              refine g_lv (lv' := [(0, .ref a0), (1, .int a1), (2, .int a2), (3, .int a3), (4, .int v50_4), (6, .int v50_6)]) [1, 2, 3, 4, 5, 7] rfl ?_
              exact J137 Y51627 1 Iy51629 Xz51638 W51631 (by omega) (by omega) (by omega) (by omega) (by decide) (by omega) (by omega) (fun b9 e9 => by rw [e51639] at e9; cases e9; omega) (fun b9 e9 => by rw [e51640] at e9; cases e9; omega) (fun b9 e9 => by rw [e51642] at e9; cases e9; omega)
  refine g_aload_n C dX12_doubles_0 rfl 0 rfl ?_
  refine g_iconst (v := 0) C dX12_doubles_1 (by decide) ?_
  refine g_putI C fi_X12_1 rfl (ha0).1 (ha0).2 dX12_doubles_2 ?_
  refine gqW (ks := [0]) (I.setI (rgOk.of rfl (by decide))) (EM.setI I (by decide)) (fun Y51651 Iy51652 Xy51653 w51654 => ?_)
  have w51654 : (pI Y51651 a0 0).toInt = 0 := w51654
  have W51655 := hW.keep I Xy51653 (by decide) (by decide) (by decide)
  have Xz51656 : EM [0, 28, 29, 30, 31, 32, 35, 36, 37, 38] a0 P Y51651 := Xy51653.mono (by decide)
  have h51657 := Xy51653.at ha0
  refine g_aload_n C dX12_doubles_5 rfl 0 rfl ?_
  refine g_iload_n C dX12_doubles_6 rfl 1 rfl ?_
  refine g_iload_n C dX12_doubles_7 rfl 2 rfl ?_
  refine g_iload_n C dX12_doubles_8 rfl 3 rfl ?_
  refine g_callVI (rest := []) C mv_X12_333 [.int a1, .int a2, .int a3] (s_X12_isAsked Iy51652 W51655) (h51657).1 (h51657).2 rfl rfl (by decide) (Nat.le_of_ble_eq_true rfl) (by decide) dX12_doubles_9 (fun r51658 Y51659 h51660 => ?_)
  obtain ⟨rfl, h51660⟩ := h51660
  obtain ⟨h51660, hi51661, hi51662⟩ := h51660
  have hi51661 : r51658.toInt = 0 ∨ (((0 : Int) ≤ a1.toInt ∧ a1.toInt ≤ (3 : Int)) ∧ ((0 : Int) ≤ a2.toInt ∧ a2.toInt ≤ (1 : Int)) ∧ ((0 : Int) ≤ a3.toInt ∧ a3.toInt ≤ (1 : Int))) := hi51661
  have h51660 : 0 ≤ r51658.toInt ∧ r51658.toInt ≤ 1 := h51660
  refine b_if_ne C 17 dX12_doubles_12 (by decide) (fun h51663 => ?_) (fun h51663 => ?_)
  · have h51663 : r51658.toInt ≠ 0 := ti_ne h51663
    replace hi51661 := hi51661.resolve_left (by omega)
    obtain ⟨b51664, e51665, h51666⟩ := Iy51652.fld (h51657) 10 13 2 rfl
    have hi51662 := (hi51662.resolve_left (by omega)) b51664 e51665
    have hi51662 : 0 < (pI Y51651 b51664 (a2.toInt.toNat)).toInt := hi51662
    have h51667 := Iy51652.arr e51665 rfl (a2.toInt.toNat)
    refine g_aload_n C dX12_doubles_17 rfl 0 rfl ?_
    refine g_callVV (rest := []) C mv_X12_336 [] (s_X12_leavesNone Iy51652 W51655) (h51657).1 (h51657).2 rfl rfl (by decide) (Nat.le_of_ble_eq_true rfl) (by decide) dX12_doubles_18 (fun Y51669 h51670 => ?_)
    obtain ⟨Iy51671, Xy51672, W51673⟩ := h51670
    have q51674 := Xy51672.keepF 0 (by decide)
    have q51675 := Xy51672.keepA e51665 (by decide) rfl (a2.toInt.toNat)
    have Xz51676 : EM [0, 28, 29, 30, 31, 32, 35, 36, 37, 38] a0 P Y51669 := EM.tr ha0 Xz51656 (Xy51672.mono (by decide))
    have e51677 := Xy51672.ref h51657 (by decide) e51665
    have h51678 := Xy51672.at h51657
    have h51679 := Xy51672.ar h51666
    refine g_aload_n C dX12_doubles_21 rfl 0 rfl ?_
    refine g_iload_n C dX12_doubles_22 rfl 1 rfl ?_
    refine g_iload_n C dX12_doubles_23 rfl 2 rfl ?_
    refine g_iload_n C dX12_doubles_24 rfl 3 rfl ?_
    refine g_aload_n C dX12_doubles_25 rfl 0 rfl ?_
    obtain ⟨b51680, e51681, h51682⟩ := Iy51671.fld (h51678) 20 13 20 rfl
    refine g_getR C fi_X12_69 rfl e51681 (h51678).1 (h51678).2 dX12_doubles_26 ?_
    refine g_iload_n C dX12_doubles_29 rfl 1 rfl ?_
    refine g_iald (j := (a1.toInt.toNat)) C h51682.1 h51682.2.1 (ix_in h51682.2.2 (by omega)) dX12_doubles_30 ?_
    have h51683 := Iy51671.arr e51681 rfl (a1.toInt.toNat)
    refine g_callVV (rest := []) C mv_X12_339 [.int a1, .int a2, .int a3, .int (pI Y51669 b51680 (a1.toInt.toNat))] (s_X12_gathers Iy51671 (by omega) (by omega) (by omega) (fun b9 e9 => by rw [e51677] at e9; cases e9; show 1 ≤ (pI Y51669 b51664 (a2.toInt.toNat)).toInt ∧ (pI Y51669 b51664 (a2.toInt.toNat)).toInt ≤ 16; omega) W51673) (h51678).1 (h51678).2 rfl rfl (by decide) (Nat.le_of_ble_eq_true rfl) (by decide) dX12_doubles_31 (fun Y51685 h51686 => ?_)
    obtain ⟨Iy51687, Xy51688, W51689, p51690⟩ := h51686
    have p51690 : (pI Y51685 a0 28).toInt ≤ 4 + (pI Y51669 b51680 (a1.toInt.toNat)).toInt := p51690
    have q51691 := Xy51688.keepF 0 (by decide)
    have q51692 := Xy51688.keepA e51677 (by decide) rfl (a2.toInt.toNat)
    have q51693 := Xy51688.keepA e51681 (by decide) rfl (a1.toInt.toNat)
    have Xz51694 : EM [0, 28, 29, 30, 31, 32, 35, 36, 37, 38] a0 P Y51685 := EM.tr ha0 Xz51676 (Xy51688.mono (by decide))
    have e51695 := Xy51688.ref h51678 (by decide) e51677
    have e51696 := Xy51688.ref h51678 (by decide) e51681
    have h51697 := Xy51688.at h51678
    have h51698 := Xy51688.ar h51679
    have h51699 := Xy51688.ar h51682
    have h51700 := Iy51687.rg h51697 28 rfl
    refine g_aload_n C dX12_doubles_34 rfl 0 rfl ?_
    refine g_callVV (rest := []) C mv_X12_346 [] (s_X12_findSolved Iy51687 W51689) (h51697).1 (h51697).2 rfl rfl (by decide) (Nat.le_of_ble_eq_true rfl) (by decide) dX12_doubles_35 (fun Y51702 h51703 => ?_)
    obtain ⟨Iy51704, Xy51705, W51706⟩ := h51703
    have q51707 := Xy51705.keepF 0 (by decide)
    have q51708 := Xy51705.keepA e51695 (by decide) rfl (a2.toInt.toNat)
    have q51709 := Xy51705.keepA e51696 (by decide) rfl (a1.toInt.toNat)
    have q51710 := Xy51705.keepF 28 (by decide)
    have Xz51711 : EM [0, 28, 29, 30, 31, 32, 35, 36, 37, 38] a0 P Y51702 := EM.tr ha0 Xz51694 (Xy51705.mono (by decide))
    have e51712 := Xy51705.ref h51697 (by decide) e51695
    have e51713 := Xy51705.ref h51697 (by decide) e51696
    have h51714 := Xy51705.at h51697
    have h51715 := Xy51705.ar h51698
    have h51716 := Xy51705.ar h51699
    refine g_aload_n C dX12_doubles_38 rfl 0 rfl ?_
    refine g_getI C fi_X12_324 (by decide) (h51714).1 (h51714).2 dX12_doubles_39 ?_
    refine g_topi (fun z51717 h51718 => ?_)
    have h51718 : z51717.toInt = (pI Y51702 a0 35).toInt := congrArg Int32.toInt h51718
    refine g_istore (lv' := [(4, .int z51717), (0, .ref a0), (1, .int a1), (2, .int a2), (3, .int a3)]) C dX12_doubles_42 (by decide) rfl ?_
    refine g_iconst (v := 0) C dX12_doubles_44 (by decide) ?_
    refine g_istore (lv' := [(5, .int 0), (4, .int z51717), (0, .ref a0), (1, .int a1), (2, .int a2), (3, .int a3)]) C dX12_doubles_45 (by decide) rfl ?_
    refine g_iconst (v := 0) C dX12_doubles_47 (by decide) ?_
    refine g_istore (lv' := [(6, .int 0), (5, .int 0), (4, .int z51717), (0, .ref a0), (1, .int a1), (2, .int a2), (3, .int a3)]) C dX12_doubles_48 (by decide) rfl ?_
    refine g_lv (lv' := [(0, .ref a0), (1, .int a1), (2, .int a2), (3, .int a3), (4, .int z51717), (5, .int 0), (6, .int 0)]) [3, 4, 5, 6, 2, 1, 0] rfl ?_
    exact J50 _ Y51702 z51717 0 0 (Nat.lt_succ_self _) Iy51704 Xz51711 W51706 (by omega) (by omega) (by omega) (by decide) (by omega) (by omega) (fun b9 e9 => by rw [e51712] at e9; cases e9; omega)
  · have h51663 : r51658.toInt = 0 := congrArg Int32.toInt h51663
    clear hi51661
    refine g_iconst (v := (-1)) C dX12_doubles_15 (by decide) ?_
    exact ret _ _ _ _ _ _ dX12_doubles_16 rfl (by decide) (by decide) ⟨Iy51652, Xz51656, W51655, trivial⟩
theorem s_X12_draw {P : PP} {a0 : Nat} {a1 : Int32} (I : IM P a0) (hW : MW P a0) : CtrI yX12_draw cX12_draw 3 (some .int) ({ frames := 7, cells := 0, slots := 0, locals := 448 } : Room) 0 0 P [.ref a0, .int a1] (fun r P2 => IM P2 a0 ∧ EM [0, 2, 3, 4, 5, 7, 8, 12, 13, 14, 15, 16, 17, 18, 26] a0 P P2 ∧ MW P2 a0 ∧ (True)) := by
  sorry
theorem dX12_drawn_0 : decode cX12_drawn 0 = .ok (.aload_n 0, 1) := by decide +kernel
theorem dX12_drawn_1 : decode cX12_drawn 1 = .ok (.aload_n 0, 1) := by decide +kernel
theorem dX12_drawn_2 : decode cX12_drawn 2 = .ok (.getfield 226, 3) := by decide +kernel
theorem dX12_drawn_5 : decode cX12_drawn 5 = .ok (.ldc2_w 230, 3) := by decide +kernel
theorem dX12_drawn_8 : decode cX12_drawn 8 = .ok (.lmul, 1) := by decide +kernel
theorem dX12_drawn_9 : decode cX12_drawn 9 = .ok (.ldc2_w 232, 3) := by decide +kernel
theorem dX12_drawn_12 : decode cX12_drawn 12 = .ok (.ladd, 1) := by decide +kernel
theorem dX12_drawn_13 : decode cX12_drawn 13 = .ok (.ldc2_w 234, 3) := by decide +kernel
theorem dX12_drawn_16 : decode cX12_drawn 16 = .ok (.lrem, 1) := by decide +kernel
theorem dX12_drawn_17 : decode cX12_drawn 17 = .ok (.putfield 226, 3) := by decide +kernel
theorem dX12_drawn_20 : decode cX12_drawn 20 = .ok (.aload_n 0, 1) := by decide +kernel
theorem dX12_drawn_21 : decode cX12_drawn 21 = .ok (.getfield 226, 3) := by decide +kernel
theorem dX12_drawn_24 : decode cX12_drawn 24 = .ok (.ldc2_w 236, 3) := by decide +kernel
theorem dX12_drawn_27 : decode cX12_drawn 27 = .ok (.ldiv, 1) := by decide +kernel
theorem dX12_drawn_28 : decode cX12_drawn 28 = .ok (.l2i, 1) := by decide +kernel
theorem dX12_drawn_29 : decode cX12_drawn 29 = .ok (.ireturn, 1) := by decide +kernel
set_option maxHeartbeats 4000000 in
set_option maxRecDepth 100000 in
theorem s_X12_drawn {P : PP} {a0 : Nat} (I : IM P a0) (hW : MW P a0) : CtrI yX12_drawn cX12_drawn 1 (some Jvm.ClassFile.FieldType.int) ({ frames := 1, cells := 0, slots := 0, locals := 64 } : Room) 0 0 P [.ref a0] (fun r P2 => IM P2 a0 ∧ EM [] a0 P P2 ∧ MW P2 a0 ∧ (True)) := by
  refine enI (lv := [(0, .ref a0)]) (by decide) (Nat.le_of_ble_eq_true rfl) rfl (fun E D cy C Ci0 ret => ?_)
  have ha0 := I.2.1
  refine g_aload_n C dX12_drawn_0 rfl 0 rfl ?_
  refine g_aload_n C dX12_drawn_1 rfl 0 rfl ?_
  refine g_getJ C fi_X12_226 rfl (ha0).1 (ha0).2 dX12_drawn_2 ?_
  refine g_topl (fun l51736 _ => ?_)
  refine g_ldc2 (v := 1103515245) C kl_X12_230 dX12_drawn_5 ?_
  refine g_topl (fun l51737 el51737 => ?_)
  have hz_l51737 : ¬ l51737 = 0 := by rw [el51737]; decide
  refine a_lmul C dX12_drawn_8 (fun l51738 => ?_)
  refine g_ldc2 (v := 12345) C kl_X12_232 dX12_drawn_9 ?_
  refine g_topl (fun l51739 el51739 => ?_)
  have hz_l51739 : ¬ l51739 = 0 := by rw [el51739]; decide
  refine a_ladd C dX12_drawn_12 (fun l51740 => ?_)
  refine g_ldc2 (v := 2147483648) C kl_X12_234 dX12_drawn_13 ?_
  refine g_topl (fun l51741 el51741 => ?_)
  have hz_l51741 : ¬ l51741 = 0 := by rw [el51741]; decide
  refine a_lrem C dX12_drawn_16 hz_l51741 (fun l51742 => ?_)
  refine g_putJ C fi_X12_226 rfl (ha0).1 (ha0).2 dX12_drawn_17 ?_
  refine gq (ks := []) (I.setJ) (EM.setJ) (fun Y51743 Iy51744 Xy51745 => ?_)
  have W51746 := hW.keep I Xy51745 (by decide) (by decide) (by decide)
  have Xz51747 : EM [] a0 P Y51743 := Xy51745.mono (by decide)
  have h51748 := Xy51745.at ha0
  refine g_aload_n C dX12_drawn_20 rfl 0 rfl ?_
  refine g_getJ C fi_X12_226 rfl (h51748).1 (h51748).2 dX12_drawn_21 ?_
  refine g_topl (fun l51749 _ => ?_)
  refine g_ldc2 (v := 65536) C kl_X12_236 dX12_drawn_24 ?_
  refine g_topl (fun l51750 el51750 => ?_)
  have hz_l51750 : ¬ l51750 = 0 := by rw [el51750]; decide
  refine a_ldiv C dX12_drawn_27 hz_l51750 (fun l51751 => ?_)
  refine a_l2i C dX12_drawn_28 (fun z51752 => ?_)
  exact ret _ _ _ _ _ _ dX12_drawn_29 rfl (by decide) (by decide) ⟨Iy51744, Xz51747, W51746, trivial⟩
theorem dX12_enough_0 : decode cX12_enough 0 = .ok (.aload_n 0, 1) := by decide +kernel
theorem dX12_enough_1 : decode cX12_enough 1 = .ok (.iconst 0, 1) := by decide +kernel
theorem dX12_enough_2 : decode cX12_enough 2 = .ok (.putfield 1, 3) := by decide +kernel
theorem dX12_enough_5 : decode cX12_enough 5 = .ok (.aload_n 0, 1) := by decide +kernel
theorem dX12_enough_6 : decode cX12_enough 6 = .ok (.iload_n 1, 1) := by decide +kernel
theorem dX12_enough_7 : decode cX12_enough 7 = .ok (.iload_n 2, 1) := by decide +kernel
theorem dX12_enough_8 : decode cX12_enough 8 = .ok (.iload_n 3, 1) := by decide +kernel
theorem dX12_enough_9 : decode cX12_enough 9 = .ok (.invokevirtual 377, 3) := by decide +kernel
theorem dX12_enough_12 : decode cX12_enough 12 = .ok (.ifCond .ne 5, 3) := by decide +kernel
theorem dX12_enough_15 : decode cX12_enough 15 = .ok (.iconst (-1), 1) := by decide +kernel
theorem dX12_enough_16 : decode cX12_enough 16 = .ok (.ireturn, 1) := by decide +kernel
theorem dX12_enough_17 : decode cX12_enough 17 = .ok (.aload_n 0, 1) := by decide +kernel
theorem dX12_enough_18 : decode cX12_enough 18 = .ok (.iload_n 1, 1) := by decide +kernel
theorem dX12_enough_19 : decode cX12_enough 19 = .ok (.iload_n 2, 1) := by decide +kernel
theorem dX12_enough_20 : decode cX12_enough 20 = .ok (.invokevirtual 380, 3) := by decide +kernel
theorem dX12_enough_23 : decode cX12_enough 23 = .ok (.iconst 0, 1) := by decide +kernel
theorem dX12_enough_24 : decode cX12_enough 24 = .ok (.istore 5, 2) := by decide +kernel
theorem dX12_enough_26 : decode cX12_enough 26 = .ok (.iload 5, 2) := by decide +kernel
theorem dX12_enough_28 : decode cX12_enough 28 = .ok (.iload_n 2, 1) := by decide +kernel
theorem dX12_enough_29 : decode cX12_enough 29 = .ok (.if_icmp .gt 55, 3) := by decide +kernel
theorem dX12_enough_32 : decode cX12_enough 32 = .ok (.aload_n 0, 1) := by decide +kernel
theorem dX12_enough_33 : decode cX12_enough 33 = .ok (.iload_n 1, 1) := by decide +kernel
theorem dX12_enough_34 : decode cX12_enough 34 = .ok (.iload_n 2, 1) := by decide +kernel
theorem dX12_enough_35 : decode cX12_enough 35 = .ok (.iload 5, 2) := by decide +kernel
theorem dX12_enough_37 : decode cX12_enough 37 = .ok (.iload_n 3, 1) := by decide +kernel
theorem dX12_enough_38 : decode cX12_enough 38 = .ok (.invokevirtual 383, 3) := by decide +kernel
theorem dX12_enough_41 : decode cX12_enough 41 = .ok (.istore 6, 2) := by decide +kernel
theorem dX12_enough_43 : decode cX12_enough 43 = .ok (.iload 4, 2) := by decide +kernel
theorem dX12_enough_45 : decode cX12_enough 45 = .ok (.ifCond .eq 19, 3) := by decide +kernel
theorem dX12_enough_48 : decode cX12_enough 48 = .ok (.iconst 2, 1) := by decide +kernel
theorem dX12_enough_49 : decode cX12_enough 49 = .ok (.iload 6, 2) := by decide +kernel
theorem dX12_enough_51 : decode cX12_enough 51 = .ok (.imul, 1) := by decide +kernel
theorem dX12_enough_52 : decode cX12_enough 52 = .ok (.iload_n 2, 1) := by decide +kernel
theorem dX12_enough_53 : decode cX12_enough 53 = .ok (.iload 5, 2) := by decide +kernel
theorem dX12_enough_55 : decode cX12_enough 55 = .ok (.invokestatic 387, 3) := by decide +kernel
theorem dX12_enough_58 : decode cX12_enough 58 = .ok (.if_icmp .lt 20, 3) := by decide +kernel
theorem dX12_enough_61 : decode cX12_enough 61 = .ok (.goto 14, 3) := by decide +kernel
theorem dX12_enough_64 : decode cX12_enough 64 = .ok (.iload 6, 2) := by decide +kernel
theorem dX12_enough_66 : decode cX12_enough 66 = .ok (.iload_n 2, 1) := by decide +kernel
theorem dX12_enough_67 : decode cX12_enough 67 = .ok (.iload 5, 2) := by decide +kernel
theorem dX12_enough_69 : decode cX12_enough 69 = .ok (.invokestatic 387, 3) := by decide +kernel
theorem dX12_enough_72 : decode cX12_enough 72 = .ok (.if_icmp .ne 6, 3) := by decide +kernel
theorem dX12_enough_75 : decode cX12_enough 75 = .ok (.iload 5, 2) := by decide +kernel
theorem dX12_enough_77 : decode cX12_enough 77 = .ok (.ireturn, 1) := by decide +kernel
theorem dX12_enough_78 : decode cX12_enough 78 = .ok (.iinc 5 1, 3) := by decide +kernel
theorem dX12_enough_81 : decode cX12_enough 81 = .ok (.goto (-55), 3) := by decide +kernel
theorem dX12_enough_84 : decode cX12_enough 84 = .ok (.iconst (-1), 1) := by decide +kernel
theorem dX12_enough_85 : decode cX12_enough 85 = .ok (.ireturn, 1) := by decide +kernel
set_option maxHeartbeats 4000000 in
set_option maxRecDepth 100000 in
theorem s_X12_enough {P : PP} {a0 : Nat} {a1 : Int32} {a2 : Int32} {a3 : Int32} {a4 : Int32} (I : IM P a0) (ha4 : 0 ≤ a4.toInt ∧ a4.toInt ≤ 1) (hW : MW P a0) : CtrI yX12_enough cX12_enough 7 (some Jvm.ClassFile.FieldType.int) ({ frames := 7, cells := 0, slots := 0, locals := 448 } : Room) 0 0 P [.ref a0, .int a1, .int a2, .int a3, .int a4] (fun r P2 => IM P2 a0 ∧ EM [0, 28, 29, 30, 31, 33, 34, 35, 36, 37, 38, 43] a0 P P2 ∧ MW P2 a0 ∧ (-1 ≤ r.toInt ∧ r.toInt ≤ 11)) := by
  refine enI (lv := [(0, .ref a0), (1, .int a1), (2, .int a2), (3, .int a3), (4, .int a4)]) (by decide) (Nat.le_of_ble_eq_true rfl) rfl (fun E D cy C Ci0 ret => ?_)
  have ha0 := I.2.1
  have J75 : ∀ (P75 : PP) (v75_5 : Int32), (IM P75 a0) → (EM [0, 28, 29, 30, 31, 33, 34, 35, 36, 37, 38, 43] a0 P P75) → (MW P75 a0) → (0 ≤ v75_5.toInt ∧ v75_5.toInt ≤ 11) → (0 ≤ (pI P75 a0 0).toInt ∧ (pI P75 a0 0).toInt ≤ 0) → (∀ b, pR P75 a0 10 = some b → 1 ≤ (pI P75 b (a1.toInt.toNat)).toInt ∧ (pI P75 b (a1.toInt.toNat)).toInt ≤ 16) → G E ({ frames := 7, cells := 0, slots := 0, locals := 448 } : Room) D cy 7 P75 0 0 75 [(5, .int v75_5)] [] := by
    intro P75 v75_5 I75 X75 W75 hv75_5 hq75_0 hq75_1
    have h52192 := X75.at ha0
    obtain ⟨b52193, e52194, h52195⟩ := I75.fld (h52192) 10 13 2 rfl
    have hq75_1 := hq75_1 b52193 e52194
    refine g_iload C dX12_enough_75 0 rfl ?_
    exact ret _ _ _ _ _ _ dX12_enough_77 rfl (by decide) (by decide) ⟨I75, X75, W75, (by omega)⟩
  have J26 : ∀ (n26 : Nat) (P26 : PP) (v26_5 : Int32), (12 - v26_5.toInt).toNat < n26 → (IM P26 a0) → (EM [0, 28, 29, 30, 31, 33, 34, 35, 36, 37, 38, 43] a0 P P26) → (MW P26 a0) → (0 ≤ a1.toInt ∧ a1.toInt ≤ 1) → (1 ≤ a2.toInt ∧ a2.toInt ≤ 11) → (0 ≤ a3.toInt ∧ a3.toInt ≤ 1) → (0 ≤ v26_5.toInt ∧ v26_5.toInt ≤ 12) → (0 ≤ (pI P26 a0 0).toInt ∧ (pI P26 a0 0).toInt ≤ 0) → (∀ b, pR P26 a0 10 = some b → 1 ≤ (pI P26 b (a1.toInt.toNat)).toInt ∧ (pI P26 b (a1.toInt.toNat)).toInt ≤ 16) → G E ({ frames := 7, cells := 0, slots := 0, locals := 448 } : Room) D cy 7 P26 0 0 26 [(0, .ref a0), (1, .int a1), (2, .int a2), (3, .int a3), (4, .int a4), (5, .int v26_5)] [] := by
    intro n26
    induction n26 with
    | zero => intro P26 v26_5 hm26 I26 X26 W26 hv26_1 hv26_2 hv26_3 hv26_5 hq26_0 hq26_1; omega
    | succ n26 ih26 =>
      intro P26 v26_5 hm26 I26 X26 W26 hv26_1 hv26_2 hv26_3 hv26_5 hq26_0 hq26_1
      have h52196 := X26.at ha0
      obtain ⟨b52197, e52198, h52199⟩ := I26.fld (h52196) 10 13 2 rfl
      have hq26_1 := hq26_1 b52197 e52198
      have J78 : ∀ (P78 : PP), (IM P78 a0) → (EM [0, 28, 29, 30, 31, 33, 34, 35, 36, 37, 38, 43] a0 P P78) → (MW P78 a0) → (0 ≤ a1.toInt ∧ a1.toInt ≤ 1) → (1 ≤ a2.toInt ∧ a2.toInt ≤ 11) → (0 ≤ a3.toInt ∧ a3.toInt ≤ 1) → (0 ≤ v26_5.toInt ∧ v26_5.toInt ≤ 11) → (0 ≤ (pI P78 a0 0).toInt ∧ (pI P78 a0 0).toInt ≤ 0) → (∀ b, pR P78 a0 10 = some b → 1 ≤ (pI P78 b (a1.toInt.toNat)).toInt ∧ (pI P78 b (a1.toInt.toNat)).toInt ≤ 16) → G E ({ frames := 7, cells := 0, slots := 0, locals := 448 } : Room) D cy 7 P78 0 0 78 [(0, .ref a0), (1, .int a1), (2, .int a2), (3, .int a3), (4, .int a4), (5, .int v26_5)] [] := by
        intro P78 I78 X78 W78 hv78_1 hv78_2 hv78_3 hv78_5 hq78_0 hq78_1
        have h52200 := X78.at ha0
        obtain ⟨b52201, e52202, h52203⟩ := I78.fld (h52200) 10 13 2 rfl
        have hq78_1 := hq78_1 b52201 e52202
        refine s_iinc (lv0 := [(0, .ref a0), (1, .int a1), (2, .int a2), (3, .int a3), (4, .int a4)]) (m := 1) C dX12_enough_78 5 rfl (by decide) rfl (by decide) (by omega) (fun z52204 h52205 => ?_)
        have h52205 : z52204.toInt = v26_5.toInt + 1 := h52205
        refine g_goto C 26 dX12_enough_81 (by decide) ?_
        refine g_lv (lv' := [(0, .ref a0), (1, .int a1), (2, .int a2), (3, .int a3), (4, .int a4), (5, .int z52204)]) [1, 2, 3, 4, 5, 0] rfl ?_
        exact ih26 P78 z52204 (by omega) I78 X78 W78 (by omega) (by omega) (by omega) (by omega) (by omega) (fun b9 e9 => by rw [e52202] at e9; cases e9; omega)
      refine g_iload C dX12_enough_26 5 rfl ?_
      refine g_iload_n C dX12_enough_28 rfl 2 rfl ?_
      refine b_icmp_gt C 84 dX12_enough_29 (by decide) (fun h52206 => ?_) (fun h52206 => ?_)
      · have h52206 : a2.toInt < v26_5.toInt := h52206
        refine g_iconst (v := (-1)) C dX12_enough_84 (by decide) ?_
        exact ret _ _ _ _ _ _ dX12_enough_85 rfl (by decide) (by decide) ⟨I26, X26, W26, (by decide)⟩
      · have h52206 : v26_5.toInt ≤ a2.toInt := h52206
        refine g_aload_n C dX12_enough_32 rfl 0 rfl ?_
        refine g_iload_n C dX12_enough_33 rfl 1 rfl ?_
        refine g_iload_n C dX12_enough_34 rfl 2 rfl ?_
        refine g_iload C dX12_enough_35 5 rfl ?_
        refine g_iload_n C dX12_enough_37 rfl 3 rfl ?_
        refine g_callVI (rest := []) C mv_X12_383 [.int a1, .int a2, .int v26_5, .int a3] (s_X12_chancesOf I26 (by omega) (by omega) (fun b9 e9 => by rw [e52198] at e9; cases e9; show 1 ≤ (pI P26 b52197 (a1.toInt.toNat)).toInt ∧ (pI P26 b52197 (a1.toInt.toNat)).toInt ≤ 16; omega) W26) (h52196).1 (h52196).2 rfl rfl (by decide) (Nat.le_of_ble_eq_true rfl) (by decide) dX12_enough_38 (fun r52207 Y52208 h52209 => ?_)
        obtain ⟨Iy52210, Xy52211, W52212, h52209⟩ := h52209
        have q52213 := Xy52211.keepF 0 (by decide)
        have q52214 := Xy52211.keepA e52198 (by decide) rfl (a1.toInt.toNat)
        have Xz52215 : EM [0, 28, 29, 30, 31, 33, 34, 35, 36, 37, 38, 43] a0 P Y52208 := EM.tr ha0 X26 (Xy52211.mono (by decide))
        have e52216 := Xy52211.ref h52196 (by decide) e52198
        have h52217 := Xy52211.at h52196
        have h52218 := Xy52211.ar h52199
        have h52209 : True := h52209
        refine g_istore (lv' := [(6, .int r52207), (0, .ref a0), (1, .int a1), (2, .int a2), (3, .int a3), (4, .int a4), (5, .int v26_5)]) C dX12_enough_41 (by decide) rfl ?_
        refine g_iload C dX12_enough_43 5 rfl ?_
        refine b_if_eq C 64 dX12_enough_45 (by decide) (fun h52219 => ?_) (fun h52219 => ?_)
        · have h52219 : a4.toInt = 0 := congrArg Int32.toInt h52219
          refine g_iload C dX12_enough_64 0 rfl ?_
          refine g_iload_n C dX12_enough_66 rfl 3 rfl ?_
          refine g_iload C dX12_enough_67 6 rfl ?_
          refine g_callSI (b := 0) (ci := 0) (rest := [.int r52207]) C ms_X12_387 [.int a2, .int v26_5] (s_X12_choices Iy52210.1 (by omega) (by omega)) rfl rfl (by decide) (Nat.le_of_ble_eq_true rfl) (by decide) dX12_enough_69 (fun r52220 Y52221 h52222 => ?_)
          obtain ⟨rfl, h52222⟩ := h52222
          have h52222 : True := h52222
          have u52224 := ti_rng r52207
          have u52225 := ti_rng r52220
          refine b_icmp_ne C 78 dX12_enough_72 (by decide) (fun h52223 => ?_) (fun h52223 => ?_)
          · have h52223 : r52207.toInt ≠ r52220.toInt := ti_ne h52223
            refine g_lv (lv' := [(0, .ref a0), (1, .int a1), (2, .int a2), (3, .int a3), (4, .int a4), (5, .int v26_5)]) [1, 2, 3, 4, 5, 6] rfl ?_
            exact J78 Y52208 Iy52210 Xz52215 W52212 (by omega) (by omega) (by omega) (by omega) (by omega) (fun b9 e9 => by rw [e52216] at e9; cases e9; omega)
          · have h52223 : r52207.toInt = r52220.toInt := congrArg Int32.toInt h52223
            refine g_lv (lv' := [(5, .int v26_5)]) [6] rfl ?_
            exact J75 Y52208 v26_5 Iy52210 Xz52215 W52212 (by omega) (by omega) (fun b9 e9 => by rw [e52216] at e9; cases e9; omega)
        · have h52219 : a4.toInt ≠ 0 := ti_ne h52219
          refine g_iconst (v := 2) C dX12_enough_48 (by decide) ?_
          refine g_iload C dX12_enough_49 0 rfl ?_
          refine a_imul C dX12_enough_51 (fun z52226 => ?_)
          refine g_iload_n C dX12_enough_52 rfl 3 rfl ?_
          refine g_iload C dX12_enough_53 6 rfl ?_
          refine g_callSI (b := 0) (ci := 0) (rest := [.int z52226]) C ms_X12_387 [.int a2, .int v26_5] (s_X12_choices Iy52210.1 (by omega) (by omega)) rfl rfl (by decide) (Nat.le_of_ble_eq_true rfl) (by decide) dX12_enough_55 (fun r52228 Y52229 h52230 => ?_)
          obtain ⟨rfl, h52230⟩ := h52230
          have h52230 : True := h52230
          have u52232 := ti_rng z52226
          have u52233 := ti_rng r52228
          refine b_icmp_lt C 78 dX12_enough_58 (by decide) (fun h52231 => ?_) (fun h52231 => ?_)
          · have h52231 : z52226.toInt < r52228.toInt := h52231
            refine g_lv (lv' := [(0, .ref a0), (1, .int a1), (2, .int a2), (3, .int a3), (4, .int a4), (5, .int v26_5)]) [1, 2, 3, 4, 5, 6] rfl ?_
            exact J78 Y52208 Iy52210 Xz52215 W52212 (by omega) (by omega) (by omega) (by omega) (by omega) (fun b9 e9 => by rw [e52216] at e9; cases e9; omega)
          · have h52231 : r52228.toInt ≤ z52226.toInt := h52231
            refine g_goto C 75 dX12_enough_61 (by decide) ?_
            refine g_lv (lv' := [(5, .int v26_5)]) [6] rfl ?_
            exact J75 Y52208 v26_5 Iy52210 Xz52215 W52212 (by omega) (by omega) (fun b9 e9 => by rw [e52216] at e9; cases e9; omega)
  refine g_aload_n C dX12_enough_0 rfl 0 rfl ?_
  refine g_iconst (v := 0) C dX12_enough_1 (by decide) ?_
  refine g_putI C fi_X12_1 rfl (ha0).1 (ha0).2 dX12_enough_2 ?_
  refine gqW (ks := [0]) (I.setI (rgOk.of rfl (by decide))) (EM.setI I (by decide)) (fun Y52234 Iy52235 Xy52236 w52237 => ?_)
  have w52237 : (pI Y52234 a0 0).toInt = 0 := w52237
  have W52238 := hW.keep I Xy52236 (by decide) (by decide) (by decide)
  have Xz52239 : EM [0, 28, 29, 30, 31, 33, 34, 35, 36, 37, 38, 43] a0 P Y52234 := Xy52236.mono (by decide)
  have h52240 := Xy52236.at ha0
  refine g_aload_n C dX12_enough_5 rfl 0 rfl ?_
  refine g_iload_n C dX12_enough_6 rfl 1 rfl ?_
  refine g_iload_n C dX12_enough_7 rfl 2 rfl ?_
  refine g_iload_n C dX12_enough_8 rfl 3 rfl ?_
  refine g_callVI (rest := []) C mv_X12_377 [.int a1, .int a2, .int a3] (s_X12_areChances Iy52235 W52238) (h52240).1 (h52240).2 rfl rfl (by decide) (Nat.le_of_ble_eq_true rfl) (by decide) dX12_enough_9 (fun r52241 Y52242 h52243 => ?_)
  obtain ⟨rfl, h52243⟩ := h52243
  obtain ⟨h52243, hi52244, hi52245⟩ := h52243
  have hi52244 : r52241.toInt = 0 ∨ (((0 : Int) ≤ a1.toInt ∧ a1.toInt ≤ (1 : Int)) ∧ ((1 : Int) ≤ a2.toInt ∧ a2.toInt ≤ (11 : Int)) ∧ ((0 : Int) ≤ a3.toInt ∧ a3.toInt ≤ (1 : Int))) := hi52244
  have h52243 : 0 ≤ r52241.toInt ∧ r52241.toInt ≤ 1 := h52243
  refine b_if_ne C 17 dX12_enough_12 (by decide) (fun h52246 => ?_) (fun h52246 => ?_)
  · have h52246 : r52241.toInt ≠ 0 := ti_ne h52246
    replace hi52244 := hi52244.resolve_left (by omega)
    obtain ⟨b52247, e52248, h52249⟩ := Iy52235.fld (h52240) 10 13 2 rfl
    have hi52245 := (hi52245.resolve_left (by omega)) b52247 e52248
    have hi52245 : 0 < (pI Y52234 b52247 (a1.toInt.toNat)).toInt := hi52245
    have h52250 := Iy52235.arr e52248 rfl (a1.toInt.toNat)
    refine g_aload_n C dX12_enough_17 rfl 0 rfl ?_
    refine g_iload_n C dX12_enough_18 rfl 1 rfl ?_
    refine g_iload_n C dX12_enough_19 rfl 2 rfl ?_
    refine g_callVV (rest := []) C mv_X12_380 [.int a1, .int a2] (s_X12_keepsSets Iy52235 (by omega) (by omega) (fun b9 e9 => by rw [e52248] at e9; cases e9; show 1 ≤ (pI Y52234 b52247 (a1.toInt.toNat)).toInt ∧ (pI Y52234 b52247 (a1.toInt.toNat)).toInt ≤ 16; omega) W52238) (h52240).1 (h52240).2 rfl rfl (by decide) (Nat.le_of_ble_eq_true rfl) (by decide) dX12_enough_20 (fun Y52252 h52253 => ?_)
    obtain ⟨Iy52254, Xy52255, W52256⟩ := h52253
    have q52257 := Xy52255.keepF 0 (by decide)
    have q52258 := Xy52255.keepA e52248 (by decide) rfl (a1.toInt.toNat)
    have Xz52259 : EM [0, 28, 29, 30, 31, 33, 34, 35, 36, 37, 38, 43] a0 P Y52252 := EM.tr ha0 Xz52239 (Xy52255.mono (by decide))
    have e52260 := Xy52255.ref h52240 (by decide) e52248
    have h52261 := Xy52255.at h52240
    have h52262 := Xy52255.ar h52249
    refine g_iconst (v := 0) C dX12_enough_23 (by decide) ?_
    refine g_istore (lv' := [(5, .int 0), (0, .ref a0), (1, .int a1), (2, .int a2), (3, .int a3), (4, .int a4)]) C dX12_enough_24 (by decide) rfl ?_
    refine g_lv (lv' := [(0, .ref a0), (1, .int a1), (2, .int a2), (3, .int a3), (4, .int a4), (5, .int 0)]) [1, 2, 3, 4, 5, 0] rfl ?_
    exact J26 _ Y52252 0 (Nat.lt_succ_self _) Iy52254 Xz52259 W52256 (by omega) (by omega) (by omega) (by decide) (by omega) (fun b9 e9 => by rw [e52260] at e9; cases e9; omega)
  · have h52246 : r52241.toInt = 0 := congrArg Int32.toInt h52246
    clear hi52244
    refine g_iconst (v := (-1)) C dX12_enough_15 (by decide) ?_
    exact ret _ _ _ _ _ _ dX12_enough_16 rfl (by decide) (by decide) ⟨Iy52235, Xz52239, W52238, (by decide)⟩
theorem dX12_falls_0 : decode cX12_falls 0 = .ok (.iload_n 3, 1) := by decide +kernel
theorem dX12_falls_1 : decode cX12_falls 1 = .ok (.bipush 37, 2) := by decide +kernel
theorem dX12_falls_3 : decode cX12_falls 3 = .ok (.imul, 1) := by decide +kernel
theorem dX12_falls_4 : decode cX12_falls 4 = .ok (.bipush 11, 2) := by decide +kernel
theorem dX12_falls_6 : decode cX12_falls 6 = .ok (.iload_n 2, 1) := by decide +kernel
theorem dX12_falls_7 : decode cX12_falls 7 = .ok (.imul, 1) := by decide +kernel
theorem dX12_falls_8 : decode cX12_falls 8 = .ok (.iadd, 1) := by decide +kernel
theorem dX12_falls_9 : decode cX12_falls 9 = .ok (.bipush 101, 2) := by decide +kernel
theorem dX12_falls_11 : decode cX12_falls 11 = .ok (.iload_n 1, 1) := by decide +kernel
theorem dX12_falls_12 : decode cX12_falls 12 = .ok (.imul, 1) := by decide +kernel
theorem dX12_falls_13 : decode cX12_falls 13 = .ok (.iadd, 1) := by decide +kernel
theorem dX12_falls_14 : decode cX12_falls 14 = .ok (.bipush 13, 2) := by decide +kernel
theorem dX12_falls_16 : decode cX12_falls 16 = .ok (.iadd, 1) := by decide +kernel
theorem dX12_falls_17 : decode cX12_falls 17 = .ok (.bipush 7, 2) := by decide +kernel
theorem dX12_falls_19 : decode cX12_falls 19 = .ok (.imul, 1) := by decide +kernel
theorem dX12_falls_20 : decode cX12_falls 20 = .ok (.bipush 100, 2) := by decide +kernel
theorem dX12_falls_22 : decode cX12_falls 22 = .ok (.irem, 1) := by decide +kernel
theorem dX12_falls_23 : decode cX12_falls 23 = .ok (.aload_n 0, 1) := by decide +kernel
theorem dX12_falls_24 : decode cX12_falls 24 = .ok (.getfield 127, 3) := by decide +kernel
theorem dX12_falls_27 : decode cX12_falls 27 = .ok (.iload_n 1, 1) := by decide +kernel
theorem dX12_falls_28 : decode cX12_falls 28 = .ok (.iaload, 1) := by decide +kernel
theorem dX12_falls_29 : decode cX12_falls 29 = .ok (.if_icmp .lt 7, 3) := by decide +kernel
theorem dX12_falls_32 : decode cX12_falls 32 = .ok (.iconst 1, 1) := by decide +kernel
theorem dX12_falls_33 : decode cX12_falls 33 = .ok (.goto 4, 3) := by decide +kernel
theorem dX12_falls_36 : decode cX12_falls 36 = .ok (.iconst 0, 1) := by decide +kernel
theorem dX12_falls_37 : decode cX12_falls 37 = .ok (.ireturn, 1) := by decide +kernel
set_option maxHeartbeats 4000000 in
set_option maxRecDepth 100000 in
theorem s_X12_falls {P : PP} {a0 : Nat} {a1 : Int32} {a2 : Int32} {a3 : Int32} (I : IM P a0) (ha1 : 0 ≤ a1.toInt ∧ a1.toInt ≤ 3) (hW : MW P a0) : CtrI yX12_falls cX12_falls 4 (some Jvm.ClassFile.FieldType.boolean) ({ frames := 1, cells := 0, slots := 0, locals := 64 } : Room) 0 0 P [.ref a0, .int a1, .int a2, .int a3] (fun r P2 => P = P2 ∧ (0 ≤ r.toInt ∧ r.toInt ≤ 1)) := by
  refine enI (lv := [(0, .ref a0), (1, .int a1), (2, .int a2), (3, .int a3)]) (by decide) (Nat.le_of_ble_eq_true rfl) rfl (fun E D cy C Ci0 ret => ?_)
  have ha0 := I.2.1
  refine g_iload_n C dX12_falls_0 rfl 3 rfl ?_
  refine g_bipush (v := 37) C dX12_falls_1 (by decide) ?_
  refine a_imul C dX12_falls_3 (fun z52285 => ?_)
  refine g_bipush (v := 11) C dX12_falls_4 (by decide) ?_
  refine g_iload_n C dX12_falls_6 rfl 2 rfl ?_
  refine a_imul C dX12_falls_7 (fun z52287 => ?_)
  refine a_iadd C dX12_falls_8 (fun z52289 => ?_)
  refine g_bipush (v := 101) C dX12_falls_9 (by decide) ?_
  refine g_iload_n C dX12_falls_11 rfl 1 rfl ?_
  refine s_imul C dX12_falls_12 (by show -2147483648 ≤ 101 * a1.toInt ∧ 101 * a1.toInt ≤ 2147483647; omega) (fun z52291 h52292 => ?_)
  have h52292 : z52291.toInt = 101 * a1.toInt := h52292
  refine a_iadd C dX12_falls_13 (fun z52293 => ?_)
  refine g_bipush (v := 13) C dX12_falls_14 (by decide) ?_
  refine a_iadd C dX12_falls_16 (fun z52295 => ?_)
  refine g_bipush (v := 7) C dX12_falls_17 (by decide) ?_
  refine a_imul C dX12_falls_19 (fun z52297 => ?_)
  refine g_bipush (v := 100) C dX12_falls_20 (by decide) ?_
  refine a_irem C dX12_falls_22 (by show 100 ≠ 0; omega) (fun z52299 => ?_)
  refine g_aload_n C dX12_falls_23 rfl 0 rfl ?_
  obtain ⟨b52301, e52302, h52303⟩ := I.fld (ha0) 45 13 4 rfl
  refine g_getR C fi_X12_127 rfl e52302 (ha0).1 (ha0).2 dX12_falls_24 ?_
  refine g_iload_n C dX12_falls_27 rfl 1 rfl ?_
  refine g_iald (j := (a1.toInt.toNat)) C h52303.1 h52303.2.1 (ix_in h52303.2.2 (by omega)) dX12_falls_28 ?_
  have u52305 := ti_rng z52299
  have u52306 := ti_rng (pI P b52301 (a1.toInt.toNat))
  refine b_icmp_lt C 36 dX12_falls_29 (by decide) (fun h52304 => ?_) (fun h52304 => ?_)
  · have h52304 : z52299.toInt < (pI P b52301 (a1.toInt.toNat)).toInt := h52304
    refine g_iconst (v := 0) C dX12_falls_36 (by decide) ?_
    exact ret _ _ _ _ _ _ dX12_falls_37 rfl (by decide) (by decide) ⟨rfl, (by decide)⟩
  · have h52304 : (pI P b52301 (a1.toInt.toNat)).toInt ≤ z52299.toInt := h52304
    refine g_iconst (v := 1) C dX12_falls_32 (by decide) ?_
    refine g_goto C 37 dX12_falls_33 (by decide) ?_
    exact ret _ _ _ _ _ _ dX12_falls_37 rfl (by decide) (by decide) ⟨rfl, (by decide)⟩
theorem dX12_feed_0 : decode cX12_feed 0 = .ok (.aload_n 0, 1) := by decide +kernel
theorem dX12_feed_1 : decode cX12_feed 1 = .ok (.iconst 0, 1) := by decide +kernel
theorem dX12_feed_2 : decode cX12_feed 2 = .ok (.putfield 1, 3) := by decide +kernel
theorem dX12_feed_5 : decode cX12_feed 5 = .ok (.aload_n 0, 1) := by decide +kernel
theorem dX12_feed_6 : decode cX12_feed 6 = .ok (.lload_n 1, 1) := by decide +kernel
theorem dX12_feed_7 : decode cX12_feed 7 = .ok (.invokevirtual 7, 3) := by decide +kernel
theorem dX12_lay_0 : decode cX12_lay 0 = .ok (.bipush 56, 2) := by decide +kernel
theorem dX12_lay_2 : decode cX12_lay 2 = .ok (.istore_n 3, 1) := by decide +kernel
theorem dX12_lay_3 : decode cX12_lay 3 = .ok (.iload_n 3, 1) := by decide +kernel
theorem dX12_lay_4 : decode cX12_lay 4 = .ok (.ifCond .lt 71, 3) := by decide +kernel
theorem dX12_lay_7 : decode cX12_lay 7 = .ok (.lload_n 1, 1) := by decide +kernel
theorem dX12_lay_8 : decode cX12_lay 8 = .ok (.iload_n 3, 1) := by decide +kernel
theorem dX12_lay_9 : decode cX12_lay 9 = .ok (.lshr, 1) := by decide +kernel
theorem dX12_lay_10 : decode cX12_lay 10 = .ok (.l2i, 1) := by decide +kernel
theorem dX12_lay_11 : decode cX12_lay 11 = .ok (.sipush 255, 3) := by decide +kernel
theorem dX12_lay_14 : decode cX12_lay 14 = .ok (.iand, 1) := by decide +kernel
theorem dX12_lay_15 : decode cX12_lay 15 = .ok (.istore 4, 2) := by decide +kernel
theorem dX12_lay_17 : decode cX12_lay 17 = .ok (.iload 4, 2) := by decide +kernel
theorem dX12_lay_19 : decode cX12_lay 19 = .ok (.bipush 10, 2) := by decide +kernel
theorem dX12_lay_21 : decode cX12_lay 21 = .ok (.if_icmp .eq 17, 3) := by decide +kernel
theorem dX12_lay_24 : decode cX12_lay 24 = .ok (.iload 4, 2) := by decide +kernel
theorem dX12_lay_26 : decode cX12_lay 26 = .ok (.bipush 32, 2) := by decide +kernel
theorem dX12_lay_28 : decode cX12_lay 28 = .ok (.if_icmp .lt 41, 3) := by decide +kernel
theorem dX12_lay_31 : decode cX12_lay 31 = .ok (.iload 4, 2) := by decide +kernel
theorem dX12_lay_33 : decode cX12_lay 33 = .ok (.bipush 126, 2) := by decide +kernel
theorem dX12_lay_35 : decode cX12_lay 35 = .ok (.if_icmp .gt 34, 3) := by decide +kernel
theorem dX12_lay_38 : decode cX12_lay 38 = .ok (.aload_n 0, 1) := by decide +kernel
theorem dX12_lay_39 : decode cX12_lay 39 = .ok (.getfield 11, 3) := by decide +kernel
theorem dX12_lay_42 : decode cX12_lay 42 = .ok (.sipush 1000, 3) := by decide +kernel
theorem dX12_lay_45 : decode cX12_lay 45 = .ok (.if_icmp .ge 24, 3) := by decide +kernel
theorem dX12_lay_48 : decode cX12_lay 48 = .ok (.aload_n 0, 1) := by decide +kernel
theorem dX12_lay_49 : decode cX12_lay 49 = .ok (.getfield 14, 3) := by decide +kernel
theorem dX12_lay_52 : decode cX12_lay 52 = .ok (.aload_n 0, 1) := by decide +kernel
theorem dX12_lay_53 : decode cX12_lay 53 = .ok (.getfield 11, 3) := by decide +kernel
theorem dX12_lay_56 : decode cX12_lay 56 = .ok (.iload 4, 2) := by decide +kernel
theorem dX12_lay_58 : decode cX12_lay 58 = .ok (.iastore, 1) := by decide +kernel
theorem dX12_lay_59 : decode cX12_lay 59 = .ok (.aload_n 0, 1) := by decide +kernel
theorem dX12_lay_60 : decode cX12_lay 60 = .ok (.dup, 1) := by decide +kernel
theorem dX12_lay_61 : decode cX12_lay 61 = .ok (.getfield 11, 3) := by decide +kernel
theorem dX12_lay_64 : decode cX12_lay 64 = .ok (.iconst 1, 1) := by decide +kernel
theorem dX12_lay_65 : decode cX12_lay 65 = .ok (.iadd, 1) := by decide +kernel
theorem dX12_lay_66 : decode cX12_lay 66 = .ok (.putfield 11, 3) := by decide +kernel
theorem dX12_lay_69 : decode cX12_lay 69 = .ok (.iinc 3 (-8), 3) := by decide +kernel
theorem dX12_lay_72 : decode cX12_lay 72 = .ok (.goto (-69), 3) := by decide +kernel
theorem dX12_lay_75 : decode cX12_lay 75 = .ok (.return_, 1) := by decide +kernel
set_option maxHeartbeats 4000000 in
set_option maxRecDepth 100000 in
theorem s_X12_lay {P : PP} {a0 : Nat} {a1 : Int64} (I : IM P a0) (hW : MW P a0) : CtrV yX12_lay cX12_lay 5 none ({ frames := 1, cells := 0, slots := 0, locals := 64 } : Room) 0 0 P [.ref a0, .long a1] (fun P2 => IM P2 a0 ∧ EM [1, 2] a0 P P2 ∧ MW P2 a0) := by
  refine enV (lv := [(0, .ref a0), (1, .long a1)]) (by decide) (Nat.le_of_ble_eq_true rfl) rfl (fun E D cy C Ci0 ret => ?_)
  have ha0 := I.2.1
  have J3 : ∀ (n3 : Nat) (P3 : PP) (v3_3 : Int32), (v3_3.toInt - (-8)).toNat < n3 → (IM P3 a0) → (EM [1, 2] a0 P P3) → (MW P3 a0) → (-8 ≤ v3_3.toInt ∧ v3_3.toInt ≤ 56) → G E ({ frames := 1, cells := 0, slots := 0, locals := 64 } : Room) D cy 5 P3 0 0 3 [(0, .ref a0), (1, .long a1), (3, .int v3_3)] [] := by
    intro n3
    induction n3 with
    | zero => intro P3 v3_3 hm3 I3 X3 W3 hv3_3; omega
    | succ n3 ih3 =>
      intro P3 v3_3 hm3 I3 X3 W3 hv3_3
      have h52557 := X3.at ha0
      have J69 : ∀ (P69 : PP), (IM P69 a0) → (EM [1, 2] a0 P P69) → (MW P69 a0) → (0 ≤ v3_3.toInt ∧ v3_3.toInt ≤ 56) → G E ({ frames := 1, cells := 0, slots := 0, locals := 64 } : Room) D cy 5 P69 0 0 69 [(0, .ref a0), (1, .long a1), (3, .int v3_3)] [] := by
        intro P69 I69 X69 W69 hv69_3
        have h52558 := X69.at ha0
        refine s_iinc (lv0 := [(0, .ref a0), (1, .long a1)]) (m := -8) C dX12_lay_69 2 rfl (by decide) rfl (by decide) (by omega) (fun z52559 h52560 => ?_)
        have h52560 : z52559.toInt = v3_3.toInt + (-8) := h52560
        refine g_goto C 3 dX12_lay_72 (by decide) ?_
        refine g_lv (lv' := [(0, .ref a0), (1, .long a1), (3, .int z52559)]) [1, 2, 0] rfl ?_
        exact ih3 P69 z52559 (by omega) I69 X69 W69 (by omega)
      have J38 : ∀ (v38_4 : Int32), (0 ≤ v3_3.toInt ∧ v3_3.toInt ≤ 56) → (10 ≤ v38_4.toInt ∧ v38_4.toInt ≤ 126) → G E ({ frames := 1, cells := 0, slots := 0, locals := 64 } : Room) D cy 5 P3 0 0 38 [(0, .ref a0), (1, .long a1), (3, .int v3_3), (4, .int v38_4)] [] := by
        intro v38_4 hv38_3 hv38_4
        have h52561 := X3.at ha0
        refine g_aload_n C dX12_lay_38 rfl 0 rfl ?_
        refine g_getI C fi_X12_11 (by decide) (h52561).1 (h52561).2 dX12_lay_39 ?_
        have h52562 := I3.rg (h52561) 2 rfl
        refine g_sipush (v := 1000) C dX12_lay_42 (by decide) ?_
        refine b_icmp_ge C 69 dX12_lay_45 (by decide) (fun h52563 => ?_) (fun h52563 => ?_)
        · have h52563 : 1000 ≤ (pI P3 a0 2).toInt := h52563
          refine g_lv (lv' := [(0, .ref a0), (1, .long a1), (3, .int v3_3)]) [0, 1, 2] rfl ?_
          exact J69 P3 I3 X3 W3 (by omega)
        · have h52563 : (pI P3 a0 2).toInt < 1000 := h52563
          refine g_aload_n C dX12_lay_48 rfl 0 rfl ?_
          obtain ⟨b52564, e52565, h52566⟩ := I3.fld (h52561) 1 13 1000 rfl
          refine g_getR C fi_X12_14 rfl e52565 (h52561).1 (h52561).2 dX12_lay_49 ?_
          refine g_aload_n C dX12_lay_52 rfl 0 rfl ?_
          refine g_getI C fi_X12_11 (by decide) (h52561).1 (h52561).2 dX12_lay_53 ?_
          refine g_iload C dX12_lay_56 3 rfl ?_
          refine g_iast (j := ((pI P3 a0 2).toInt.toNat)) C h52566.1 h52566.2.1 (ix_in h52566.2.2 (by omega)) dX12_lay_58 ?_
          refine gqW (ks := [1]) (I3.setA e52565 h52566 (by decide) (arOk.none rfl)) (EM.setA I3 e52565 rfl (by decide)) (fun Y52567 Iy52568 Xy52569 w52570 => ?_)
          have w52570 : (pI Y52567 b52564 ((pI P3 a0 2).toInt.toNat)).toInt = v38_4.toInt := w52570
          have q52571 := Xy52569.keepF 2 (by decide)
          have W52572 := W3.keep I3 Xy52569 (by decide) (by decide) (by decide)
          have Xz52573 : EM [1, 2] a0 P Y52567 := EM.tr ha0 X3 (Xy52569.mono (by decide))
          have h52574 := Xy52569.at h52561
          refine g_aload_n C dX12_lay_59 rfl 0 rfl ?_
          refine g_dup C dX12_lay_60 rfl ?_
          refine g_getI C fi_X12_11 (by decide) (h52574).1 (h52574).2 dX12_lay_61 ?_
          refine g_iconst (v := 1) C dX12_lay_64 (by decide) ?_
          refine s_iadd C dX12_lay_65 (by show -2147483648 ≤ (pI Y52567 a0 2).toInt + 1 ∧ (pI Y52567 a0 2).toInt + 1 ≤ 2147483647; omega) (fun z52575 h52576 => ?_)
          have h52576 : z52575.toInt = (pI Y52567 a0 2).toInt + 1 := h52576
          refine g_putI C fi_X12_11 rfl (h52574).1 (h52574).2 dX12_lay_66 ?_
          refine gqW (ks := [2]) (Iy52568.setI (rgOk.of rfl (by omega))) (EM.setI Iy52568 (by decide)) (fun Y52577 Iy52578 Xy52579 w52580 => ?_)
          have w52580 : (pI Y52577 a0 2).toInt = z52575.toInt := w52580
          have W52581 := W52572.keep Iy52568 Xy52579 (by decide) (by decide) (by decide)
          have Xz52582 : EM [1, 2] a0 P Y52577 := EM.tr ha0 Xz52573 (Xy52579.mono (by decide))
          have h52583 := Xy52579.at h52574
          refine g_lv (lv' := [(0, .ref a0), (1, .long a1), (3, .int v3_3)]) [0, 1, 2] rfl ?_
          exact J69 Y52577 Iy52578 Xz52582 W52581 (by omega)
      refine g_iload_n C dX12_lay_3 rfl 2 rfl ?_
      refine b_if_lt C 75 dX12_lay_4 (by decide) (fun h52584 => ?_) (fun h52584 => ?_)
      · have h52584 : v3_3.toInt < 0 := h52584
        exact ret _ _ _ _ _ dX12_lay_75 (by decide) (by decide) ⟨I3, X3, W3⟩
      · have h52584 : 0 ≤ v3_3.toInt := h52584
        refine g_lload_n C dX12_lay_7 rfl 1 rfl ?_
        refine g_iload_n C dX12_lay_8 rfl 2 rfl ?_
        refine a_lshr C dX12_lay_9 (fun l52585 => ?_)
        refine a_l2i C dX12_lay_10 (fun z52586 => ?_)
        refine g_sipush (v := 255) C dX12_lay_11 (by decide) ?_
        refine s_iand C dX12_lay_14 (by show 0 ≤ 255; omega) (fun z52587 h52588 => ?_)
        have h52588 : 0 ≤ z52587.toInt ∧ z52587.toInt ≤ 255 := h52588
        refine g_istore (lv' := [(4, .int z52587), (0, .ref a0), (1, .long a1), (3, .int v3_3)]) C dX12_lay_15 (by decide) rfl ?_
        refine g_iload C dX12_lay_17 0 rfl ?_
        refine g_bipush (v := 10) C dX12_lay_19 (by decide) ?_
        refine b_icmp_eq C 38 dX12_lay_21 (by decide) (fun h52589 => ?_) (fun h52589 => ?_)
        · have h52589 : z52587.toInt = 10 := congrArg Int32.toInt h52589
          refine g_lv (lv' := [(0, .ref a0), (1, .long a1), (3, .int v3_3), (4, .int z52587)]) [1, 2, 3, 0] rfl ?_
          exact J38 z52587 (by omega) (by omega)
        · have h52589 : z52587.toInt ≠ 10 := ti_ne h52589
          refine g_iload C dX12_lay_24 0 rfl ?_
          refine g_bipush (v := 32) C dX12_lay_26 (by decide) ?_
          refine b_icmp_lt C 69 dX12_lay_28 (by decide) (fun h52590 => ?_) (fun h52590 => ?_)
          · have h52590 : z52587.toInt < 32 := h52590
            refine g_lv (lv' := [(0, .ref a0), (1, .long a1), (3, .int v3_3)]) [1, 2, 3] rfl ?_
            exact J69 P3 I3 X3 W3 (by omega)
          · have h52590 : 32 ≤ z52587.toInt := h52590
            refine g_iload C dX12_lay_31 0 rfl ?_
            refine g_bipush (v := 126) C dX12_lay_33 (by decide) ?_
            refine b_icmp_gt C 69 dX12_lay_35 (by decide) (fun h52591 => ?_) (fun h52591 => ?_)
            · have h52591 : 126 < z52587.toInt := h52591
              refine g_lv (lv' := [(0, .ref a0), (1, .long a1), (3, .int v3_3)]) [1, 2, 3] rfl ?_
              exact J69 P3 I3 X3 W3 (by omega)
            · have h52591 : z52587.toInt ≤ 126 := h52591
              refine g_lv (lv' := [(0, .ref a0), (1, .long a1), (3, .int v3_3), (4, .int z52587)]) [1, 2, 3, 0] rfl ?_
              exact J38 z52587 (by omega) (by omega)
  refine g_bipush (v := 56) C dX12_lay_0 (by decide) ?_
  refine g_istore_n (lv' := [(3, .int 56), (0, .ref a0), (1, .long a1)]) C dX12_lay_2 rfl (by decide) rfl ?_
  refine g_lv (lv' := [(0, .ref a0), (1, .long a1), (3, .int 56)]) [1, 2, 0] rfl ?_
  exact J3 _ P 56 (Nat.lt_succ_self _) I EM.rf hW (by decide)
theorem dX12_feed_10 : decode cX12_feed 10 = .ok (.aload_n 0, 1) := by decide +kernel
theorem dX12_feed_11 : decode cX12_feed 11 = .ok (.lload_n 3, 1) := by decide +kernel
theorem dX12_feed_12 : decode cX12_feed 12 = .ok (.invokevirtual 7, 3) := by decide +kernel
theorem dX12_feed_15 : decode cX12_feed 15 = .ok (.aload_n 0, 1) := by decide +kernel
theorem dX12_feed_16 : decode cX12_feed 16 = .ok (.lload 5, 2) := by decide +kernel
theorem dX12_feed_18 : decode cX12_feed 18 = .ok (.invokevirtual 7, 3) := by decide +kernel
theorem dX12_feed_21 : decode cX12_feed 21 = .ok (.aload_n 0, 1) := by decide +kernel
theorem dX12_feed_22 : decode cX12_feed 22 = .ok (.getfield 11, 3) := by decide +kernel
theorem dX12_feed_25 : decode cX12_feed 25 = .ok (.ireturn, 1) := by decide +kernel
set_option maxHeartbeats 4000000 in
set_option maxRecDepth 100000 in
theorem s_X12_feed {P : PP} {a0 : Nat} {a1 : Int64} {a2 : Int64} {a3 : Int64} (I : IM P a0) (hW : MW P a0) : CtrI yX12_feed cX12_feed 7 (some Jvm.ClassFile.FieldType.int) ({ frames := 2, cells := 0, slots := 0, locals := 128 } : Room) 0 0 P [.ref a0, .long a1, .long a2, .long a3] (fun r P2 => IM P2 a0 ∧ EM [0, 1, 2] a0 P P2 ∧ MW P2 a0 ∧ (0 ≤ r.toInt ∧ r.toInt ≤ 1000)) := by
  refine enI (lv := [(0, .ref a0), (1, .long a1), (3, .long a2), (5, .long a3)]) (by decide) (Nat.le_of_ble_eq_true rfl) rfl (fun E D cy C Ci0 ret => ?_)
  have ha0 := I.2.1
  refine g_aload_n C dX12_feed_0 rfl 0 rfl ?_
  refine g_iconst (v := 0) C dX12_feed_1 (by decide) ?_
  refine g_putI C fi_X12_1 rfl (ha0).1 (ha0).2 dX12_feed_2 ?_
  refine gqW (ks := [0]) (I.setI (rgOk.of rfl (by decide))) (EM.setI I (by decide)) (fun Y52627 Iy52628 Xy52629 w52630 => ?_)
  have w52630 : (pI Y52627 a0 0).toInt = 0 := w52630
  have W52631 := hW.keep I Xy52629 (by decide) (by decide) (by decide)
  have Xz52632 : EM [0, 1, 2] a0 P Y52627 := Xy52629.mono (by decide)
  have h52633 := Xy52629.at ha0
  refine g_aload_n C dX12_feed_5 rfl 0 rfl ?_
  refine g_lload_n C dX12_feed_6 rfl 1 rfl ?_
  refine g_callVV (rest := []) C mv_X12_7 [.long a1] (s_X12_lay Iy52628 W52631) (h52633).1 (h52633).2 rfl rfl (by decide) (Nat.le_of_ble_eq_true rfl) (by decide) dX12_feed_7 (fun Y52635 h52636 => ?_)
  obtain ⟨Iy52637, Xy52638, W52639⟩ := h52636
  have q52640 := Xy52638.keepF 0 (by decide)
  have Xz52641 : EM [0, 1, 2] a0 P Y52635 := EM.tr ha0 Xz52632 (Xy52638.mono (by decide))
  have h52642 := Xy52638.at h52633
  refine g_aload_n C dX12_feed_10 rfl 0 rfl ?_
  refine g_lload_n C dX12_feed_11 rfl 2 rfl ?_
  refine g_callVV (rest := []) C mv_X12_7 [.long a2] (s_X12_lay Iy52637 W52639) (h52642).1 (h52642).2 rfl rfl (by decide) (Nat.le_of_ble_eq_true rfl) (by decide) dX12_feed_12 (fun Y52644 h52645 => ?_)
  obtain ⟨Iy52646, Xy52647, W52648⟩ := h52645
  have q52649 := Xy52647.keepF 0 (by decide)
  have Xz52650 : EM [0, 1, 2] a0 P Y52644 := EM.tr ha0 Xz52641 (Xy52647.mono (by decide))
  have h52651 := Xy52647.at h52642
  refine g_aload_n C dX12_feed_15 rfl 0 rfl ?_
  refine g_lload C dX12_feed_16 3 rfl ?_
  refine g_callVV (rest := []) C mv_X12_7 [.long a3] (s_X12_lay Iy52646 W52648) (h52651).1 (h52651).2 rfl rfl (by decide) (Nat.le_of_ble_eq_true rfl) (by decide) dX12_feed_18 (fun Y52653 h52654 => ?_)
  obtain ⟨Iy52655, Xy52656, W52657⟩ := h52654
  have q52658 := Xy52656.keepF 0 (by decide)
  have Xz52659 : EM [0, 1, 2] a0 P Y52653 := EM.tr ha0 Xz52650 (Xy52656.mono (by decide))
  have h52660 := Xy52656.at h52651
  refine g_aload_n C dX12_feed_21 rfl 0 rfl ?_
  refine g_getI C fi_X12_11 (by decide) (h52660).1 (h52660).2 dX12_feed_22 ?_
  have h52661 := Iy52655.rg (h52660) 2 rfl
  exact ret _ _ _ _ _ _ dX12_feed_25 rfl (by decide) (by decide) ⟨Iy52655, Xz52659, W52657, (by omega)⟩
