theorem dX6_at_0 : decode cX6_at 0 = .ok (.iload_n 1, 1) := by decide +kernel
theorem dX6_at_1 : decode cX6_at 1 = .ok (.ifCond .lt 26, 3) := by decide +kernel
theorem dX6_at_4 : decode cX6_at 4 = .ok (.iload_n 1, 1) := by decide +kernel
theorem dX6_at_5 : decode cX6_at 5 = .ok (.aload_n 0, 1) := by decide +kernel
theorem dX6_at_6 : decode cX6_at 6 = .ok (.getfield 17, 3) := by decide +kernel
theorem dX6_at_9 : decode cX6_at 9 = .ok (.if_icmp .ge 18, 3) := by decide +kernel
theorem dX6_at_12 : decode cX6_at 12 = .ok (.iload_n 1, 1) := by decide +kernel
theorem dX6_at_13 : decode cX6_at 13 = .ok (.bipush 40, 2) := by decide +kernel
theorem dX6_at_15 : decode cX6_at 15 = .ok (.if_icmp .ge 12, 3) := by decide +kernel
theorem dX6_at_18 : decode cX6_at 18 = .ok (.aload_n 0, 1) := by decide +kernel
theorem dX6_at_19 : decode cX6_at 19 = .ok (.getfield 11, 3) := by decide +kernel
theorem dX6_at_22 : decode cX6_at 22 = .ok (.iload_n 1, 1) := by decide +kernel
theorem dX6_at_23 : decode cX6_at 23 = .ok (.aaload, 1) := by decide +kernel
theorem dX6_at_24 : decode cX6_at 24 = .ok (.goto 4, 3) := by decide +kernel
theorem dX6_at_27 : decode cX6_at 27 = .ok (.aconst_null, 1) := by decide +kernel
theorem dX6_at_28 : decode cX6_at 28 = .ok (.areturn, 1) := by decide +kernel
set_option maxHeartbeats 4000000 in
set_option maxRecDepth 100000 in
theorem s_X6_at {P : PP} {a0 : Nat} {a1 : Int32} (I : IV P) (ha0 : At P a0 6) : CtrQ yX6_at cX6_at 2 (some (Jvm.ClassFile.FieldType.object "ThousandLeaflets$Paper")) ({ frames := 1, cells := 0, slots := 0, locals := 64 } : Room) 0 0 P [.ref a0, .int a1] (fun r P2 => P = P2 ∧ (r = none ∨ ∃ b, r = some b ∧ At P2 b 7)) := by
  refine enQ (lv := [(0, .ref a0), (1, .int a1)]) (by decide) (by first | exact Or.inl ⟨_, rfl⟩ | exact Or.inr ⟨_, rfl⟩) (Nat.le_of_ble_eq_true rfl) rfl (fun E D cy C Ci0 ret => ?_)
  have J27 : G E ({ frames := 1, cells := 0, slots := 0, locals := 64 } : Room) D cy 2 P 0 0 27 [] [] := by
    refine g_null C dX6_at_27 ?_
    exact ret _ _ _ _ _ none dX6_at_28 (by decide) (by decide) ⟨rfl, Or.inl rfl⟩
  refine g_iload_n C dX6_at_0 rfl 1 rfl ?_
  refine b_if_lt C 27 dX6_at_1 (by decide) (fun h21 => ?_) (fun h21 => ?_)
  · have h21 : a1.toInt < 0 := h21
    refine g_lv (lv' := []) [] rfl ?_
    exact J27 
  · have h21 : 0 ≤ a1.toInt := h21
    refine g_iload_n C dX6_at_4 rfl 1 rfl ?_
    refine g_aload_n C dX6_at_5 rfl 0 rfl ?_
    refine g_getI C fi_X6_17 (by decide) (ha0).1 (ha0).2 dX6_at_6 ?_
    have h22 := I.rg (ha0) 1 rfl
    refine b_icmp_ge C 27 dX6_at_9 (by decide) (fun h23 => ?_) (fun h23 => ?_)
    · have h23 : (pI P a0 1).toInt ≤ a1.toInt := h23
      refine g_lv (lv' := []) [] rfl ?_
      exact J27 
    · have h23 : a1.toInt < (pI P a0 1).toInt := h23
      refine g_iload_n C dX6_at_12 rfl 1 rfl ?_
      refine g_bipush (v := 40) C dX6_at_13 (by decide) ?_
      refine b_icmp_ge C 27 dX6_at_15 (by decide) (fun h24 => ?_) (fun h24 => ?_)
      · have h24 : 40 ≤ a1.toInt := h24
        omega
      · have h24 : a1.toInt < 40 := h24
        refine g_aload_n C dX6_at_18 rfl 0 rfl ?_
        obtain ⟨b25, e26, h27⟩ := I.fld (ha0) 0 20 40 rfl
        refine g_getR C fi_X6_11 rfl e26 (ha0).1 (ha0).2 dX6_at_19 ?_
        refine g_iload_n C dX6_at_22 rfl 1 rfl ?_
        refine g_aldQ (j := (a1.toInt.toNat)) C h27.1 h27.2.1 (by decide) (ix_in h27.2.2 (by omega)) dX6_at_23 ?_
        rcases I.pap h27 (a1.toInt.toNat) with e29 | ⟨b28, e29, h30⟩
        · rw [e29]
          show G _ _ _ _ _ _ _ _ _ _ (.null :: _)
          refine g_goto C 28 dX6_at_24 (by decide) ?_
          exact ret _ _ _ _ _ none dX6_at_28 (by decide) (by decide) ⟨rfl, Or.inl rfl⟩
        · rw [e29]
          show G _ _ _ _ _ _ _ _ _ _ (.ref b28 :: _)
          refine g_goto C 28 dX6_at_24 (by decide) ?_
          exact ret _ _ _ _ _ (some b28) dX6_at_28 (by decide) (by decide) ⟨rfl, Or.inr ⟨_, rfl, h30⟩⟩
theorem dX7_hasOctet_0 : decode cX7_hasOctet 0 = .ok (.aload_n 0, 1) := by decide +kernel
theorem dX7_hasOctet_1 : decode cX7_hasOctet 1 = .ok (.getfield 21, 3) := by decide +kernel
theorem dX7_hasOctet_4 : decode cX7_hasOctet 4 = .ok (.iload_n 1, 1) := by decide +kernel
theorem dX7_hasOctet_5 : decode cX7_hasOctet 5 = .ok (.ishr, 1) := by decide +kernel
theorem dX7_hasOctet_6 : decode cX7_hasOctet 6 = .ok (.iconst 1, 1) := by decide +kernel
theorem dX7_hasOctet_7 : decode cX7_hasOctet 7 = .ok (.iand, 1) := by decide +kernel
theorem dX7_hasOctet_8 : decode cX7_hasOctet 8 = .ok (.ifCond .eq 7, 3) := by decide +kernel
theorem dX7_hasOctet_11 : decode cX7_hasOctet 11 = .ok (.iconst 1, 1) := by decide +kernel
theorem dX7_hasOctet_12 : decode cX7_hasOctet 12 = .ok (.goto 4, 3) := by decide +kernel
theorem dX7_hasOctet_15 : decode cX7_hasOctet 15 = .ok (.iconst 0, 1) := by decide +kernel
theorem dX7_hasOctet_16 : decode cX7_hasOctet 16 = .ok (.ireturn, 1) := by decide +kernel
set_option maxHeartbeats 4000000 in
set_option maxRecDepth 100000 in
theorem s_X7_hasOctet {P : PP} {a0 : Nat} {a1 : Int32} (I : IV P) (ha0 : At P a0 7) : CtrI yX7_hasOctet cX7_hasOctet 2 (some Jvm.ClassFile.FieldType.boolean) ({ frames := 1, cells := 0, slots := 0, locals := 64 } : Room) 0 0 P [.ref a0, .int a1] (fun r P2 => P = P2 ∧ (0 ≤ r.toInt ∧ r.toInt ≤ 1)) := by
  refine enI (lv := [(0, .ref a0), (1, .int a1)]) (by decide) (Nat.le_of_ble_eq_true rfl) rfl (fun E D cy C Ci0 ret => ?_)
  have J16 : ∀ (v16_s0 : Int32), (0 ≤ v16_s0.toInt ∧ v16_s0.toInt ≤ 1) → G E ({ frames := 1, cells := 0, slots := 0, locals := 64 } : Room) D cy 2 P 0 0 16 [] [.int v16_s0] := by
    intro v16_s0 hv16_s0
    exact ret _ _ _ _ _ _ dX7_hasOctet_16 (nar_b (b01 (by omega))) (by decide) (by decide) ⟨rfl, (by omega)⟩
  refine g_aload_n C dX7_hasOctet_0 rfl 0 rfl ?_
  refine g_getI C fi_X7_21 (by decide) (ha0).1 (ha0).2 dX7_hasOctet_1 ?_
  refine g_iload_n C dX7_hasOctet_4 rfl 1 rfl ?_
  refine a_ishr C dX7_hasOctet_5 (fun z36 => ?_)
  refine g_iconst (v := 1) C dX7_hasOctet_6 (by decide) ?_
  refine s_iand C dX7_hasOctet_7 (by show 0 ≤ 1; omega) (fun z38 h39 => ?_)
  have h39 : 0 ≤ z38.toInt ∧ z38.toInt ≤ 1 := h39
  refine b_if_eq C 15 dX7_hasOctet_8 (by decide) (fun h40 => ?_) (fun h40 => ?_)
  · have h40 : z38.toInt = 0 := congrArg Int32.toInt h40
    refine g_iconst (v := 0) C dX7_hasOctet_15 (by decide) ?_
    refine g_lv (lv' := []) [] rfl ?_
    exact J16 0 (by decide)
  · have h40 : z38.toInt ≠ 0 := ti_ne h40
    refine g_iconst (v := 1) C dX7_hasOctet_11 (by decide) ?_
    refine g_goto C 16 dX7_hasOctet_12 (by decide) ?_
    refine g_lv (lv' := []) [] rfl ?_
    exact J16 1 (by decide)
theorem dX7_pagesBy_0 : decode cX7_pagesBy 0 = .ok (.iload_n 1, 1) := by decide +kernel
theorem dX7_pagesBy_1 : decode cX7_pagesBy 1 = .ok (.ifCond .ne 10, 3) := by decide +kernel
theorem dX7_pagesBy_4 : decode cX7_pagesBy 4 = .ok (.aload_n 0, 1) := by decide +kernel
theorem dX7_pagesBy_5 : decode cX7_pagesBy 5 = .ok (.getfield 27, 3) := by decide +kernel
theorem dX7_pagesBy_8 : decode cX7_pagesBy 8 = .ok (.goto 7, 3) := by decide +kernel
theorem dX7_pagesBy_11 : decode cX7_pagesBy 11 = .ok (.aload_n 0, 1) := by decide +kernel
theorem dX7_pagesBy_12 : decode cX7_pagesBy 12 = .ok (.getfield 30, 3) := by decide +kernel
theorem dX7_pagesBy_15 : decode cX7_pagesBy 15 = .ok (.ireturn, 1) := by decide +kernel
set_option maxHeartbeats 4000000 in
set_option maxRecDepth 100000 in
theorem s_X7_pagesBy {P : PP} {a0 : Nat} {a1 : Int32} (I : IV P) (ha0 : At P a0 7) : CtrI yX7_pagesBy cX7_pagesBy 2 (some Jvm.ClassFile.FieldType.int) ({ frames := 1, cells := 0, slots := 0, locals := 64 } : Room) 0 0 P [.ref a0, .int a1] (fun r P2 => P = P2 ∧ (True)) := by
  refine enI (lv := [(0, .ref a0), (1, .int a1)]) (by decide) (Nat.le_of_ble_eq_true rfl) rfl (fun E D cy C Ci0 ret => ?_)
  have J15 : ∀ (v15_s0 : Int32), G E ({ frames := 1, cells := 0, slots := 0, locals := 64 } : Room) D cy 2 P 0 0 15 [] [.int v15_s0] := by
    intro v15_s0
    exact ret _ _ _ _ _ _ dX7_pagesBy_15 rfl (by decide) (by decide) ⟨rfl, trivial⟩
  refine g_iload_n C dX7_pagesBy_0 rfl 1 rfl ?_
  refine b_if_ne C 11 dX7_pagesBy_1 (by decide) (fun h42 => ?_) (fun h42 => ?_)
  · have h42 : a1.toInt ≠ 0 := ti_ne h42
    refine g_aload_n C dX7_pagesBy_11 rfl 0 rfl ?_
    refine g_getI C fi_X7_30 (by decide) (ha0).1 (ha0).2 dX7_pagesBy_12 ?_
    refine g_lv (lv' := []) [] rfl ?_
    exact J15 (pI P a0 6)
  · have h42 : a1.toInt = 0 := congrArg Int32.toInt h42
    refine g_aload_n C dX7_pagesBy_4 rfl 0 rfl ?_
    refine g_getI C fi_X7_27 (by decide) (ha0).1 (ha0).2 dX7_pagesBy_5 ?_
    refine g_goto C 15 dX7_pagesBy_8 (by decide) ?_
    refine g_lv (lv' := []) [] rfl ?_
    exact J15 (pI P a0 5)
theorem dX7_equation_0 : decode cX7_equation 0 = .ok (.aload_n 0, 1) := by decide +kernel
theorem dX7_equation_1 : decode cX7_equation 1 = .ok (.iload_n 1, 1) := by decide +kernel
theorem dX7_equation_2 : decode cX7_equation 2 = .ok (.invokevirtual 33, 3) := by decide +kernel
theorem dX7_equation_5 : decode cX7_equation 5 = .ok (.aload_n 0, 1) := by decide +kernel
theorem dX7_equation_6 : decode cX7_equation 6 = .ok (.getfield 18, 3) := by decide +kernel
theorem dX7_equation_9 : decode cX7_equation 9 = .ok (.bipush 8, 2) := by decide +kernel
theorem dX7_equation_11 : decode cX7_equation 11 = .ok (.iload_n 2, 1) := by decide +kernel
theorem dX7_equation_12 : decode cX7_equation 12 = .ok (.imul, 1) := by decide +kernel
theorem dX7_equation_13 : decode cX7_equation 13 = .ok (.ishr, 1) := by decide +kernel
theorem dX7_equation_14 : decode cX7_equation 14 = .ok (.sipush 255, 3) := by decide +kernel
theorem dX7_equation_17 : decode cX7_equation 17 = .ok (.iand, 1) := by decide +kernel
theorem dX7_equation_18 : decode cX7_equation 18 = .ok (.bipush 20, 2) := by decide +kernel
theorem dX7_equation_20 : decode cX7_equation 20 = .ok (.ishl, 1) := by decide +kernel
theorem dX7_equation_21 : decode cX7_equation 21 = .ok (.ior, 1) := by decide +kernel
theorem dX7_equation_22 : decode cX7_equation 22 = .ok (.ireturn, 1) := by decide +kernel
set_option maxHeartbeats 4000000 in
set_option maxRecDepth 100000 in
theorem s_X7_equation {P : PP} {a0 : Nat} {a1 : Int32} {a2 : Int32} (I : IV P) (ha0 : At P a0 7) : CtrI yX7_equation cX7_equation 3 (some Jvm.ClassFile.FieldType.int) ({ frames := 2, cells := 0, slots := 0, locals := 128 } : Room) 0 0 P [.ref a0, .int a1, .int a2] (fun r P2 => P = P2 ∧ (True)) := by
  refine enI (lv := [(0, .ref a0), (1, .int a1), (2, .int a2)]) (by decide) (Nat.le_of_ble_eq_true rfl) rfl (fun E D cy C Ci0 ret => ?_)
  refine g_aload_n C dX7_equation_0 rfl 0 rfl ?_
  refine g_iload_n C dX7_equation_1 rfl 1 rfl ?_
  refine g_callVI (rest := []) C mv_X7_33 [.int a1] (s_X7_pagesBy I ha0) (ha0).1 (ha0).2 rfl rfl (by decide) (Nat.le_of_ble_eq_true rfl) (by decide) dX7_equation_2 (fun r56 P57 h58 => ?_)
  obtain ⟨rfl, h58⟩ := h58
  have h58 : True := h58
  refine g_aload_n C dX7_equation_5 rfl 0 rfl ?_
  refine g_getI C fi_X7_18 (by decide) (ha0).1 (ha0).2 dX7_equation_6 ?_
  refine g_bipush (v := 8) C dX7_equation_9 (by decide) ?_
  refine g_iload_n C dX7_equation_11 rfl 2 rfl ?_
  refine a_imul C dX7_equation_12 (fun z59 => ?_)
  refine a_ishr C dX7_equation_13 (fun z61 => ?_)
  refine g_sipush (v := 255) C dX7_equation_14 (by decide) ?_
  refine s_iand C dX7_equation_17 (by show 0 ≤ 255; omega) (fun z63 h64 => ?_)
  have h64 : 0 ≤ z63.toInt ∧ z63.toInt ≤ 255 := h64
  refine g_bipush (v := 20) C dX7_equation_18 (by decide) ?_
  refine a_ishl C dX7_equation_20 (fun z65 => ?_)
  refine a_ior C dX7_equation_21 (fun z67 => ?_)
  exact ret _ _ _ _ _ _ dX7_equation_22 rfl (by decide) (by decide) ⟨rfl, trivial⟩
theorem dX7_isAlike_0 : decode cX7_isAlike 0 = .ok (.aload_n 0, 1) := by decide +kernel
theorem dX7_isAlike_1 : decode cX7_isAlike 1 = .ok (.getfield 9, 3) := by decide +kernel
theorem dX7_isAlike_4 : decode cX7_isAlike 4 = .ok (.aload_n 1, 1) := by decide +kernel
theorem dX7_isAlike_5 : decode cX7_isAlike 5 = .ok (.getfield 9, 3) := by decide +kernel
theorem dX7_isAlike_8 : decode cX7_isAlike 8 = .ok (.if_icmp .ne 51, 3) := by decide +kernel
theorem dX7_isAlike_11 : decode cX7_isAlike 11 = .ok (.aload_n 0, 1) := by decide +kernel
theorem dX7_isAlike_12 : decode cX7_isAlike 12 = .ok (.getfield 15, 3) := by decide +kernel
theorem dX7_isAlike_15 : decode cX7_isAlike 15 = .ok (.aload_n 1, 1) := by decide +kernel
theorem dX7_isAlike_16 : decode cX7_isAlike 16 = .ok (.getfield 15, 3) := by decide +kernel
theorem dX7_isAlike_19 : decode cX7_isAlike 19 = .ok (.if_icmp .ne 40, 3) := by decide +kernel
theorem dX7_isAlike_22 : decode cX7_isAlike 22 = .ok (.aload_n 0, 1) := by decide +kernel
theorem dX7_isAlike_23 : decode cX7_isAlike 23 = .ok (.getfield 18, 3) := by decide +kernel
theorem dX7_isAlike_26 : decode cX7_isAlike 26 = .ok (.aload_n 1, 1) := by decide +kernel
theorem dX7_isAlike_27 : decode cX7_isAlike 27 = .ok (.getfield 18, 3) := by decide +kernel
theorem dX7_isAlike_30 : decode cX7_isAlike 30 = .ok (.if_icmp .ne 29, 3) := by decide +kernel
theorem dX7_isAlike_33 : decode cX7_isAlike 33 = .ok (.aload_n 0, 1) := by decide +kernel
theorem dX7_isAlike_34 : decode cX7_isAlike 34 = .ok (.getfield 21, 3) := by decide +kernel
theorem dX7_isAlike_37 : decode cX7_isAlike 37 = .ok (.aload_n 1, 1) := by decide +kernel
theorem dX7_isAlike_38 : decode cX7_isAlike 38 = .ok (.getfield 21, 3) := by decide +kernel
theorem dX7_isAlike_41 : decode cX7_isAlike 41 = .ok (.if_icmp .ne 18, 3) := by decide +kernel
theorem dX7_isAlike_44 : decode cX7_isAlike 44 = .ok (.aload_n 0, 1) := by decide +kernel
theorem dX7_isAlike_45 : decode cX7_isAlike 45 = .ok (.getfield 24, 3) := by decide +kernel
theorem dX7_isAlike_48 : decode cX7_isAlike 48 = .ok (.aload_n 1, 1) := by decide +kernel
theorem dX7_isAlike_49 : decode cX7_isAlike 49 = .ok (.getfield 24, 3) := by decide +kernel
theorem dX7_isAlike_52 : decode cX7_isAlike 52 = .ok (.if_icmp .ne 7, 3) := by decide +kernel
theorem dX7_isAlike_55 : decode cX7_isAlike 55 = .ok (.iconst 1, 1) := by decide +kernel
theorem dX7_isAlike_56 : decode cX7_isAlike 56 = .ok (.goto 4, 3) := by decide +kernel
theorem dX7_isAlike_59 : decode cX7_isAlike 59 = .ok (.iconst 0, 1) := by decide +kernel
theorem dX7_isAlike_60 : decode cX7_isAlike 60 = .ok (.ireturn, 1) := by decide +kernel
set_option maxHeartbeats 4000000 in
set_option maxRecDepth 100000 in
theorem s_X7_isAlike {P : PP} {a0 : Nat} {a1 : Nat} (I : IV P) (ha0 : At P a0 7) (ha1 : At P a1 7) : CtrI yX7_isAlike cX7_isAlike 2 (some Jvm.ClassFile.FieldType.boolean) ({ frames := 1, cells := 0, slots := 0, locals := 64 } : Room) 0 0 P [.ref a0, .ref a1] (fun r P2 => P = P2 ∧ (0 ≤ r.toInt ∧ r.toInt ≤ 1)) := by
  refine enI (lv := [(0, .ref a0), (1, .ref a1)]) (by decide) (Nat.le_of_ble_eq_true rfl) rfl (fun E D cy C Ci0 ret => ?_)
  have J60 : ∀ (v60_s0 : Int32), (0 ≤ v60_s0.toInt ∧ v60_s0.toInt ≤ 1) → G E ({ frames := 1, cells := 0, slots := 0, locals := 64 } : Room) D cy 2 P 0 0 60 [] [.int v60_s0] := by
    intro v60_s0 hv60_s0
    exact ret _ _ _ _ _ _ dX7_isAlike_60 (nar_b (b01 (by omega))) (by decide) (by decide) ⟨rfl, (by omega)⟩
  have J59 : G E ({ frames := 1, cells := 0, slots := 0, locals := 64 } : Room) D cy 2 P 0 0 59 [] [] := by
    refine g_iconst (v := 0) C dX7_isAlike_59 (by decide) ?_
    exact J60 0 (by decide)
  refine g_aload_n C dX7_isAlike_0 rfl 0 rfl ?_
  refine g_getI C fi_X7_9 (by decide) (ha0).1 (ha0).2 dX7_isAlike_1 ?_
  have h76 := I.rg (ha0) 0 rfl
  refine g_aload_n C dX7_isAlike_4 rfl 1 rfl ?_
  refine g_getI C fi_X7_9 (by decide) (ha1).1 (ha1).2 dX7_isAlike_5 ?_
  have h77 := I.rg (ha1) 0 rfl
  refine b_icmp_ne C 59 dX7_isAlike_8 (by decide) (fun h78 => ?_) (fun h78 => ?_)
  · have h78 : (pI P a0 0).toInt ≠ (pI P a1 0).toInt := ti_ne h78
    refine g_lv (lv' := []) [] rfl ?_
    exact J59 
  · have h78 : (pI P a0 0).toInt = (pI P a1 0).toInt := congrArg Int32.toInt h78
    refine g_aload_n C dX7_isAlike_11 rfl 0 rfl ?_
    refine g_getI C fi_X7_15 (by decide) (ha0).1 (ha0).2 dX7_isAlike_12 ?_
    refine g_aload_n C dX7_isAlike_15 rfl 1 rfl ?_
    refine g_getI C fi_X7_15 (by decide) (ha1).1 (ha1).2 dX7_isAlike_16 ?_
    refine b_icmp_ne C 59 dX7_isAlike_19 (by decide) (fun h79 => ?_) (fun h79 => ?_)
    · have h79 : (pI P a0 1).toInt ≠ (pI P a1 1).toInt := ti_ne h79
      refine g_lv (lv' := []) [] rfl ?_
      exact J59 
    · have h79 : (pI P a0 1).toInt = (pI P a1 1).toInt := congrArg Int32.toInt h79
      refine g_aload_n C dX7_isAlike_22 rfl 0 rfl ?_
      refine g_getI C fi_X7_18 (by decide) (ha0).1 (ha0).2 dX7_isAlike_23 ?_
      refine g_aload_n C dX7_isAlike_26 rfl 1 rfl ?_
      refine g_getI C fi_X7_18 (by decide) (ha1).1 (ha1).2 dX7_isAlike_27 ?_
      refine b_icmp_ne C 59 dX7_isAlike_30 (by decide) (fun h80 => ?_) (fun h80 => ?_)
      · have h80 : (pI P a0 2).toInt ≠ (pI P a1 2).toInt := ti_ne h80
        refine g_lv (lv' := []) [] rfl ?_
        exact J59 
      · have h80 : (pI P a0 2).toInt = (pI P a1 2).toInt := congrArg Int32.toInt h80
        refine g_aload_n C dX7_isAlike_33 rfl 0 rfl ?_
        refine g_getI C fi_X7_21 (by decide) (ha0).1 (ha0).2 dX7_isAlike_34 ?_
        refine g_aload_n C dX7_isAlike_37 rfl 1 rfl ?_
        refine g_getI C fi_X7_21 (by decide) (ha1).1 (ha1).2 dX7_isAlike_38 ?_
        refine b_icmp_ne C 59 dX7_isAlike_41 (by decide) (fun h81 => ?_) (fun h81 => ?_)
        · have h81 : (pI P a0 3).toInt ≠ (pI P a1 3).toInt := ti_ne h81
          refine g_lv (lv' := []) [] rfl ?_
          exact J59 
        · have h81 : (pI P a0 3).toInt = (pI P a1 3).toInt := congrArg Int32.toInt h81
          refine g_aload_n C dX7_isAlike_44 rfl 0 rfl ?_
          refine g_getI C fi_X7_24 (by decide) (ha0).1 (ha0).2 dX7_isAlike_45 ?_
          refine g_aload_n C dX7_isAlike_48 rfl 1 rfl ?_
          refine g_getI C fi_X7_24 (by decide) (ha1).1 (ha1).2 dX7_isAlike_49 ?_
          refine b_icmp_ne C 59 dX7_isAlike_52 (by decide) (fun h82 => ?_) (fun h82 => ?_)
          · have h82 : (pI P a0 4).toInt ≠ (pI P a1 4).toInt := ti_ne h82
            refine g_lv (lv' := []) [] rfl ?_
            exact J59 
          · have h82 : (pI P a0 4).toInt = (pI P a1 4).toInt := congrArg Int32.toInt h82
            refine g_iconst (v := 1) C dX7_isAlike_55 (by decide) ?_
            refine g_goto C 60 dX7_isAlike_56 (by decide) ?_
            refine g_lv (lv' := []) [] rfl ?_
            exact J60 1 (by decide)
theorem dX6_isTouching_0 : decode cX6_isTouching 0 = .ok (.aload_n 0, 1) := by decide +kernel
theorem dX6_isTouching_1 : decode cX6_isTouching 1 = .ok (.ifnull 23, 3) := by decide +kernel
theorem dX6_isTouching_4 : decode cX6_isTouching 4 = .ok (.aload_n 0, 1) := by decide +kernel
theorem dX6_isTouching_5 : decode cX6_isTouching 5 = .ok (.getfield 21, 3) := by decide +kernel
theorem dX6_isTouching_8 : decode cX6_isTouching 8 = .ok (.iload_n 1, 1) := by decide +kernel
theorem dX6_isTouching_9 : decode cX6_isTouching 9 = .ok (.if_icmp .eq 11, 3) := by decide +kernel
theorem dX6_isTouching_12 : decode cX6_isTouching 12 = .ok (.aload_n 0, 1) := by decide +kernel
theorem dX6_isTouching_13 : decode cX6_isTouching 13 = .ok (.getfield 21, 3) := by decide +kernel
theorem dX6_isTouching_16 : decode cX6_isTouching 16 = .ok (.iconst (-1), 1) := by decide +kernel
theorem dX6_isTouching_17 : decode cX6_isTouching 17 = .ok (.if_icmp .ne 7, 3) := by decide +kernel
theorem dX6_isTouching_20 : decode cX6_isTouching 20 = .ok (.iconst 1, 1) := by decide +kernel
theorem dX6_isTouching_21 : decode cX6_isTouching 21 = .ok (.goto 4, 3) := by decide +kernel
theorem dX6_isTouching_24 : decode cX6_isTouching 24 = .ok (.iconst 0, 1) := by decide +kernel
theorem dX6_isTouching_25 : decode cX6_isTouching 25 = .ok (.ireturn, 1) := by decide +kernel
set_option maxHeartbeats 4000000 in
set_option maxRecDepth 100000 in
theorem s_X6_isTouching {P : PP} {a0 : Nat} {a1 : Int32} (I : IV P) (ha0 : At P a0 7) : CtrI yX6_isTouching cX6_isTouching 2 (some Jvm.ClassFile.FieldType.boolean) ({ frames := 1, cells := 0, slots := 0, locals := 64 } : Room) 0 0 P [.ref a0, .int a1] (fun r P2 => P = P2 ∧ (0 ≤ r.toInt ∧ r.toInt ≤ 1)) := by
  refine enI (lv := [(0, .ref a0), (1, .int a1)]) (by decide) (Nat.le_of_ble_eq_true rfl) rfl (fun E D cy C Ci0 ret => ?_)
  have J25 : ∀ (v25_s0 : Int32), (0 ≤ v25_s0.toInt ∧ v25_s0.toInt ≤ 1) → G E ({ frames := 1, cells := 0, slots := 0, locals := 64 } : Room) D cy 2 P 0 0 25 [] [.int v25_s0] := by
    intro v25_s0 hv25_s0
    exact ret _ _ _ _ _ _ dX6_isTouching_25 (nar_b (b01 (by omega))) (by decide) (by decide) ⟨rfl, (by omega)⟩
  have J24 : (0 ≤ (pI P a0 0).toInt ∧ (pI P a0 0).toInt ≤ 1) → G E ({ frames := 1, cells := 0, slots := 0, locals := 64 } : Room) D cy 2 P 0 0 24 [] [] := by
    intro hq24_0
    refine g_iconst (v := 0) C dX6_isTouching_24 (by decide) ?_
    exact J25 0 (by decide)
  have J20 : G E ({ frames := 1, cells := 0, slots := 0, locals := 64 } : Room) D cy 2 P 0 0 20 [] [] := by
    refine g_iconst (v := 1) C dX6_isTouching_20 (by decide) ?_
    refine g_goto C 25 dX6_isTouching_21 (by decide) ?_
    exact J25 1 (by decide)
  refine g_aload_n C dX6_isTouching_0 rfl 0 rfl ?_
  refine g_ifnull C dX6_isTouching_1 ?_
  refine g_aload_n C dX6_isTouching_4 rfl 0 rfl ?_
  refine g_getI C fi_X6_21 (by decide) (ha0).1 (ha0).2 dX6_isTouching_5 ?_
  have h86 := I.rg (ha0) 0 rfl
  refine g_iload_n C dX6_isTouching_8 rfl 1 rfl ?_
  refine b_icmp_eq C 20 dX6_isTouching_9 (by decide) (fun h87 => ?_) (fun h87 => ?_)
  · have h87 : (pI P a0 0).toInt = a1.toInt := congrArg Int32.toInt h87
    refine g_lv (lv' := []) [] rfl ?_
    exact J20 
  · have h87 : (pI P a0 0).toInt ≠ a1.toInt := ti_ne h87
    refine g_aload_n C dX6_isTouching_12 rfl 0 rfl ?_
    refine g_getI C fi_X6_21 (by decide) (ha0).1 (ha0).2 dX6_isTouching_13 ?_
    refine g_iconst (v := (-1)) C dX6_isTouching_16 (by decide) ?_
    refine b_icmp_ne C 24 dX6_isTouching_17 (by decide) (fun h88 => ?_) (fun h88 => ?_)
    · have h88 : (pI P a0 0).toInt ≠ (-1) := ti_ne h88
      refine g_lv (lv' := []) [] rfl ?_
      exact J24 (by omega)
    · have h88 : (pI P a0 0).toInt = (-1) := congrArg Int32.toInt h88
      refine g_lv (lv' := []) [] rfl ?_
      exact J20 
set_option maxHeartbeats 4000000 in
set_option maxRecDepth 100000 in
theorem s_X6_isTouchingn0 {P : PP} {a1 : Int32} (I : IV P) : CtrI yX6_isTouching cX6_isTouching 2 (some Jvm.ClassFile.FieldType.boolean) ({ frames := 1, cells := 0, slots := 0, locals := 64 } : Room) 0 0 P [.null, .int a1] (fun r P2 => P = P2 ∧ (0 ≤ r.toInt ∧ r.toInt ≤ 0)) := by
  refine enI (lv := [(0, .null), (1, .int a1)]) (by decide) (Nat.le_of_ble_eq_true rfl) rfl (fun E D cy C Ci0 ret => ?_)
  have J25 : G E ({ frames := 1, cells := 0, slots := 0, locals := 64 } : Room) D cy 2 P 0 0 25 [] [.int 0] := by
    exact ret _ _ _ _ _ _ dX6_isTouching_25 rfl (by decide) (by decide) ⟨rfl, (by decide)⟩
  have J24 : G E ({ frames := 1, cells := 0, slots := 0, locals := 64 } : Room) D cy 2 P 0 0 24 [] [] := by
    refine g_iconst (v := 0) C dX6_isTouching_24 (by decide) ?_
    exact J25 
  refine g_aload_nN C dX6_isTouching_0 rfl 0 rfl ?_
  refine g_ifnullN C 24 dX6_isTouching_1 (by decide) ?_
  refine g_lv (lv' := []) [] rfl ?_
  exact J24 
theorem dX6_touches_0 : decode cX6_touches 0 = .ok (.iconst 0, 1) := by decide +kernel
theorem dX6_touches_1 : decode cX6_touches 1 = .ok (.istore_n 2, 1) := by decide +kernel
theorem dX6_touches_2 : decode cX6_touches 2 = .ok (.iload_n 2, 1) := by decide +kernel
theorem dX6_touches_3 : decode cX6_touches 3 = .ok (.aload_n 0, 1) := by decide +kernel
theorem dX6_touches_4 : decode cX6_touches 4 = .ok (.getfield 17, 3) := by decide +kernel
theorem dX6_touches_7 : decode cX6_touches 7 = .ok (.if_icmp .ge 24, 3) := by decide +kernel
theorem dX6_touches_10 : decode cX6_touches 10 = .ok (.aload_n 0, 1) := by decide +kernel
theorem dX6_touches_11 : decode cX6_touches 11 = .ok (.getfield 11, 3) := by decide +kernel
theorem dX6_touches_14 : decode cX6_touches 14 = .ok (.iload_n 2, 1) := by decide +kernel
theorem dX6_touches_15 : decode cX6_touches 15 = .ok (.aaload, 1) := by decide +kernel
theorem dX6_touches_16 : decode cX6_touches 16 = .ok (.iload_n 1, 1) := by decide +kernel
theorem dX6_touches_17 : decode cX6_touches 17 = .ok (.invokestatic 32, 3) := by decide +kernel
theorem dX6_touches_20 : decode cX6_touches 20 = .ok (.ifCond .eq 5, 3) := by decide +kernel
theorem dX6_touches_23 : decode cX6_touches 23 = .ok (.iconst 1, 1) := by decide +kernel
theorem dX6_touches_24 : decode cX6_touches 24 = .ok (.ireturn, 1) := by decide +kernel
theorem dX6_touches_25 : decode cX6_touches 25 = .ok (.iinc 2 1, 3) := by decide +kernel
theorem dX6_touches_28 : decode cX6_touches 28 = .ok (.goto (-26), 3) := by decide +kernel
theorem dX6_touches_31 : decode cX6_touches 31 = .ok (.iconst 0, 1) := by decide +kernel
theorem dX6_touches_32 : decode cX6_touches 32 = .ok (.ireturn, 1) := by decide +kernel
set_option maxHeartbeats 4000000 in
set_option maxRecDepth 100000 in
theorem s_X6_touches {P : PP} {a0 : Nat} {a1 : Int32} (I : IV P) (ha0 : At P a0 6) : CtrI yX6_touches cX6_touches 3 (some Jvm.ClassFile.FieldType.boolean) ({ frames := 2, cells := 0, slots := 0, locals := 128 } : Room) 0 0 P [.ref a0, .int a1] (fun r P2 => P = P2 ∧ (0 ≤ r.toInt ∧ r.toInt ≤ 1)) := by
  refine enI (lv := [(0, .ref a0), (1, .int a1)]) (by decide) (Nat.le_of_ble_eq_true rfl) rfl (fun E D cy C Ci0 ret => ?_)
  have J2 : ∀ (n2 : Nat) (v2_2 : Int32), (40 - v2_2.toInt).toNat < n2 → (0 ≤ v2_2.toInt ∧ v2_2.toInt ≤ 40) → G E ({ frames := 2, cells := 0, slots := 0, locals := 128 } : Room) D cy 3 P 0 0 2 [(0, .ref a0), (1, .int a1), (2, .int v2_2)] [] := by
    intro n2
    induction n2 with
    | zero => intro v2_2 hm2 hv2_2; omega
    | succ n2 ih2 =>
      intro v2_2 hm2 hv2_2
      refine g_iload_n C dX6_touches_2 rfl 2 rfl ?_
      refine g_aload_n C dX6_touches_3 rfl 0 rfl ?_
      refine g_getI C fi_X6_17 (by decide) (ha0).1 (ha0).2 dX6_touches_4 ?_
      have h389 := I.rg (ha0) 1 rfl
      refine b_icmp_ge C 31 dX6_touches_7 (by decide) (fun h390 => ?_) (fun h390 => ?_)
      · have h390 : (pI P a0 1).toInt ≤ v2_2.toInt := h390
        refine g_iconst (v := 0) C dX6_touches_31 (by decide) ?_
        exact ret _ _ _ _ _ _ dX6_touches_32 rfl (by decide) (by decide) ⟨rfl, (by decide)⟩
      · have h390 : v2_2.toInt < (pI P a0 1).toInt := h390
        refine g_aload_n C dX6_touches_10 rfl 0 rfl ?_
        obtain ⟨b391, e392, h393⟩ := I.fld (ha0) 0 20 40 rfl
        refine g_getR C fi_X6_11 rfl e392 (ha0).1 (ha0).2 dX6_touches_11 ?_
        refine g_iload_n C dX6_touches_14 rfl 2 rfl ?_
        refine g_aldQ (j := (v2_2.toInt.toNat)) C h393.1 h393.2.1 (by decide) (ix_in h393.2.2 (by omega)) dX6_touches_15 ?_
        rcases I.pap h393 (v2_2.toInt.toNat) with e395 | ⟨b394, e395, h396⟩
        · rw [e395]
          show G _ _ _ _ _ _ _ _ _ _ (.null :: _)
          refine g_iload_n C dX6_touches_16 rfl 1 rfl ?_
          refine g_callSI (b := 0) (ci := 0) (rest := []) C ms_X6_32 [.null, .int a1] (s_X6_isTouchingn0 I) rfl rfl (by decide) (Nat.le_of_ble_eq_true rfl) (by decide) dX6_touches_17 (fun r397 P398 h399 => ?_)
          obtain ⟨rfl, h399⟩ := h399
          have h399 : 0 ≤ r397.toInt ∧ r397.toInt ≤ 0 := h399
          refine b_if_eq C 25 dX6_touches_20 (by decide) (fun h400 => ?_) (fun h400 => ?_)
          · have h400 : r397.toInt = 0 := congrArg Int32.toInt h400
            refine s_iinc (lv0 := [(0, .ref a0), (1, .int a1)]) (m := 1) C dX6_touches_25 2 rfl (by decide) rfl (by decide) (by omega) (fun z401 h402 => ?_)
            have h402 : z401.toInt = v2_2.toInt + 1 := h402
            refine g_goto C 2 dX6_touches_28 (by decide) ?_
            refine g_lv (lv' := [(0, .ref a0), (1, .int a1), (2, .int z401)]) [1, 2, 0] rfl ?_
            exact ih2 z401 (by omega) (by omega)
          · have h400 : r397.toInt ≠ 0 := ti_ne h400
            omega
        · rw [e395]
          show G _ _ _ _ _ _ _ _ _ _ (.ref b394 :: _)
          refine g_iload_n C dX6_touches_16 rfl 1 rfl ?_
          refine g_callSI (b := 0) (ci := 0) (rest := []) C ms_X6_32 [.ref b394, .int a1] (s_X6_isTouching I h396) rfl rfl (by decide) (Nat.le_of_ble_eq_true rfl) (by decide) dX6_touches_17 (fun r403 P404 h405 => ?_)
          obtain ⟨rfl, h405⟩ := h405
          have h405 : 0 ≤ r403.toInt ∧ r403.toInt ≤ 1 := h405
          refine b_if_eq C 25 dX6_touches_20 (by decide) (fun h406 => ?_) (fun h406 => ?_)
          · have h406 : r403.toInt = 0 := congrArg Int32.toInt h406
            refine s_iinc (lv0 := [(0, .ref a0), (1, .int a1)]) (m := 1) C dX6_touches_25 2 rfl (by decide) rfl (by decide) (by omega) (fun z407 h408 => ?_)
            have h408 : z407.toInt = v2_2.toInt + 1 := h408
            refine g_goto C 2 dX6_touches_28 (by decide) ?_
            refine g_lv (lv' := [(0, .ref a0), (1, .int a1), (2, .int z407)]) [1, 2, 0] rfl ?_
            exact ih2 z407 (by omega) (by omega)
          · have h406 : r403.toInt ≠ 0 := ti_ne h406
            refine g_iconst (v := 1) C dX6_touches_23 (by decide) ?_
            exact ret _ _ _ _ _ _ dX6_touches_24 rfl (by decide) (by decide) ⟨rfl, (by decide)⟩
  refine g_iconst (v := 0) C dX6_touches_0 (by decide) ?_
  refine g_istore_n (lv' := [(2, .int 0), (0, .ref a0), (1, .int a1)]) C dX6_touches_1 rfl (by decide) rfl ?_
  refine g_lv (lv' := [(0, .ref a0), (1, .int a1), (2, .int 0)]) [1, 2, 0] rfl ?_
  exact J2 _ 0 (Nat.lt_succ_self _) (by decide)
theorem dX6_hasAlike_0 : decode cX6_hasAlike 0 = .ok (.iconst 0, 1) := by decide +kernel
theorem dX6_hasAlike_1 : decode cX6_hasAlike 1 = .ok (.istore_n 2, 1) := by decide +kernel
theorem dX6_hasAlike_2 : decode cX6_hasAlike 2 = .ok (.iload_n 2, 1) := by decide +kernel
theorem dX6_hasAlike_3 : decode cX6_hasAlike 3 = .ok (.aload_n 0, 1) := by decide +kernel
theorem dX6_hasAlike_4 : decode cX6_hasAlike 4 = .ok (.getfield 17, 3) := by decide +kernel
theorem dX6_hasAlike_7 : decode cX6_hasAlike 7 = .ok (.if_icmp .ge 30, 3) := by decide +kernel
theorem dX6_hasAlike_10 : decode cX6_hasAlike 10 = .ok (.aload_n 0, 1) := by decide +kernel
theorem dX6_hasAlike_11 : decode cX6_hasAlike 11 = .ok (.getfield 11, 3) := by decide +kernel
theorem dX6_hasAlike_14 : decode cX6_hasAlike 14 = .ok (.iload_n 2, 1) := by decide +kernel
theorem dX6_hasAlike_15 : decode cX6_hasAlike 15 = .ok (.aaload, 1) := by decide +kernel
theorem dX6_hasAlike_16 : decode cX6_hasAlike 16 = .ok (.astore_n 3, 1) := by decide +kernel
theorem dX6_hasAlike_17 : decode cX6_hasAlike 17 = .ok (.aload_n 3, 1) := by decide +kernel
theorem dX6_hasAlike_18 : decode cX6_hasAlike 18 = .ok (.ifnull 13, 3) := by decide +kernel
theorem dX6_hasAlike_21 : decode cX6_hasAlike 21 = .ok (.aload_n 3, 1) := by decide +kernel
theorem dX6_hasAlike_22 : decode cX6_hasAlike 22 = .ok (.aload_n 1, 1) := by decide +kernel
theorem dX6_hasAlike_23 : decode cX6_hasAlike 23 = .ok (.invokevirtual 28, 3) := by decide +kernel
theorem dX6_hasAlike_26 : decode cX6_hasAlike 26 = .ok (.ifCond .eq 5, 3) := by decide +kernel
theorem dX6_hasAlike_29 : decode cX6_hasAlike 29 = .ok (.iconst 1, 1) := by decide +kernel
theorem dX6_hasAlike_30 : decode cX6_hasAlike 30 = .ok (.ireturn, 1) := by decide +kernel
theorem dX6_hasAlike_31 : decode cX6_hasAlike 31 = .ok (.iinc 2 1, 3) := by decide +kernel
theorem dX6_hasAlike_34 : decode cX6_hasAlike 34 = .ok (.goto (-32), 3) := by decide +kernel
theorem dX6_hasAlike_37 : decode cX6_hasAlike 37 = .ok (.iconst 0, 1) := by decide +kernel
theorem dX6_hasAlike_38 : decode cX6_hasAlike 38 = .ok (.ireturn, 1) := by decide +kernel
set_option maxHeartbeats 4000000 in
set_option maxRecDepth 100000 in
theorem s_X6_hasAlike {P : PP} {a0 : Nat} {a1 : Nat} (I : IV P) (ha0 : At P a0 6) (ha1 : At P a1 7) : CtrI yX6_hasAlike cX6_hasAlike 4 (some Jvm.ClassFile.FieldType.boolean) ({ frames := 2, cells := 0, slots := 0, locals := 128 } : Room) 0 0 P [.ref a0, .ref a1] (fun r P2 => P = P2 ∧ (0 ≤ r.toInt ∧ r.toInt ≤ 1)) := by
  refine enI (lv := [(0, .ref a0), (1, .ref a1)]) (by decide) (Nat.le_of_ble_eq_true rfl) rfl (fun E D cy C Ci0 ret => ?_)
  have J2 : ∀ (n2 : Nat) (v2_2 : Int32), (40 - v2_2.toInt).toNat < n2 → (0 ≤ v2_2.toInt ∧ v2_2.toInt ≤ 40) → G E ({ frames := 2, cells := 0, slots := 0, locals := 128 } : Room) D cy 4 P 0 0 2 [(0, .ref a0), (1, .ref a1), (2, .int v2_2)] [] := by
    intro n2
    induction n2 with
    | zero => intro v2_2 hm2 hv2_2; omega
    | succ n2 ih2 =>
      intro v2_2 hm2 hv2_2
      have J31 : (0 ≤ v2_2.toInt ∧ v2_2.toInt ≤ 39) → (1 ≤ (pI P a0 1).toInt ∧ (pI P a0 1).toInt ≤ 40) → G E ({ frames := 2, cells := 0, slots := 0, locals := 128 } : Room) D cy 4 P 0 0 31 [(0, .ref a0), (1, .ref a1), (2, .int v2_2)] [] := by
        intro hv31_2 hq31_0
        refine s_iinc (lv0 := [(0, .ref a0), (1, .ref a1)]) (m := 1) C dX6_hasAlike_31 2 rfl (by decide) rfl (by decide) (by omega) (fun z619 h620 => ?_)
        have h620 : z619.toInt = v2_2.toInt + 1 := h620
        refine g_goto C 2 dX6_hasAlike_34 (by decide) ?_
        refine g_lv (lv' := [(0, .ref a0), (1, .ref a1), (2, .int z619)]) [1, 2, 0] rfl ?_
        exact ih2 z619 (by omega) (by omega)
      refine g_iload_n C dX6_hasAlike_2 rfl 2 rfl ?_
      refine g_aload_n C dX6_hasAlike_3 rfl 0 rfl ?_
      refine g_getI C fi_X6_17 (by decide) (ha0).1 (ha0).2 dX6_hasAlike_4 ?_
      have h621 := I.rg (ha0) 1 rfl
      refine b_icmp_ge C 37 dX6_hasAlike_7 (by decide) (fun h622 => ?_) (fun h622 => ?_)
      · have h622 : (pI P a0 1).toInt ≤ v2_2.toInt := h622
        refine g_iconst (v := 0) C dX6_hasAlike_37 (by decide) ?_
        exact ret _ _ _ _ _ _ dX6_hasAlike_38 rfl (by decide) (by decide) ⟨rfl, (by decide)⟩
      · have h622 : v2_2.toInt < (pI P a0 1).toInt := h622
        refine g_aload_n C dX6_hasAlike_10 rfl 0 rfl ?_
        obtain ⟨b623, e624, h625⟩ := I.fld (ha0) 0 20 40 rfl
        refine g_getR C fi_X6_11 rfl e624 (ha0).1 (ha0).2 dX6_hasAlike_11 ?_
        refine g_iload_n C dX6_hasAlike_14 rfl 2 rfl ?_
        refine g_aldQ (j := (v2_2.toInt.toNat)) C h625.1 h625.2.1 (by decide) (ix_in h625.2.2 (by omega)) dX6_hasAlike_15 ?_
        rcases I.pap h625 (v2_2.toInt.toNat) with e627 | ⟨b626, e627, h628⟩
        · rw [e627]
          show G _ _ _ _ _ _ _ _ _ _ (.null :: _)
          refine g_astore_nN (lv' := [(3, .null), (0, .ref a0), (1, .ref a1), (2, .int v2_2)]) C dX6_hasAlike_16 rfl (by decide) rfl ?_
          refine g_aload_nN C dX6_hasAlike_17 rfl 0 rfl ?_
          refine g_ifnullN C 31 dX6_hasAlike_18 (by decide) ?_
          refine g_lv (lv' := [(0, .ref a0), (1, .ref a1), (2, .int v2_2)]) [1, 2, 3] rfl ?_
          exact J31 (by omega) (by omega)
        · rw [e627]
          show G _ _ _ _ _ _ _ _ _ _ (.ref b626 :: _)
          refine g_astore_n (lv' := [(3, .ref b626), (0, .ref a0), (1, .ref a1), (2, .int v2_2)]) C dX6_hasAlike_16 rfl (by decide) rfl ?_
          refine g_aload_n C dX6_hasAlike_17 rfl 0 rfl ?_
          refine g_ifnull C dX6_hasAlike_18 ?_
          refine g_aload_n C dX6_hasAlike_21 rfl 0 rfl ?_
          refine g_aload_n C dX6_hasAlike_22 rfl 2 rfl ?_
          refine g_callVI (rest := []) C mv_X6_28 [.ref a1] (s_X7_isAlike I h628 ha1) (h628).1 (h628).2 rfl rfl (by decide) (Nat.le_of_ble_eq_true rfl) (by decide) dX6_hasAlike_23 (fun r629 P630 h631 => ?_)
          obtain ⟨rfl, h631⟩ := h631
          have h631 : 0 ≤ r629.toInt ∧ r629.toInt ≤ 1 := h631
          refine b_if_eq C 31 dX6_hasAlike_26 (by decide) (fun h632 => ?_) (fun h632 => ?_)
          · have h632 : r629.toInt = 0 := congrArg Int32.toInt h632
            refine g_lv (lv' := [(0, .ref a0), (1, .ref a1), (2, .int v2_2)]) [1, 2, 3] rfl ?_
            exact J31 (by omega) (by omega)
          · have h632 : r629.toInt ≠ 0 := ti_ne h632
            refine g_iconst (v := 1) C dX6_hasAlike_29 (by decide) ?_
            exact ret _ _ _ _ _ _ dX6_hasAlike_30 rfl (by decide) (by decide) ⟨rfl, (by decide)⟩
  refine g_iconst (v := 0) C dX6_hasAlike_0 (by decide) ?_
  refine g_istore_n (lv' := [(2, .int 0), (0, .ref a0), (1, .ref a1)]) C dX6_hasAlike_1 rfl (by decide) rfl ?_
  refine g_lv (lv' := [(0, .ref a0), (1, .ref a1), (2, .int 0)]) [1, 2, 0] rfl ?_
  exact J2 _ 0 (Nat.lt_succ_self _) (by decide)
theorem dX6_unnamed_0 : decode cX6_unnamed 0 = .ok (.iconst 0, 1) := by decide +kernel
theorem dX6_unnamed_1 : decode cX6_unnamed 1 = .ok (.istore_n 1, 1) := by decide +kernel
theorem dX6_unnamed_2 : decode cX6_unnamed 2 = .ok (.iconst 0, 1) := by decide +kernel
theorem dX6_unnamed_3 : decode cX6_unnamed 3 = .ok (.istore_n 2, 1) := by decide +kernel
theorem dX6_unnamed_4 : decode cX6_unnamed 4 = .ok (.iload_n 2, 1) := by decide +kernel
theorem dX6_unnamed_5 : decode cX6_unnamed 5 = .ok (.aload_n 0, 1) := by decide +kernel
theorem dX6_unnamed_6 : decode cX6_unnamed 6 = .ok (.getfield 17, 3) := by decide +kernel
theorem dX6_unnamed_9 : decode cX6_unnamed 9 = .ok (.if_icmp .ge 31, 3) := by decide +kernel
theorem dX6_unnamed_12 : decode cX6_unnamed 12 = .ok (.aload_n 0, 1) := by decide +kernel
theorem dX6_unnamed_13 : decode cX6_unnamed 13 = .ok (.getfield 11, 3) := by decide +kernel
theorem dX6_unnamed_16 : decode cX6_unnamed 16 = .ok (.iload_n 2, 1) := by decide +kernel
theorem dX6_unnamed_17 : decode cX6_unnamed 17 = .ok (.aaload, 1) := by decide +kernel
theorem dX6_unnamed_18 : decode cX6_unnamed 18 = .ok (.astore_n 3, 1) := by decide +kernel
theorem dX6_unnamed_19 : decode cX6_unnamed 19 = .ok (.aload_n 3, 1) := by decide +kernel
theorem dX6_unnamed_20 : decode cX6_unnamed 20 = .ok (.ifnull 14, 3) := by decide +kernel
theorem dX6_unnamed_23 : decode cX6_unnamed 23 = .ok (.aload_n 3, 1) := by decide +kernel
theorem dX6_unnamed_24 : decode cX6_unnamed 24 = .ok (.getfield 21, 3) := by decide +kernel
theorem dX6_unnamed_27 : decode cX6_unnamed 27 = .ok (.iconst (-1), 1) := by decide +kernel
theorem dX6_unnamed_28 : decode cX6_unnamed 28 = .ok (.if_icmp .ne 6, 3) := by decide +kernel
theorem dX6_unnamed_31 : decode cX6_unnamed 31 = .ok (.iinc 1 1, 3) := by decide +kernel
theorem dX6_unnamed_34 : decode cX6_unnamed 34 = .ok (.iinc 2 1, 3) := by decide +kernel
theorem dX6_unnamed_37 : decode cX6_unnamed 37 = .ok (.goto (-33), 3) := by decide +kernel
theorem dX6_unnamed_40 : decode cX6_unnamed 40 = .ok (.iload_n 1, 1) := by decide +kernel
theorem dX6_unnamed_41 : decode cX6_unnamed 41 = .ok (.ireturn, 1) := by decide +kernel
set_option maxHeartbeats 4000000 in
set_option maxRecDepth 100000 in
theorem s_X6_unnamed {P : PP} {a0 : Nat} (I : IV P) (ha0 : At P a0 6) : CtrI yX6_unnamed cX6_unnamed 4 (some Jvm.ClassFile.FieldType.int) ({ frames := 1, cells := 0, slots := 0, locals := 64 } : Room) 0 0 P [.ref a0] (fun r P2 => P = P2 ∧ (True)) := by
  refine enI (lv := [(0, .ref a0)]) (by decide) (Nat.le_of_ble_eq_true rfl) rfl (fun E D cy C Ci0 ret => ?_)
  have J4 : ∀ (n4 : Nat) (v4_1 : Int32) (v4_2 : Int32), (40 - v4_2.toInt).toNat < n4 → (0 ≤ v4_2.toInt ∧ v4_2.toInt ≤ 40) → G E ({ frames := 1, cells := 0, slots := 0, locals := 64 } : Room) D cy 4 P 0 0 4 [(0, .ref a0), (1, .int v4_1), (2, .int v4_2)] [] := by
    intro n4
    induction n4 with
    | zero => intro v4_1 v4_2 hm4 hv4_2; omega
    | succ n4 ih4 =>
      intro v4_1 v4_2 hm4 hv4_2
      have J34 : ∀ (v34_1 : Int32), (0 ≤ v4_2.toInt ∧ v4_2.toInt ≤ 39) → (1 ≤ (pI P a0 1).toInt ∧ (pI P a0 1).toInt ≤ 40) → G E ({ frames := 1, cells := 0, slots := 0, locals := 64 } : Room) D cy 4 P 0 0 34 [(0, .ref a0), (1, .int v34_1), (2, .int v4_2)] [] := by
        intro v34_1 hv34_2 hq34_0
        refine s_iinc (lv0 := [(0, .ref a0), (1, .int v34_1)]) (m := 1) C dX6_unnamed_34 2 rfl (by decide) rfl (by decide) (by omega) (fun z1093 h1094 => ?_)
        have h1094 : z1093.toInt = v4_2.toInt + 1 := h1094
        refine g_goto C 4 dX6_unnamed_37 (by decide) ?_
        refine g_lv (lv' := [(0, .ref a0), (1, .int v34_1), (2, .int z1093)]) [1, 2, 0] rfl ?_
        exact ih4 v34_1 z1093 (by omega) (by omega)
      refine g_iload_n C dX6_unnamed_4 rfl 2 rfl ?_
      refine g_aload_n C dX6_unnamed_5 rfl 0 rfl ?_
      refine g_getI C fi_X6_17 (by decide) (ha0).1 (ha0).2 dX6_unnamed_6 ?_
      have h1095 := I.rg (ha0) 1 rfl
      refine b_icmp_ge C 40 dX6_unnamed_9 (by decide) (fun h1096 => ?_) (fun h1096 => ?_)
      · have h1096 : (pI P a0 1).toInt ≤ v4_2.toInt := h1096
        refine g_iload_n C dX6_unnamed_40 rfl 1 rfl ?_
        exact ret _ _ _ _ _ _ dX6_unnamed_41 rfl (by decide) (by decide) ⟨rfl, trivial⟩
      · have h1096 : v4_2.toInt < (pI P a0 1).toInt := h1096
        refine g_aload_n C dX6_unnamed_12 rfl 0 rfl ?_
        obtain ⟨b1097, e1098, h1099⟩ := I.fld (ha0) 0 20 40 rfl
        refine g_getR C fi_X6_11 rfl e1098 (ha0).1 (ha0).2 dX6_unnamed_13 ?_
        refine g_iload_n C dX6_unnamed_16 rfl 2 rfl ?_
        refine g_aldQ (j := (v4_2.toInt.toNat)) C h1099.1 h1099.2.1 (by decide) (ix_in h1099.2.2 (by omega)) dX6_unnamed_17 ?_
        rcases I.pap h1099 (v4_2.toInt.toNat) with e1101 | ⟨b1100, e1101, h1102⟩
        · rw [e1101]
          show G _ _ _ _ _ _ _ _ _ _ (.null :: _)
          refine g_astore_nN (lv' := [(3, .null), (0, .ref a0), (1, .int v4_1), (2, .int v4_2)]) C dX6_unnamed_18 rfl (by decide) rfl ?_
          refine g_aload_nN C dX6_unnamed_19 rfl 0 rfl ?_
          refine g_ifnullN C 34 dX6_unnamed_20 (by decide) ?_
          refine g_lv (lv' := [(0, .ref a0), (1, .int v4_1), (2, .int v4_2)]) [1, 2, 3] rfl ?_
          exact J34 v4_1 (by omega) (by omega)
        · rw [e1101]
          show G _ _ _ _ _ _ _ _ _ _ (.ref b1100 :: _)
          refine g_astore_n (lv' := [(3, .ref b1100), (0, .ref a0), (1, .int v4_1), (2, .int v4_2)]) C dX6_unnamed_18 rfl (by decide) rfl ?_
          refine g_aload_n C dX6_unnamed_19 rfl 0 rfl ?_
          refine g_ifnull C dX6_unnamed_20 ?_
          refine g_aload_n C dX6_unnamed_23 rfl 0 rfl ?_
          refine g_getI C fi_X6_21 (by decide) (h1102).1 (h1102).2 dX6_unnamed_24 ?_
          have h1103 := I.rg (h1102) 0 rfl
          refine g_iconst (v := (-1)) C dX6_unnamed_27 (by decide) ?_
          refine b_icmp_ne C 34 dX6_unnamed_28 (by decide) (fun h1104 => ?_) (fun h1104 => ?_)
          · have h1104 : (pI P b1100 0).toInt ≠ (-1) := ti_ne h1104
            refine g_lv (lv' := [(0, .ref a0), (1, .int v4_1), (2, .int v4_2)]) [1, 2, 3] rfl ?_
            exact J34 v4_1 (by omega) (by omega)
          · have h1104 : (pI P b1100 0).toInt = (-1) := congrArg Int32.toInt h1104
            refine a_iinc (lv0 := [(3, .ref b1100), (0, .ref a0), (2, .int v4_2)]) C dX6_unnamed_31 2 rfl (by decide) rfl (fun z1105 => ?_)
            refine g_lv (lv' := [(0, .ref a0), (1, .int z1105), (2, .int v4_2)]) [2, 0, 3] rfl ?_
            exact J34 z1105 (by omega) (by omega)
  refine g_iconst (v := 0) C dX6_unnamed_0 (by decide) ?_
  refine g_istore_n (lv' := [(1, .int 0), (0, .ref a0)]) C dX6_unnamed_1 rfl (by decide) rfl ?_
  refine g_iconst (v := 0) C dX6_unnamed_2 (by decide) ?_
  refine g_istore_n (lv' := [(2, .int 0), (1, .int 0), (0, .ref a0)]) C dX6_unnamed_3 rfl (by decide) rfl ?_
  refine g_lv (lv' := [(0, .ref a0), (1, .int 0), (2, .int 0)]) [2, 1, 0] rfl ?_
  exact J4 _ 0 0 (Nat.lt_succ_self _) (by decide)
theorem dX6_put_0 : decode cX6_put 0 = .ok (.aload_n 0, 1) := by decide +kernel
theorem dX6_put_1 : decode cX6_put 1 = .ok (.getfield 17, 3) := by decide +kernel
theorem dX6_put_4 : decode cX6_put 4 = .ok (.bipush 40, 2) := by decide +kernel
theorem dX6_put_6 : decode cX6_put 6 = .ok (.if_icmp .ge 20, 3) := by decide +kernel
theorem dX6_put_9 : decode cX6_put 9 = .ok (.aload_n 1, 1) := by decide +kernel
theorem dX6_put_10 : decode cX6_put 10 = .ok (.getfield 21, 3) := by decide +kernel
theorem dX6_put_13 : decode cX6_put 13 = .ok (.iconst (-1), 1) := by decide +kernel
theorem dX6_put_14 : decode cX6_put 14 = .ok (.if_icmp .ne 14, 3) := by decide +kernel
theorem dX6_put_17 : decode cX6_put 17 = .ok (.aload_n 0, 1) := by decide +kernel
theorem dX6_put_18 : decode cX6_put 18 = .ok (.invokevirtual 24, 3) := by decide +kernel
theorem dX6_put_21 : decode cX6_put 21 = .ok (.bipush 6, 2) := by decide +kernel
theorem dX6_put_23 : decode cX6_put 23 = .ok (.if_icmp .lt 5, 3) := by decide +kernel
theorem dX6_put_26 : decode cX6_put 26 = .ok (.iconst (-1), 1) := by decide +kernel
theorem dX6_put_27 : decode cX6_put 27 = .ok (.ireturn, 1) := by decide +kernel
theorem dX6_put_28 : decode cX6_put 28 = .ok (.aload_n 0, 1) := by decide +kernel
theorem dX6_put_29 : decode cX6_put 29 = .ok (.getfield 11, 3) := by decide +kernel
theorem dX6_put_32 : decode cX6_put 32 = .ok (.aload_n 0, 1) := by decide +kernel
theorem dX6_put_33 : decode cX6_put 33 = .ok (.getfield 17, 3) := by decide +kernel
theorem dX6_put_36 : decode cX6_put 36 = .ok (.aload_n 1, 1) := by decide +kernel
theorem dX6_put_37 : decode cX6_put 37 = .ok (.aastore, 1) := by decide +kernel
theorem dX6_put_38 : decode cX6_put 38 = .ok (.aload_n 0, 1) := by decide +kernel
theorem dX6_put_39 : decode cX6_put 39 = .ok (.dup, 1) := by decide +kernel
theorem dX6_put_40 : decode cX6_put 40 = .ok (.getfield 17, 3) := by decide +kernel
theorem dX6_put_43 : decode cX6_put 43 = .ok (.iconst 1, 1) := by decide +kernel
theorem dX6_put_44 : decode cX6_put 44 = .ok (.iadd, 1) := by decide +kernel
theorem dX6_put_45 : decode cX6_put 45 = .ok (.putfield 17, 3) := by decide +kernel
theorem dX6_put_48 : decode cX6_put 48 = .ok (.aload_n 0, 1) := by decide +kernel
theorem dX6_put_49 : decode cX6_put 49 = .ok (.getfield 17, 3) := by decide +kernel
theorem dX6_put_52 : decode cX6_put 52 = .ok (.iconst 1, 1) := by decide +kernel
theorem dX6_put_53 : decode cX6_put 53 = .ok (.isub, 1) := by decide +kernel
theorem dX6_put_54 : decode cX6_put 54 = .ok (.ireturn, 1) := by decide +kernel
set_option maxHeartbeats 4000000 in
set_option maxRecDepth 100000 in
theorem s_X6_put {P : PP} {a0 : Nat} {a1 : Nat} (I : IV P) (ha0 : At P a0 6) (ha1 : At P a1 7) : CtrI yX6_put cX6_put 2 (some Jvm.ClassFile.FieldType.int) ({ frames := 2, cells := 0, slots := 0, locals := 128 } : Room) 0 0 P [.ref a0, .ref a1] (fun r P2 => IV P2 ∧ EK [6] P P2 ∧ (-1 ≤ r.toInt ∧ r.toInt ≤ 39)) := by
  refine enI (lv := [(0, .ref a0), (1, .ref a1)]) (by decide) (Nat.le_of_ble_eq_true rfl) rfl (fun E D cy C Ci0 ret => ?_)
  have J28 : (0 ≤ (pI P a0 1).toInt ∧ (pI P a0 1).toInt ≤ 39) → (-1 ≤ (pI P a1 0).toInt ∧ (pI P a1 0).toInt ≤ 1) → G E ({ frames := 2, cells := 0, slots := 0, locals := 128 } : Room) D cy 2 P 0 0 28 [(0, .ref a0), (1, .ref a1)] [] := by
    intro hq28_0 hq28_1
    refine g_aload_n C dX6_put_28 rfl 0 rfl ?_
    obtain ⟨b1139, e1140, h1141⟩ := I.fld (ha0) 0 20 40 rfl
    refine g_getR C fi_X6_11 rfl e1140 (ha0).1 (ha0).2 dX6_put_29 ?_
    refine g_aload_n C dX6_put_32 rfl 0 rfl ?_
    refine g_getI C fi_X6_17 (by decide) (ha0).1 (ha0).2 dX6_put_33 ?_
    refine g_aload_n C dX6_put_36 rfl 1 rfl ?_
    refine g_astR (j := ((pI P a0 1).toInt.toNat)) C h1141.1 h1141.2.1 (by decide) (ix_in h1141.2.2 (by omega)) (ha1).1 (ha1).2 (by decide) rfl rfl dX6_put_37 ?_
    refine gp (ks := []) (I.setP h1141 (fun _ z => by cases z; exact ha1)) (EK.setR) (fun P1142 I1143 X1144 => ?_)
    have q1145 := X1144.keep ha0 (by decide) 1
    have q1146 := X1144.keep ha1 (by decide) 0
    have X1147 : EK [6] P P1142 := X1144.mono (by decide)
    have h1148 := X1144.at ha0
    have h1149 := X1144.at ha1
    refine g_aload_n C dX6_put_38 rfl 0 rfl ?_
    refine g_dup C dX6_put_39 rfl ?_
    refine g_getI C fi_X6_17 (by decide) (h1148).1 (h1148).2 dX6_put_40 ?_
    refine g_iconst (v := 1) C dX6_put_43 (by decide) ?_
    refine s_iadd C dX6_put_44 (by show -2147483648 ≤ (pI P1142 a0 1).toInt + 1 ∧ (pI P1142 a0 1).toInt + 1 ≤ 2147483647; omega) (fun z1150 h1151 => ?_)
    have h1151 : z1150.toInt = (pI P1142 a0 1).toInt + 1 := h1151
    refine g_putI C fi_X6_17 rfl (h1148).1 (h1148).2 dX6_put_45 ?_
    refine gpW (ks := [6]) (I1143.setI (h1148) (rgOk.of rfl (by omega))) (EK.setI (h1148).2 (by decide)) (fun P1152 I1153 X1154 w1155 w1156 => ?_)
    have q1157 := X1154.keep h1149 (by decide) 0
    have X1158 : EK [6] P P1152 := X1147.tr (X1154.mono (by decide))
    have h1159 := X1154.at h1148
    have h1160 := X1154.at h1149
    refine g_aload_n C dX6_put_48 rfl 0 rfl ?_
    refine g_getI C fi_X6_17 (by decide) (h1159).1 (h1159).2 dX6_put_49 ?_
    refine g_iconst (v := 1) C dX6_put_52 (by decide) ?_
    refine s_isub C dX6_put_53 (by show -2147483648 ≤ (pI P1152 a0 1).toInt - 1 ∧ (pI P1152 a0 1).toInt - 1 ≤ 2147483647; omega) (fun z1161 h1162 => ?_)
    have h1162 : z1161.toInt = (pI P1152 a0 1).toInt - 1 := h1162
    exact ret _ _ _ _ _ _ dX6_put_54 rfl (by decide) (by decide) ⟨I1153, X1158, (by omega)⟩
  have J26 : (0 ≤ (pI P a0 1).toInt ∧ (pI P a0 1).toInt ≤ 40) → G E ({ frames := 2, cells := 0, slots := 0, locals := 128 } : Room) D cy 2 P 0 0 26 [] [] := by
    intro hq26_0
    refine g_iconst (v := (-1)) C dX6_put_26 (by decide) ?_
    exact ret _ _ _ _ _ _ dX6_put_27 rfl (by decide) (by decide) ⟨I, EK.rf, (by decide)⟩
  refine g_aload_n C dX6_put_0 rfl 0 rfl ?_
  refine g_getI C fi_X6_17 (by decide) (ha0).1 (ha0).2 dX6_put_1 ?_
  have h1163 := I.rg (ha0) 1 rfl
  refine g_bipush (v := 40) C dX6_put_4 (by decide) ?_
  refine b_icmp_ge C 26 dX6_put_6 (by decide) (fun h1164 => ?_) (fun h1164 => ?_)
  · have h1164 : 40 ≤ (pI P a0 1).toInt := h1164
    refine g_lv (lv' := []) [] rfl ?_
    exact J26 (by omega)
  · have h1164 : (pI P a0 1).toInt < 40 := h1164
    refine g_aload_n C dX6_put_9 rfl 1 rfl ?_
    refine g_getI C fi_X6_21 (by decide) (ha1).1 (ha1).2 dX6_put_10 ?_
    have h1165 := I.rg (ha1) 0 rfl
    refine g_iconst (v := (-1)) C dX6_put_13 (by decide) ?_
    refine b_icmp_ne C 28 dX6_put_14 (by decide) (fun h1166 => ?_) (fun h1166 => ?_)
    · have h1166 : (pI P a1 0).toInt ≠ (-1) := ti_ne h1166
      exact J28 (by omega) (by omega)
    · have h1166 : (pI P a1 0).toInt = (-1) := congrArg Int32.toInt h1166
      refine g_aload_n C dX6_put_17 rfl 0 rfl ?_
      refine g_callVI (rest := []) C mv_X6_24 [] (s_X6_unnamed I ha0) (ha0).1 (ha0).2 rfl rfl (by decide) (Nat.le_of_ble_eq_true rfl) (by decide) dX6_put_18 (fun r1167 P1168 h1169 => ?_)
      obtain ⟨rfl, h1169⟩ := h1169
      have h1169 : True := h1169
      refine g_bipush (v := 6) C dX6_put_21 (by decide) ?_
      refine b_icmp_lt C 28 dX6_put_23 (by decide) (fun h1170 => ?_) (fun h1170 => ?_)
      · have h1170 : r1167.toInt < 6 := h1170
        exact J28 (by omega) (by omega)
      · have h1170 : 6 ≤ r1167.toInt := h1170
        refine g_lv (lv' := []) [] rfl ?_
        exact J26 (by omega)
theorem dX6_drop_0 : decode cX6_drop 0 = .ok (.iload_n 1, 1) := by decide +kernel
theorem dX6_drop_1 : decode cX6_drop 1 = .ok (.ifCond .lt 11, 3) := by decide +kernel
theorem dX6_drop_4 : decode cX6_drop 4 = .ok (.iload_n 1, 1) := by decide +kernel
theorem dX6_drop_5 : decode cX6_drop 5 = .ok (.aload_n 0, 1) := by decide +kernel
theorem dX6_drop_6 : decode cX6_drop 6 = .ok (.getfield 17, 3) := by decide +kernel
theorem dX6_drop_9 : decode cX6_drop 9 = .ok (.if_icmp .lt 4, 3) := by decide +kernel
theorem dX6_drop_12 : decode cX6_drop 12 = .ok (.return_, 1) := by decide +kernel
theorem dX6_drop_13 : decode cX6_drop 13 = .ok (.iload_n 1, 1) := by decide +kernel
theorem dX6_drop_14 : decode cX6_drop 14 = .ok (.iconst 1, 1) := by decide +kernel
theorem dX6_drop_15 : decode cX6_drop 15 = .ok (.iadd, 1) := by decide +kernel
theorem dX6_drop_16 : decode cX6_drop 16 = .ok (.istore_n 2, 1) := by decide +kernel
theorem dX6_drop_17 : decode cX6_drop 17 = .ok (.iload_n 2, 1) := by decide +kernel
theorem dX6_drop_18 : decode cX6_drop 18 = .ok (.aload_n 0, 1) := by decide +kernel
theorem dX6_drop_19 : decode cX6_drop 19 = .ok (.getfield 17, 3) := by decide +kernel
theorem dX6_drop_22 : decode cX6_drop 22 = .ok (.if_icmp .ge 23, 3) := by decide +kernel
theorem dX6_drop_25 : decode cX6_drop 25 = .ok (.aload_n 0, 1) := by decide +kernel
theorem dX6_drop_26 : decode cX6_drop 26 = .ok (.getfield 11, 3) := by decide +kernel
theorem dX6_drop_29 : decode cX6_drop 29 = .ok (.iload_n 2, 1) := by decide +kernel
theorem dX6_drop_30 : decode cX6_drop 30 = .ok (.iconst 1, 1) := by decide +kernel
theorem dX6_drop_31 : decode cX6_drop 31 = .ok (.isub, 1) := by decide +kernel
theorem dX6_drop_32 : decode cX6_drop 32 = .ok (.aload_n 0, 1) := by decide +kernel
theorem dX6_drop_33 : decode cX6_drop 33 = .ok (.getfield 11, 3) := by decide +kernel
theorem dX6_drop_36 : decode cX6_drop 36 = .ok (.iload_n 2, 1) := by decide +kernel
theorem dX6_drop_37 : decode cX6_drop 37 = .ok (.aaload, 1) := by decide +kernel
theorem dX6_drop_38 : decode cX6_drop 38 = .ok (.aastore, 1) := by decide +kernel
theorem dX6_drop_39 : decode cX6_drop 39 = .ok (.iinc 2 1, 3) := by decide +kernel
theorem dX6_drop_42 : decode cX6_drop 42 = .ok (.goto (-25), 3) := by decide +kernel
theorem dX6_drop_45 : decode cX6_drop 45 = .ok (.aload_n 0, 1) := by decide +kernel
theorem dX6_drop_46 : decode cX6_drop 46 = .ok (.dup, 1) := by decide +kernel
theorem dX6_drop_47 : decode cX6_drop 47 = .ok (.getfield 17, 3) := by decide +kernel
theorem dX6_drop_50 : decode cX6_drop 50 = .ok (.iconst 1, 1) := by decide +kernel
theorem dX6_drop_51 : decode cX6_drop 51 = .ok (.isub, 1) := by decide +kernel
theorem dX6_drop_52 : decode cX6_drop 52 = .ok (.putfield 17, 3) := by decide +kernel
theorem dX6_drop_55 : decode cX6_drop 55 = .ok (.return_, 1) := by decide +kernel
set_option maxHeartbeats 4000000 in
set_option maxRecDepth 100000 in
theorem s_X6_drop {P : PP} {a0 : Nat} {a1 : Int32} (I : IV P) (ha0 : At P a0 6) : CtrV yX6_drop cX6_drop 3 none ({ frames := 1, cells := 0, slots := 0, locals := 64 } : Room) 0 0 P [.ref a0, .int a1] (fun P2 => IV P2 ∧ EK [6] P P2) := by
  refine enV (lv := [(0, .ref a0), (1, .int a1)]) (by decide) (Nat.le_of_ble_eq_true rfl) rfl (fun E D cy C Ci0 ret => ?_)
  have J17 : ∀ (n17 : Nat) (P17 : PP) (v17_2 : Int32), (40 - v17_2.toInt).toNat < n17 → (IV P17) → (EK [6] P P17) → (1 ≤ v17_2.toInt ∧ v17_2.toInt ≤ 40) → (1 ≤ (pI P17 a0 1).toInt ∧ (pI P17 a0 1).toInt ≤ 40) → G E ({ frames := 1, cells := 0, slots := 0, locals := 64 } : Room) D cy 3 P17 0 0 17 [(0, .ref a0), (2, .int v17_2)] [] := by
    intro n17
    induction n17 with
    | zero => intro P17 v17_2 hm17 I17 X17 hv17_2 hq17_0; omega
    | succ n17 ih17 =>
      intro P17 v17_2 hm17 I17 X17 hv17_2 hq17_0
      have h1244 := X17.at ha0
      refine g_iload_n C dX6_drop_17 rfl 1 rfl ?_
      refine g_aload_n C dX6_drop_18 rfl 0 rfl ?_
      refine g_getI C fi_X6_17 (by decide) (h1244).1 (h1244).2 dX6_drop_19 ?_
      refine b_icmp_ge C 45 dX6_drop_22 (by decide) (fun h1245 => ?_) (fun h1245 => ?_)
      · have h1245 : (pI P17 a0 1).toInt ≤ v17_2.toInt := h1245
        refine g_aload_n C dX6_drop_45 rfl 0 rfl ?_
        refine g_dup C dX6_drop_46 rfl ?_
        refine g_getI C fi_X6_17 (by decide) (h1244).1 (h1244).2 dX6_drop_47 ?_
        refine g_iconst (v := 1) C dX6_drop_50 (by decide) ?_
        refine s_isub C dX6_drop_51 (by show -2147483648 ≤ (pI P17 a0 1).toInt - 1 ∧ (pI P17 a0 1).toInt - 1 ≤ 2147483647; omega) (fun z1246 h1247 => ?_)
        have h1247 : z1246.toInt = (pI P17 a0 1).toInt - 1 := h1247
        refine g_putI C fi_X6_17 rfl (h1244).1 (h1244).2 dX6_drop_52 ?_
        refine gpW (ks := [6]) (I17.setI (h1244) (rgOk.of rfl (by omega))) (EK.setI (h1244).2 (by decide)) (fun P1248 I1249 X1250 w1251 w1252 => ?_)
        have X1253 : EK [6] P P1248 := X17.tr (X1250.mono (by decide))
        have h1254 := X1250.at h1244
        exact ret _ _ _ _ _ dX6_drop_55 (by decide) (by decide) ⟨I1249, X1253⟩
      · have h1245 : v17_2.toInt < (pI P17 a0 1).toInt := h1245
        refine g_aload_n C dX6_drop_25 rfl 0 rfl ?_
        obtain ⟨b1255, e1256, h1257⟩ := I17.fld (h1244) 0 20 40 rfl
        refine g_getR C fi_X6_11 rfl e1256 (h1244).1 (h1244).2 dX6_drop_26 ?_
        refine g_iload_n C dX6_drop_29 rfl 1 rfl ?_
        refine g_iconst (v := 1) C dX6_drop_30 (by decide) ?_
        refine s_isub C dX6_drop_31 (by show -2147483648 ≤ v17_2.toInt - 1 ∧ v17_2.toInt - 1 ≤ 2147483647; omega) (fun z1258 h1259 => ?_)
        have h1259 : z1258.toInt = v17_2.toInt - 1 := h1259
        refine g_aload_n C dX6_drop_32 rfl 0 rfl ?_
        refine g_getR C fi_X6_11 rfl e1256 (h1244).1 (h1244).2 dX6_drop_33 ?_
        refine g_iload_n C dX6_drop_36 rfl 1 rfl ?_
        refine g_aldQ (j := (v17_2.toInt.toNat)) C h1257.1 h1257.2.1 (by decide) (ix_in h1257.2.2 (by omega)) dX6_drop_37 ?_
        rcases I17.pap h1257 (v17_2.toInt.toNat) with e1261 | ⟨b1260, e1261, h1262⟩
        · rw [e1261]
          show G _ _ _ _ _ _ _ _ _ _ (.null :: _)
          refine g_astN (j := (z1258.toInt.toNat)) C h1257.1 h1257.2.1 (by decide) (ix_in h1257.2.2 (by omega)) dX6_drop_38 ?_
          refine gp (ks := []) (I17.setP h1257 (fun _ z => by cases z)) (EK.setR) (fun P1263 I1264 X1265 => ?_)
          have q1266 := X1265.keep h1244 (by decide) 1
          have X1267 : EK [6] P P1263 := X17.tr (X1265.mono (by decide))
          have h1268 := X1265.at h1244
          refine s_iinc (lv0 := [(0, .ref a0)]) (m := 1) C dX6_drop_39 1 rfl (by decide) rfl (by decide) (by omega) (fun z1269 h1270 => ?_)
          have h1270 : z1269.toInt = v17_2.toInt + 1 := h1270
          refine g_goto C 17 dX6_drop_42 (by decide) ?_
          refine g_lv (lv' := [(0, .ref a0), (2, .int z1269)]) [1, 0] rfl ?_
          exact ih17 P1263 z1269 (by omega) I1264 X1267 (by omega) (by omega)
        · rw [e1261]
          show G _ _ _ _ _ _ _ _ _ _ (.ref b1260 :: _)
          refine g_astR (j := (z1258.toInt.toNat)) C h1257.1 h1257.2.1 (by decide) (ix_in h1257.2.2 (by omega)) (h1262).1 (h1262).2 (by decide) rfl rfl dX6_drop_38 ?_
          refine gp (ks := []) (I17.setP h1257 (fun _ z => by cases z; exact h1262)) (EK.setR) (fun P1271 I1272 X1273 => ?_)
          have q1274 := X1273.keep h1244 (by decide) 1
          have X1275 : EK [6] P P1271 := X17.tr (X1273.mono (by decide))
          have h1276 := X1273.at h1244
          refine s_iinc (lv0 := [(0, .ref a0)]) (m := 1) C dX6_drop_39 1 rfl (by decide) rfl (by decide) (by omega) (fun z1277 h1278 => ?_)
          have h1278 : z1277.toInt = v17_2.toInt + 1 := h1278
          refine g_goto C 17 dX6_drop_42 (by decide) ?_
          refine g_lv (lv' := [(0, .ref a0), (2, .int z1277)]) [1, 0] rfl ?_
          exact ih17 P1271 z1277 (by omega) I1272 X1275 (by omega) (by omega)
  have J12 : G E ({ frames := 1, cells := 0, slots := 0, locals := 64 } : Room) D cy 3 P 0 0 12 [] [] := by
    exact ret _ _ _ _ _ dX6_drop_12 (by decide) (by decide) ⟨I, EK.rf⟩
  refine g_iload_n C dX6_drop_0 rfl 1 rfl ?_
  refine b_if_lt C 12 dX6_drop_1 (by decide) (fun h1279 => ?_) (fun h1279 => ?_)
  · have h1279 : a1.toInt < 0 := h1279
    refine g_lv (lv' := []) [] rfl ?_
    exact J12 
  · have h1279 : 0 ≤ a1.toInt := h1279
    refine g_iload_n C dX6_drop_4 rfl 1 rfl ?_
    refine g_aload_n C dX6_drop_5 rfl 0 rfl ?_
    refine g_getI C fi_X6_17 (by decide) (ha0).1 (ha0).2 dX6_drop_6 ?_
    have h1280 := I.rg (ha0) 1 rfl
    refine b_icmp_lt C 13 dX6_drop_9 (by decide) (fun h1281 => ?_) (fun h1281 => ?_)
    · have h1281 : a1.toInt < (pI P a0 1).toInt := h1281
      refine g_iload_n C dX6_drop_13 rfl 1 rfl ?_
      refine g_iconst (v := 1) C dX6_drop_14 (by decide) ?_
      refine s_iadd C dX6_drop_15 (by show -2147483648 ≤ a1.toInt + 1 ∧ a1.toInt + 1 ≤ 2147483647; omega) (fun z1282 h1283 => ?_)
      have h1283 : z1282.toInt = a1.toInt + 1 := h1283
      refine g_istore_n (lv' := [(2, .int z1282), (0, .ref a0), (1, .int a1)]) C dX6_drop_16 rfl (by decide) rfl ?_
      refine g_lv (lv' := [(0, .ref a0), (2, .int z1282)]) [1, 0] rfl ?_
      exact J17 _ P z1282 (Nat.lt_succ_self _) I EK.rf (by omega) (by omega)
    · have h1281 : (pI P a0 1).toInt ≤ a1.toInt := h1281
      refine g_lv (lv' := []) [] rfl ?_
      exact J12 
theorem dX6_dropTouching_0 : decode cX6_dropTouching 0 = .ok (.iconst 0, 1) := by decide +kernel
theorem dX6_dropTouching_1 : decode cX6_dropTouching 1 = .ok (.istore_n 2, 1) := by decide +kernel
theorem dX6_dropTouching_2 : decode cX6_dropTouching 2 = .ok (.iconst 0, 1) := by decide +kernel
theorem dX6_dropTouching_3 : decode cX6_dropTouching 3 = .ok (.istore_n 3, 1) := by decide +kernel
theorem dX6_dropTouching_4 : decode cX6_dropTouching 4 = .ok (.iload_n 3, 1) := by decide +kernel
theorem dX6_dropTouching_5 : decode cX6_dropTouching 5 = .ok (.aload_n 0, 1) := by decide +kernel
theorem dX6_dropTouching_6 : decode cX6_dropTouching 6 = .ok (.getfield 17, 3) := by decide +kernel
theorem dX6_dropTouching_9 : decode cX6_dropTouching 9 = .ok (.if_icmp .ge 37, 3) := by decide +kernel
theorem dX6_dropTouching_12 : decode cX6_dropTouching 12 = .ok (.aload_n 0, 1) := by decide +kernel
theorem dX6_dropTouching_13 : decode cX6_dropTouching 13 = .ok (.getfield 11, 3) := by decide +kernel
theorem dX6_dropTouching_16 : decode cX6_dropTouching 16 = .ok (.iload_n 3, 1) := by decide +kernel
theorem dX6_dropTouching_17 : decode cX6_dropTouching 17 = .ok (.aaload, 1) := by decide +kernel
theorem dX6_dropTouching_18 : decode cX6_dropTouching 18 = .ok (.iload_n 1, 1) := by decide +kernel
theorem dX6_dropTouching_19 : decode cX6_dropTouching 19 = .ok (.invokestatic 32, 3) := by decide +kernel
theorem dX6_dropTouching_22 : decode cX6_dropTouching 22 = .ok (.ifCond .ne 18, 3) := by decide +kernel
theorem dX6_dropTouching_25 : decode cX6_dropTouching 25 = .ok (.aload_n 0, 1) := by decide +kernel
theorem dX6_dropTouching_26 : decode cX6_dropTouching 26 = .ok (.getfield 11, 3) := by decide +kernel
theorem dX6_dropTouching_29 : decode cX6_dropTouching 29 = .ok (.iload_n 2, 1) := by decide +kernel
theorem dX6_dropTouching_30 : decode cX6_dropTouching 30 = .ok (.aload_n 0, 1) := by decide +kernel
theorem dX6_dropTouching_31 : decode cX6_dropTouching 31 = .ok (.getfield 11, 3) := by decide +kernel
theorem dX6_dropTouching_34 : decode cX6_dropTouching 34 = .ok (.iload_n 3, 1) := by decide +kernel
theorem dX6_dropTouching_35 : decode cX6_dropTouching 35 = .ok (.aaload, 1) := by decide +kernel
theorem dX6_dropTouching_36 : decode cX6_dropTouching 36 = .ok (.aastore, 1) := by decide +kernel
theorem dX6_dropTouching_37 : decode cX6_dropTouching 37 = .ok (.iinc 2 1, 3) := by decide +kernel
theorem dX6_dropTouching_40 : decode cX6_dropTouching 40 = .ok (.iinc 3 1, 3) := by decide +kernel
theorem dX6_dropTouching_43 : decode cX6_dropTouching 43 = .ok (.goto (-39), 3) := by decide +kernel
theorem dX6_dropTouching_46 : decode cX6_dropTouching 46 = .ok (.aload_n 0, 1) := by decide +kernel
theorem dX6_dropTouching_47 : decode cX6_dropTouching 47 = .ok (.iload_n 2, 1) := by decide +kernel
theorem dX6_dropTouching_48 : decode cX6_dropTouching 48 = .ok (.putfield 17, 3) := by decide +kernel
theorem dX6_dropTouching_51 : decode cX6_dropTouching 51 = .ok (.return_, 1) := by decide +kernel
theorem dX6_copy_0 : decode cX6_copy 0 = .ok (.iconst 0, 1) := by decide +kernel
theorem dX6_copy_1 : decode cX6_copy 1 = .ok (.istore_n 2, 1) := by decide +kernel
theorem dX6_copy_2 : decode cX6_copy 2 = .ok (.iload_n 2, 1) := by decide +kernel
theorem dX6_copy_3 : decode cX6_copy 3 = .ok (.aload_n 1, 1) := by decide +kernel
theorem dX6_copy_4 : decode cX6_copy 4 = .ok (.getfield 17, 3) := by decide +kernel
theorem dX6_copy_7 : decode cX6_copy 7 = .ok (.if_icmp .ge 21, 3) := by decide +kernel
theorem dX6_copy_10 : decode cX6_copy 10 = .ok (.aload_n 0, 1) := by decide +kernel
theorem dX6_copy_11 : decode cX6_copy 11 = .ok (.getfield 11, 3) := by decide +kernel
theorem dX6_copy_14 : decode cX6_copy 14 = .ok (.iload_n 2, 1) := by decide +kernel
theorem dX6_copy_15 : decode cX6_copy 15 = .ok (.aload_n 1, 1) := by decide +kernel
theorem dX6_copy_16 : decode cX6_copy 16 = .ok (.getfield 11, 3) := by decide +kernel
theorem dX6_copy_19 : decode cX6_copy 19 = .ok (.iload_n 2, 1) := by decide +kernel
theorem dX6_copy_20 : decode cX6_copy 20 = .ok (.aaload, 1) := by decide +kernel
theorem dX6_copy_21 : decode cX6_copy 21 = .ok (.aastore, 1) := by decide +kernel
theorem dX6_copy_22 : decode cX6_copy 22 = .ok (.iinc 2 1, 3) := by decide +kernel
theorem dX6_copy_25 : decode cX6_copy 25 = .ok (.goto (-23), 3) := by decide +kernel
theorem dX6_copy_28 : decode cX6_copy 28 = .ok (.aload_n 0, 1) := by decide +kernel
theorem dX6_copy_29 : decode cX6_copy 29 = .ok (.aload_n 1, 1) := by decide +kernel
theorem dX6_copy_30 : decode cX6_copy 30 = .ok (.getfield 17, 3) := by decide +kernel
theorem dX6_copy_33 : decode cX6_copy 33 = .ok (.putfield 17, 3) := by decide +kernel
theorem dX6_copy_36 : decode cX6_copy 36 = .ok (.return_, 1) := by decide +kernel
set_option maxHeartbeats 4000000 in
set_option maxRecDepth 100000 in
theorem s_X6_copy {P : PP} {a0 : Nat} {a1 : Nat} (I : IV P) (ha0 : At P a0 6) (ha1 : At P a1 6) : CtrV yX6_copy cX6_copy 3 none ({ frames := 1, cells := 0, slots := 0, locals := 64 } : Room) 0 0 P [.ref a0, .ref a1] (fun P2 => IV P2 ∧ EK [6] P P2) := by
  refine enV (lv := [(0, .ref a0), (1, .ref a1)]) (by decide) (Nat.le_of_ble_eq_true rfl) rfl (fun E D cy C Ci0 ret => ?_)
  have J2 : ∀ (n2 : Nat) (P2 : PP) (v2_2 : Int32), (40 - v2_2.toInt).toNat < n2 → (IV P2) → (EK [6] P P2) → (0 ≤ v2_2.toInt ∧ v2_2.toInt ≤ 40) → G E ({ frames := 1, cells := 0, slots := 0, locals := 64 } : Room) D cy 3 P2 0 0 2 [(0, .ref a0), (1, .ref a1), (2, .int v2_2)] [] := by
    intro n2
    induction n2 with
    | zero => intro P2 v2_2 hm2 I2 X2 hv2_2; omega
    | succ n2 ih2 =>
      intro P2 v2_2 hm2 I2 X2 hv2_2
      have h2786 := X2.at ha0
      have h2787 := X2.at ha1
      refine g_iload_n C dX6_copy_2 rfl 2 rfl ?_
      refine g_aload_n C dX6_copy_3 rfl 1 rfl ?_
      refine g_getI C fi_X6_17 (by decide) (h2787).1 (h2787).2 dX6_copy_4 ?_
      have h2788 := I2.rg (h2787) 1 rfl
      refine b_icmp_ge C 28 dX6_copy_7 (by decide) (fun h2789 => ?_) (fun h2789 => ?_)
      · have h2789 : (pI P2 a1 1).toInt ≤ v2_2.toInt := h2789
        refine g_aload_n C dX6_copy_28 rfl 0 rfl ?_
        refine g_aload_n C dX6_copy_29 rfl 1 rfl ?_
        refine g_getI C fi_X6_17 (by decide) (h2787).1 (h2787).2 dX6_copy_30 ?_
        refine g_putI C fi_X6_17 rfl (h2786).1 (h2786).2 dX6_copy_33 ?_
        refine gpW (ks := [6]) (I2.setI (h2786) (rgOk.of rfl (by omega))) (EK.setI (h2786).2 (by decide)) (fun P2790 I2791 X2792 w2793 w2794 => ?_)
        have X2795 : EK [6] P P2790 := X2.tr (X2792.mono (by decide))
        have h2796 := X2792.at h2786
        have h2797 := X2792.at h2787
        exact ret _ _ _ _ _ dX6_copy_36 (by decide) (by decide) ⟨I2791, X2795⟩
      · have h2789 : v2_2.toInt < (pI P2 a1 1).toInt := h2789
        refine g_aload_n C dX6_copy_10 rfl 0 rfl ?_
        obtain ⟨b2798, e2799, h2800⟩ := I2.fld (h2786) 0 20 40 rfl
        refine g_getR C fi_X6_11 rfl e2799 (h2786).1 (h2786).2 dX6_copy_11 ?_
        refine g_iload_n C dX6_copy_14 rfl 2 rfl ?_
        refine g_aload_n C dX6_copy_15 rfl 1 rfl ?_
        obtain ⟨b2801, e2802, h2803⟩ := I2.fld (h2787) 0 20 40 rfl
        refine g_getR C fi_X6_11 rfl e2802 (h2787).1 (h2787).2 dX6_copy_16 ?_
        refine g_iload_n C dX6_copy_19 rfl 2 rfl ?_
        refine g_aldQ (j := (v2_2.toInt.toNat)) C h2803.1 h2803.2.1 (by decide) (ix_in h2803.2.2 (by omega)) dX6_copy_20 ?_
        rcases I2.pap h2803 (v2_2.toInt.toNat) with e2805 | ⟨b2804, e2805, h2806⟩
        · rw [e2805]
          show G _ _ _ _ _ _ _ _ _ _ (.null :: _)
          refine g_astN (j := (v2_2.toInt.toNat)) C h2800.1 h2800.2.1 (by decide) (ix_in h2800.2.2 (by omega)) dX6_copy_21 ?_
          refine gp (ks := []) (I2.setP h2800 (fun _ z => by cases z)) (EK.setR) (fun P2807 I2808 X2809 => ?_)
          have q2810 := X2809.keep h2787 (by decide) 1
          have X2811 : EK [6] P P2807 := X2.tr (X2809.mono (by decide))
          have h2812 := X2809.at h2786
          have h2813 := X2809.at h2787
          refine s_iinc (lv0 := [(0, .ref a0), (1, .ref a1)]) (m := 1) C dX6_copy_22 2 rfl (by decide) rfl (by decide) (by omega) (fun z2814 h2815 => ?_)
          have h2815 : z2814.toInt = v2_2.toInt + 1 := h2815
          refine g_goto C 2 dX6_copy_25 (by decide) ?_
          refine g_lv (lv' := [(0, .ref a0), (1, .ref a1), (2, .int z2814)]) [1, 2, 0] rfl ?_
          exact ih2 P2807 z2814 (by omega) I2808 X2811 (by omega)
        · rw [e2805]
          show G _ _ _ _ _ _ _ _ _ _ (.ref b2804 :: _)
          refine g_astR (j := (v2_2.toInt.toNat)) C h2800.1 h2800.2.1 (by decide) (ix_in h2800.2.2 (by omega)) (h2806).1 (h2806).2 (by decide) rfl rfl dX6_copy_21 ?_
          refine gp (ks := []) (I2.setP h2800 (fun _ z => by cases z; exact h2806)) (EK.setR) (fun P2816 I2817 X2818 => ?_)
          have q2819 := X2818.keep h2787 (by decide) 1
          have X2820 : EK [6] P P2816 := X2.tr (X2818.mono (by decide))
          have h2821 := X2818.at h2786
          have h2822 := X2818.at h2787
          refine s_iinc (lv0 := [(0, .ref a0), (1, .ref a1)]) (m := 1) C dX6_copy_22 2 rfl (by decide) rfl (by decide) (by omega) (fun z2823 h2824 => ?_)
          have h2824 : z2823.toInt = v2_2.toInt + 1 := h2824
          refine g_goto C 2 dX6_copy_25 (by decide) ?_
          refine g_lv (lv' := [(0, .ref a0), (1, .ref a1), (2, .int z2823)]) [1, 2, 0] rfl ?_
          exact ih2 P2816 z2823 (by omega) I2817 X2820 (by omega)
  refine g_iconst (v := 0) C dX6_copy_0 (by decide) ?_
  refine g_istore_n (lv' := [(2, .int 0), (0, .ref a0), (1, .ref a1)]) C dX6_copy_1 rfl (by decide) rfl ?_
  refine g_lv (lv' := [(0, .ref a0), (1, .ref a1), (2, .int 0)]) [1, 2, 0] rfl ?_
  exact J2 _ P 0 (Nat.lt_succ_self _) I EK.rf (by decide)
theorem dX3_oddsOf_0 : decode cX3_oddsOf 0 = .ok (.iload_n 1, 1) := by decide +kernel
theorem dX3_oddsOf_1 : decode cX3_oddsOf 1 = .ok (.iconst 1, 1) := by decide +kernel
theorem dX3_oddsOf_2 : decode cX3_oddsOf 2 = .ok (.if_icmp .lt 27, 3) := by decide +kernel
theorem dX3_oddsOf_5 : decode cX3_oddsOf 5 = .ok (.iload_n 1, 1) := by decide +kernel
theorem dX3_oddsOf_6 : decode cX3_oddsOf 6 = .ok (.bipush 20, 2) := by decide +kernel
theorem dX3_oddsOf_8 : decode cX3_oddsOf 8 = .ok (.if_icmp .gt 21, 3) := by decide +kernel
theorem dX3_oddsOf_11 : decode cX3_oddsOf 11 = .ok (.aload_n 0, 1) := by decide +kernel
theorem dX3_oddsOf_12 : decode cX3_oddsOf 12 = .ok (.getfield 9, 3) := by decide +kernel
theorem dX3_oddsOf_15 : decode cX3_oddsOf 15 = .ok (.iload_n 1, 1) := by decide +kernel
theorem dX3_oddsOf_16 : decode cX3_oddsOf 16 = .ok (.iaload, 1) := by decide +kernel
theorem dX3_oddsOf_17 : decode cX3_oddsOf 17 = .ok (.ifCond .le 12, 3) := by decide +kernel
theorem dX3_oddsOf_20 : decode cX3_oddsOf 20 = .ok (.aload_n 0, 1) := by decide +kernel
theorem dX3_oddsOf_21 : decode cX3_oddsOf 21 = .ok (.getfield 9, 3) := by decide +kernel
theorem dX3_oddsOf_24 : decode cX3_oddsOf 24 = .ok (.iload_n 1, 1) := by decide +kernel
theorem dX3_oddsOf_25 : decode cX3_oddsOf 25 = .ok (.iaload, 1) := by decide +kernel
theorem dX3_oddsOf_26 : decode cX3_oddsOf 26 = .ok (.goto 4, 3) := by decide +kernel
theorem dX3_oddsOf_29 : decode cX3_oddsOf 29 = .ok (.iconst 0, 1) := by decide +kernel
theorem dX3_oddsOf_30 : decode cX3_oddsOf 30 = .ok (.ireturn, 1) := by decide +kernel
set_option maxHeartbeats 4000000 in
set_option maxRecDepth 100000 in
theorem s_X3_oddsOf {P : PP} {a0 : Nat} {a1 : Int32} (I : IV P) (ha0 : At P a0 3) : CtrI yX3_oddsOf cX3_oddsOf 2 (some Jvm.ClassFile.FieldType.int) ({ frames := 1, cells := 0, slots := 0, locals := 64 } : Room) 0 0 P [.ref a0, .int a1] (fun r P2 => P = P2 ∧ (True)) := by
  refine enI (lv := [(0, .ref a0), (1, .int a1)]) (by decide) (Nat.le_of_ble_eq_true rfl) rfl (fun E D cy C Ci0 ret => ?_)
  have J30 : ∀ (v30_s0 : Int32), G E ({ frames := 1, cells := 0, slots := 0, locals := 64 } : Room) D cy 2 P 0 0 30 [] [.int v30_s0] := by
    intro v30_s0
    exact ret _ _ _ _ _ _ dX3_oddsOf_30 rfl (by decide) (by decide) ⟨rfl, trivial⟩
  have J29 : G E ({ frames := 1, cells := 0, slots := 0, locals := 64 } : Room) D cy 2 P 0 0 29 [] [] := by
    refine g_iconst (v := 0) C dX3_oddsOf_29 (by decide) ?_
    exact J30 0
  refine g_iload_n C dX3_oddsOf_0 rfl 1 rfl ?_
  refine g_iconst (v := 1) C dX3_oddsOf_1 (by decide) ?_
  refine b_icmp_lt C 29 dX3_oddsOf_2 (by decide) (fun h2833 => ?_) (fun h2833 => ?_)
  · have h2833 : a1.toInt < 1 := h2833
    refine g_lv (lv' := []) [] rfl ?_
    exact J29 
  · have h2833 : 1 ≤ a1.toInt := h2833
    refine g_iload_n C dX3_oddsOf_5 rfl 1 rfl ?_
    refine g_bipush (v := 20) C dX3_oddsOf_6 (by decide) ?_
    refine b_icmp_gt C 29 dX3_oddsOf_8 (by decide) (fun h2834 => ?_) (fun h2834 => ?_)
    · have h2834 : 20 < a1.toInt := h2834
      refine g_lv (lv' := []) [] rfl ?_
      exact J29 
    · have h2834 : a1.toInt ≤ 20 := h2834
      refine g_aload_n C dX3_oddsOf_11 rfl 0 rfl ?_
      obtain ⟨b2835, e2836, h2837⟩ := I.fld (ha0) 0 13 21 rfl
      refine g_getR C fi_X3_9 rfl e2836 (ha0).1 (ha0).2 dX3_oddsOf_12 ?_
      refine g_iload_n C dX3_oddsOf_15 rfl 1 rfl ?_
      refine g_iald (j := (a1.toInt.toNat)) C h2837.1 h2837.2.1 (ix_in h2837.2.2 (by omega)) dX3_oddsOf_16 ?_
      refine g_topi (fun z2838 _ => ?_)
      refine b_if_le C 29 dX3_oddsOf_17 (by decide) (fun h2839 => ?_) (fun h2839 => ?_)
      · have h2839 : z2838.toInt ≤ 0 := h2839
        refine g_lv (lv' := []) [] rfl ?_
        exact J29 
      · have h2839 : 0 < z2838.toInt := h2839
        refine g_aload_n C dX3_oddsOf_20 rfl 0 rfl ?_
        refine g_getR C fi_X3_9 rfl e2836 (ha0).1 (ha0).2 dX3_oddsOf_21 ?_
        refine g_iload_n C dX3_oddsOf_24 rfl 1 rfl ?_
        refine g_iald (j := (a1.toInt.toNat)) C h2837.1 h2837.2.1 (ix_in h2837.2.2 (by omega)) dX3_oddsOf_25 ?_
        refine g_topi (fun z2840 _ => ?_)
        refine g_goto C 30 dX3_oddsOf_26 (by decide) ?_
        refine g_lv (lv' := []) [] rfl ?_
        exact J30 z2840
theorem dX3_clear_0 : decode cX3_clear 0 = .ok (.iconst 0, 1) := by decide +kernel
theorem dX3_clear_1 : decode cX3_clear 1 = .ok (.istore_n 1, 1) := by decide +kernel
theorem dX3_clear_2 : decode cX3_clear 2 = .ok (.iload_n 1, 1) := by decide +kernel
theorem dX3_clear_3 : decode cX3_clear 3 = .ok (.bipush 20, 2) := by decide +kernel
theorem dX3_clear_5 : decode cX3_clear 5 = .ok (.if_icmp .gt 16, 3) := by decide +kernel
theorem dX3_clear_8 : decode cX3_clear 8 = .ok (.aload_n 0, 1) := by decide +kernel
theorem dX3_clear_9 : decode cX3_clear 9 = .ok (.getfield 9, 3) := by decide +kernel
theorem dX3_clear_12 : decode cX3_clear 12 = .ok (.iload_n 1, 1) := by decide +kernel
theorem dX3_clear_13 : decode cX3_clear 13 = .ok (.iconst (-1), 1) := by decide +kernel
theorem dX3_clear_14 : decode cX3_clear 14 = .ok (.iastore, 1) := by decide +kernel
theorem dX3_clear_15 : decode cX3_clear 15 = .ok (.iinc 1 1, 3) := by decide +kernel
theorem dX3_clear_18 : decode cX3_clear 18 = .ok (.goto (-16), 3) := by decide +kernel
theorem dX3_clear_21 : decode cX3_clear 21 = .ok (.aload_n 0, 1) := by decide +kernel
theorem dX3_clear_22 : decode cX3_clear 22 = .ok (.iconst 0, 1) := by decide +kernel
theorem dX3_clear_23 : decode cX3_clear 23 = .ok (.putfield 21, 3) := by decide +kernel
theorem dX3_clear_26 : decode cX3_clear 26 = .ok (.aload_n 0, 1) := by decide +kernel
theorem dX3_clear_27 : decode cX3_clear 27 = .ok (.iconst 0, 1) := by decide +kernel
theorem dX3_clear_28 : decode cX3_clear 28 = .ok (.putfield 25, 3) := by decide +kernel
theorem dX3_clear_31 : decode cX3_clear 31 = .ok (.aload_n 0, 1) := by decide +kernel
theorem dX3_clear_32 : decode cX3_clear 32 = .ok (.iconst 0, 1) := by decide +kernel
theorem dX3_clear_33 : decode cX3_clear 33 = .ok (.putfield 28, 3) := by decide +kernel
theorem dX3_clear_36 : decode cX3_clear 36 = .ok (.aload_n 0, 1) := by decide +kernel
theorem dX3_clear_37 : decode cX3_clear 37 = .ok (.iconst 0, 1) := by decide +kernel
theorem dX3_clear_38 : decode cX3_clear 38 = .ok (.putfield 31, 3) := by decide +kernel
theorem dX3_clear_41 : decode cX3_clear 41 = .ok (.return_, 1) := by decide +kernel
set_option maxHeartbeats 4000000 in
set_option maxRecDepth 100000 in
theorem s_X3_clear {P : PP} {a0 : Nat} (I : IV P) (ha0 : At P a0 3) : CtrV yX3_clear cX3_clear 2 none ({ frames := 1, cells := 0, slots := 0, locals := 64 } : Room) 0 0 P [.ref a0] (fun P2 => IV P2 ∧ EK [3, 13] P P2) := by
  refine enV (lv := [(0, .ref a0)]) (by decide) (Nat.le_of_ble_eq_true rfl) rfl (fun E D cy C Ci0 ret => ?_)
  have J2 : ∀ (n2 : Nat) (P2 : PP) (v2_1 : Int32), (21 - v2_1.toInt).toNat < n2 → (IV P2) → (EK [3, 13] P P2) → (0 ≤ v2_1.toInt ∧ v2_1.toInt ≤ 21) → G E ({ frames := 1, cells := 0, slots := 0, locals := 64 } : Room) D cy 2 P2 0 0 2 [(0, .ref a0), (1, .int v2_1)] [] := by
    intro n2
    induction n2 with
    | zero => intro P2 v2_1 hm2 I2 X2 hv2_1; omega
    | succ n2 ih2 =>
      intro P2 v2_1 hm2 I2 X2 hv2_1
      have h3029 := X2.at ha0
      refine g_iload_n C dX3_clear_2 rfl 1 rfl ?_
      refine g_bipush (v := 20) C dX3_clear_3 (by decide) ?_
      refine b_icmp_gt C 21 dX3_clear_5 (by decide) (fun h3030 => ?_) (fun h3030 => ?_)
      · have h3030 : 20 < v2_1.toInt := h3030
        refine g_aload_n C dX3_clear_21 rfl 0 rfl ?_
        refine g_iconst (v := 0) C dX3_clear_22 (by decide) ?_
        refine g_putI C fi_X3_21 rfl (h3029).1 (h3029).2 dX3_clear_23 ?_
        refine gpW (ks := [3]) (I2.setI (h3029) (rgOk.of rfl (by decide))) (EK.setI (h3029).2 (by decide)) (fun P3031 I3032 X3033 w3034 w3035 => ?_)
        have w3035 : (pI P3031 a0 2).toInt = 0 := w3035
        have X3036 : EK [3, 13] P P3031 := X2.tr (X3033.mono (by decide))
        have h3037 := X3033.at h3029
        refine g_aload_n C dX3_clear_26 rfl 0 rfl ?_
        refine g_iconst (v := 0) C dX3_clear_27 (by decide) ?_
        refine g_putI C fi_X3_25 rfl (h3037).1 (h3037).2 dX3_clear_28 ?_
        refine gpW (ks := [3]) (I3032.setI (h3037) (rgOk.none rfl)) (EK.setI (h3037).2 (by decide)) (fun P3038 I3039 X3040 w3041 w3042 => ?_)
        have w3042 : (pI P3038 a0 3).toInt = 0 := w3042
        have q3043 := w3041 2 (by decide)
        have X3044 : EK [3, 13] P P3038 := X3036.tr (X3040.mono (by decide))
        have h3045 := X3040.at h3037
        refine g_aload_n C dX3_clear_31 rfl 0 rfl ?_
        refine g_iconst (v := 0) C dX3_clear_32 (by decide) ?_
        refine g_putI C fi_X3_28 rfl (h3045).1 (h3045).2 dX3_clear_33 ?_
        refine gpW (ks := [3]) (I3039.setI (h3045) (rgOk.none rfl)) (EK.setI (h3045).2 (by decide)) (fun P3046 I3047 X3048 w3049 w3050 => ?_)
        have w3050 : (pI P3046 a0 4).toInt = 0 := w3050
        have q3051 := w3049 2 (by decide)
        have q3052 := w3049 3 (by decide)
        have X3053 : EK [3, 13] P P3046 := X3044.tr (X3048.mono (by decide))
        have h3054 := X3048.at h3045
        refine g_aload_n C dX3_clear_36 rfl 0 rfl ?_
        refine g_iconst (v := 0) C dX3_clear_37 (by decide) ?_
        refine g_putI C fi_X3_31 rfl (h3054).1 (h3054).2 dX3_clear_38 ?_
        refine gpW (ks := [3]) (I3047.setI (h3054) (rgOk.none rfl)) (EK.setI (h3054).2 (by decide)) (fun P3055 I3056 X3057 w3058 w3059 => ?_)
        have w3059 : (pI P3055 a0 5).toInt = 0 := w3059
        have q3060 := w3058 2 (by decide)
        have q3061 := w3058 3 (by decide)
        have q3062 := w3058 4 (by decide)
        have X3063 : EK [3, 13] P P3055 := X3053.tr (X3057.mono (by decide))
        have h3064 := X3057.at h3054
        exact ret _ _ _ _ _ dX3_clear_41 (by decide) (by decide) ⟨I3056, X3063⟩
      · have h3030 : v2_1.toInt ≤ 20 := h3030
        refine g_aload_n C dX3_clear_8 rfl 0 rfl ?_
        obtain ⟨b3065, e3066, h3067⟩ := I2.fld (h3029) 0 13 21 rfl
        refine g_getR C fi_X3_9 rfl e3066 (h3029).1 (h3029).2 dX3_clear_9 ?_
        refine g_iload_n C dX3_clear_12 rfl 1 rfl ?_
        refine g_iconst (v := (-1)) C dX3_clear_13 (by decide) ?_
        refine g_iast (j := (v2_1.toInt.toNat)) C h3067.1 h3067.2.1 (ix_in h3067.2.2 (by omega)) dX3_clear_14 ?_
        refine gp (ks := [13]) (I2.setA h3067 (by decide)) (EK.setI h3067.2.1 (by decide)) (fun P3068 I3069 X3070 => ?_)
        have X3071 : EK [3, 13] P P3068 := X2.tr (X3070.mono (by decide))
        have h3072 := X3070.at h3029
        refine s_iinc (lv0 := [(0, .ref a0)]) (m := 1) C dX3_clear_15 1 rfl (by decide) rfl (by decide) (by omega) (fun z3073 h3074 => ?_)
        have h3074 : z3073.toInt = v2_1.toInt + 1 := h3074
        refine g_goto C 2 dX3_clear_18 (by decide) ?_
        refine g_lv (lv' := [(0, .ref a0), (1, .int z3073)]) [1, 0] rfl ?_
        exact ih2 P3068 z3073 (by omega) I3069 X3071 (by omega)
  refine g_iconst (v := 0) C dX3_clear_0 (by decide) ?_
  refine g_istore_n (lv' := [(1, .int 0), (0, .ref a0)]) C dX3_clear_1 rfl (by decide) rfl ?_
  refine g_lv (lv' := [(0, .ref a0), (1, .int 0)]) [1, 0] rfl ?_
  exact J2 _ P 0 (Nat.lt_succ_self _) I EK.rf (by decide)
theorem dX1_all_0 : decode cX1_all 0 = .ok (.aload_n 0, 1) := by decide +kernel
theorem dX1_all_1 : decode cX1_all 1 = .ok (.getfield 29, 3) := by decide +kernel
theorem dX1_all_4 : decode cX1_all 4 = .ok (.ifCond .eq 18, 3) := by decide +kernel
theorem dX1_all_7 : decode cX1_all 7 = .ok (.aload_n 0, 1) := by decide +kernel
theorem dX1_all_8 : decode cX1_all 8 = .ok (.getfield 33, 3) := by decide +kernel
theorem dX1_all_11 : decode cX1_all 11 = .ok (.aload_n 0, 1) := by decide +kernel
theorem dX1_all_12 : decode cX1_all 12 = .ok (.getfield 18, 3) := by decide +kernel
theorem dX1_all_15 : decode cX1_all 15 = .ok (.getfield 46, 3) := by decide +kernel
theorem dX1_all_18 : decode cX1_all 18 = .ok (.iadd, 1) := by decide +kernel
theorem dX1_all_19 : decode cX1_all 19 = .ok (.goto 4, 3) := by decide +kernel
theorem dX1_all_22 : decode cX1_all 22 = .ok (.iconst 0, 1) := by decide +kernel
theorem dX1_all_23 : decode cX1_all 23 = .ok (.ireturn, 1) := by decide +kernel
set_option maxHeartbeats 4000000 in
set_option maxRecDepth 100000 in
theorem s_X1_all {P : PP} {a0 : Nat} (I : IV P) (ha0 : At P a0 1) : CtrI yX1_all cX1_all 1 (some Jvm.ClassFile.FieldType.int) ({ frames := 1, cells := 0, slots := 0, locals := 64 } : Room) 0 0 P [.ref a0] (fun r P2 => P = P2 ∧ (0 ≤ r.toInt ∧ r.toInt ≤ 20)) := by
  refine enI (lv := [(0, .ref a0)]) (by decide) (Nat.le_of_ble_eq_true rfl) rfl (fun E D cy C Ci0 ret => ?_)
  have J23 : ∀ (v23_s0 : Int32), (0 ≤ v23_s0.toInt ∧ v23_s0.toInt ≤ 20) → (0 ≤ (pI P a0 4).toInt ∧ (pI P a0 4).toInt ≤ 1) → G E ({ frames := 1, cells := 0, slots := 0, locals := 64 } : Room) D cy 1 P 0 0 23 [] [.int v23_s0] := by
    intro v23_s0 hv23_s0 hq23_0
    exact ret _ _ _ _ _ _ dX1_all_23 rfl (by decide) (by decide) ⟨rfl, (by omega)⟩
  refine g_aload_n C dX1_all_0 rfl 0 rfl ?_
  refine g_getI C fi_X1_29 (by decide) (ha0).1 (ha0).2 dX1_all_1 ?_
  have h3084 := I.rg (ha0) 4 rfl
  refine b_if_eq C 22 dX1_all_4 (by decide) (fun h3085 => ?_) (fun h3085 => ?_)
  · have h3085 : (pI P a0 4).toInt = 0 := congrArg Int32.toInt h3085
    refine g_iconst (v := 0) C dX1_all_22 (by decide) ?_
    refine g_lv (lv' := []) [] rfl ?_
    exact J23 0 (by decide) (by omega)
  · have h3085 : (pI P a0 4).toInt ≠ 0 := ti_ne h3085
    refine g_aload_n C dX1_all_7 rfl 0 rfl ?_
    refine g_getI C fi_X1_33 (by decide) (ha0).1 (ha0).2 dX1_all_8 ?_
    have h3086 := I.rg (ha0) 5 rfl
    refine g_aload_n C dX1_all_11 rfl 0 rfl ?_
    obtain ⟨b3087, e3088, h3089⟩ := I.fld (ha0) 2 3 0 rfl
    refine g_getR C fi_X1_18 rfl e3088 (ha0).1 (ha0).2 dX1_all_12 ?_
    refine g_getI C fi_X1_46 (by decide) (h3089.at).1 (h3089.at).2 dX1_all_15 ?_
    have h3090 := I.rg (h3089.at) 2 rfl
    refine s_iadd C dX1_all_18 (by show -2147483648 ≤ (pI P a0 5).toInt + (pI P b3087 2).toInt ∧ (pI P a0 5).toInt + (pI P b3087 2).toInt ≤ 2147483647; omega) (fun z3091 h3092 => ?_)
    have h3092 : z3091.toInt = (pI P a0 5).toInt + (pI P b3087 2).toInt := h3092
    refine g_goto C 23 dX1_all_19 (by decide) ?_
    refine g_lv (lv' := []) [] rfl ?_
    exact J23 z3091 (by omega) (by omega)
theorem dX1_weightOf_0 : decode cX1_weightOf 0 = .ok (.iload_n 1, 1) := by decide +kernel
theorem dX1_weightOf_1 : decode cX1_weightOf 1 = .ok (.aload_n 0, 1) := by decide +kernel
theorem dX1_weightOf_2 : decode cX1_weightOf 2 = .ok (.getfield 33, 3) := by decide +kernel
theorem dX1_weightOf_5 : decode cX1_weightOf 5 = .ok (.if_icmp .ge 24, 3) := by decide +kernel
theorem dX1_weightOf_8 : decode cX1_weightOf 8 = .ok (.iload_n 1, 1) := by decide +kernel
theorem dX1_weightOf_9 : decode cX1_weightOf 9 = .ok (.aload_n 0, 1) := by decide +kernel
theorem dX1_weightOf_10 : decode cX1_weightOf 10 = .ok (.getfield 18, 3) := by decide +kernel
theorem dX1_weightOf_13 : decode cX1_weightOf 13 = .ok (.getfield 92, 3) := by decide +kernel
theorem dX1_weightOf_16 : decode cX1_weightOf 16 = .ok (.if_icmp .ge 13, 3) := by decide +kernel
theorem dX1_weightOf_19 : decode cX1_weightOf 19 = .ok (.aload_n 0, 1) := by decide +kernel
theorem dX1_weightOf_20 : decode cX1_weightOf 20 = .ok (.getfield 18, 3) := by decide +kernel
theorem dX1_weightOf_23 : decode cX1_weightOf 23 = .ok (.getfield 95, 3) := by decide +kernel
theorem dX1_weightOf_26 : decode cX1_weightOf 26 = .ok (.goto 4, 3) := by decide +kernel
theorem dX1_weightOf_29 : decode cX1_weightOf 29 = .ok (.iconst 1, 1) := by decide +kernel
theorem dX1_weightOf_30 : decode cX1_weightOf 30 = .ok (.ireturn, 1) := by decide +kernel
set_option maxHeartbeats 4000000 in
set_option maxRecDepth 100000 in
theorem s_X1_weightOf {P : PP} {a0 : Nat} {a1 : Int32} (I : IV P) (ha0 : At P a0 1) : CtrI yX1_weightOf cX1_weightOf 2 (some Jvm.ClassFile.FieldType.int) ({ frames := 1, cells := 0, slots := 0, locals := 64 } : Room) 0 0 P [.ref a0, .int a1] (fun r P2 => P = P2 ∧ (True)) := by
  refine enI (lv := [(0, .ref a0), (1, .int a1)]) (by decide) (Nat.le_of_ble_eq_true rfl) rfl (fun E D cy C Ci0 ret => ?_)
  have J30 : ∀ (v30_s0 : Int32), G E ({ frames := 1, cells := 0, slots := 0, locals := 64 } : Room) D cy 2 P 0 0 30 [] [.int v30_s0] := by
    intro v30_s0
    exact ret _ _ _ _ _ _ dX1_weightOf_30 rfl (by decide) (by decide) ⟨rfl, trivial⟩
  have J29 : G E ({ frames := 1, cells := 0, slots := 0, locals := 64 } : Room) D cy 2 P 0 0 29 [] [] := by
    refine g_iconst (v := 1) C dX1_weightOf_29 (by decide) ?_
    exact J30 1
  refine g_iload_n C dX1_weightOf_0 rfl 1 rfl ?_
  refine g_aload_n C dX1_weightOf_1 rfl 0 rfl ?_
  refine g_getI C fi_X1_33 (by decide) (ha0).1 (ha0).2 dX1_weightOf_2 ?_
  have h3099 := I.rg (ha0) 5 rfl
  refine b_icmp_ge C 29 dX1_weightOf_5 (by decide) (fun h3100 => ?_) (fun h3100 => ?_)
  · have h3100 : (pI P a0 5).toInt ≤ a1.toInt := h3100
    refine g_lv (lv' := []) [] rfl ?_
    exact J29 
  · have h3100 : a1.toInt < (pI P a0 5).toInt := h3100
    refine g_iload_n C dX1_weightOf_8 rfl 1 rfl ?_
    refine g_aload_n C dX1_weightOf_9 rfl 0 rfl ?_
    obtain ⟨b3101, e3102, h3103⟩ := I.fld (ha0) 2 3 0 rfl
    refine g_getR C fi_X1_18 rfl e3102 (ha0).1 (ha0).2 dX1_weightOf_10 ?_
    refine g_getI C fi_X1_92 (by decide) (h3103.at).1 (h3103.at).2 dX1_weightOf_13 ?_
    refine b_icmp_ge C 29 dX1_weightOf_16 (by decide) (fun h3104 => ?_) (fun h3104 => ?_)
    · have h3104 : (pI P b3101 3).toInt ≤ a1.toInt := h3104
      refine g_lv (lv' := []) [] rfl ?_
      exact J29 
    · have h3104 : a1.toInt < (pI P b3101 3).toInt := h3104
      refine g_aload_n C dX1_weightOf_19 rfl 0 rfl ?_
      refine g_getR C fi_X1_18 rfl e3102 (ha0).1 (ha0).2 dX1_weightOf_20 ?_
      refine g_getI C fi_X1_95 (by decide) (h3103.at).1 (h3103.at).2 dX1_weightOf_23 ?_
      refine g_goto C 30 dX1_weightOf_26 (by decide) ?_
      refine g_lv (lv' := []) [] rfl ?_
      exact J30 (pI P b3101 4)
theorem dX1_cast_0 : decode cX1_cast 0 = .ok (.aload_n 0, 1) := by decide +kernel
theorem dX1_cast_1 : decode cX1_cast 1 = .ok (.aload_n 0, 1) := by decide +kernel
theorem dX1_cast_2 : decode cX1_cast 2 = .ok (.getfield 68, 3) := by decide +kernel
theorem dX1_cast_5 : decode cX1_cast 5 = .ok (.ldc 87, 2) := by decide +kernel
theorem dX1_cast_7 : decode cX1_cast 7 = .ok (.imul, 1) := by decide +kernel
theorem dX1_cast_8 : decode cX1_cast 8 = .ok (.sipush 12345, 3) := by decide +kernel
theorem dX1_cast_11 : decode cX1_cast 11 = .ok (.iadd, 1) := by decide +kernel
theorem dX1_cast_12 : decode cX1_cast 12 = .ok (.ldc 88, 2) := by decide +kernel
theorem dX1_cast_14 : decode cX1_cast 14 = .ok (.iand, 1) := by decide +kernel
theorem dX1_cast_15 : decode cX1_cast 15 = .ok (.putfield 68, 3) := by decide +kernel
theorem dX1_cast_18 : decode cX1_cast 18 = .ok (.iload_n 1, 1) := by decide +kernel
theorem dX1_cast_19 : decode cX1_cast 19 = .ok (.ifCond .le 15, 3) := by decide +kernel
theorem dX1_cast_22 : decode cX1_cast 22 = .ok (.aload_n 0, 1) := by decide +kernel
theorem dX1_cast_23 : decode cX1_cast 23 = .ok (.getfield 68, 3) := by decide +kernel
theorem dX1_cast_26 : decode cX1_cast 26 = .ok (.bipush 16, 2) := by decide +kernel
theorem dX1_cast_28 : decode cX1_cast 28 = .ok (.ishr, 1) := by decide +kernel
theorem dX1_cast_29 : decode cX1_cast 29 = .ok (.iload_n 1, 1) := by decide +kernel
theorem dX1_cast_30 : decode cX1_cast 30 = .ok (.irem, 1) := by decide +kernel
theorem dX1_cast_31 : decode cX1_cast 31 = .ok (.goto 4, 3) := by decide +kernel
theorem dX1_cast_34 : decode cX1_cast 34 = .ok (.iconst 0, 1) := by decide +kernel
theorem dX1_cast_35 : decode cX1_cast 35 = .ok (.ireturn, 1) := by decide +kernel
set_option maxHeartbeats 4000000 in
set_option maxRecDepth 100000 in
theorem s_X1_cast {P : PP} {a0 : Nat} {a1 : Int32} (I : IV P) (ha0 : At P a0 1) : CtrI yX1_cast cX1_cast 2 (some Jvm.ClassFile.FieldType.int) ({ frames := 1, cells := 0, slots := 0, locals := 64 } : Room) 0 0 P [.ref a0, .int a1] (fun r P2 => IV P2 ∧ EK [1] P P2 ∧ (True)) := by
  refine enI (lv := [(0, .ref a0), (1, .int a1)]) (by decide) (Nat.le_of_ble_eq_true rfl) rfl (fun E D cy C Ci0 ret => ?_)
  have J35 : ∀ (P35 : PP) (v35_s0 : Int32), (IV P35) → (EK [1] P P35) → (0 ≤ (pI P35 a0 6).toInt) → G E ({ frames := 1, cells := 0, slots := 0, locals := 64 } : Room) D cy 2 P35 0 0 35 [] [.int v35_s0] := by
    intro P35 v35_s0 I35 X35 hq35_0
    have h3123 := X35.at ha0
    exact ret _ _ _ _ _ _ dX1_cast_35 rfl (by decide) (by decide) ⟨I35, X35, trivial⟩
  refine g_aload_n C dX1_cast_0 rfl 0 rfl ?_
  refine g_aload_n C dX1_cast_1 rfl 0 rfl ?_
  refine g_getI C fi_X1_68 (by decide) (ha0).1 (ha0).2 dX1_cast_2 ?_
  refine g_ldc (v := 1103515245) C kc_X1_87 dX1_cast_5 ?_
  refine a_imul C dX1_cast_7 (fun z3124 => ?_)
  refine g_sipush (v := 12345) C dX1_cast_8 (by decide) ?_
  refine a_iadd C dX1_cast_11 (fun z3126 => ?_)
  refine g_ldc (v := 2147483647) C kc_X1_88 dX1_cast_12 ?_
  refine s_iand C dX1_cast_14 (by show 0 ≤ 2147483647; omega) (fun z3128 h3129 => ?_)
  have h3129 : 0 ≤ z3128.toInt ∧ z3128.toInt ≤ 2147483647 := h3129
  refine g_putI C fi_X1_68 rfl (ha0).1 (ha0).2 dX1_cast_15 ?_
  refine gpW (ks := [1]) (I.setI (ha0) (rgOk.none rfl)) (EK.setI (ha0).2 (by decide)) (fun P3130 I3131 X3132 w3133 w3134 => ?_)
  have X3135 : EK [1] P P3130 := X3132.mono (by decide)
  have h3136 := X3132.at ha0
  refine g_iload_n C dX1_cast_18 rfl 1 rfl ?_
  refine b_if_le C 34 dX1_cast_19 (by decide) (fun h3137 => ?_) (fun h3137 => ?_)
  · have h3137 : a1.toInt ≤ 0 := h3137
    refine g_iconst (v := 0) C dX1_cast_34 (by decide) ?_
    refine g_lv (lv' := []) [] rfl ?_
    exact J35 P3130 0 I3131 X3135 (by omega)
  · have h3137 : 0 < a1.toInt := h3137
    refine g_aload_n C dX1_cast_22 rfl 0 rfl ?_
    refine g_getI C fi_X1_68 (by decide) (h3136).1 (h3136).2 dX1_cast_23 ?_
    refine g_bipush (v := 16) C dX1_cast_26 (by decide) ?_
    refine a_ishr C dX1_cast_28 (fun z3138 => ?_)
    refine g_iload_n C dX1_cast_29 rfl 1 rfl ?_
    refine a_irem C dX1_cast_30 (by show a1.toInt ≠ 0; omega) (fun z3140 => ?_)
    refine g_goto C 35 dX1_cast_31 (by decide) ?_
    refine g_lv (lv' := []) [] rfl ?_
    exact J35 P3130 z3140 I3131 X3135 (by omega)
theorem dX1_castDegree_0 : decode cX1_castDegree 0 = .ok (.aload_n 0, 1) := by decide +kernel
theorem dX1_castDegree_1 : decode cX1_castDegree 1 = .ok (.iconst 1, 1) := by decide +kernel
theorem dX1_castDegree_2 : decode cX1_castDegree 2 = .ok (.invokevirtual 80, 3) := by decide +kernel
theorem dX1_castDegree_5 : decode cX1_castDegree 5 = .ok (.pop, 1) := by decide +kernel
theorem dX1_castDegree_6 : decode cX1_castDegree 6 = .ok (.iload_n 1, 1) := by decide +kernel
theorem dX1_castDegree_7 : decode cX1_castDegree 7 = .ok (.ireturn, 1) := by decide +kernel
set_option maxHeartbeats 4000000 in
set_option maxRecDepth 100000 in
theorem s_X1_castDegree {P : PP} {a0 : Nat} {a1 : Int32} (I : IV P) (ha0 : At P a0 1) : CtrI yX1_castDegree cX1_castDegree 2 (some Jvm.ClassFile.FieldType.int) ({ frames := 2, cells := 0, slots := 0, locals := 128 } : Room) 0 0 P [.ref a0, .int a1] (fun r P2 => IV P2 ∧ EK [1] P P2 ∧ (True)) := by
  refine enI (lv := [(0, .ref a0), (1, .int a1)]) (by decide) (Nat.le_of_ble_eq_true rfl) rfl (fun E D cy C Ci0 ret => ?_)
  refine g_aload_n C dX1_castDegree_0 rfl 0 rfl ?_
  refine g_iconst (v := 1) C dX1_castDegree_1 (by decide) ?_
  refine g_callVI (rest := []) C mv_X1_80 [.int 1] (s_X1_cast I ha0) (ha0).1 (ha0).2 rfl rfl (by decide) (Nat.le_of_ble_eq_true rfl) (by decide) dX1_castDegree_2 (fun r3149 P3150 h3151 => ?_)
  obtain ⟨I3152, X3153, h3151⟩ := h3151
  have X3154 : EK [1] P P3150 := X3153.mono (by decide)
  have h3155 := X3153.at ha0
  have h3151 : True := h3151
  refine g_pop C dX1_castDegree_5 rfl ?_
  refine g_iload_n C dX1_castDegree_6 rfl 1 rfl ?_
  exact ret _ _ _ _ _ _ dX1_castDegree_7 rfl (by decide) (by decide) ⟨I3152, X3154, trivial⟩
theorem dX1_howMany_0 : decode cX1_howMany 0 = .ok (.iconst 0, 1) := by decide +kernel
theorem dX1_howMany_1 : decode cX1_howMany 1 = .ok (.istore_n 2, 1) := by decide +kernel
theorem dX1_howMany_2 : decode cX1_howMany 2 = .ok (.iconst 1, 1) := by decide +kernel
theorem dX1_howMany_3 : decode cX1_howMany 3 = .ok (.istore_n 3, 1) := by decide +kernel
theorem dX1_howMany_4 : decode cX1_howMany 4 = .ok (.iload_n 3, 1) := by decide +kernel
theorem dX1_howMany_5 : decode cX1_howMany 5 = .ok (.iload_n 1, 1) := by decide +kernel
theorem dX1_howMany_6 : decode cX1_howMany 6 = .ok (.if_icmp .gt 20, 3) := by decide +kernel
theorem dX1_howMany_9 : decode cX1_howMany 9 = .ok (.iload_n 2, 1) := by decide +kernel
theorem dX1_howMany_10 : decode cX1_howMany 10 = .ok (.aload_n 0, 1) := by decide +kernel
theorem dX1_howMany_11 : decode cX1_howMany 11 = .ok (.getfield 18, 3) := by decide +kernel
theorem dX1_howMany_14 : decode cX1_howMany 14 = .ok (.iload_n 3, 1) := by decide +kernel
theorem dX1_howMany_15 : decode cX1_howMany 15 = .ok (.invokevirtual 89, 3) := by decide +kernel
theorem dX1_howMany_18 : decode cX1_howMany 18 = .ok (.iadd, 1) := by decide +kernel
theorem dX1_howMany_19 : decode cX1_howMany 19 = .ok (.istore_n 2, 1) := by decide +kernel
theorem dX1_howMany_20 : decode cX1_howMany 20 = .ok (.iinc 3 1, 3) := by decide +kernel
theorem dX1_howMany_23 : decode cX1_howMany 23 = .ok (.goto (-19), 3) := by decide +kernel
theorem dX1_howMany_26 : decode cX1_howMany 26 = .ok (.iload_n 2, 1) := by decide +kernel
theorem dX1_howMany_27 : decode cX1_howMany 27 = .ok (.ifCond .ne 5, 3) := by decide +kernel
theorem dX1_howMany_30 : decode cX1_howMany 30 = .ok (.iconst 1, 1) := by decide +kernel
theorem dX1_howMany_31 : decode cX1_howMany 31 = .ok (.ireturn, 1) := by decide +kernel
theorem dX1_howMany_32 : decode cX1_howMany 32 = .ok (.aload_n 0, 1) := by decide +kernel
theorem dX1_howMany_33 : decode cX1_howMany 33 = .ok (.iload_n 2, 1) := by decide +kernel
theorem dX1_howMany_34 : decode cX1_howMany 34 = .ok (.invokevirtual 80, 3) := by decide +kernel
theorem dX1_howMany_37 : decode cX1_howMany 37 = .ok (.istore_n 3, 1) := by decide +kernel
theorem dX1_howMany_38 : decode cX1_howMany 38 = .ok (.iconst 0, 1) := by decide +kernel
theorem dX1_howMany_39 : decode cX1_howMany 39 = .ok (.istore 4, 2) := by decide +kernel
theorem dX1_howMany_41 : decode cX1_howMany 41 = .ok (.iconst 1, 1) := by decide +kernel
theorem dX1_howMany_42 : decode cX1_howMany 42 = .ok (.istore 5, 2) := by decide +kernel
theorem dX1_howMany_44 : decode cX1_howMany 44 = .ok (.iload 5, 2) := by decide +kernel
theorem dX1_howMany_46 : decode cX1_howMany 46 = .ok (.iload_n 1, 1) := by decide +kernel
theorem dX1_howMany_47 : decode cX1_howMany 47 = .ok (.if_icmp .gt 32, 3) := by decide +kernel
theorem dX1_howMany_50 : decode cX1_howMany 50 = .ok (.iload 4, 2) := by decide +kernel
theorem dX1_howMany_52 : decode cX1_howMany 52 = .ok (.aload_n 0, 1) := by decide +kernel
theorem dX1_howMany_53 : decode cX1_howMany 53 = .ok (.getfield 18, 3) := by decide +kernel
theorem dX1_howMany_56 : decode cX1_howMany 56 = .ok (.iload 5, 2) := by decide +kernel
theorem dX1_howMany_58 : decode cX1_howMany 58 = .ok (.invokevirtual 89, 3) := by decide +kernel
theorem dX1_howMany_61 : decode cX1_howMany 61 = .ok (.iadd, 1) := by decide +kernel
theorem dX1_howMany_62 : decode cX1_howMany 62 = .ok (.istore 4, 2) := by decide +kernel
theorem dX1_howMany_64 : decode cX1_howMany 64 = .ok (.iload 4, 2) := by decide +kernel
theorem dX1_howMany_66 : decode cX1_howMany 66 = .ok (.iload_n 3, 1) := by decide +kernel
theorem dX1_howMany_67 : decode cX1_howMany 67 = .ok (.if_icmp .le 6, 3) := by decide +kernel
theorem dX1_howMany_70 : decode cX1_howMany 70 = .ok (.iload 5, 2) := by decide +kernel
theorem dX1_howMany_72 : decode cX1_howMany 72 = .ok (.ireturn, 1) := by decide +kernel
theorem dX1_howMany_73 : decode cX1_howMany 73 = .ok (.iinc 5 1, 3) := by decide +kernel
theorem dX1_howMany_76 : decode cX1_howMany 76 = .ok (.goto (-32), 3) := by decide +kernel
theorem dX1_howMany_79 : decode cX1_howMany 79 = .ok (.iconst 1, 1) := by decide +kernel
theorem dX1_howMany_80 : decode cX1_howMany 80 = .ok (.ireturn, 1) := by decide +kernel
set_option maxHeartbeats 4000000 in
set_option maxRecDepth 100000 in
theorem s_X1_howMany {P : PP} {a0 : Nat} {a1 : Int32} (I : IV P) (ha0 : At P a0 1) (ha1 : 0 ≤ a1.toInt ∧ a1.toInt ≤ 20) : CtrI yX1_howMany cX1_howMany 6 (some Jvm.ClassFile.FieldType.int) ({ frames := 2, cells := 0, slots := 0, locals := 128 } : Room) 0 0 P [.ref a0, .int a1] (fun r P2 => IV P2 ∧ EK [1] P P2 ∧ (1 ≤ r.toInt ∧ r.toInt ≤ 20)) := by
  refine enI (lv := [(0, .ref a0), (1, .int a1)]) (by decide) (Nat.le_of_ble_eq_true rfl) rfl (fun E D cy C Ci0 ret => ?_)
  have J44 : ∀ (n44 : Nat) (P44 : PP) (v44_3 : Int32) (v44_4 : Int32) (v44_5 : Int32), (21 - v44_5.toInt).toNat < n44 → (IV P44) → (EK [1] P P44) → (1 ≤ v44_5.toInt ∧ v44_5.toInt ≤ 21) → G E ({ frames := 2, cells := 0, slots := 0, locals := 128 } : Room) D cy 6 P44 0 0 44 [(0, .ref a0), (1, .int a1), (3, .int v44_3), (4, .int v44_4), (5, .int v44_5)] [] := by
    intro n44
    induction n44 with
    | zero => intro P44 v44_3 v44_4 v44_5 hm44 I44 X44 hv44_5; omega
    | succ n44 ih44 =>
      intro P44 v44_3 v44_4 v44_5 hm44 I44 X44 hv44_5
      have h3552 := X44.at ha0
      refine g_iload C dX1_howMany_44 4 rfl ?_
      refine g_iload_n C dX1_howMany_46 rfl 1 rfl ?_
      refine b_icmp_gt C 79 dX1_howMany_47 (by decide) (fun h3553 => ?_) (fun h3553 => ?_)
      · have h3553 : a1.toInt < v44_5.toInt := h3553
        refine g_iconst (v := 1) C dX1_howMany_79 (by decide) ?_
        exact ret _ _ _ _ _ _ dX1_howMany_80 rfl (by decide) (by decide) ⟨I44, X44, (by decide)⟩
      · have h3553 : v44_5.toInt ≤ a1.toInt := h3553
        refine g_iload C dX1_howMany_50 3 rfl ?_
        refine g_aload_n C dX1_howMany_52 rfl 0 rfl ?_
        obtain ⟨b3554, e3555, h3556⟩ := I44.fld (h3552) 2 3 0 rfl
        refine g_getR C fi_X1_18 rfl e3555 (h3552).1 (h3552).2 dX1_howMany_53 ?_
        refine g_iload C dX1_howMany_56 4 rfl ?_
        refine g_callVI (rest := [.int v44_4]) C mv_X1_89 [.int v44_5] (s_X3_oddsOf I44 h3556.at) (h3556.at).1 (h3556.at).2 rfl rfl (by decide) (Nat.le_of_ble_eq_true rfl) (by decide) dX1_howMany_58 (fun r3557 P3558 h3559 => ?_)
        obtain ⟨rfl, h3559⟩ := h3559
        have h3559 : True := h3559
        refine a_iadd C dX1_howMany_61 (fun z3560 => ?_)
        refine g_istore (lv' := [(4, .int z3560), (0, .ref a0), (1, .int a1), (3, .int v44_3), (5, .int v44_5)]) C dX1_howMany_62 (by decide) rfl ?_
        refine g_iload C dX1_howMany_64 0 rfl ?_
        refine g_iload_n C dX1_howMany_66 rfl 3 rfl ?_
        refine b_icmp_le C 73 dX1_howMany_67 (by decide) (fun h3562 => ?_) (fun h3562 => ?_)
        · have h3562 : z3560.toInt ≤ v44_3.toInt := h3562
          refine s_iinc (lv0 := [(4, .int z3560), (0, .ref a0), (1, .int a1), (3, .int v44_3)]) (m := 1) C dX1_howMany_73 4 rfl (by decide) rfl (by decide) (by omega) (fun z3563 h3564 => ?_)
          have h3564 : z3563.toInt = v44_5.toInt + 1 := h3564
          refine g_goto C 44 dX1_howMany_76 (by decide) ?_
          refine g_lv (lv' := [(0, .ref a0), (1, .int a1), (3, .int v44_3), (4, .int z3560), (5, .int z3563)]) [2, 3, 4, 1, 0] rfl ?_
          exact ih44 P44 v44_3 z3560 z3563 (by omega) I44 X44 (by omega)
        · have h3562 : v44_3.toInt < z3560.toInt := h3562
          refine g_iload C dX1_howMany_70 4 rfl ?_
          exact ret _ _ _ _ _ _ dX1_howMany_72 rfl (by decide) (by decide) ⟨I44, X44, (by omega)⟩
  have J4 : ∀ (n4 : Nat) (v4_2 : Int32) (v4_3 : Int32), (21 - v4_3.toInt).toNat < n4 → (1 ≤ v4_3.toInt ∧ v4_3.toInt ≤ 21) → G E ({ frames := 2, cells := 0, slots := 0, locals := 128 } : Room) D cy 6 P 0 0 4 [(0, .ref a0), (1, .int a1), (2, .int v4_2), (3, .int v4_3)] [] := by
    intro n4
    induction n4 with
    | zero => intro v4_2 v4_3 hm4 hv4_3; omega
    | succ n4 ih4 =>
      intro v4_2 v4_3 hm4 hv4_3
      refine g_iload_n C dX1_howMany_4 rfl 3 rfl ?_
      refine g_iload_n C dX1_howMany_5 rfl 1 rfl ?_
      refine b_icmp_gt C 26 dX1_howMany_6 (by decide) (fun h3565 => ?_) (fun h3565 => ?_)
      · have h3565 : a1.toInt < v4_3.toInt := h3565
        refine g_iload_n C dX1_howMany_26 rfl 2 rfl ?_
        refine b_if_ne C 32 dX1_howMany_27 (by decide) (fun h3566 => ?_) (fun h3566 => ?_)
        · have h3566 : v4_2.toInt ≠ 0 := ti_ne h3566
          refine g_aload_n C dX1_howMany_32 rfl 0 rfl ?_
          refine g_iload_n C dX1_howMany_33 rfl 2 rfl ?_
          refine g_callVI (rest := []) C mv_X1_80 [.int v4_2] (s_X1_cast I ha0) (ha0).1 (ha0).2 rfl rfl (by decide) (Nat.le_of_ble_eq_true rfl) (by decide) dX1_howMany_34 (fun r3567 P3568 h3569 => ?_)
          obtain ⟨I3570, X3571, h3569⟩ := h3569
          have X3572 : EK [1] P P3568 := X3571.mono (by decide)
          have h3573 := X3571.at ha0
          have h3569 : True := h3569
          refine g_istore_n (lv' := [(3, .int r3567), (0, .ref a0), (1, .int a1), (2, .int v4_2)]) C dX1_howMany_37 rfl (by decide) rfl ?_
          refine g_iconst (v := 0) C dX1_howMany_38 (by decide) ?_
          refine g_istore (lv' := [(4, .int 0), (3, .int r3567), (0, .ref a0), (1, .int a1), (2, .int v4_2)]) C dX1_howMany_39 (by decide) rfl ?_
          refine g_iconst (v := 1) C dX1_howMany_41 (by decide) ?_
          refine g_istore (lv' := [(5, .int 1), (4, .int 0), (3, .int r3567), (0, .ref a0), (1, .int a1), (2, .int v4_2)]) C dX1_howMany_42 (by decide) rfl ?_
          refine g_lv (lv' := [(0, .ref a0), (1, .int a1), (3, .int r3567), (4, .int 0), (5, .int 1)]) [3, 4, 2, 1, 0] rfl ?_
          exact J44 _ P3568 r3567 0 1 (Nat.lt_succ_self _) I3570 X3572 (by decide)
        · have h3566 : v4_2.toInt = 0 := congrArg Int32.toInt h3566
          refine g_iconst (v := 1) C dX1_howMany_30 (by decide) ?_
          exact ret _ _ _ _ _ _ dX1_howMany_31 rfl (by decide) (by decide) ⟨I, EK.rf, (by decide)⟩
      · have h3565 : v4_3.toInt ≤ a1.toInt := h3565
        refine g_iload_n C dX1_howMany_9 rfl 2 rfl ?_
        refine g_aload_n C dX1_howMany_10 rfl 0 rfl ?_
        obtain ⟨b3574, e3575, h3576⟩ := I.fld (ha0) 2 3 0 rfl
        refine g_getR C fi_X1_18 rfl e3575 (ha0).1 (ha0).2 dX1_howMany_11 ?_
        refine g_iload_n C dX1_howMany_14 rfl 3 rfl ?_
        refine g_callVI (rest := [.int v4_2]) C mv_X1_89 [.int v4_3] (s_X3_oddsOf I h3576.at) (h3576.at).1 (h3576.at).2 rfl rfl (by decide) (Nat.le_of_ble_eq_true rfl) (by decide) dX1_howMany_15 (fun r3577 P3578 h3579 => ?_)
        obtain ⟨rfl, h3579⟩ := h3579
        have h3579 : True := h3579
        refine a_iadd C dX1_howMany_18 (fun z3580 => ?_)
        refine g_istore_n (lv' := [(2, .int z3580), (0, .ref a0), (1, .int a1), (3, .int v4_3)]) C dX1_howMany_19 rfl (by decide) rfl ?_
        refine s_iinc (lv0 := [(2, .int z3580), (0, .ref a0), (1, .int a1)]) (m := 1) C dX1_howMany_20 3 rfl (by decide) rfl (by decide) (by omega) (fun z3582 h3583 => ?_)
        have h3583 : z3582.toInt = v4_3.toInt + 1 := h3583
        refine g_goto C 4 dX1_howMany_23 (by decide) ?_
        refine g_lv (lv' := [(0, .ref a0), (1, .int a1), (2, .int z3580), (3, .int z3582)]) [2, 3, 1, 0] rfl ?_
        exact ih4 z3580 z3582 (by omega) (by omega)
  refine g_iconst (v := 0) C dX1_howMany_0 (by decide) ?_
  refine g_istore_n (lv' := [(2, .int 0), (0, .ref a0), (1, .int a1)]) C dX1_howMany_1 rfl (by decide) rfl ?_
  refine g_iconst (v := 1) C dX1_howMany_2 (by decide) ?_
  refine g_istore_n (lv' := [(3, .int 1), (2, .int 0), (0, .ref a0), (1, .int a1)]) C dX1_howMany_3 rfl (by decide) rfl ?_
  refine g_lv (lv' := [(0, .ref a0), (1, .int a1), (2, .int 0), (3, .int 1)]) [2, 3, 1, 0] rfl ?_
  exact J4 _ 0 1 (Nat.lt_succ_self _) (by decide)
theorem dX1_pickBeside_0 : decode cX1_pickBeside 0 = .ok (.iconst 0, 1) := by decide +kernel
theorem dX1_pickBeside_1 : decode cX1_pickBeside 1 = .ok (.istore 4, 2) := by decide +kernel
theorem dX1_pickBeside_3 : decode cX1_pickBeside 3 = .ok (.iconst 0, 1) := by decide +kernel
theorem dX1_pickBeside_4 : decode cX1_pickBeside 4 = .ok (.istore 5, 2) := by decide +kernel
theorem dX1_pickBeside_6 : decode cX1_pickBeside 6 = .ok (.iload 5, 2) := by decide +kernel
theorem dX1_pickBeside_8 : decode cX1_pickBeside 8 = .ok (.iload_n 2, 1) := by decide +kernel
theorem dX1_pickBeside_9 : decode cX1_pickBeside 9 = .ok (.if_icmp .ge 38, 3) := by decide +kernel
theorem dX1_pickBeside_12 : decode cX1_pickBeside 12 = .ok (.iload_n 1, 1) := by decide +kernel
theorem dX1_pickBeside_13 : decode cX1_pickBeside 13 = .ok (.iload 5, 2) := by decide +kernel
theorem dX1_pickBeside_15 : decode cX1_pickBeside 15 = .ok (.ishr, 1) := by decide +kernel
theorem dX1_pickBeside_16 : decode cX1_pickBeside 16 = .ok (.iconst 1, 1) := by decide +kernel
theorem dX1_pickBeside_17 : decode cX1_pickBeside 17 = .ok (.iand, 1) := by decide +kernel
theorem dX1_pickBeside_18 : decode cX1_pickBeside 18 = .ok (.ifCond .ne 23, 3) := by decide +kernel
theorem dX1_pickBeside_21 : decode cX1_pickBeside 21 = .ok (.iload 4, 2) := by decide +kernel
theorem dX1_pickBeside_23 : decode cX1_pickBeside 23 = .ok (.aload_n 0, 1) := by decide +kernel
theorem dX1_pickBeside_24 : decode cX1_pickBeside 24 = .ok (.iload 5, 2) := by decide +kernel
theorem dX1_pickBeside_26 : decode cX1_pickBeside 26 = .ok (.invokevirtual 77, 3) := by decide +kernel
theorem dX1_pickBeside_29 : decode cX1_pickBeside 29 = .ok (.iadd, 1) := by decide +kernel
theorem dX1_pickBeside_30 : decode cX1_pickBeside 30 = .ok (.istore 4, 2) := by decide +kernel
theorem dX1_pickBeside_32 : decode cX1_pickBeside 32 = .ok (.iload 4, 2) := by decide +kernel
theorem dX1_pickBeside_34 : decode cX1_pickBeside 34 = .ok (.iload_n 3, 1) := by decide +kernel
theorem dX1_pickBeside_35 : decode cX1_pickBeside 35 = .ok (.if_icmp .le 6, 3) := by decide +kernel
theorem dX1_pickBeside_38 : decode cX1_pickBeside 38 = .ok (.iload 5, 2) := by decide +kernel
theorem dX1_pickBeside_40 : decode cX1_pickBeside 40 = .ok (.ireturn, 1) := by decide +kernel
theorem dX1_pickBeside_41 : decode cX1_pickBeside 41 = .ok (.iinc 5 1, 3) := by decide +kernel
theorem dX1_pickBeside_44 : decode cX1_pickBeside 44 = .ok (.goto (-38), 3) := by decide +kernel
theorem dX1_pickBeside_47 : decode cX1_pickBeside 47 = .ok (.iconst 0, 1) := by decide +kernel
theorem dX1_pickBeside_48 : decode cX1_pickBeside 48 = .ok (.ireturn, 1) := by decide +kernel
set_option maxHeartbeats 4000000 in
set_option maxRecDepth 100000 in
theorem s_X1_pickBeside {P : PP} {a0 : Nat} {a1 : Int32} {a2 : Int32} {a3 : Int32} (I : IV P) (ha0 : At P a0 1) (ha2 : 0 ≤ a2.toInt ∧ a2.toInt ≤ 20) : CtrI yX1_pickBeside cX1_pickBeside 6 (some Jvm.ClassFile.FieldType.int) ({ frames := 2, cells := 0, slots := 0, locals := 128 } : Room) 0 0 P [.ref a0, .int a1, .int a2, .int a3] (fun r P2 => P = P2 ∧ (0 ≤ r.toInt ∧ r.toInt ≤ 19)) := by
  refine enI (lv := [(0, .ref a0), (1, .int a1), (2, .int a2), (3, .int a3)]) (by decide) (Nat.le_of_ble_eq_true rfl) rfl (fun E D cy C Ci0 ret => ?_)
  have J6 : ∀ (n6 : Nat) (v6_4 : Int32) (v6_5 : Int32), (20 - v6_5.toInt).toNat < n6 → (0 ≤ v6_5.toInt ∧ v6_5.toInt ≤ 20) → G E ({ frames := 2, cells := 0, slots := 0, locals := 128 } : Room) D cy 6 P 0 0 6 [(0, .ref a0), (1, .int a1), (2, .int a2), (3, .int a3), (4, .int v6_4), (5, .int v6_5)] [] := by
    intro n6
    induction n6 with
    | zero => intro v6_4 v6_5 hm6 hv6_5; omega
    | succ n6 ih6 =>
      intro v6_4 v6_5 hm6 hv6_5
      have J41 : ∀ (v41_4 : Int32), (1 ≤ a2.toInt ∧ a2.toInt ≤ 20) → (0 ≤ v6_5.toInt ∧ v6_5.toInt ≤ 19) → G E ({ frames := 2, cells := 0, slots := 0, locals := 128 } : Room) D cy 6 P 0 0 41 [(0, .ref a0), (1, .int a1), (2, .int a2), (3, .int a3), (4, .int v41_4), (5, .int v6_5)] [] := by
        intro v41_4 hv41_2 hv41_5
        refine s_iinc (lv0 := [(0, .ref a0), (1, .int a1), (2, .int a2), (3, .int a3), (4, .int v41_4)]) (m := 1) C dX1_pickBeside_41 5 rfl (by decide) rfl (by decide) (by omega) (fun z3766 h3767 => ?_)
        have h3767 : z3766.toInt = v6_5.toInt + 1 := h3767
        refine g_goto C 6 dX1_pickBeside_44 (by decide) ?_
        refine g_lv (lv' := [(0, .ref a0), (1, .int a1), (2, .int a2), (3, .int a3), (4, .int v41_4), (5, .int z3766)]) [1, 2, 3, 4, 5, 0] rfl ?_
        exact ih6 v41_4 z3766 (by omega) (by omega)
      refine g_iload C dX1_pickBeside_6 5 rfl ?_
      refine g_iload_n C dX1_pickBeside_8 rfl 2 rfl ?_
      refine b_icmp_ge C 47 dX1_pickBeside_9 (by decide) (fun h3768 => ?_) (fun h3768 => ?_)
      · have h3768 : a2.toInt ≤ v6_5.toInt := h3768
        refine g_iconst (v := 0) C dX1_pickBeside_47 (by decide) ?_
        exact ret _ _ _ _ _ _ dX1_pickBeside_48 rfl (by decide) (by decide) ⟨rfl, (by decide)⟩
      · have h3768 : v6_5.toInt < a2.toInt := h3768
        refine g_iload_n C dX1_pickBeside_12 rfl 1 rfl ?_
        refine g_iload C dX1_pickBeside_13 5 rfl ?_
        refine a_ishr C dX1_pickBeside_15 (fun z3769 => ?_)
        refine g_iconst (v := 1) C dX1_pickBeside_16 (by decide) ?_
        refine s_iand C dX1_pickBeside_17 (by show 0 ≤ 1; omega) (fun z3771 h3772 => ?_)
        have h3772 : 0 ≤ z3771.toInt ∧ z3771.toInt ≤ 1 := h3772
        refine b_if_ne C 41 dX1_pickBeside_18 (by decide) (fun h3773 => ?_) (fun h3773 => ?_)
        · have h3773 : z3771.toInt ≠ 0 := ti_ne h3773
          exact J41 v6_4 (by omega) (by omega)
        · have h3773 : z3771.toInt = 0 := congrArg Int32.toInt h3773
          refine g_iload C dX1_pickBeside_21 4 rfl ?_
          refine g_aload_n C dX1_pickBeside_23 rfl 0 rfl ?_
          refine g_iload C dX1_pickBeside_24 5 rfl ?_
          refine g_callVI (rest := [.int v6_4]) C mv_X1_77 [.int v6_5] (s_X1_weightOf I ha0) (ha0).1 (ha0).2 rfl rfl (by decide) (Nat.le_of_ble_eq_true rfl) (by decide) dX1_pickBeside_26 (fun r3774 P3775 h3776 => ?_)
          obtain ⟨rfl, h3776⟩ := h3776
          have h3776 : True := h3776
          refine a_iadd C dX1_pickBeside_29 (fun z3777 => ?_)
          refine g_istore (lv' := [(4, .int z3777), (0, .ref a0), (1, .int a1), (2, .int a2), (3, .int a3), (5, .int v6_5)]) C dX1_pickBeside_30 (by decide) rfl ?_
          refine g_iload C dX1_pickBeside_32 0 rfl ?_
          refine g_iload_n C dX1_pickBeside_34 rfl 4 rfl ?_
          refine b_icmp_le C 41 dX1_pickBeside_35 (by decide) (fun h3779 => ?_) (fun h3779 => ?_)
          · have h3779 : z3777.toInt ≤ a3.toInt := h3779
            refine g_lv (lv' := [(0, .ref a0), (1, .int a1), (2, .int a2), (3, .int a3), (4, .int z3777), (5, .int v6_5)]) [1, 2, 3, 4, 0, 5] rfl ?_
            exact J41 z3777 (by omega) (by omega)
          · have h3779 : a3.toInt < z3777.toInt := h3779
            refine g_iload C dX1_pickBeside_38 5 rfl ?_
            exact ret _ _ _ _ _ _ dX1_pickBeside_40 rfl (by decide) (by decide) ⟨rfl, (by omega)⟩
  refine g_iconst (v := 0) C dX1_pickBeside_0 (by decide) ?_
  refine g_istore (lv' := [(4, .int 0), (0, .ref a0), (1, .int a1), (2, .int a2), (3, .int a3)]) C dX1_pickBeside_1 (by decide) rfl ?_
  refine g_iconst (v := 0) C dX1_pickBeside_3 (by decide) ?_
  refine g_istore (lv' := [(5, .int 0), (4, .int 0), (0, .ref a0), (1, .int a1), (2, .int a2), (3, .int a3)]) C dX1_pickBeside_4 (by decide) rfl ?_
  refine g_lv (lv' := [(0, .ref a0), (1, .int a1), (2, .int a2), (3, .int a3), (4, .int 0), (5, .int 0)]) [2, 3, 4, 5, 1, 0] rfl ?_
  exact J6 _ 0 0 (Nat.lt_succ_self _) (by decide)
theorem dX1_drawPages_0 : decode cX1_drawPages 0 = .ok (.aload_n 0, 1) := by decide +kernel
theorem dX1_drawPages_1 : decode cX1_drawPages 1 = .ok (.iload_n 1, 1) := by decide +kernel
theorem dX1_drawPages_2 : decode cX1_drawPages 2 = .ok (.sipush 7919, 3) := by decide +kernel
theorem dX1_drawPages_5 : decode cX1_drawPages 5 = .ok (.imul, 1) := by decide +kernel
theorem dX1_drawPages_6 : decode cX1_drawPages 6 = .ok (.aload_n 0, 1) := by decide +kernel
theorem dX1_drawPages_7 : decode cX1_drawPages 7 = .ok (.getfield 25, 3) := by decide +kernel
theorem dX1_drawPages_10 : decode cX1_drawPages 10 = .ok (.ldc 67, 2) := by decide +kernel
theorem dX1_drawPages_12 : decode cX1_drawPages 12 = .ok (.imul, 1) := by decide +kernel
theorem dX1_drawPages_13 : decode cX1_drawPages 13 = .ok (.iadd, 1) := by decide +kernel
theorem dX1_drawPages_14 : decode cX1_drawPages 14 = .ok (.iconst 1, 1) := by decide +kernel
theorem dX1_drawPages_15 : decode cX1_drawPages 15 = .ok (.iadd, 1) := by decide +kernel
theorem dX1_drawPages_16 : decode cX1_drawPages 16 = .ok (.putfield 68, 3) := by decide +kernel
theorem dX1_drawPages_19 : decode cX1_drawPages 19 = .ok (.aload_n 0, 1) := by decide +kernel
theorem dX1_drawPages_20 : decode cX1_drawPages 20 = .ok (.invokevirtual 49, 3) := by decide +kernel
theorem dX1_drawPages_23 : decode cX1_drawPages 23 = .ok (.istore_n 3, 1) := by decide +kernel
theorem dX1_drawPages_24 : decode cX1_drawPages 24 = .ok (.iload_n 2, 1) := by decide +kernel
theorem dX1_drawPages_25 : decode cX1_drawPages 25 = .ok (.ifCond .le 11, 3) := by decide +kernel
theorem dX1_drawPages_28 : decode cX1_drawPages 28 = .ok (.aload_n 0, 1) := by decide +kernel
theorem dX1_drawPages_29 : decode cX1_drawPages 29 = .ok (.iload_n 2, 1) := by decide +kernel
theorem dX1_drawPages_30 : decode cX1_drawPages 30 = .ok (.invokevirtual 71, 3) := by decide +kernel
theorem dX1_drawPages_33 : decode cX1_drawPages 33 = .ok (.goto 8, 3) := by decide +kernel
theorem dX1_drawPages_36 : decode cX1_drawPages 36 = .ok (.aload_n 0, 1) := by decide +kernel
theorem dX1_drawPages_37 : decode cX1_drawPages 37 = .ok (.iload_n 3, 1) := by decide +kernel
theorem dX1_drawPages_38 : decode cX1_drawPages 38 = .ok (.invokevirtual 74, 3) := by decide +kernel
theorem dX1_drawPages_41 : decode cX1_drawPages 41 = .ok (.istore 4, 2) := by decide +kernel
theorem dX1_drawPages_43 : decode cX1_drawPages 43 = .ok (.iconst 0, 1) := by decide +kernel
theorem dX1_drawPages_44 : decode cX1_drawPages 44 = .ok (.istore 5, 2) := by decide +kernel
theorem dX1_drawPages_46 : decode cX1_drawPages 46 = .ok (.iconst 0, 1) := by decide +kernel
theorem dX1_drawPages_47 : decode cX1_drawPages 47 = .ok (.istore 6, 2) := by decide +kernel
theorem dX1_drawPages_49 : decode cX1_drawPages 49 = .ok (.iload 6, 2) := by decide +kernel
theorem dX1_drawPages_51 : decode cX1_drawPages 51 = .ok (.iload_n 3, 1) := by decide +kernel
theorem dX1_drawPages_52 : decode cX1_drawPages 52 = .ok (.if_icmp .ge 20, 3) := by decide +kernel
theorem dX1_drawPages_55 : decode cX1_drawPages 55 = .ok (.iload 5, 2) := by decide +kernel
theorem dX1_drawPages_57 : decode cX1_drawPages 57 = .ok (.aload_n 0, 1) := by decide +kernel
theorem dX1_drawPages_58 : decode cX1_drawPages 58 = .ok (.iload 6, 2) := by decide +kernel
theorem dX1_drawPages_60 : decode cX1_drawPages 60 = .ok (.invokevirtual 77, 3) := by decide +kernel
theorem dX1_drawPages_63 : decode cX1_drawPages 63 = .ok (.iadd, 1) := by decide +kernel
theorem dX1_drawPages_64 : decode cX1_drawPages 64 = .ok (.istore 5, 2) := by decide +kernel
theorem dX1_drawPages_66 : decode cX1_drawPages 66 = .ok (.iinc 6 1, 3) := by decide +kernel
theorem dX1_drawPages_69 : decode cX1_drawPages 69 = .ok (.goto (-20), 3) := by decide +kernel
theorem dX1_drawPages_72 : decode cX1_drawPages 72 = .ok (.iconst 0, 1) := by decide +kernel
theorem dX1_drawPages_73 : decode cX1_drawPages 73 = .ok (.istore 6, 2) := by decide +kernel
theorem dX1_drawPages_75 : decode cX1_drawPages 75 = .ok (.iconst 0, 1) := by decide +kernel
theorem dX1_drawPages_76 : decode cX1_drawPages 76 = .ok (.istore 7, 2) := by decide +kernel
theorem dX1_drawPages_78 : decode cX1_drawPages 78 = .ok (.iload 7, 2) := by decide +kernel
theorem dX1_drawPages_80 : decode cX1_drawPages 80 = .ok (.iload 4, 2) := by decide +kernel
theorem dX1_drawPages_82 : decode cX1_drawPages 82 = .ok (.if_icmp .ge 44, 3) := by decide +kernel
theorem dX1_drawPages_85 : decode cX1_drawPages 85 = .ok (.aload_n 0, 1) := by decide +kernel
theorem dX1_drawPages_86 : decode cX1_drawPages 86 = .ok (.iload 6, 2) := by decide +kernel
theorem dX1_drawPages_88 : decode cX1_drawPages 88 = .ok (.iload_n 3, 1) := by decide +kernel
theorem dX1_drawPages_89 : decode cX1_drawPages 89 = .ok (.aload_n 0, 1) := by decide +kernel
theorem dX1_drawPages_90 : decode cX1_drawPages 90 = .ok (.iload 5, 2) := by decide +kernel
theorem dX1_drawPages_92 : decode cX1_drawPages 92 = .ok (.invokevirtual 80, 3) := by decide +kernel
theorem dX1_drawPages_95 : decode cX1_drawPages 95 = .ok (.invokevirtual 83, 3) := by decide +kernel
theorem dX1_drawPages_98 : decode cX1_drawPages 98 = .ok (.istore 8, 2) := by decide +kernel
theorem dX1_drawPages_100 : decode cX1_drawPages 100 = .ok (.iload 6, 2) := by decide +kernel
theorem dX1_drawPages_102 : decode cX1_drawPages 102 = .ok (.iconst 1, 1) := by decide +kernel
theorem dX1_drawPages_103 : decode cX1_drawPages 103 = .ok (.iload 8, 2) := by decide +kernel
theorem dX1_drawPages_105 : decode cX1_drawPages 105 = .ok (.ishl, 1) := by decide +kernel
theorem dX1_drawPages_106 : decode cX1_drawPages 106 = .ok (.ior, 1) := by decide +kernel
theorem dX1_drawPages_107 : decode cX1_drawPages 107 = .ok (.istore 6, 2) := by decide +kernel
theorem dX1_drawPages_109 : decode cX1_drawPages 109 = .ok (.iload 5, 2) := by decide +kernel
theorem dX1_drawPages_111 : decode cX1_drawPages 111 = .ok (.aload_n 0, 1) := by decide +kernel
theorem dX1_drawPages_112 : decode cX1_drawPages 112 = .ok (.iload 8, 2) := by decide +kernel
theorem dX1_drawPages_114 : decode cX1_drawPages 114 = .ok (.invokevirtual 77, 3) := by decide +kernel
theorem dX1_drawPages_117 : decode cX1_drawPages 117 = .ok (.isub, 1) := by decide +kernel
theorem dX1_drawPages_118 : decode cX1_drawPages 118 = .ok (.istore 5, 2) := by decide +kernel
theorem dX1_drawPages_120 : decode cX1_drawPages 120 = .ok (.iinc 7 1, 3) := by decide +kernel
theorem dX1_drawPages_123 : decode cX1_drawPages 123 = .ok (.goto (-45), 3) := by decide +kernel
theorem dX1_drawPages_126 : decode cX1_drawPages 126 = .ok (.iload 6, 2) := by decide +kernel
theorem dX1_drawPages_128 : decode cX1_drawPages 128 = .ok (.ireturn, 1) := by decide +kernel
set_option maxHeartbeats 4000000 in
set_option maxRecDepth 100000 in
theorem s_X1_drawPages {P : PP} {a0 : Nat} {a1 : Int32} {a2 : Int32} (I : IV P) (ha0 : At P a0 1) : CtrI yX1_drawPages cX1_drawPages 9 (some Jvm.ClassFile.FieldType.int) ({ frames := 3, cells := 0, slots := 0, locals := 192 } : Room) 0 0 P [.ref a0, .int a1, .int a2] (fun r P2 => IV P2 ∧ EK [1] P P2 ∧ (True)) := by
  refine enI (lv := [(0, .ref a0), (1, .int a1), (2, .int a2)]) (by decide) (Nat.le_of_ble_eq_true rfl) rfl (fun E D cy C Ci0 ret => ?_)
  have J78 : ∀ (n78 : Nat) (P78 : PP) (v78_3 : Int32) (v78_4 : Int32) (v78_5 : Int32) (v78_6 : Int32) (v78_7 : Int32), (2147483647 - v78_7.toInt).toNat < n78 → (IV P78) → (EK [1] P P78) → (0 ≤ v78_3.toInt ∧ v78_3.toInt ≤ 20) → (0 ≤ v78_7.toInt) → G E ({ frames := 3, cells := 0, slots := 0, locals := 192 } : Room) D cy 9 P78 0 0 78 [(0, .ref a0), (3, .int v78_3), (4, .int v78_4), (5, .int v78_5), (6, .int v78_6), (7, .int v78_7)] [] := by
    intro n78
    induction n78 with
    | zero => intro P78 v78_3 v78_4 v78_5 v78_6 v78_7 hm78 I78 X78 hv78_3 hv78_7; omega
    | succ n78 ih78 =>
      intro P78 v78_3 v78_4 v78_5 v78_6 v78_7 hm78 I78 X78 hv78_3 hv78_7
      have h4623 := X78.at ha0
      refine g_iload C dX1_drawPages_78 5 rfl ?_
      refine g_iload C dX1_drawPages_80 2 rfl ?_
      refine b_icmp_ge C 126 dX1_drawPages_82 (by decide) (fun h4624 => ?_) (fun h4624 => ?_)
      · have h4624 : v78_4.toInt ≤ v78_7.toInt := h4624
        refine g_iload C dX1_drawPages_126 4 rfl ?_
        exact ret _ _ _ _ _ _ dX1_drawPages_128 rfl (by decide) (by decide) ⟨I78, X78, trivial⟩
      · have h4624 : v78_7.toInt < v78_4.toInt := h4624
        refine g_aload_n C dX1_drawPages_85 rfl 0 rfl ?_
        refine g_iload C dX1_drawPages_86 4 rfl ?_
        refine g_iload_n C dX1_drawPages_88 rfl 1 rfl ?_
        refine g_aload_n C dX1_drawPages_89 rfl 0 rfl ?_
        refine g_iload C dX1_drawPages_90 3 rfl ?_
        refine g_callVI (rest := [.int v78_3, .int v78_6, .ref a0]) C mv_X1_80 [.int v78_5] (s_X1_cast I78 h4623) (h4623).1 (h4623).2 rfl rfl (by decide) (Nat.le_of_ble_eq_true rfl) (by decide) dX1_drawPages_92 (fun r4625 P4626 h4627 => ?_)
        obtain ⟨I4628, X4629, h4627⟩ := h4627
        have X4630 : EK [1] P P4626 := X78.tr (X4629.mono (by decide))
        have h4631 := X4629.at h4623
        have h4627 : True := h4627
        refine g_callVI (rest := []) C mv_X1_83 [.int v78_6, .int v78_3, .int r4625] (s_X1_pickBeside I4628 h4631 (by omega)) (h4631).1 (h4631).2 rfl rfl (by decide) (Nat.le_of_ble_eq_true rfl) (by decide) dX1_drawPages_95 (fun r4632 P4633 h4634 => ?_)
        obtain ⟨rfl, h4634⟩ := h4634
        have h4634 : 0 ≤ r4632.toInt ∧ r4632.toInt ≤ 19 := h4634
        refine g_istore (lv' := [(8, .int r4632), (0, .ref a0), (3, .int v78_3), (4, .int v78_4), (5, .int v78_5), (6, .int v78_6), (7, .int v78_7)]) C dX1_drawPages_98 (by decide) rfl ?_
        refine g_iload C dX1_drawPages_100 5 rfl ?_
        refine g_iconst (v := 1) C dX1_drawPages_102 (by decide) ?_
        refine g_iload C dX1_drawPages_103 0 rfl ?_
        refine a_ishl C dX1_drawPages_105 (fun z4635 => ?_)
        refine a_ior C dX1_drawPages_106 (fun z4637 => ?_)
        refine g_istore (lv' := [(6, .int z4637), (8, .int r4632), (0, .ref a0), (3, .int v78_3), (4, .int v78_4), (5, .int v78_5), (7, .int v78_7)]) C dX1_drawPages_107 (by decide) rfl ?_
        refine g_iload C dX1_drawPages_109 5 rfl ?_
        refine g_aload_n C dX1_drawPages_111 rfl 2 rfl ?_
        refine g_iload C dX1_drawPages_112 1 rfl ?_
        refine g_callVI (rest := [.int v78_5]) C mv_X1_77 [.int r4632] (s_X1_weightOf I4628 h4631) (h4631).1 (h4631).2 rfl rfl (by decide) (Nat.le_of_ble_eq_true rfl) (by decide) dX1_drawPages_114 (fun r4639 P4640 h4641 => ?_)
        obtain ⟨rfl, h4641⟩ := h4641
        have h4641 : True := h4641
        refine a_isub C dX1_drawPages_117 (fun z4642 => ?_)
        refine g_istore (lv' := [(5, .int z4642), (6, .int z4637), (8, .int r4632), (0, .ref a0), (3, .int v78_3), (4, .int v78_4), (7, .int v78_7)]) C dX1_drawPages_118 (by decide) rfl ?_
        refine s_iinc (lv0 := [(5, .int z4642), (6, .int z4637), (8, .int r4632), (0, .ref a0), (3, .int v78_3), (4, .int v78_4)]) (m := 1) C dX1_drawPages_120 6 rfl (by decide) rfl (by decide) (by omega) (fun z4644 h4645 => ?_)
        have h4645 : z4644.toInt = v78_7.toInt + 1 := h4645
        refine g_goto C 78 dX1_drawPages_123 (by decide) ?_
        refine g_lv (lv' := [(0, .ref a0), (3, .int v78_3), (4, .int v78_4), (5, .int z4642), (6, .int z4637), (7, .int z4644)]) [4, 5, 6, 1, 2, 0] rfl ?_
        exact ih78 P4626 v78_3 v78_4 z4642 z4637 z4644 (by omega) I4628 X4630 (by omega) (by omega)
  have J49 : ∀ (n49 : Nat) (P49 : PP) (v49_3 : Int32) (v49_4 : Int32) (v49_5 : Int32) (v49_6 : Int32), (20 - v49_6.toInt).toNat < n49 → (IV P49) → (EK [1] P P49) → (0 ≤ v49_3.toInt ∧ v49_3.toInt ≤ 20) → (0 ≤ v49_6.toInt ∧ v49_6.toInt ≤ 20) → G E ({ frames := 3, cells := 0, slots := 0, locals := 192 } : Room) D cy 9 P49 0 0 49 [(0, .ref a0), (3, .int v49_3), (4, .int v49_4), (5, .int v49_5), (6, .int v49_6)] [] := by
    intro n49
    induction n49 with
    | zero => intro P49 v49_3 v49_4 v49_5 v49_6 hm49 I49 X49 hv49_3 hv49_6; omega
    | succ n49 ih49 =>
      intro P49 v49_3 v49_4 v49_5 v49_6 hm49 I49 X49 hv49_3 hv49_6
      have h4646 := X49.at ha0
      refine g_iload C dX1_drawPages_49 4 rfl ?_
      refine g_iload_n C dX1_drawPages_51 rfl 1 rfl ?_
      refine b_icmp_ge C 72 dX1_drawPages_52 (by decide) (fun h4647 => ?_) (fun h4647 => ?_)
      · have h4647 : v49_3.toInt ≤ v49_6.toInt := h4647
        refine g_iconst (v := 0) C dX1_drawPages_72 (by decide) ?_
        refine g_istore (lv' := [(6, .int 0), (0, .ref a0), (3, .int v49_3), (4, .int v49_4), (5, .int v49_5)]) C dX1_drawPages_73 (by decide) rfl ?_
        refine g_iconst (v := 0) C dX1_drawPages_75 (by decide) ?_
        refine g_istore (lv' := [(7, .int 0), (6, .int 0), (0, .ref a0), (3, .int v49_3), (4, .int v49_4), (5, .int v49_5)]) C dX1_drawPages_76 (by decide) rfl ?_
        refine g_lv (lv' := [(0, .ref a0), (3, .int v49_3), (4, .int v49_4), (5, .int v49_5), (6, .int 0), (7, .int 0)]) [2, 3, 4, 5, 1, 0] rfl ?_
        exact J78 _ P49 v49_3 v49_4 v49_5 0 0 (Nat.lt_succ_self _) I49 X49 (by omega) (by decide)
      · have h4647 : v49_6.toInt < v49_3.toInt := h4647
        refine g_iload C dX1_drawPages_55 3 rfl ?_
        refine g_aload_n C dX1_drawPages_57 rfl 0 rfl ?_
        refine g_iload C dX1_drawPages_58 4 rfl ?_
        refine g_callVI (rest := [.int v49_5]) C mv_X1_77 [.int v49_6] (s_X1_weightOf I49 h4646) (h4646).1 (h4646).2 rfl rfl (by decide) (Nat.le_of_ble_eq_true rfl) (by decide) dX1_drawPages_60 (fun r4648 P4649 h4650 => ?_)
        obtain ⟨rfl, h4650⟩ := h4650
        have h4650 : True := h4650
        refine a_iadd C dX1_drawPages_63 (fun z4651 => ?_)
        refine g_istore (lv' := [(5, .int z4651), (0, .ref a0), (3, .int v49_3), (4, .int v49_4), (6, .int v49_6)]) C dX1_drawPages_64 (by decide) rfl ?_
        refine s_iinc (lv0 := [(5, .int z4651), (0, .ref a0), (3, .int v49_3), (4, .int v49_4)]) (m := 1) C dX1_drawPages_66 4 rfl (by decide) rfl (by decide) (by omega) (fun z4653 h4654 => ?_)
        have h4654 : z4653.toInt = v49_6.toInt + 1 := h4654
        refine g_goto C 49 dX1_drawPages_69 (by decide) ?_
        refine g_lv (lv' := [(0, .ref a0), (3, .int v49_3), (4, .int v49_4), (5, .int z4651), (6, .int z4653)]) [2, 3, 4, 1, 0] rfl ?_
        exact ih49 P49 v49_3 v49_4 z4651 z4653 (by omega) I49 X49 (by omega) (by omega)
  have J41 : ∀ (P41 : PP) (v41_3 : Int32) (v41_s0 : Int32), (IV P41) → (EK [1] P P41) → (0 ≤ v41_3.toInt ∧ v41_3.toInt ≤ 20) → G E ({ frames := 3, cells := 0, slots := 0, locals := 192 } : Room) D cy 9 P41 0 0 41 [(0, .ref a0), (3, .int v41_3)] [.int v41_s0] := by
    intro P41 v41_3 v41_s0 I41 X41 hv41_3
    have h4655 := X41.at ha0
    refine g_istore (lv' := [(4, .int v41_s0), (0, .ref a0), (3, .int v41_3)]) C dX1_drawPages_41 (by decide) rfl ?_
    refine g_iconst (v := 0) C dX1_drawPages_43 (by decide) ?_
    refine g_istore (lv' := [(5, .int 0), (4, .int v41_s0), (0, .ref a0), (3, .int v41_3)]) C dX1_drawPages_44 (by decide) rfl ?_
    refine g_iconst (v := 0) C dX1_drawPages_46 (by decide) ?_
    refine g_istore (lv' := [(6, .int 0), (5, .int 0), (4, .int v41_s0), (0, .ref a0), (3, .int v41_3)]) C dX1_drawPages_47 (by decide) rfl ?_
    refine g_lv (lv' := [(0, .ref a0), (3, .int v41_3), (4, .int v41_s0), (5, .int 0), (6, .int 0)]) [3, 4, 2, 1, 0] rfl ?_
    exact J49 _ P41 v41_3 v41_s0 0 0 (Nat.lt_succ_self _) I41 X41 (by omega) (by decide)
  refine g_aload_n C dX1_drawPages_0 rfl 0 rfl ?_
  refine g_iload_n C dX1_drawPages_1 rfl 1 rfl ?_
  refine g_sipush (v := 7919) C dX1_drawPages_2 (by decide) ?_
  refine a_imul C dX1_drawPages_5 (fun z4656 => ?_)
  refine g_aload_n C dX1_drawPages_6 rfl 0 rfl ?_
  refine g_getI C fi_X1_25 (by decide) (ha0).1 (ha0).2 dX1_drawPages_7 ?_
  have h4658 := I.rg (ha0) 0 rfl
  refine g_ldc (v := 104729) C kc_X1_67 dX1_drawPages_10 ?_
  refine s_imul C dX1_drawPages_12 (by show -2147483648 ≤ (pI P a0 0).toInt * 104729 ∧ (pI P a0 0).toInt * 104729 ≤ 2147483647; omega) (fun z4659 h4660 => ?_)
  have h4660 : z4659.toInt = (pI P a0 0).toInt * 104729 := h4660
  refine a_iadd C dX1_drawPages_13 (fun z4661 => ?_)
  refine g_iconst (v := 1) C dX1_drawPages_14 (by decide) ?_
  refine a_iadd C dX1_drawPages_15 (fun z4663 => ?_)
  refine g_putI C fi_X1_68 rfl (ha0).1 (ha0).2 dX1_drawPages_16 ?_
  refine gpW (ks := [1]) (I.setI (ha0) (rgOk.none rfl)) (EK.setI (ha0).2 (by decide)) (fun P4665 I4666 X4667 w4668 w4669 => ?_)
  have q4670 := w4668 0 (by decide)
  have X4671 : EK [1] P P4665 := X4667.mono (by decide)
  have h4672 := X4667.at ha0
  refine g_aload_n C dX1_drawPages_19 rfl 0 rfl ?_
  refine g_callVI (rest := []) C mv_X1_49 [] (s_X1_all I4666 h4672) (h4672).1 (h4672).2 rfl rfl (by decide) (Nat.le_of_ble_eq_true rfl) (by decide) dX1_drawPages_20 (fun r4673 P4674 h4675 => ?_)
  obtain ⟨rfl, h4675⟩ := h4675
  have h4675 : 0 ≤ r4673.toInt ∧ r4673.toInt ≤ 20 := h4675
  refine g_istore_n (lv' := [(3, .int r4673), (0, .ref a0), (1, .int a1), (2, .int a2)]) C dX1_drawPages_23 rfl (by decide) rfl ?_
  refine g_iload_n C dX1_drawPages_24 rfl 3 rfl ?_
  refine b_if_le C 36 dX1_drawPages_25 (by decide) (fun h4676 => ?_) (fun h4676 => ?_)
  · have h4676 : a2.toInt ≤ 0 := h4676
    refine g_aload_n C dX1_drawPages_36 rfl 1 rfl ?_
    refine g_iload_n C dX1_drawPages_37 rfl 0 rfl ?_
    refine g_callVI (rest := []) C mv_X1_74 [.int r4673] (s_X1_howMany I4666 h4672 (by omega)) (h4672).1 (h4672).2 rfl rfl (by decide) (Nat.le_of_ble_eq_true rfl) (by decide) dX1_drawPages_38 (fun r4677 P4678 h4679 => ?_)
    obtain ⟨I4680, X4681, h4679⟩ := h4679
    have X4682 : EK [1] P P4678 := X4671.tr (X4681.mono (by decide))
    have h4683 := X4681.at h4672
    have h4679 : 1 ≤ r4677.toInt ∧ r4677.toInt ≤ 20 := h4679
    refine g_lv (lv' := [(0, .ref a0), (3, .int r4673)]) [1, 0] rfl ?_
    exact J41 P4678 r4673 r4677 I4680 X4682 (by omega)
  · have h4676 : 0 < a2.toInt := h4676
    refine g_aload_n C dX1_drawPages_28 rfl 1 rfl ?_
    refine g_iload_n C dX1_drawPages_29 rfl 3 rfl ?_
    refine g_callVI (rest := []) C mv_X1_71 [.int a2] (s_X1_castDegree I4666 h4672) (h4672).1 (h4672).2 rfl rfl (by decide) (Nat.le_of_ble_eq_true rfl) (by decide) dX1_drawPages_30 (fun r4684 P4685 h4686 => ?_)
    obtain ⟨I4687, X4688, h4686⟩ := h4686
    have X4689 : EK [1] P P4685 := X4671.tr (X4688.mono (by decide))
    have h4690 := X4688.at h4672
    have h4686 : True := h4686
    refine g_goto C 41 dX1_drawPages_33 (by decide) ?_
    refine g_lv (lv' := [(0, .ref a0), (3, .int r4673)]) [1, 0] rfl ?_
    exact J41 P4685 r4673 r4684 I4687 X4689 (by omega)
theorem dX1_pagesOf_0 : decode cX1_pagesOf 0 = .ok (.iload_n 1, 1) := by decide +kernel
theorem dX1_pagesOf_1 : decode cX1_pagesOf 1 = .ok (.ifCond .lt 9, 3) := by decide +kernel
theorem dX1_pagesOf_4 : decode cX1_pagesOf 4 = .ok (.iload_n 1, 1) := by decide +kernel
theorem dX1_pagesOf_5 : decode cX1_pagesOf 5 = .ok (.bipush 60, 2) := by decide +kernel
theorem dX1_pagesOf_7 : decode cX1_pagesOf 7 = .ok (.if_icmp .lt 10, 3) := by decide +kernel
theorem dX1_pagesOf_10 : decode cX1_pagesOf 10 = .ok (.aload_n 0, 1) := by decide +kernel
theorem dX1_pagesOf_11 : decode cX1_pagesOf 11 = .ok (.iload_n 1, 1) := by decide +kernel
theorem dX1_pagesOf_12 : decode cX1_pagesOf 12 = .ok (.iconst 0, 1) := by decide +kernel
theorem dX1_pagesOf_13 : decode cX1_pagesOf 13 = .ok (.invokevirtual 63, 3) := by decide +kernel
theorem dX1_pagesOf_16 : decode cX1_pagesOf 16 = .ok (.ireturn, 1) := by decide +kernel
theorem dX1_pagesOf_17 : decode cX1_pagesOf 17 = .ok (.aload_n 0, 1) := by decide +kernel
theorem dX1_pagesOf_18 : decode cX1_pagesOf 18 = .ok (.getfield 22, 3) := by decide +kernel
theorem dX1_pagesOf_21 : decode cX1_pagesOf 21 = .ok (.iload_n 1, 1) := by decide +kernel
theorem dX1_pagesOf_22 : decode cX1_pagesOf 22 = .ok (.iaload, 1) := by decide +kernel
theorem dX1_pagesOf_23 : decode cX1_pagesOf 23 = .ok (.ifCond .ne 15, 3) := by decide +kernel
theorem dX1_pagesOf_26 : decode cX1_pagesOf 26 = .ok (.aload_n 0, 1) := by decide +kernel
theorem dX1_pagesOf_27 : decode cX1_pagesOf 27 = .ok (.getfield 22, 3) := by decide +kernel
theorem dX1_pagesOf_30 : decode cX1_pagesOf 30 = .ok (.iload_n 1, 1) := by decide +kernel
theorem dX1_pagesOf_31 : decode cX1_pagesOf 31 = .ok (.aload_n 0, 1) := by decide +kernel
theorem dX1_pagesOf_32 : decode cX1_pagesOf 32 = .ok (.iload_n 1, 1) := by decide +kernel
theorem dX1_pagesOf_33 : decode cX1_pagesOf 33 = .ok (.iconst 0, 1) := by decide +kernel
theorem dX1_pagesOf_34 : decode cX1_pagesOf 34 = .ok (.invokevirtual 63, 3) := by decide +kernel
theorem dX1_pagesOf_37 : decode cX1_pagesOf 37 = .ok (.iastore, 1) := by decide +kernel
theorem dX1_pagesOf_38 : decode cX1_pagesOf 38 = .ok (.aload_n 0, 1) := by decide +kernel
theorem dX1_pagesOf_39 : decode cX1_pagesOf 39 = .ok (.getfield 22, 3) := by decide +kernel
theorem dX1_pagesOf_42 : decode cX1_pagesOf 42 = .ok (.iload_n 1, 1) := by decide +kernel
theorem dX1_pagesOf_43 : decode cX1_pagesOf 43 = .ok (.iaload, 1) := by decide +kernel
theorem dX1_pagesOf_44 : decode cX1_pagesOf 44 = .ok (.ireturn, 1) := by decide +kernel
set_option maxHeartbeats 4000000 in
set_option maxRecDepth 100000 in
theorem s_X1_pagesOf {P : PP} {a0 : Nat} {a1 : Int32} (I : IV P) (ha0 : At P a0 1) : CtrI yX1_pagesOf cX1_pagesOf 2 (some Jvm.ClassFile.FieldType.int) ({ frames := 4, cells := 0, slots := 0, locals := 256 } : Room) 0 0 P [.ref a0, .int a1] (fun r P2 => IV P2 ∧ EK [1, 13] P P2 ∧ (True)) := by
  refine enI (lv := [(0, .ref a0), (1, .int a1)]) (by decide) (Nat.le_of_ble_eq_true rfl) rfl (fun E D cy C Ci0 ret => ?_)
  have J38 : ∀ (P38 : PP), (IV P38) → (EK [1, 13] P P38) → (0 ≤ a1.toInt ∧ a1.toInt ≤ 59) → G E ({ frames := 4, cells := 0, slots := 0, locals := 256 } : Room) D cy 2 P38 0 0 38 [(0, .ref a0), (1, .int a1)] [] := by
    intro P38 I38 X38 hv38_1
    have h4722 := X38.at ha0
    refine g_aload_n C dX1_pagesOf_38 rfl 0 rfl ?_
    obtain ⟨b4723, e4724, h4725⟩ := I38.fld (h4722) 3 13 60 rfl
    refine g_getR C fi_X1_22 rfl e4724 (h4722).1 (h4722).2 dX1_pagesOf_39 ?_
    refine g_iload_n C dX1_pagesOf_42 rfl 1 rfl ?_
    refine g_iald (j := (a1.toInt.toNat)) C h4725.1 h4725.2.1 (ix_in h4725.2.2 (by omega)) dX1_pagesOf_43 ?_
    refine g_topi (fun z4726 _ => ?_)
    exact ret _ _ _ _ _ _ dX1_pagesOf_44 rfl (by decide) (by decide) ⟨I38, X38, trivial⟩
  have J10 : G E ({ frames := 4, cells := 0, slots := 0, locals := 256 } : Room) D cy 2 P 0 0 10 [(0, .ref a0), (1, .int a1)] [] := by
    refine g_aload_n C dX1_pagesOf_10 rfl 0 rfl ?_
    refine g_iload_n C dX1_pagesOf_11 rfl 1 rfl ?_
    refine g_iconst (v := 0) C dX1_pagesOf_12 (by decide) ?_
    refine g_callVI (rest := []) C mv_X1_63 [.int a1, .int 0] (s_X1_drawPages I ha0) (ha0).1 (ha0).2 rfl rfl (by decide) (Nat.le_of_ble_eq_true rfl) (by decide) dX1_pagesOf_13 (fun r4727 P4728 h4729 => ?_)
    obtain ⟨I4730, X4731, h4729⟩ := h4729
    have X4732 : EK [1, 13] P P4728 := X4731.mono (by decide)
    have h4733 := X4731.at ha0
    have h4729 : True := h4729
    exact ret _ _ _ _ _ _ dX1_pagesOf_16 rfl (by decide) (by decide) ⟨I4730, X4732, trivial⟩
  refine g_iload_n C dX1_pagesOf_0 rfl 1 rfl ?_
  refine b_if_lt C 10 dX1_pagesOf_1 (by decide) (fun h4734 => ?_) (fun h4734 => ?_)
  · have h4734 : a1.toInt < 0 := h4734
    exact J10 
  · have h4734 : 0 ≤ a1.toInt := h4734
    refine g_iload_n C dX1_pagesOf_4 rfl 1 rfl ?_
    refine g_bipush (v := 60) C dX1_pagesOf_5 (by decide) ?_
    refine b_icmp_lt C 17 dX1_pagesOf_7 (by decide) (fun h4735 => ?_) (fun h4735 => ?_)
    · have h4735 : a1.toInt < 60 := h4735
      refine g_aload_n C dX1_pagesOf_17 rfl 0 rfl ?_
      obtain ⟨b4736, e4737, h4738⟩ := I.fld (ha0) 3 13 60 rfl
      refine g_getR C fi_X1_22 rfl e4737 (ha0).1 (ha0).2 dX1_pagesOf_18 ?_
      refine g_iload_n C dX1_pagesOf_21 rfl 1 rfl ?_
      refine g_iald (j := (a1.toInt.toNat)) C h4738.1 h4738.2.1 (ix_in h4738.2.2 (by omega)) dX1_pagesOf_22 ?_
      refine g_topi (fun z4739 _ => ?_)
      refine b_if_ne C 38 dX1_pagesOf_23 (by decide) (fun h4740 => ?_) (fun h4740 => ?_)
      · have h4740 : z4739.toInt ≠ 0 := ti_ne h4740
        exact J38 P I EK.rf (by omega)
      · have h4740 : z4739.toInt = 0 := congrArg Int32.toInt h4740
        refine g_aload_n C dX1_pagesOf_26 rfl 0 rfl ?_
        refine g_getR C fi_X1_22 rfl e4737 (ha0).1 (ha0).2 dX1_pagesOf_27 ?_
        refine g_iload_n C dX1_pagesOf_30 rfl 1 rfl ?_
        refine g_aload_n C dX1_pagesOf_31 rfl 0 rfl ?_
        refine g_iload_n C dX1_pagesOf_32 rfl 1 rfl ?_
        refine g_iconst (v := 0) C dX1_pagesOf_33 (by decide) ?_
        refine g_callVI (rest := [.int a1, .ref b4736]) C mv_X1_63 [.int a1, .int 0] (s_X1_drawPages I ha0) (ha0).1 (ha0).2 rfl rfl (by decide) (Nat.le_of_ble_eq_true rfl) (by decide) dX1_pagesOf_34 (fun r4741 P4742 h4743 => ?_)
        obtain ⟨I4744, X4745, h4743⟩ := h4743
        have X4746 : EK [1, 13] P P4742 := X4745.mono (by decide)
        have h4747 := X4745.at ha0
        have h4748 := X4745.ar h4738
        have h4743 : True := h4743
        refine g_iast (j := (a1.toInt.toNat)) C h4748.1 h4748.2.1 (ix_in h4748.2.2 (by omega)) dX1_pagesOf_37 ?_
        refine gp (ks := [13]) (I4744.setA h4748 (by decide)) (EK.setI h4748.2.1 (by decide)) (fun P4749 I4750 X4751 => ?_)
        have X4752 : EK [1, 13] P P4749 := X4746.tr (X4751.mono (by decide))
        have h4753 := X4751.at h4747
        exact J38 P4749 I4750 X4752 (by omega)
    · have h4735 : 60 ≤ a1.toInt := h4735
      exact J10 
theorem dX1_withoutHidden_0 : decode cX1_withoutHidden 0 = .ok (.iload_n 1, 1) := by decide +kernel
theorem dX1_withoutHidden_1 : decode cX1_withoutHidden 1 = .ok (.iconst 1, 1) := by decide +kernel
theorem dX1_withoutHidden_2 : decode cX1_withoutHidden 2 = .ok (.aload_n 0, 1) := by decide +kernel
theorem dX1_withoutHidden_3 : decode cX1_withoutHidden 3 = .ok (.getfield 33, 3) := by decide +kernel
theorem dX1_withoutHidden_6 : decode cX1_withoutHidden 6 = .ok (.ishl, 1) := by decide +kernel
theorem dX1_withoutHidden_7 : decode cX1_withoutHidden 7 = .ok (.iconst 1, 1) := by decide +kernel
theorem dX1_withoutHidden_8 : decode cX1_withoutHidden 8 = .ok (.isub, 1) := by decide +kernel
theorem dX1_withoutHidden_9 : decode cX1_withoutHidden 9 = .ok (.iand, 1) := by decide +kernel
theorem dX1_withoutHidden_10 : decode cX1_withoutHidden 10 = .ok (.istore_n 2, 1) := by decide +kernel
theorem dX1_withoutHidden_11 : decode cX1_withoutHidden 11 = .ok (.iconst 0, 1) := by decide +kernel
theorem dX1_withoutHidden_12 : decode cX1_withoutHidden 12 = .ok (.istore_n 3, 1) := by decide +kernel
theorem dX1_withoutHidden_13 : decode cX1_withoutHidden 13 = .ok (.iload_n 3, 1) := by decide +kernel
theorem dX1_withoutHidden_14 : decode cX1_withoutHidden 14 = .ok (.aload_n 0, 1) := by decide +kernel
theorem dX1_withoutHidden_15 : decode cX1_withoutHidden 15 = .ok (.getfield 18, 3) := by decide +kernel
theorem dX1_withoutHidden_18 : decode cX1_withoutHidden 18 = .ok (.getfield 46, 3) := by decide +kernel
theorem dX1_withoutHidden_21 : decode cX1_withoutHidden 21 = .ok (.if_icmp .ge 34, 3) := by decide +kernel
theorem dX1_withoutHidden_24 : decode cX1_withoutHidden 24 = .ok (.iload_n 1, 1) := by decide +kernel
theorem dX1_withoutHidden_25 : decode cX1_withoutHidden 25 = .ok (.aload_n 0, 1) := by decide +kernel
theorem dX1_withoutHidden_26 : decode cX1_withoutHidden 26 = .ok (.getfield 33, 3) := by decide +kernel
theorem dX1_withoutHidden_29 : decode cX1_withoutHidden 29 = .ok (.iload_n 3, 1) := by decide +kernel
theorem dX1_withoutHidden_30 : decode cX1_withoutHidden 30 = .ok (.iadd, 1) := by decide +kernel
theorem dX1_withoutHidden_31 : decode cX1_withoutHidden 31 = .ok (.ishr, 1) := by decide +kernel
theorem dX1_withoutHidden_32 : decode cX1_withoutHidden 32 = .ok (.iconst 1, 1) := by decide +kernel
theorem dX1_withoutHidden_33 : decode cX1_withoutHidden 33 = .ok (.iand, 1) := by decide +kernel
theorem dX1_withoutHidden_34 : decode cX1_withoutHidden 34 = .ok (.ifCond .eq 15, 3) := by decide +kernel
theorem dX1_withoutHidden_37 : decode cX1_withoutHidden 37 = .ok (.iload_n 2, 1) := by decide +kernel
theorem dX1_withoutHidden_38 : decode cX1_withoutHidden 38 = .ok (.aload_n 0, 1) := by decide +kernel
theorem dX1_withoutHidden_39 : decode cX1_withoutHidden 39 = .ok (.getfield 18, 3) := by decide +kernel
theorem dX1_withoutHidden_42 : decode cX1_withoutHidden 42 = .ok (.getfield 53, 3) := by decide +kernel
theorem dX1_withoutHidden_45 : decode cX1_withoutHidden 45 = .ok (.iload_n 3, 1) := by decide +kernel
theorem dX1_withoutHidden_46 : decode cX1_withoutHidden 46 = .ok (.iaload, 1) := by decide +kernel
theorem dX1_withoutHidden_47 : decode cX1_withoutHidden 47 = .ok (.ixor, 1) := by decide +kernel
theorem dX1_withoutHidden_48 : decode cX1_withoutHidden 48 = .ok (.istore_n 2, 1) := by decide +kernel
theorem dX1_withoutHidden_49 : decode cX1_withoutHidden 49 = .ok (.iinc 3 1, 3) := by decide +kernel
theorem dX1_withoutHidden_52 : decode cX1_withoutHidden 52 = .ok (.goto (-39), 3) := by decide +kernel
theorem dX1_withoutHidden_55 : decode cX1_withoutHidden 55 = .ok (.iload_n 2, 1) := by decide +kernel
theorem dX1_withoutHidden_56 : decode cX1_withoutHidden 56 = .ok (.ireturn, 1) := by decide +kernel
set_option maxHeartbeats 4000000 in
set_option maxRecDepth 100000 in
theorem s_X1_withoutHidden {P : PP} {a0 : Nat} {a1 : Int32} (I : IV P) (ha0 : At P a0 1) : CtrI yX1_withoutHidden cX1_withoutHidden 4 (some Jvm.ClassFile.FieldType.int) ({ frames := 1, cells := 0, slots := 0, locals := 64 } : Room) 0 0 P [.ref a0, .int a1] (fun r P2 => P = P2 ∧ (True)) := by
  refine enI (lv := [(0, .ref a0), (1, .int a1)]) (by decide) (Nat.le_of_ble_eq_true rfl) rfl (fun E D cy C Ci0 ret => ?_)
  have J13 : ∀ (n13 : Nat) (v13_2 : Int32) (v13_3 : Int32), (4 - v13_3.toInt).toNat < n13 → (0 ≤ v13_3.toInt ∧ v13_3.toInt ≤ 4) → G E ({ frames := 1, cells := 0, slots := 0, locals := 64 } : Room) D cy 4 P 0 0 13 [(0, .ref a0), (1, .int a1), (2, .int v13_2), (3, .int v13_3)] [] := by
    intro n13
    induction n13 with
    | zero => intro v13_2 v13_3 hm13 hv13_3; omega
    | succ n13 ih13 =>
      intro v13_2 v13_3 hm13 hv13_3
      have J49 : ∀ (v49_2 : Int32), (0 ≤ v13_3.toInt ∧ v13_3.toInt ≤ 3) → G E ({ frames := 1, cells := 0, slots := 0, locals := 64 } : Room) D cy 4 P 0 0 49 [(0, .ref a0), (1, .int a1), (2, .int v49_2), (3, .int v13_3)] [] := by
        intro v49_2 hv49_3
        refine s_iinc (lv0 := [(0, .ref a0), (1, .int a1), (2, .int v49_2)]) (m := 1) C dX1_withoutHidden_49 3 rfl (by decide) rfl (by decide) (by omega) (fun z4864 h4865 => ?_)
        have h4865 : z4864.toInt = v13_3.toInt + 1 := h4865
        refine g_goto C 13 dX1_withoutHidden_52 (by decide) ?_
        refine g_lv (lv' := [(0, .ref a0), (1, .int a1), (2, .int v49_2), (3, .int z4864)]) [1, 2, 3, 0] rfl ?_
        exact ih13 v49_2 z4864 (by omega) (by omega)
      refine g_iload_n C dX1_withoutHidden_13 rfl 3 rfl ?_
      refine g_aload_n C dX1_withoutHidden_14 rfl 0 rfl ?_
      obtain ⟨b4866, e4867, h4868⟩ := I.fld (ha0) 2 3 0 rfl
      refine g_getR C fi_X1_18 rfl e4867 (ha0).1 (ha0).2 dX1_withoutHidden_15 ?_
      refine g_getI C fi_X1_46 (by decide) (h4868.at).1 (h4868.at).2 dX1_withoutHidden_18 ?_
      have h4869 := I.rg (h4868.at) 2 rfl
      refine b_icmp_ge C 55 dX1_withoutHidden_21 (by decide) (fun h4870 => ?_) (fun h4870 => ?_)
      · have h4870 : (pI P b4866 2).toInt ≤ v13_3.toInt := h4870
        refine g_iload_n C dX1_withoutHidden_55 rfl 2 rfl ?_
        exact ret _ _ _ _ _ _ dX1_withoutHidden_56 rfl (by decide) (by decide) ⟨rfl, trivial⟩
      · have h4870 : v13_3.toInt < (pI P b4866 2).toInt := h4870
        refine g_iload_n C dX1_withoutHidden_24 rfl 1 rfl ?_
        refine g_aload_n C dX1_withoutHidden_25 rfl 0 rfl ?_
        refine g_getI C fi_X1_33 (by decide) (ha0).1 (ha0).2 dX1_withoutHidden_26 ?_
        have h4871 := I.rg (ha0) 5 rfl
        refine g_iload_n C dX1_withoutHidden_29 rfl 3 rfl ?_
        refine s_iadd C dX1_withoutHidden_30 (by show -2147483648 ≤ (pI P a0 5).toInt + v13_3.toInt ∧ (pI P a0 5).toInt + v13_3.toInt ≤ 2147483647; omega) (fun z4872 h4873 => ?_)
        have h4873 : z4872.toInt = (pI P a0 5).toInt + v13_3.toInt := h4873
        refine a_ishr C dX1_withoutHidden_31 (fun z4874 => ?_)
        refine g_iconst (v := 1) C dX1_withoutHidden_32 (by decide) ?_
        refine s_iand C dX1_withoutHidden_33 (by show 0 ≤ 1; omega) (fun z4876 h4877 => ?_)
        have h4877 : 0 ≤ z4876.toInt ∧ z4876.toInt ≤ 1 := h4877
        refine b_if_eq C 49 dX1_withoutHidden_34 (by decide) (fun h4878 => ?_) (fun h4878 => ?_)
        · have h4878 : z4876.toInt = 0 := congrArg Int32.toInt h4878
          exact J49 v13_2 (by omega)
        · have h4878 : z4876.toInt ≠ 0 := ti_ne h4878
          refine g_iload_n C dX1_withoutHidden_37 rfl 2 rfl ?_
          refine g_aload_n C dX1_withoutHidden_38 rfl 0 rfl ?_
          refine g_getR C fi_X1_18 rfl e4867 (ha0).1 (ha0).2 dX1_withoutHidden_39 ?_
          obtain ⟨b4879, e4880, h4881⟩ := I.fld (h4868.at) 1 13 4 rfl
          refine g_getR C fi_X1_53 rfl e4880 (h4868.at).1 (h4868.at).2 dX1_withoutHidden_42 ?_
          refine g_iload_n C dX1_withoutHidden_45 rfl 3 rfl ?_
          refine g_iald (j := (v13_3.toInt.toNat)) C h4881.1 h4881.2.1 (ix_in h4881.2.2 (by omega)) dX1_withoutHidden_46 ?_
          refine g_topi (fun z4882 _ => ?_)
          refine a_ixor C dX1_withoutHidden_47 (fun z4883 => ?_)
          refine g_istore_n (lv' := [(2, .int z4883), (0, .ref a0), (1, .int a1), (3, .int v13_3)]) C dX1_withoutHidden_48 rfl (by decide) rfl ?_
          refine g_lv (lv' := [(0, .ref a0), (1, .int a1), (2, .int z4883), (3, .int v13_3)]) [1, 2, 0, 3] rfl ?_
          exact J49 z4883 (by omega)
  refine g_iload_n C dX1_withoutHidden_0 rfl 1 rfl ?_
  refine g_iconst (v := 1) C dX1_withoutHidden_1 (by decide) ?_
  refine g_aload_n C dX1_withoutHidden_2 rfl 0 rfl ?_
  refine g_getI C fi_X1_33 (by decide) (ha0).1 (ha0).2 dX1_withoutHidden_3 ?_
  have h4885 := I.rg (ha0) 5 rfl
  refine a_ishl C dX1_withoutHidden_6 (fun z4886 => ?_)
  refine g_iconst (v := 1) C dX1_withoutHidden_7 (by decide) ?_
  refine a_isub C dX1_withoutHidden_8 (fun z4888 => ?_)
  refine a_iand C dX1_withoutHidden_9 (fun z4890 => ?_)
  refine g_istore_n (lv' := [(2, .int z4890), (0, .ref a0), (1, .int a1)]) C dX1_withoutHidden_10 rfl (by decide) rfl ?_
  refine g_iconst (v := 0) C dX1_withoutHidden_11 (by decide) ?_
  refine g_istore_n (lv' := [(3, .int 0), (2, .int z4890), (0, .ref a0), (1, .int a1)]) C dX1_withoutHidden_12 rfl (by decide) rfl ?_
  refine g_lv (lv' := [(0, .ref a0), (1, .int a1), (2, .int z4890), (3, .int 0)]) [2, 3, 1, 0] rfl ?_
  exact J13 _ z4890 0 (Nat.lt_succ_self _) (by decide)
theorem dX1_sumOf_0 : decode cX1_sumOf 0 = .ok (.aload_n 0, 1) := by decide +kernel
theorem dX1_sumOf_1 : decode cX1_sumOf 1 = .ok (.iload_n 1, 1) := by decide +kernel
theorem dX1_sumOf_2 : decode cX1_sumOf 2 = .ok (.invokevirtual 56, 3) := by decide +kernel
theorem dX1_sumOf_5 : decode cX1_sumOf 5 = .ok (.istore_n 2, 1) := by decide +kernel
theorem dX1_sumOf_6 : decode cX1_sumOf 6 = .ok (.iconst 0, 1) := by decide +kernel
theorem dX1_sumOf_7 : decode cX1_sumOf 7 = .ok (.istore_n 3, 1) := by decide +kernel
theorem dX1_sumOf_8 : decode cX1_sumOf 8 = .ok (.iconst 0, 1) := by decide +kernel
theorem dX1_sumOf_9 : decode cX1_sumOf 9 = .ok (.istore 4, 2) := by decide +kernel
theorem dX1_sumOf_11 : decode cX1_sumOf 11 = .ok (.iload 4, 2) := by decide +kernel
theorem dX1_sumOf_13 : decode cX1_sumOf 13 = .ok (.aload_n 0, 1) := by decide +kernel
theorem dX1_sumOf_14 : decode cX1_sumOf 14 = .ok (.getfield 33, 3) := by decide +kernel
theorem dX1_sumOf_17 : decode cX1_sumOf 17 = .ok (.if_icmp .ge 28, 3) := by decide +kernel
theorem dX1_sumOf_20 : decode cX1_sumOf 20 = .ok (.iload_n 2, 1) := by decide +kernel
theorem dX1_sumOf_21 : decode cX1_sumOf 21 = .ok (.iload 4, 2) := by decide +kernel
theorem dX1_sumOf_23 : decode cX1_sumOf 23 = .ok (.ishr, 1) := by decide +kernel
theorem dX1_sumOf_24 : decode cX1_sumOf 24 = .ok (.iconst 1, 1) := by decide +kernel
theorem dX1_sumOf_25 : decode cX1_sumOf 25 = .ok (.iand, 1) := by decide +kernel
theorem dX1_sumOf_26 : decode cX1_sumOf 26 = .ok (.ifCond .eq 13, 3) := by decide +kernel
theorem dX1_sumOf_29 : decode cX1_sumOf 29 = .ok (.iload_n 3, 1) := by decide +kernel
theorem dX1_sumOf_30 : decode cX1_sumOf 30 = .ok (.aload_n 0, 1) := by decide +kernel
theorem dX1_sumOf_31 : decode cX1_sumOf 31 = .ok (.getfield 9, 3) := by decide +kernel
theorem dX1_sumOf_34 : decode cX1_sumOf 34 = .ok (.iload 4, 2) := by decide +kernel
theorem dX1_sumOf_36 : decode cX1_sumOf 36 = .ok (.iaload, 1) := by decide +kernel
theorem dX1_sumOf_37 : decode cX1_sumOf 37 = .ok (.ixor, 1) := by decide +kernel
theorem dX1_sumOf_38 : decode cX1_sumOf 38 = .ok (.istore_n 3, 1) := by decide +kernel
theorem dX1_sumOf_39 : decode cX1_sumOf 39 = .ok (.iinc 4 1, 3) := by decide +kernel
theorem dX1_sumOf_42 : decode cX1_sumOf 42 = .ok (.goto (-31), 3) := by decide +kernel
theorem dX1_sumOf_45 : decode cX1_sumOf 45 = .ok (.iload_n 3, 1) := by decide +kernel
theorem dX1_sumOf_46 : decode cX1_sumOf 46 = .ok (.ireturn, 1) := by decide +kernel
set_option maxHeartbeats 4000000 in
set_option maxRecDepth 100000 in
theorem s_X1_sumOf {P : PP} {a0 : Nat} {a1 : Int32} (I : IV P) (ha0 : At P a0 1) : CtrI yX1_sumOf cX1_sumOf 5 (some Jvm.ClassFile.FieldType.int) ({ frames := 2, cells := 0, slots := 0, locals := 128 } : Room) 0 0 P [.ref a0, .int a1] (fun r P2 => P = P2 ∧ (True)) := by
  refine enI (lv := [(0, .ref a0), (1, .int a1)]) (by decide) (Nat.le_of_ble_eq_true rfl) rfl (fun E D cy C Ci0 ret => ?_)
  have J11 : ∀ (n11 : Nat) (v11_2 : Int32) (v11_3 : Int32) (v11_4 : Int32), (16 - v11_4.toInt).toNat < n11 → (0 ≤ v11_4.toInt ∧ v11_4.toInt ≤ 16) → G E ({ frames := 2, cells := 0, slots := 0, locals := 128 } : Room) D cy 5 P 0 0 11 [(0, .ref a0), (2, .int v11_2), (3, .int v11_3), (4, .int v11_4)] [] := by
    intro n11
    induction n11 with
    | zero => intro v11_2 v11_3 v11_4 hm11 hv11_4; omega
    | succ n11 ih11 =>
      intro v11_2 v11_3 v11_4 hm11 hv11_4
      have J39 : ∀ (v39_3 : Int32), (0 ≤ v11_4.toInt ∧ v11_4.toInt ≤ 15) → (1 ≤ (pI P a0 5).toInt ∧ (pI P a0 5).toInt ≤ 16) → G E ({ frames := 2, cells := 0, slots := 0, locals := 128 } : Room) D cy 5 P 0 0 39 [(0, .ref a0), (2, .int v11_2), (3, .int v39_3), (4, .int v11_4)] [] := by
        intro v39_3 hv39_4 hq39_0
        refine s_iinc (lv0 := [(0, .ref a0), (2, .int v11_2), (3, .int v39_3)]) (m := 1) C dX1_sumOf_39 3 rfl (by decide) rfl (by decide) (by omega) (fun z5060 h5061 => ?_)
        have h5061 : z5060.toInt = v11_4.toInt + 1 := h5061
        refine g_goto C 11 dX1_sumOf_42 (by decide) ?_
        refine g_lv (lv' := [(0, .ref a0), (2, .int v11_2), (3, .int v39_3), (4, .int z5060)]) [1, 2, 3, 0] rfl ?_
        exact ih11 v11_2 v39_3 z5060 (by omega) (by omega)
      refine g_iload C dX1_sumOf_11 3 rfl ?_
      refine g_aload_n C dX1_sumOf_13 rfl 0 rfl ?_
      refine g_getI C fi_X1_33 (by decide) (ha0).1 (ha0).2 dX1_sumOf_14 ?_
      have h5062 := I.rg (ha0) 5 rfl
      refine b_icmp_ge C 45 dX1_sumOf_17 (by decide) (fun h5063 => ?_) (fun h5063 => ?_)
      · have h5063 : (pI P a0 5).toInt ≤ v11_4.toInt := h5063
        refine g_iload_n C dX1_sumOf_45 rfl 2 rfl ?_
        exact ret _ _ _ _ _ _ dX1_sumOf_46 rfl (by decide) (by decide) ⟨rfl, trivial⟩
      · have h5063 : v11_4.toInt < (pI P a0 5).toInt := h5063
        refine g_iload_n C dX1_sumOf_20 rfl 1 rfl ?_
        refine g_iload C dX1_sumOf_21 3 rfl ?_
        refine a_ishr C dX1_sumOf_23 (fun z5064 => ?_)
        refine g_iconst (v := 1) C dX1_sumOf_24 (by decide) ?_
        refine s_iand C dX1_sumOf_25 (by show 0 ≤ 1; omega) (fun z5066 h5067 => ?_)
        have h5067 : 0 ≤ z5066.toInt ∧ z5066.toInt ≤ 1 := h5067
        refine b_if_eq C 39 dX1_sumOf_26 (by decide) (fun h5068 => ?_) (fun h5068 => ?_)
        · have h5068 : z5066.toInt = 0 := congrArg Int32.toInt h5068
          exact J39 v11_3 (by omega) (by omega)
        · have h5068 : z5066.toInt ≠ 0 := ti_ne h5068
          refine g_iload_n C dX1_sumOf_29 rfl 2 rfl ?_
          refine g_aload_n C dX1_sumOf_30 rfl 0 rfl ?_
          obtain ⟨b5069, e5070, h5071⟩ := I.fld (ha0) 1 13 16 rfl
          refine g_getR C fi_X1_9 rfl e5070 (ha0).1 (ha0).2 dX1_sumOf_31 ?_
          refine g_iload C dX1_sumOf_34 3 rfl ?_
          refine g_iald (j := (v11_4.toInt.toNat)) C h5071.1 h5071.2.1 (ix_in h5071.2.2 (by omega)) dX1_sumOf_36 ?_
          refine g_topi (fun z5072 _ => ?_)
          refine a_ixor C dX1_sumOf_37 (fun z5073 => ?_)
          refine g_istore_n (lv' := [(3, .int z5073), (0, .ref a0), (2, .int v11_2), (4, .int v11_4)]) C dX1_sumOf_38 rfl (by decide) rfl ?_
          refine g_lv (lv' := [(0, .ref a0), (2, .int v11_2), (3, .int z5073), (4, .int v11_4)]) [1, 2, 0, 3] rfl ?_
          exact J39 z5073 (by omega) (by omega)
  refine g_aload_n C dX1_sumOf_0 rfl 0 rfl ?_
  refine g_iload_n C dX1_sumOf_1 rfl 1 rfl ?_
  refine g_callVI (rest := []) C mv_X1_56 [.int a1] (s_X1_withoutHidden I ha0) (ha0).1 (ha0).2 rfl rfl (by decide) (Nat.le_of_ble_eq_true rfl) (by decide) dX1_sumOf_2 (fun r5075 P5076 h5077 => ?_)
  obtain ⟨rfl, h5077⟩ := h5077
  have h5077 : True := h5077
  refine g_istore_n (lv' := [(2, .int r5075), (0, .ref a0), (1, .int a1)]) C dX1_sumOf_5 rfl (by decide) rfl ?_
  refine g_iconst (v := 0) C dX1_sumOf_6 (by decide) ?_
  refine g_istore_n (lv' := [(3, .int 0), (2, .int r5075), (0, .ref a0), (1, .int a1)]) C dX1_sumOf_7 rfl (by decide) rfl ?_
  refine g_iconst (v := 0) C dX1_sumOf_8 (by decide) ?_
  refine g_istore (lv' := [(4, .int 0), (3, .int 0), (2, .int r5075), (0, .ref a0), (1, .int a1)]) C dX1_sumOf_9 (by decide) rfl ?_
  refine g_lv (lv' := [(0, .ref a0), (2, .int r5075), (3, .int 0), (4, .int 0)]) [3, 2, 1, 0] rfl ?_
  exact J11 _ r5075 0 0 (Nat.lt_succ_self _) (by decide)
theorem dX1_sealOf_0 : decode cX1_sealOf 0 = .ok (.aload_n 0, 1) := by decide +kernel
theorem dX1_sealOf_1 : decode cX1_sealOf 1 = .ok (.getfield 18, 3) := by decide +kernel
theorem dX1_sealOf_4 : decode cX1_sealOf 4 = .ok (.getfield 60, 3) := by decide +kernel
theorem dX1_sealOf_7 : decode cX1_sealOf 7 = .ok (.ifCond .ne 7, 3) := by decide +kernel
theorem dX1_sealOf_10 : decode cX1_sealOf 10 = .ok (.iconst 0, 1) := by decide +kernel
theorem dX1_sealOf_11 : decode cX1_sealOf 11 = .ok (.goto 23, 3) := by decide +kernel
theorem dX1_sealOf_14 : decode cX1_sealOf 14 = .ok (.iload_n 1, 1) := by decide +kernel
theorem dX1_sealOf_15 : decode cX1_sealOf 15 = .ok (.iconst 1, 1) := by decide +kernel
theorem dX1_sealOf_16 : decode cX1_sealOf 16 = .ok (.iadd, 1) := by decide +kernel
theorem dX1_sealOf_17 : decode cX1_sealOf 17 = .ok (.aload_n 0, 1) := by decide +kernel
theorem dX1_sealOf_18 : decode cX1_sealOf 18 = .ok (.getfield 18, 3) := by decide +kernel
theorem dX1_sealOf_21 : decode cX1_sealOf 21 = .ok (.getfield 60, 3) := by decide +kernel
theorem dX1_sealOf_24 : decode cX1_sealOf 24 = .ok (.imul, 1) := by decide +kernel
theorem dX1_sealOf_25 : decode cX1_sealOf 25 = .ok (.bipush 31, 2) := by decide +kernel
theorem dX1_sealOf_27 : decode cX1_sealOf 27 = .ok (.iload_n 2, 1) := by decide +kernel
theorem dX1_sealOf_28 : decode cX1_sealOf 28 = .ok (.imul, 1) := by decide +kernel
theorem dX1_sealOf_29 : decode cX1_sealOf 29 = .ok (.iadd, 1) := by decide +kernel
theorem dX1_sealOf_30 : decode cX1_sealOf 30 = .ok (.sipush 997, 3) := by decide +kernel
theorem dX1_sealOf_33 : decode cX1_sealOf 33 = .ok (.irem, 1) := by decide +kernel
theorem dX1_sealOf_34 : decode cX1_sealOf 34 = .ok (.ireturn, 1) := by decide +kernel
set_option maxHeartbeats 4000000 in
set_option maxRecDepth 100000 in
theorem s_X1_sealOf {P : PP} {a0 : Nat} {a1 : Int32} {a2 : Int32} (I : IV P) (ha0 : At P a0 1) : CtrI yX1_sealOf cX1_sealOf 3 (some Jvm.ClassFile.FieldType.int) ({ frames := 1, cells := 0, slots := 0, locals := 64 } : Room) 0 0 P [.ref a0, .int a1, .int a2] (fun r P2 => P = P2 ∧ (True)) := by
  refine enI (lv := [(0, .ref a0), (1, .int a1), (2, .int a2)]) (by decide) (Nat.le_of_ble_eq_true rfl) rfl (fun E D cy C Ci0 ret => ?_)
  have J34 : ∀ (v34_s0 : Int32), G E ({ frames := 1, cells := 0, slots := 0, locals := 64 } : Room) D cy 3 P 0 0 34 [] [.int v34_s0] := by
    intro v34_s0
    exact ret _ _ _ _ _ _ dX1_sealOf_34 rfl (by decide) (by decide) ⟨rfl, trivial⟩
  refine g_aload_n C dX1_sealOf_0 rfl 0 rfl ?_
  obtain ⟨b5092, e5093, h5094⟩ := I.fld (ha0) 2 3 0 rfl
  refine g_getR C fi_X1_18 rfl e5093 (ha0).1 (ha0).2 dX1_sealOf_1 ?_
  refine g_getI C fi_X1_60 (by decide) (h5094.at).1 (h5094.at).2 dX1_sealOf_4 ?_
  refine b_if_ne C 14 dX1_sealOf_7 (by decide) (fun h5095 => ?_) (fun h5095 => ?_)
  · have h5095 : (pI P b5092 5).toInt ≠ 0 := ti_ne h5095
    refine g_iload_n C dX1_sealOf_14 rfl 1 rfl ?_
    refine g_iconst (v := 1) C dX1_sealOf_15 (by decide) ?_
    refine a_iadd C dX1_sealOf_16 (fun z5096 => ?_)
    refine g_aload_n C dX1_sealOf_17 rfl 0 rfl ?_
    refine g_getR C fi_X1_18 rfl e5093 (ha0).1 (ha0).2 dX1_sealOf_18 ?_
    refine g_getI C fi_X1_60 (by decide) (h5094.at).1 (h5094.at).2 dX1_sealOf_21 ?_
    refine a_imul C dX1_sealOf_24 (fun z5098 => ?_)
    refine g_bipush (v := 31) C dX1_sealOf_25 (by decide) ?_
    refine g_iload_n C dX1_sealOf_27 rfl 2 rfl ?_
    refine a_imul C dX1_sealOf_28 (fun z5100 => ?_)
    refine a_iadd C dX1_sealOf_29 (fun z5102 => ?_)
    refine g_sipush (v := 997) C dX1_sealOf_30 (by decide) ?_
    refine a_irem C dX1_sealOf_33 (by show 997 ≠ 0; omega) (fun z5104 => ?_)
    refine g_lv (lv' := []) [] rfl ?_
    exact J34 z5104
  · have h5095 : (pI P b5092 5).toInt = 0 := congrArg Int32.toInt h5095
    refine g_iconst (v := 0) C dX1_sealOf_10 (by decide) ?_
    refine g_goto C 34 dX1_sealOf_11 (by decide) ?_
    refine g_lv (lv' := []) [] rfl ?_
    exact J34 0
theorem dX7_init_0 : decode cX7_init 0 = .ok (.aload_n 0, 1) := by decide +kernel
theorem dX7_init_1 : decode cX7_init 1 = .ok (.invokespecial 3, 3) := by decide +kernel
theorem dX7_init_4 : decode cX7_init 4 = .ok (.aload_n 0, 1) := by decide +kernel
theorem dX7_init_5 : decode cX7_init 5 = .ok (.iload_n 1, 1) := by decide +kernel
theorem dX7_init_6 : decode cX7_init 6 = .ok (.putfield 9, 3) := by decide +kernel
theorem dX7_init_9 : decode cX7_init 9 = .ok (.aload_n 0, 1) := by decide +kernel
theorem dX7_init_10 : decode cX7_init 10 = .ok (.iload_n 2, 1) := by decide +kernel
theorem dX7_init_11 : decode cX7_init 11 = .ok (.putfield 15, 3) := by decide +kernel
theorem dX7_init_14 : decode cX7_init 14 = .ok (.aload_n 0, 1) := by decide +kernel
theorem dX7_init_15 : decode cX7_init 15 = .ok (.iload_n 3, 1) := by decide +kernel
theorem dX7_init_16 : decode cX7_init 16 = .ok (.putfield 18, 3) := by decide +kernel
theorem dX7_init_19 : decode cX7_init 19 = .ok (.aload_n 0, 1) := by decide +kernel
theorem dX7_init_20 : decode cX7_init 20 = .ok (.iload 4, 2) := by decide +kernel
theorem dX7_init_22 : decode cX7_init 22 = .ok (.putfield 21, 3) := by decide +kernel
theorem dX7_init_25 : decode cX7_init 25 = .ok (.aload_n 0, 1) := by decide +kernel
theorem dX7_init_26 : decode cX7_init 26 = .ok (.iload 5, 2) := by decide +kernel
theorem dX7_init_28 : decode cX7_init 28 = .ok (.putfield 24, 3) := by decide +kernel
theorem dX7_init_31 : decode cX7_init 31 = .ok (.aload_n 0, 1) := by decide +kernel
theorem dX7_init_32 : decode cX7_init 32 = .ok (.iload 6, 2) := by decide +kernel
theorem dX7_init_34 : decode cX7_init 34 = .ok (.putfield 27, 3) := by decide +kernel
theorem dX7_init_37 : decode cX7_init 37 = .ok (.aload_n 0, 1) := by decide +kernel
theorem dX7_init_38 : decode cX7_init 38 = .ok (.iload 7, 2) := by decide +kernel
theorem dX7_init_40 : decode cX7_init 40 = .ok (.putfield 30, 3) := by decide +kernel
theorem dX7_init_43 : decode cX7_init 43 = .ok (.return_, 1) := by decide +kernel
set_option maxHeartbeats 4000000 in
set_option maxRecDepth 100000 in
theorem s_X7_init {P : PP} {a0 : Nat} {a1 : Int32} {a2 : Int32} {a3 : Int32} {a4 : Int32} {a5 : Int32} {a6 : Int32} {a7 : Int32} (I : IV P) (ha0 : At P a0 7) (ha1 : -1 ≤ a1.toInt ∧ a1.toInt ≤ 1) : CtrV yX7_init cX7_init 8 none ({ frames := 2, cells := 0, slots := 0, locals := 128 } : Room) 0 0 P [.ref a0, .int a1, .int a2, .int a3, .int a4, .int a5, .int a6, .int a7] (fun P2 => IV P2 ∧ EK [7] P P2) := by
  refine enV (lv := [(0, .ref a0), (1, .int a1), (2, .int a2), (3, .int a3), (4, .int a4), (5, .int a5), (6, .int a6), (7, .int a7)]) (by decide) (Nat.le_of_ble_eq_true rfl) rfl (fun E D cy C Ci0 ret => ?_)
  have Ci9 := Ci0 rfl
  refine g_aload_n C dX7_init_0 rfl 0 rfl ?_
  refine g_objInit C oi_X7_3 oi_inst oi_code (by decide) (by decide) (Nat.le_of_ble_eq_true rfl) dX7_init_1 ?_
  refine g_aload_n C dX7_init_4 rfl 0 rfl ?_
  refine g_iload_n C dX7_init_5 rfl 1 rfl ?_
  refine g_putFI C fi_X7_9 Ci9 ⟨_, rfl, rfl⟩ rfl (ha0).1 (ha0).2 dX7_init_6 ?_
  refine gpW (ks := [7]) (I.setI (ha0) (rgOk.of rfl (by omega))) (EK.setI (ha0).2 (by decide)) (fun P5176 I5177 X5178 w5179 w5180 => ?_)
  have X5181 : EK [7] P P5176 := X5178.mono (by decide)
  have h5182 := X5178.at ha0
  refine g_aload_n C dX7_init_9 rfl 0 rfl ?_
  refine g_iload_n C dX7_init_10 rfl 2 rfl ?_
  refine g_putFI C fi_X7_15 Ci9 ⟨_, rfl, rfl⟩ rfl (h5182).1 (h5182).2 dX7_init_11 ?_
  refine gpW (ks := [7]) (I5177.setI (h5182) (rgOk.none rfl)) (EK.setI (h5182).2 (by decide)) (fun P5183 I5184 X5185 w5186 w5187 => ?_)
  have q5188 := w5186 0 (by decide)
  have X5189 : EK [7] P P5183 := X5181.tr (X5185.mono (by decide))
  have h5190 := X5185.at h5182
  refine g_aload_n C dX7_init_14 rfl 0 rfl ?_
  refine g_iload_n C dX7_init_15 rfl 3 rfl ?_
  refine g_putFI C fi_X7_18 Ci9 ⟨_, rfl, rfl⟩ rfl (h5190).1 (h5190).2 dX7_init_16 ?_
  refine gpW (ks := [7]) (I5184.setI (h5190) (rgOk.none rfl)) (EK.setI (h5190).2 (by decide)) (fun P5191 I5192 X5193 w5194 w5195 => ?_)
  have q5196 := w5194 0 (by decide)
  have q5197 := w5194 1 (by decide)
  have X5198 : EK [7] P P5191 := X5189.tr (X5193.mono (by decide))
  have h5199 := X5193.at h5190
  refine g_aload_n C dX7_init_19 rfl 0 rfl ?_
  refine g_iload C dX7_init_20 4 rfl ?_
  refine g_putFI C fi_X7_21 Ci9 ⟨_, rfl, rfl⟩ rfl (h5199).1 (h5199).2 dX7_init_22 ?_
  refine gpW (ks := [7]) (I5192.setI (h5199) (rgOk.none rfl)) (EK.setI (h5199).2 (by decide)) (fun P5200 I5201 X5202 w5203 w5204 => ?_)
  have q5205 := w5203 0 (by decide)
  have q5206 := w5203 1 (by decide)
  have q5207 := w5203 2 (by decide)
  have X5208 : EK [7] P P5200 := X5198.tr (X5202.mono (by decide))
  have h5209 := X5202.at h5199
  refine g_aload_n C dX7_init_25 rfl 0 rfl ?_
  refine g_iload C dX7_init_26 5 rfl ?_
  refine g_putFI C fi_X7_24 Ci9 ⟨_, rfl, rfl⟩ rfl (h5209).1 (h5209).2 dX7_init_28 ?_
  refine gpW (ks := [7]) (I5201.setI (h5209) (rgOk.none rfl)) (EK.setI (h5209).2 (by decide)) (fun P5210 I5211 X5212 w5213 w5214 => ?_)
  have q5215 := w5213 0 (by decide)
  have q5216 := w5213 1 (by decide)
  have q5217 := w5213 2 (by decide)
  have q5218 := w5213 3 (by decide)
  have X5219 : EK [7] P P5210 := X5208.tr (X5212.mono (by decide))
  have h5220 := X5212.at h5209
  refine g_aload_n C dX7_init_31 rfl 0 rfl ?_
  refine g_iload C dX7_init_32 6 rfl ?_
  refine g_putFI C fi_X7_27 Ci9 ⟨_, rfl, rfl⟩ rfl (h5220).1 (h5220).2 dX7_init_34 ?_
  refine gpW (ks := [7]) (I5211.setI (h5220) (rgOk.none rfl)) (EK.setI (h5220).2 (by decide)) (fun P5221 I5222 X5223 w5224 w5225 => ?_)
  have q5226 := w5224 0 (by decide)
  have q5227 := w5224 1 (by decide)
  have q5228 := w5224 2 (by decide)
  have q5229 := w5224 3 (by decide)
  have q5230 := w5224 4 (by decide)
  have X5231 : EK [7] P P5221 := X5219.tr (X5223.mono (by decide))
  have h5232 := X5223.at h5220
  refine g_aload_n C dX7_init_37 rfl 0 rfl ?_
  refine g_iload C dX7_init_38 7 rfl ?_
  refine g_putFI C fi_X7_30 Ci9 ⟨_, rfl, rfl⟩ rfl (h5232).1 (h5232).2 dX7_init_40 ?_
  refine gpW (ks := [7]) (I5222.setI (h5232) (rgOk.none rfl)) (EK.setI (h5232).2 (by decide)) (fun P5233 I5234 X5235 w5236 w5237 => ?_)
  have q5238 := w5236 0 (by decide)
  have q5239 := w5236 1 (by decide)
  have q5240 := w5236 2 (by decide)
  have q5241 := w5236 3 (by decide)
  have q5242 := w5236 4 (by decide)
  have q5243 := w5236 5 (by decide)
  have X5244 : EK [7] P P5233 := X5231.tr (X5235.mono (by decide))
  have h5245 := X5235.at h5232
  exact ret _ _ _ _ _ dX7_init_43 (by decide) (by decide) ⟨I5234, X5244⟩
theorem dX1_paperOf_0 : decode cX1_paperOf 0 = .ok (.new 112, 3) := by decide +kernel
theorem dX1_paperOf_3 : decode cX1_paperOf 3 = .ok (.dup, 1) := by decide +kernel
theorem dX1_paperOf_4 : decode cX1_paperOf 4 = .ok (.aload_n 0, 1) := by decide +kernel
theorem dX1_paperOf_5 : decode cX1_paperOf 5 = .ok (.getfield 25, 3) := by decide +kernel
theorem dX1_paperOf_8 : decode cX1_paperOf 8 = .ok (.iload_n 1, 1) := by decide +kernel
theorem dX1_paperOf_9 : decode cX1_paperOf 9 = .ok (.iload_n 3, 1) := by decide +kernel
theorem dX1_paperOf_10 : decode cX1_paperOf 10 = .ok (.iload 4, 2) := by decide +kernel
theorem dX1_paperOf_12 : decode cX1_paperOf 12 = .ok (.iload 5, 2) := by decide +kernel
theorem dX1_paperOf_14 : decode cX1_paperOf 14 = .ok (.aload_n 0, 1) := by decide +kernel
theorem dX1_paperOf_15 : decode cX1_paperOf 15 = .ok (.getfield 25, 3) := by decide +kernel
theorem dX1_paperOf_18 : decode cX1_paperOf 18 = .ok (.ifCond .ne 7, 3) := by decide +kernel
theorem dX1_paperOf_21 : decode cX1_paperOf 21 = .ok (.iload_n 2, 1) := by decide +kernel
theorem dX1_paperOf_22 : decode cX1_paperOf 22 = .ok (.goto 4, 3) := by decide +kernel
theorem dX1_paperOf_25 : decode cX1_paperOf 25 = .ok (.iconst 0, 1) := by decide +kernel
theorem dX1_paperOf_26 : decode cX1_paperOf 26 = .ok (.aload_n 0, 1) := by decide +kernel
theorem dX1_paperOf_27 : decode cX1_paperOf 27 = .ok (.getfield 25, 3) := by decide +kernel
theorem dX1_paperOf_30 : decode cX1_paperOf 30 = .ok (.iconst 1, 1) := by decide +kernel
theorem dX1_paperOf_31 : decode cX1_paperOf 31 = .ok (.if_icmp .ne 7, 3) := by decide +kernel
theorem dX1_paperOf_34 : decode cX1_paperOf 34 = .ok (.iload_n 2, 1) := by decide +kernel
theorem dX1_paperOf_35 : decode cX1_paperOf 35 = .ok (.goto 4, 3) := by decide +kernel
theorem dX1_paperOf_38 : decode cX1_paperOf 38 = .ok (.iconst 0, 1) := by decide +kernel
theorem dX1_paperOf_39 : decode cX1_paperOf 39 = .ok (.invokespecial 114, 3) := by decide +kernel
theorem dX1_paperOf_42 : decode cX1_paperOf 42 = .ok (.areturn, 1) := by decide +kernel
set_option maxHeartbeats 4000000 in
set_option maxRecDepth 100000 in
theorem s_X1_paperOf {P : PP} {a0 : Nat} {a1 : Int32} {a2 : Int32} {a3 : Int32} {a4 : Int32} {a5 : Int32} (I : IV P) (ha0 : At P a0 1) : CtrQ yX1_paperOf cX1_paperOf 6 (some (Jvm.ClassFile.FieldType.object "ThousandLeaflets$Paper")) ({ frames := 3, cells := 1, slots := 7, locals := 192 } : Room) 1 7 P [.ref a0, .int a1, .int a2, .int a3, .int a4, .int a5] (fun r P2 => IV P2 ∧ EK [7] P P2 ∧ (∃ b, r = some b ∧ At P2 b 7)) := by
  refine enQ (lv := [(0, .ref a0), (1, .int a1), (2, .int a2), (3, .int a3), (4, .int a4), (5, .int a5)]) (by decide) (by first | exact Or.inl ⟨_, rfl⟩ | exact Or.inr ⟨_, rfl⟩) (Nat.le_of_ble_eq_true rfl) rfl (fun E D cy C Ci0 ret => ?_)
  have J39 : ∀ (P39 : PP) (v39_s0 : Int32) (v39_s1 : Int32) (v39_s6 : Int32) (b39_s7 : Nat) (b39_s8 : Nat), (IV P39) → (EK [7] P P39) → (0 ≤ v39_s6.toInt ∧ v39_s6.toInt ≤ 1) → (At P39 b39_s7 7) → (At P39 b39_s8 7) → (0 ≤ (pI P39 a0 0).toInt ∧ (pI P39 a0 0).toInt ≤ 1) → G E ({ frames := 3, cells := 1, slots := 7, locals := 192 } : Room) D cy 6 P39 1 7 39 [] [.int v39_s0, .int v39_s1, .int a5, .int a4, .int a3, .int a1, .int v39_s6, .ref b39_s7, .ref b39_s8] := by
    intro P39 v39_s0 v39_s1 v39_s6 b39_s7 b39_s8 I39 X39 hv39_s6 hb39_s7 hb39_s8 hq39_0
    have h5266 := X39.at ha0
    refine g_callCV (ci := 0) (ret := none) (rest := [.ref b39_s8]) C mi_X1_114 [.int v39_s6, .int a1, .int a3, .int a4, .int a5, .int v39_s1, .int v39_s0] (s_X7_init I39 hb39_s7 (by omega)) rfl rfl (by decide) (Nat.le_of_ble_eq_true rfl) (by decide) dX1_paperOf_39 (fun P5268 h5269 => ?_)
    obtain ⟨I5270, X5271⟩ := h5269
    have q5272 := X5271.keep h5266 (by decide) 0
    have X5273 : EK [7] P P5268 := X39.tr (X5271.mono (by decide))
    have h5274 := X5271.at h5266
    have h5275 := X5271.at hb39_s8
    exact ret _ _ _ _ _ (some b39_s8) dX1_paperOf_42 (by decide) (by decide) ⟨I5270, X5273, ⟨_, rfl, h5275⟩⟩
  have J26 : ∀ (P26 : PP) (v26_s0 : Int32) (v26_s5 : Int32) (b26_s6 : Nat) (b26_s7 : Nat), (IV P26) → (EK [7] P P26) → (0 ≤ v26_s5.toInt ∧ v26_s5.toInt ≤ 1) → (At P26 b26_s6 7) → (At P26 b26_s7 7) → (0 ≤ (pI P26 a0 0).toInt ∧ (pI P26 a0 0).toInt ≤ 1) → G E ({ frames := 3, cells := 1, slots := 7, locals := 192 } : Room) D cy 6 P26 1 7 26 [(0, .ref a0), (2, .int a2)] [.int v26_s0, .int a5, .int a4, .int a3, .int a1, .int v26_s5, .ref b26_s6, .ref b26_s7] := by
    intro P26 v26_s0 v26_s5 b26_s6 b26_s7 I26 X26 hv26_s5 hb26_s6 hb26_s7 hq26_0
    have h5276 := X26.at ha0
    refine g_aload_n C dX1_paperOf_26 rfl 0 rfl ?_
    refine g_getI C fi_X1_25 (by decide) (h5276).1 (h5276).2 dX1_paperOf_27 ?_
    refine g_iconst (v := 1) C dX1_paperOf_30 (by decide) ?_
    refine b_icmp_ne C 38 dX1_paperOf_31 (by decide) (fun h5277 => ?_) (fun h5277 => ?_)
    · have h5277 : (pI P26 a0 0).toInt ≠ 1 := ti_ne h5277
      refine g_iconst (v := 0) C dX1_paperOf_38 (by decide) ?_
      refine g_lv (lv' := []) [] rfl ?_
      exact J39 P26 0 v26_s0 v26_s5 b26_s6 b26_s7 I26 X26 (by omega) hb26_s6 hb26_s7 (by omega)
    · have h5277 : (pI P26 a0 0).toInt = 1 := congrArg Int32.toInt h5277
      refine g_iload_n C dX1_paperOf_34 rfl 1 rfl ?_
      refine g_goto C 39 dX1_paperOf_35 (by decide) ?_
      refine g_lv (lv' := []) [] rfl ?_
      exact J39 P26 a2 v26_s0 v26_s5 b26_s6 b26_s7 I26 X26 (by omega) hb26_s6 hb26_s7 (by omega)
  refine g_new C ni_X1_112 (by decide) (by decide) dX1_paperOf_0 (fun q5278 h5279 => ?_)
  have h5280 := At.new (P := P) (q := q5278) (kd := 7) (n := 0)
  obtain ⟨P5281, eP5281⟩ : ∃ Z : PP, Z = pNw P q5278 7 0 := ⟨_, rfl⟩
  rw [← eP5281] at h5280 ⊢
  have I5282 : IV P5281 := by rw [eP5281]; exact I.newP h5279
  have X5283 : EK [] P P5281 := by rw [eP5281]; exact EK.new h5279
  clear eP5281
  have X5284 : EK [7] P P5281 := X5283.mono (by decide)
  have h5285 := X5283.at ha0
  refine g_dup C dX1_paperOf_3 rfl ?_
  refine g_aload_n C dX1_paperOf_4 rfl 0 rfl ?_
  refine g_getI C fi_X1_25 (by decide) (h5285).1 (h5285).2 dX1_paperOf_5 ?_
  have h5286 := I5282.rg (h5285) 0 rfl
  refine g_iload_n C dX1_paperOf_8 rfl 1 rfl ?_
  refine g_iload_n C dX1_paperOf_9 rfl 3 rfl ?_
  refine g_iload C dX1_paperOf_10 4 rfl ?_
  refine g_iload C dX1_paperOf_12 5 rfl ?_
  refine g_aload_n C dX1_paperOf_14 rfl 0 rfl ?_
  refine g_getI C fi_X1_25 (by decide) (h5285).1 (h5285).2 dX1_paperOf_15 ?_
  refine b_if_ne C 25 dX1_paperOf_18 (by decide) (fun h5287 => ?_) (fun h5287 => ?_)
  · have h5287 : (pI P5281 a0 0).toInt ≠ 0 := ti_ne h5287
    refine g_iconst (v := 0) C dX1_paperOf_25 (by decide) ?_
    refine g_lv (lv' := [(0, .ref a0), (2, .int a2)]) [0, 2] rfl ?_
    exact J26 P5281 0 (pI P5281 a0 0) q5278 q5278 I5282 X5284 (by omega) h5280 h5280 (by omega)
  · have h5287 : (pI P5281 a0 0).toInt = 0 := congrArg Int32.toInt h5287
    refine g_iload_n C dX1_paperOf_21 rfl 2 rfl ?_
    refine g_goto C 26 dX1_paperOf_22 (by decide) ?_
    refine g_lv (lv' := [(0, .ref a0), (2, .int a2)]) [0, 2] rfl ?_
    exact J26 P5281 a2 (pI P5281 a0 0) q5278 q5278 I5282 X5284 (by omega) h5280 h5280 (by omega)
theorem dX1_leafletPaper_0 : decode cX1_leafletPaper 0 = .ok (.aload_n 0, 1) := by decide +kernel
theorem dX1_leafletPaper_1 : decode cX1_leafletPaper 1 = .ok (.iload_n 1, 1) := by decide +kernel
theorem dX1_leafletPaper_2 : decode cX1_leafletPaper 2 = .ok (.invokevirtual 98, 3) := by decide +kernel
theorem dX1_leafletPaper_5 : decode cX1_leafletPaper 5 = .ok (.istore_n 3, 1) := by decide +kernel
theorem dX1_leafletPaper_6 : decode cX1_leafletPaper 6 = .ok (.aload_n 0, 1) := by decide +kernel
theorem dX1_leafletPaper_7 : decode cX1_leafletPaper 7 = .ok (.iload_n 3, 1) := by decide +kernel
theorem dX1_leafletPaper_8 : decode cX1_leafletPaper 8 = .ok (.invokevirtual 101, 3) := by decide +kernel
theorem dX1_leafletPaper_11 : decode cX1_leafletPaper 11 = .ok (.istore 4, 2) := by decide +kernel
theorem dX1_leafletPaper_13 : decode cX1_leafletPaper 13 = .ok (.iload_n 2, 1) := by decide +kernel
theorem dX1_leafletPaper_14 : decode cX1_leafletPaper 14 = .ok (.iconst 1, 1) := by decide +kernel
theorem dX1_leafletPaper_15 : decode cX1_leafletPaper 15 = .ok (.iand, 1) := by decide +kernel
theorem dX1_leafletPaper_16 : decode cX1_leafletPaper 16 = .ok (.sipush 255, 3) := by decide +kernel
theorem dX1_leafletPaper_19 : decode cX1_leafletPaper 19 = .ok (.imul, 1) := by decide +kernel
theorem dX1_leafletPaper_20 : decode cX1_leafletPaper 20 = .ok (.iload_n 2, 1) := by decide +kernel
theorem dX1_leafletPaper_21 : decode cX1_leafletPaper 21 = .ok (.iconst 1, 1) := by decide +kernel
theorem dX1_leafletPaper_22 : decode cX1_leafletPaper 22 = .ok (.ishr, 1) := by decide +kernel
theorem dX1_leafletPaper_23 : decode cX1_leafletPaper 23 = .ok (.iconst 1, 1) := by decide +kernel
theorem dX1_leafletPaper_24 : decode cX1_leafletPaper 24 = .ok (.iand, 1) := by decide +kernel
theorem dX1_leafletPaper_25 : decode cX1_leafletPaper 25 = .ok (.ldc 104, 2) := by decide +kernel
theorem dX1_leafletPaper_27 : decode cX1_leafletPaper 27 = .ok (.imul, 1) := by decide +kernel
theorem dX1_leafletPaper_28 : decode cX1_leafletPaper 28 = .ok (.ior, 1) := by decide +kernel
theorem dX1_leafletPaper_29 : decode cX1_leafletPaper 29 = .ok (.istore 5, 2) := by decide +kernel
theorem dX1_leafletPaper_31 : decode cX1_leafletPaper 31 = .ok (.aload_n 0, 1) := by decide +kernel
theorem dX1_leafletPaper_32 : decode cX1_leafletPaper 32 = .ok (.iload_n 1, 1) := by decide +kernel
theorem dX1_leafletPaper_33 : decode cX1_leafletPaper 33 = .ok (.iload_n 3, 1) := by decide +kernel
theorem dX1_leafletPaper_34 : decode cX1_leafletPaper 34 = .ok (.iload 4, 2) := by decide +kernel
theorem dX1_leafletPaper_36 : decode cX1_leafletPaper 36 = .ok (.iload 5, 2) := by decide +kernel
theorem dX1_leafletPaper_38 : decode cX1_leafletPaper 38 = .ok (.iand, 1) := by decide +kernel
theorem dX1_leafletPaper_39 : decode cX1_leafletPaper 39 = .ok (.iload_n 2, 1) := by decide +kernel
theorem dX1_leafletPaper_40 : decode cX1_leafletPaper 40 = .ok (.aload_n 0, 1) := by decide +kernel
theorem dX1_leafletPaper_41 : decode cX1_leafletPaper 41 = .ok (.iload_n 1, 1) := by decide +kernel
theorem dX1_leafletPaper_42 : decode cX1_leafletPaper 42 = .ok (.iload 4, 2) := by decide +kernel
theorem dX1_leafletPaper_44 : decode cX1_leafletPaper 44 = .ok (.invokevirtual 105, 3) := by decide +kernel
theorem dX1_leafletPaper_47 : decode cX1_leafletPaper 47 = .ok (.invokevirtual 108, 3) := by decide +kernel
theorem dX1_leafletPaper_50 : decode cX1_leafletPaper 50 = .ok (.areturn, 1) := by decide +kernel
set_option maxHeartbeats 4000000 in
set_option maxRecDepth 100000 in
theorem s_X1_leafletPaper {P : PP} {a0 : Nat} {a1 : Int32} {a2 : Int32} (I : IV P) (ha0 : At P a0 1) : CtrQ yX1_leafletPaper cX1_leafletPaper 6 (some (Jvm.ClassFile.FieldType.object "ThousandLeaflets$Paper")) ({ frames := 5, cells := 1, slots := 7, locals := 320 } : Room) 1 7 P [.ref a0, .int a1, .int a2] (fun r P2 => IV P2 ∧ EK [1, 7, 13] P P2 ∧ (∃ b, r = some b ∧ At P2 b 7)) := by
  refine enQ (lv := [(0, .ref a0), (1, .int a1), (2, .int a2)]) (by decide) (by first | exact Or.inl ⟨_, rfl⟩ | exact Or.inr ⟨_, rfl⟩) (Nat.le_of_ble_eq_true rfl) rfl (fun E D cy C Ci0 ret => ?_)
  refine g_aload_n C dX1_leafletPaper_0 rfl 0 rfl ?_
  refine g_iload_n C dX1_leafletPaper_1 rfl 1 rfl ?_
  refine g_callVI (rest := []) C mv_X1_98 [.int a1] (s_X1_pagesOf I ha0) (ha0).1 (ha0).2 rfl rfl (by decide) (Nat.le_of_ble_eq_true rfl) (by decide) dX1_leafletPaper_2 (fun r5323 P5324 h5325 => ?_)
  obtain ⟨I5326, X5327, h5325⟩ := h5325
  have X5328 : EK [1, 7, 13] P P5324 := X5327.mono (by decide)
  have h5329 := X5327.at ha0
  have h5325 : True := h5325
  refine g_istore_n (lv' := [(3, .int r5323), (0, .ref a0), (1, .int a1), (2, .int a2)]) C dX1_leafletPaper_5 rfl (by decide) rfl ?_
  refine g_aload_n C dX1_leafletPaper_6 rfl 1 rfl ?_
  refine g_iload_n C dX1_leafletPaper_7 rfl 0 rfl ?_
  refine g_callVI (rest := []) C mv_X1_101 [.int r5323] (s_X1_sumOf I5326 h5329) (h5329).1 (h5329).2 rfl rfl (by decide) (Nat.le_of_ble_eq_true rfl) (by decide) dX1_leafletPaper_8 (fun r5330 P5331 h5332 => ?_)
  obtain ⟨rfl, h5332⟩ := h5332
  have h5332 : True := h5332
  refine g_istore (lv' := [(4, .int r5330), (3, .int r5323), (0, .ref a0), (1, .int a1), (2, .int a2)]) C dX1_leafletPaper_11 (by decide) rfl ?_
  refine g_iload_n C dX1_leafletPaper_13 rfl 4 rfl ?_
  refine g_iconst (v := 1) C dX1_leafletPaper_14 (by decide) ?_
  refine s_iand C dX1_leafletPaper_15 (by show 0 ≤ 1; omega) (fun z5333 h5334 => ?_)
  have h5334 : 0 ≤ z5333.toInt ∧ z5333.toInt ≤ 1 := h5334
  refine g_sipush (v := 255) C dX1_leafletPaper_16 (by decide) ?_
  refine s_imul C dX1_leafletPaper_19 (by show -2147483648 ≤ z5333.toInt * 255 ∧ z5333.toInt * 255 ≤ 2147483647; omega) (fun z5335 h5336 => ?_)
  have h5336 : z5335.toInt = z5333.toInt * 255 := h5336
  refine g_iload_n C dX1_leafletPaper_20 rfl 4 rfl ?_
  refine g_iconst (v := 1) C dX1_leafletPaper_21 (by decide) ?_
  refine a_ishr C dX1_leafletPaper_22 (fun z5337 => ?_)
  refine g_iconst (v := 1) C dX1_leafletPaper_23 (by decide) ?_
  refine s_iand C dX1_leafletPaper_24 (by show 0 ≤ 1; omega) (fun z5339 h5340 => ?_)
  have h5340 : 0 ≤ z5339.toInt ∧ z5339.toInt ≤ 1 := h5340
  refine g_ldc (v := 65280) C kc_X1_104 dX1_leafletPaper_25 ?_
  refine s_imul C dX1_leafletPaper_27 (by show -2147483648 ≤ z5339.toInt * 65280 ∧ z5339.toInt * 65280 ≤ 2147483647; omega) (fun z5341 h5342 => ?_)
  have h5342 : z5341.toInt = z5339.toInt * 65280 := h5342
  refine a_ior C dX1_leafletPaper_28 (fun z5343 => ?_)
  refine g_istore (lv' := [(5, .int z5343), (4, .int r5330), (3, .int r5323), (0, .ref a0), (1, .int a1), (2, .int a2)]) C dX1_leafletPaper_29 (by decide) rfl ?_
  refine g_aload_n C dX1_leafletPaper_31 rfl 3 rfl ?_
  refine g_iload_n C dX1_leafletPaper_32 rfl 4 rfl ?_
  refine g_iload_n C dX1_leafletPaper_33 rfl 2 rfl ?_
  refine g_iload C dX1_leafletPaper_34 1 rfl ?_
  refine g_iload C dX1_leafletPaper_36 0 rfl ?_
  refine a_iand C dX1_leafletPaper_38 (fun z5345 => ?_)
  refine g_iload_n C dX1_leafletPaper_39 rfl 5 rfl ?_
  refine g_aload_n C dX1_leafletPaper_40 rfl 3 rfl ?_
  refine g_iload_n C dX1_leafletPaper_41 rfl 4 rfl ?_
  refine g_iload C dX1_leafletPaper_42 1 rfl ?_
  refine g_callVI (rest := [.int a2, .int z5345, .int r5323, .int a1, .ref a0]) C mv_X1_105 [.int a1, .int r5330] (s_X1_sealOf I5326 h5329) (h5329).1 (h5329).2 rfl rfl (by decide) (Nat.le_of_ble_eq_true rfl) (by decide) dX1_leafletPaper_44 (fun r5347 P5348 h5349 => ?_)
  obtain ⟨rfl, h5349⟩ := h5349
  have h5349 : True := h5349
  refine g_callVQ (rest := []) C mv_X1_108 [.int a1, .int r5323, .int z5345, .int a2, .int r5347] (s_X1_paperOf I5326 h5329) (h5329).1 (h5329).2 rfl rfl (by decide) (Nat.le_of_ble_eq_true rfl) (by decide) dX1_leafletPaper_47 (fun r5350 P5351 h5352 => ?_)
  obtain ⟨I5353, X5354, h5352⟩ := h5352
  have X5355 : EK [1, 7, 13] P P5351 := X5328.tr (X5354.mono (by decide))
  have h5356 := X5354.at h5329
  obtain ⟨b5357, rfl, h5352⟩ := h5352
  show G _ _ _ _ _ _ _ _ _ _ (.ref b5357 :: _)
  exact ret _ _ _ _ _ (some b5357) dX1_leafletPaper_50 (by decide) (by decide) ⟨I5353, X5355, ⟨_, rfl, h5352⟩⟩
theorem dX1_forgetDrawn_0 : decode cX1_forgetDrawn 0 = .ok (.iconst 0, 1) := by decide +kernel
theorem dX1_forgetDrawn_1 : decode cX1_forgetDrawn 1 = .ok (.istore_n 1, 1) := by decide +kernel
theorem dX1_forgetDrawn_2 : decode cX1_forgetDrawn 2 = .ok (.iload_n 1, 1) := by decide +kernel
theorem dX1_forgetDrawn_3 : decode cX1_forgetDrawn 3 = .ok (.bipush 60, 2) := by decide +kernel
theorem dX1_forgetDrawn_5 : decode cX1_forgetDrawn 5 = .ok (.if_icmp .ge 16, 3) := by decide +kernel
theorem dX1_forgetDrawn_8 : decode cX1_forgetDrawn 8 = .ok (.aload_n 0, 1) := by decide +kernel
theorem dX1_forgetDrawn_9 : decode cX1_forgetDrawn 9 = .ok (.getfield 22, 3) := by decide +kernel
theorem dX1_forgetDrawn_12 : decode cX1_forgetDrawn 12 = .ok (.iload_n 1, 1) := by decide +kernel
theorem dX1_forgetDrawn_13 : decode cX1_forgetDrawn 13 = .ok (.iconst 0, 1) := by decide +kernel
theorem dX1_forgetDrawn_14 : decode cX1_forgetDrawn 14 = .ok (.iastore, 1) := by decide +kernel
theorem dX1_forgetDrawn_15 : decode cX1_forgetDrawn 15 = .ok (.iinc 1 1, 3) := by decide +kernel
theorem dX1_forgetDrawn_18 : decode cX1_forgetDrawn 18 = .ok (.goto (-16), 3) := by decide +kernel
theorem dX1_forgetDrawn_21 : decode cX1_forgetDrawn 21 = .ok (.return_, 1) := by decide +kernel
set_option maxHeartbeats 4000000 in
set_option maxRecDepth 100000 in
theorem s_X1_forgetDrawn {P : PP} {a0 : Nat} (I : IV P) (ha0 : At P a0 1) : CtrV yX1_forgetDrawn cX1_forgetDrawn 2 none ({ frames := 1, cells := 0, slots := 0, locals := 64 } : Room) 0 0 P [.ref a0] (fun P2 => IV P2 ∧ EK [13] P P2) := by
  refine enV (lv := [(0, .ref a0)]) (by decide) (Nat.le_of_ble_eq_true rfl) rfl (fun E D cy C Ci0 ret => ?_)
  have J2 : ∀ (n2 : Nat) (P2 : PP) (v2_1 : Int32), (60 - v2_1.toInt).toNat < n2 → (IV P2) → (EK [13] P P2) → (0 ≤ v2_1.toInt ∧ v2_1.toInt ≤ 60) → G E ({ frames := 1, cells := 0, slots := 0, locals := 64 } : Room) D cy 2 P2 0 0 2 [(0, .ref a0), (1, .int v2_1)] [] := by
    intro n2
    induction n2 with
    | zero => intro P2 v2_1 hm2 I2 X2 hv2_1; omega
    | succ n2 ih2 =>
      intro P2 v2_1 hm2 I2 X2 hv2_1
      have h5578 := X2.at ha0
      refine g_iload_n C dX1_forgetDrawn_2 rfl 1 rfl ?_
      refine g_bipush (v := 60) C dX1_forgetDrawn_3 (by decide) ?_
      refine b_icmp_ge C 21 dX1_forgetDrawn_5 (by decide) (fun h5579 => ?_) (fun h5579 => ?_)
      · have h5579 : 60 ≤ v2_1.toInt := h5579
        exact ret _ _ _ _ _ dX1_forgetDrawn_21 (by decide) (by decide) ⟨I2, X2⟩
      · have h5579 : v2_1.toInt < 60 := h5579
        refine g_aload_n C dX1_forgetDrawn_8 rfl 0 rfl ?_
        obtain ⟨b5580, e5581, h5582⟩ := I2.fld (h5578) 3 13 60 rfl
        refine g_getR C fi_X1_22 rfl e5581 (h5578).1 (h5578).2 dX1_forgetDrawn_9 ?_
        refine g_iload_n C dX1_forgetDrawn_12 rfl 1 rfl ?_
        refine g_iconst (v := 0) C dX1_forgetDrawn_13 (by decide) ?_
        refine g_iast (j := (v2_1.toInt.toNat)) C h5582.1 h5582.2.1 (ix_in h5582.2.2 (by omega)) dX1_forgetDrawn_14 ?_
        refine gp (ks := [13]) (I2.setA h5582 (by decide)) (EK.setI h5582.2.1 (by decide)) (fun P5583 I5584 X5585 => ?_)
        have X5586 : EK [13] P P5583 := X2.tr (X5585.mono (by decide))
        have h5587 := X5585.at h5578
        refine s_iinc (lv0 := [(0, .ref a0)]) (m := 1) C dX1_forgetDrawn_15 1 rfl (by decide) rfl (by decide) (by omega) (fun z5588 h5589 => ?_)
        have h5589 : z5588.toInt = v2_1.toInt + 1 := h5589
        refine g_goto C 2 dX1_forgetDrawn_18 (by decide) ?_
        refine g_lv (lv' := [(0, .ref a0), (1, .int z5588)]) [1, 0] rfl ?_
        exact ih2 P5583 z5588 (by omega) I5584 X5586 (by omega)
  refine g_iconst (v := 0) C dX1_forgetDrawn_0 (by decide) ?_
  refine g_istore_n (lv' := [(1, .int 0), (0, .ref a0)]) C dX1_forgetDrawn_1 rfl (by decide) rfl ?_
  refine g_lv (lv' := [(0, .ref a0), (1, .int 0)]) [1, 0] rfl ?_
  exact J2 _ P 0 (Nat.lt_succ_self _) I EK.rf (by decide)
theorem dX1_tell_0 : decode cX1_tell 0 = .ok (.aload_n 0, 1) := by decide +kernel
theorem dX1_tell_1 : decode cX1_tell 1 = .ok (.iconst 1, 1) := by decide +kernel
theorem dX1_tell_2 : decode cX1_tell 2 = .ok (.putfield 29, 3) := by decide +kernel
theorem dX1_tell_5 : decode cX1_tell 5 = .ok (.aload_n 0, 1) := by decide +kernel
theorem dX1_tell_6 : decode cX1_tell 6 = .ok (.iload_n 1, 1) := by decide +kernel
theorem dX1_tell_7 : decode cX1_tell 7 = .ok (.putfield 33, 3) := by decide +kernel
theorem dX1_tell_10 : decode cX1_tell 10 = .ok (.iconst 0, 1) := by decide +kernel
theorem dX1_tell_11 : decode cX1_tell 11 = .ok (.istore_n 2, 1) := by decide +kernel
theorem dX1_tell_12 : decode cX1_tell 12 = .ok (.iload_n 2, 1) := by decide +kernel
theorem dX1_tell_13 : decode cX1_tell 13 = .ok (.bipush 16, 2) := by decide +kernel
theorem dX1_tell_15 : decode cX1_tell 15 = .ok (.if_icmp .ge 16, 3) := by decide +kernel
theorem dX1_tell_18 : decode cX1_tell 18 = .ok (.aload_n 0, 1) := by decide +kernel
theorem dX1_tell_19 : decode cX1_tell 19 = .ok (.getfield 9, 3) := by decide +kernel
theorem dX1_tell_22 : decode cX1_tell 22 = .ok (.iload_n 2, 1) := by decide +kernel
theorem dX1_tell_23 : decode cX1_tell 23 = .ok (.iconst 0, 1) := by decide +kernel
theorem dX1_tell_24 : decode cX1_tell 24 = .ok (.iastore, 1) := by decide +kernel
theorem dX1_tell_25 : decode cX1_tell 25 = .ok (.iinc 2 1, 3) := by decide +kernel
theorem dX1_tell_28 : decode cX1_tell 28 = .ok (.goto (-16), 3) := by decide +kernel
theorem dX1_tell_31 : decode cX1_tell 31 = .ok (.aload_n 0, 1) := by decide +kernel
theorem dX1_tell_32 : decode cX1_tell 32 = .ok (.getfield 18, 3) := by decide +kernel
theorem dX1_tell_35 : decode cX1_tell 35 = .ok (.invokevirtual 36, 3) := by decide +kernel
theorem dX1_tell_38 : decode cX1_tell 38 = .ok (.aload_n 0, 1) := by decide +kernel
theorem dX1_tell_39 : decode cX1_tell 39 = .ok (.invokevirtual 39, 3) := by decide +kernel
theorem dX1_tell_42 : decode cX1_tell 42 = .ok (.return_, 1) := by decide +kernel
set_option maxHeartbeats 4000000 in
set_option maxRecDepth 100000 in
theorem s_X1_tell {P : PP} {a0 : Nat} {a1 : Int32} (I : IV P) (ha0 : At P a0 1) (ha1 : 1 ≤ a1.toInt ∧ a1.toInt ≤ 16) : CtrV yX1_tell cX1_tell 3 none ({ frames := 2, cells := 0, slots := 0, locals := 128 } : Room) 0 0 P [.ref a0, .int a1] (fun P2 => IV P2 ∧ EK [1, 3, 13] P P2) := by
  refine enV (lv := [(0, .ref a0), (1, .int a1)]) (by decide) (Nat.le_of_ble_eq_true rfl) rfl (fun E D cy C Ci0 ret => ?_)
  have J12 : ∀ (n12 : Nat) (P12 : PP) (v12_2 : Int32), (16 - v12_2.toInt).toNat < n12 → (IV P12) → (EK [1, 3, 13] P P12) → (0 ≤ v12_2.toInt ∧ v12_2.toInt ≤ 16) → (1 ≤ (pI P12 a0 4).toInt ∧ (pI P12 a0 4).toInt ≤ 1) → (1 ≤ (pI P12 a0 5).toInt ∧ (pI P12 a0 5).toInt ≤ 16) → G E ({ frames := 2, cells := 0, slots := 0, locals := 128 } : Room) D cy 3 P12 0 0 12 [(0, .ref a0), (2, .int v12_2)] [] := by
    intro n12
    induction n12 with
    | zero => intro P12 v12_2 hm12 I12 X12 hv12_2 hq12_0 hq12_1; omega
    | succ n12 ih12 =>
      intro P12 v12_2 hm12 I12 X12 hv12_2 hq12_0 hq12_1
      have h5769 := X12.at ha0
      refine g_iload_n C dX1_tell_12 rfl 1 rfl ?_
      refine g_bipush (v := 16) C dX1_tell_13 (by decide) ?_
      refine b_icmp_ge C 31 dX1_tell_15 (by decide) (fun h5770 => ?_) (fun h5770 => ?_)
      · have h5770 : 16 ≤ v12_2.toInt := h5770
        refine g_aload_n C dX1_tell_31 rfl 0 rfl ?_
        obtain ⟨b5771, e5772, h5773⟩ := I12.fld (h5769) 2 3 0 rfl
        refine g_getR C fi_X1_18 rfl e5772 (h5769).1 (h5769).2 dX1_tell_32 ?_
        refine g_callVV (rest := []) C mv_X1_36 [] (s_X3_clear I12 h5773.at) (h5773.at).1 (h5773.at).2 rfl rfl (by decide) (Nat.le_of_ble_eq_true rfl) (by decide) dX1_tell_35 (fun P5775 h5776 => ?_)
        obtain ⟨I5777, X5778⟩ := h5776
        have q5779 := X5778.keep h5769 (by decide) 4
        have q5780 := X5778.keep h5769 (by decide) 5
        have X5781 : EK [1, 3, 13] P P5775 := X12.tr (X5778.mono (by decide))
        have h5782 := X5778.at h5769
        refine g_aload_n C dX1_tell_38 rfl 0 rfl ?_
        refine g_callVV (rest := []) C mv_X1_39 [] (s_X1_forgetDrawn I5777 h5782) (h5782).1 (h5782).2 rfl rfl (by decide) (Nat.le_of_ble_eq_true rfl) (by decide) dX1_tell_39 (fun P5784 h5785 => ?_)
        obtain ⟨I5786, X5787⟩ := h5785
        have q5788 := X5787.keep h5782 (by decide) 4
        have q5789 := X5787.keep h5782 (by decide) 5
        have X5790 : EK [1, 3, 13] P P5784 := X5781.tr (X5787.mono (by decide))
        have h5791 := X5787.at h5782
        exact ret _ _ _ _ _ dX1_tell_42 (by decide) (by decide) ⟨I5786, X5790⟩
      · have h5770 : v12_2.toInt < 16 := h5770
        refine g_aload_n C dX1_tell_18 rfl 0 rfl ?_
        obtain ⟨b5792, e5793, h5794⟩ := I12.fld (h5769) 1 13 16 rfl
        refine g_getR C fi_X1_9 rfl e5793 (h5769).1 (h5769).2 dX1_tell_19 ?_
        refine g_iload_n C dX1_tell_22 rfl 1 rfl ?_
        refine g_iconst (v := 0) C dX1_tell_23 (by decide) ?_
        refine g_iast (j := (v12_2.toInt.toNat)) C h5794.1 h5794.2.1 (ix_in h5794.2.2 (by omega)) dX1_tell_24 ?_
        refine gp (ks := [13]) (I12.setA h5794 (by decide)) (EK.setI h5794.2.1 (by decide)) (fun P5795 I5796 X5797 => ?_)
        have q5798 := X5797.keep h5769 (by decide) 4
        have q5799 := X5797.keep h5769 (by decide) 5
        have X5800 : EK [1, 3, 13] P P5795 := X12.tr (X5797.mono (by decide))
        have h5801 := X5797.at h5769
        refine s_iinc (lv0 := [(0, .ref a0)]) (m := 1) C dX1_tell_25 1 rfl (by decide) rfl (by decide) (by omega) (fun z5802 h5803 => ?_)
        have h5803 : z5802.toInt = v12_2.toInt + 1 := h5803
        refine g_goto C 12 dX1_tell_28 (by decide) ?_
        refine g_lv (lv' := [(0, .ref a0), (2, .int z5802)]) [1, 0] rfl ?_
        exact ih12 P5795 z5802 (by omega) I5796 X5800 (by omega) (by omega) (by omega)
  refine g_aload_n C dX1_tell_0 rfl 0 rfl ?_
  refine g_iconst (v := 1) C dX1_tell_1 (by decide) ?_
  refine g_putZ C fi_X1_29 rfl (Or.inr rfl) (ha0).1 (ha0).2 dX1_tell_2 ?_
  refine gpW (ks := [1]) (I.setI (ha0) (rgOk.of rfl (by decide))) (EK.setI (ha0).2 (by decide)) (fun P5804 I5805 X5806 w5807 w5808 => ?_)
  have w5808 : (pI P5804 a0 4).toInt = 1 := w5808
  have X5809 : EK [1, 3, 13] P P5804 := X5806.mono (by decide)
  have h5810 := X5806.at ha0
  refine g_aload_n C dX1_tell_5 rfl 0 rfl ?_
  refine g_iload_n C dX1_tell_6 rfl 1 rfl ?_
  refine g_putI C fi_X1_33 rfl (h5810).1 (h5810).2 dX1_tell_7 ?_
  refine gpW (ks := [1]) (I5805.setI (h5810) (rgOk.of rfl (by omega))) (EK.setI (h5810).2 (by decide)) (fun P5811 I5812 X5813 w5814 w5815 => ?_)
  have q5816 := w5814 4 (by decide)
  have X5817 : EK [1, 3, 13] P P5811 := X5809.tr (X5813.mono (by decide))
  have h5818 := X5813.at h5810
  refine g_iconst (v := 0) C dX1_tell_10 (by decide) ?_
  refine g_istore_n (lv' := [(2, .int 0), (0, .ref a0), (1, .int a1)]) C dX1_tell_11 rfl (by decide) rfl ?_
  refine g_lv (lv' := [(0, .ref a0), (2, .int 0)]) [1, 0] rfl ?_
  exact J12 _ P5811 0 (Nat.lt_succ_self _) I5812 X5817 (by decide) (by omega) (by omega)
theorem dX1_allBits_0 : decode cX1_allBits 0 = .ok (.iconst 1, 1) := by decide +kernel
theorem dX1_allBits_1 : decode cX1_allBits 1 = .ok (.aload_n 0, 1) := by decide +kernel
theorem dX1_allBits_2 : decode cX1_allBits 2 = .ok (.invokevirtual 49, 3) := by decide +kernel
theorem dX1_allBits_5 : decode cX1_allBits 5 = .ok (.ishl, 1) := by decide +kernel
theorem dX1_allBits_6 : decode cX1_allBits 6 = .ok (.iconst 1, 1) := by decide +kernel
theorem dX1_allBits_7 : decode cX1_allBits 7 = .ok (.isub, 1) := by decide +kernel
theorem dX1_allBits_8 : decode cX1_allBits 8 = .ok (.ireturn, 1) := by decide +kernel
set_option maxHeartbeats 4000000 in
set_option maxRecDepth 100000 in
theorem s_X1_allBits {P : PP} {a0 : Nat} (I : IV P) (ha0 : At P a0 1) : CtrI yX1_allBits cX1_allBits 1 (some Jvm.ClassFile.FieldType.int) ({ frames := 2, cells := 0, slots := 0, locals := 128 } : Room) 0 0 P [.ref a0] (fun r P2 => P = P2 ∧ (True)) := by
  refine enI (lv := [(0, .ref a0)]) (by decide) (Nat.le_of_ble_eq_true rfl) rfl (fun E D cy C Ci0 ret => ?_)
  refine g_iconst (v := 1) C dX1_allBits_0 (by decide) ?_
  refine g_aload_n C dX1_allBits_1 rfl 0 rfl ?_
  refine g_callVI (rest := [.int 1]) C mv_X1_49 [] (s_X1_all I ha0) (ha0).1 (ha0).2 rfl rfl (by decide) (Nat.le_of_ble_eq_true rfl) (by decide) dX1_allBits_2 (fun r5826 P5827 h5828 => ?_)
  obtain ⟨rfl, h5828⟩ := h5828
  have h5828 : 0 ≤ r5826.toInt ∧ r5826.toInt ≤ 20 := h5828
  refine a_ishl C dX1_allBits_5 (fun z5829 => ?_)
  refine g_iconst (v := 1) C dX1_allBits_6 (by decide) ?_
  refine a_isub C dX1_allBits_7 (fun z5831 => ?_)
  exact ret _ _ _ _ _ _ dX1_allBits_8 rfl (by decide) (by decide) ⟨rfl, trivial⟩
