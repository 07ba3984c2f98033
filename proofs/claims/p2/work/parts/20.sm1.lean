theorem dX12_average_0 : decode cX12_average 0 = .ok (.aload_n 0, 1) := by decide +kernel
theorem dX12_average_1 : decode cX12_average 1 = .ok (.iconst 0, 1) := by decide +kernel
theorem dX12_average_2 : decode cX12_average 2 = .ok (.putfield 1, 3) := by decide +kernel
theorem dX12_average_5 : decode cX12_average 5 = .ok (.aload_n 0, 1) := by decide +kernel
theorem dX12_average_6 : decode cX12_average 6 = .ok (.iload_n 1, 1) := by decide +kernel
theorem dX12_average_7 : decode cX12_average 7 = .ok (.iload_n 2, 1) := by decide +kernel
theorem dX12_average_8 : decode cX12_average 8 = .ok (.iload_n 3, 1) := by decide +kernel
theorem dX12_average_9 : decode cX12_average 9 = .ok (.invokevirtual 377, 3) := by decide +kernel
theorem dX12_areChances_0 : decode cX12_areChances 0 = .ok (.aload_n 0, 1) := by decide +kernel
theorem dX12_areChances_1 : decode cX12_areChances 1 = .ok (.iload_n 1, 1) := by decide +kernel
theorem dX12_areChances_2 : decode cX12_areChances 2 = .ok (.invokevirtual 192, 3) := by decide +kernel
theorem dX12_isBook_0 : decode cX12_isBook 0 = .ok (.iload_n 1, 1) := by decide +kernel
theorem dX12_isBook_1 : decode cX12_isBook 1 = .ok (.iconst 0, 1) := by decide +kernel
theorem dX12_isBook_2 : decode cX12_isBook 2 = .ok (.iconst 1, 1) := by decide +kernel
theorem dX12_isBook_3 : decode cX12_isBook 3 = .ok (.invokestatic 178, 3) := by decide +kernel
theorem dX12_within_0 : decode cX12_within 0 = .ok (.iload_n 0, 1) := by decide +kernel
theorem dX12_within_1 : decode cX12_within 1 = .ok (.iload_n 1, 1) := by decide +kernel
theorem dX12_within_2 : decode cX12_within 2 = .ok (.if_icmp .lt 12, 3) := by decide +kernel
theorem dX12_within_5 : decode cX12_within 5 = .ok (.iload_n 0, 1) := by decide +kernel
theorem dX12_within_6 : decode cX12_within 6 = .ok (.iload_n 2, 1) := by decide +kernel
theorem dX12_within_7 : decode cX12_within 7 = .ok (.if_icmp .gt 7, 3) := by decide +kernel
theorem dX12_within_10 : decode cX12_within 10 = .ok (.iconst 1, 1) := by decide +kernel
theorem dX12_within_11 : decode cX12_within 11 = .ok (.goto 4, 3) := by decide +kernel
theorem dX12_within_14 : decode cX12_within 14 = .ok (.iconst 0, 1) := by decide +kernel
theorem dX12_within_15 : decode cX12_within 15 = .ok (.ireturn, 1) := by decide +kernel
set_option maxHeartbeats 4000000 in
set_option maxRecDepth 100000 in
theorem s_X12_within {P : PP} {a0 : Int32} {a1 : Int32} {a2 : Int32} (I : IV P) : CtrI yX12_within cX12_within 3 (some Jvm.ClassFile.FieldType.boolean) ({ frames := 1, cells := 0, slots := 0, locals := 64 } : Room) 0 0 P [.int a0, .int a1, .int a2] (fun r P2 => P = P2 ∧ (0 ≤ r.toInt ∧ r.toInt ≤ 1) ∧ (r.toInt = 0 ∨ (a1.toInt ≤ a0.toInt ∧ a0.toInt ≤ a2.toInt))) := by
  refine enI (lv := [(0, .int a0), (1, .int a1), (2, .int a2)]) (by decide) (Nat.le_of_ble_eq_true rfl) rfl (fun E D cy C Ci0 ret => ?_)
  have J14 : G E ({ frames := 1, cells := 0, slots := 0, locals := 64 } : Room) D cy 3 P 0 0 14 [] [] := by
    refine g_iconst (v := 0) C dX12_within_14 (by decide) ?_
    exact ret _ _ _ _ _ _ dX12_within_15 rfl (by decide) (by decide) ⟨rfl, (by decide), Or.inl rfl⟩
  refine g_iload_n C dX12_within_0 rfl 0 rfl ?_
  refine g_iload_n C dX12_within_1 rfl 1 rfl ?_
  have u15 := ti_rng a0
  have u16 := ti_rng a1
  refine b_icmp_lt C 14 dX12_within_2 (by decide) (fun h14 => ?_) (fun h14 => ?_)
  · have h14 : a0.toInt < a1.toInt := h14
    refine g_lv (lv' := []) [] rfl ?_
    exact J14 
  · have h14 : a1.toInt ≤ a0.toInt := h14
    refine g_iload_n C dX12_within_5 rfl 0 rfl ?_
    refine g_iload_n C dX12_within_6 rfl 2 rfl ?_
    have u18 := ti_rng a0
    have u19 := ti_rng a2
    refine b_icmp_gt C 14 dX12_within_7 (by decide) (fun h17 => ?_) (fun h17 => ?_)
    · have h17 : a2.toInt < a0.toInt := h17
      refine g_lv (lv' := []) [] rfl ?_
      exact J14 
    · have h17 : a0.toInt ≤ a2.toInt := h17
      refine g_iconst (v := 1) C dX12_within_10 (by decide) ?_
      refine g_goto C 15 dX12_within_11 (by decide) ?_
      exact ret _ _ _ _ _ _ dX12_within_15 rfl (by decide) (by decide) ⟨rfl, (by decide), Or.inr (by omega)⟩
theorem dX12_isBook_6 : decode cX12_isBook 6 = .ok (.ifCond .eq 16, 3) := by decide +kernel
theorem dX12_isBook_9 : decode cX12_isBook 9 = .ok (.aload_n 0, 1) := by decide +kernel
theorem dX12_isBook_10 : decode cX12_isBook 10 = .ok (.getfield 45, 3) := by decide +kernel
theorem dX12_isBook_13 : decode cX12_isBook 13 = .ok (.iload_n 1, 1) := by decide +kernel
theorem dX12_isBook_14 : decode cX12_isBook 14 = .ok (.iaload, 1) := by decide +kernel
theorem dX12_isBook_15 : decode cX12_isBook 15 = .ok (.ifCond .le 7, 3) := by decide +kernel
theorem dX12_isBook_18 : decode cX12_isBook 18 = .ok (.iconst 1, 1) := by decide +kernel
theorem dX12_isBook_19 : decode cX12_isBook 19 = .ok (.goto 4, 3) := by decide +kernel
theorem dX12_isBook_22 : decode cX12_isBook 22 = .ok (.iconst 0, 1) := by decide +kernel
theorem dX12_isBook_23 : decode cX12_isBook 23 = .ok (.ireturn, 1) := by decide +kernel
set_option maxHeartbeats 4000000 in
set_option maxRecDepth 100000 in
theorem s_X12_isBook {P : PP} {a0 : Nat} {a1 : Int32} (I : IM P a0) (hW : MW P a0) : CtrI yX12_isBook cX12_isBook 2 (some Jvm.ClassFile.FieldType.boolean) ({ frames := 2, cells := 0, slots := 0, locals := 128 } : Room) 0 0 P [.ref a0, .int a1] (fun r P2 => P = P2 ∧ (0 ≤ r.toInt ∧ r.toInt ≤ 1) ∧ (r.toInt = 0 ∨ (((0 : Int) ≤ a1.toInt ∧ a1.toInt ≤ (1 : Int)))) ∧ (r.toInt = 0 ∨ ∀ b, pR P2 a0 10 = some b → 0 < (pI P2 b (a1.toInt.toNat)).toInt)) := by
  refine enI (lv := [(0, .ref a0), (1, .int a1)]) (by decide) (Nat.le_of_ble_eq_true rfl) rfl (fun E D cy C Ci0 ret => ?_)
  have ha0 := I.2.1
  have J22 : G E ({ frames := 2, cells := 0, slots := 0, locals := 128 } : Room) D cy 2 P 0 0 22 [] [] := by
    refine g_iconst (v := 0) C dX12_isBook_22 (by decide) ?_
    exact ret _ _ _ _ _ _ dX12_isBook_23 rfl (by decide) (by decide) ⟨rfl, (by decide), Or.inl rfl, Or.inl rfl⟩
  refine g_iload_n C dX12_isBook_0 rfl 1 rfl ?_
  refine g_iconst (v := 0) C dX12_isBook_1 (by decide) ?_
  refine g_iconst (v := 1) C dX12_isBook_2 (by decide) ?_
  refine g_callSI (b := 0) (ci := 0) (rest := []) C ms_X12_178 [.int a1, .int 0, .int 1] (s_X12_within I.1) rfl rfl (by decide) (Nat.le_of_ble_eq_true rfl) (by decide) dX12_isBook_3 (fun r30 Y31 h32 => ?_)
  obtain ⟨rfl, h32⟩ := h32
  obtain ⟨h32, hi33⟩ := h32
  have hi33 : r30.toInt = 0 ∨ (0 ≤ a1.toInt ∧ a1.toInt ≤ 1) := hi33
  have h32 : 0 ≤ r30.toInt ∧ r30.toInt ≤ 1 := h32
  refine b_if_eq C 22 dX12_isBook_6 (by decide) (fun h34 => ?_) (fun h34 => ?_)
  · have h34 : r30.toInt = 0 := congrArg Int32.toInt h34
    clear hi33
    refine g_lv (lv' := []) [] rfl ?_
    exact J22 
  · have h34 : r30.toInt ≠ 0 := ti_ne h34
    replace hi33 := hi33.resolve_left (by omega)
    refine g_aload_n C dX12_isBook_9 rfl 0 rfl ?_
    obtain ⟨b35, e36, h37⟩ := I.fld (ha0) 10 13 2 rfl
    refine g_getR C fi_X12_45 rfl e36 (ha0).1 (ha0).2 dX12_isBook_10 ?_
    refine g_iload_n C dX12_isBook_13 rfl 1 rfl ?_
    refine g_iald (j := (a1.toInt.toNat)) C h37.1 h37.2.1 (ix_in h37.2.2 (by omega)) dX12_isBook_14 ?_
    have h38 := I.arr e36 rfl (a1.toInt.toNat)
    refine b_if_le C 22 dX12_isBook_15 (by decide) (fun h39 => ?_) (fun h39 => ?_)
    · have h39 : (pI P b35 (a1.toInt.toNat)).toInt ≤ 0 := h39
      refine g_lv (lv' := []) [] rfl ?_
      exact J22 
    · have h39 : 0 < (pI P b35 (a1.toInt.toNat)).toInt := h39
      refine g_iconst (v := 1) C dX12_isBook_18 (by decide) ?_
      refine g_goto C 23 dX12_isBook_19 (by decide) ?_
      exact ret _ _ _ _ _ _ dX12_isBook_23 rfl (by decide) (by decide) ⟨rfl, (by decide), Or.inr (by omega), Or.inr (fun b9 e9 => by rw [e36] at e9; cases e9; show 0 < (pI P b35 (a1.toInt.toNat)).toInt; omega)⟩
theorem dX12_areChances_5 : decode cX12_areChances 5 = .ok (.ifCond .eq 26, 3) := by decide +kernel
theorem dX12_areChances_8 : decode cX12_areChances 8 = .ok (.iload_n 2, 1) := by decide +kernel
theorem dX12_areChances_9 : decode cX12_areChances 9 = .ok (.iconst 1, 1) := by decide +kernel
theorem dX12_areChances_10 : decode cX12_areChances 10 = .ok (.bipush 11, 2) := by decide +kernel
theorem dX12_areChances_12 : decode cX12_areChances 12 = .ok (.invokestatic 178, 3) := by decide +kernel
theorem dX12_areChances_15 : decode cX12_areChances 15 = .ok (.ifCond .eq 16, 3) := by decide +kernel
theorem dX12_areChances_18 : decode cX12_areChances 18 = .ok (.iload_n 3, 1) := by decide +kernel
theorem dX12_areChances_19 : decode cX12_areChances 19 = .ok (.iconst 0, 1) := by decide +kernel
theorem dX12_areChances_20 : decode cX12_areChances 20 = .ok (.iconst 1, 1) := by decide +kernel
theorem dX12_areChances_21 : decode cX12_areChances 21 = .ok (.invokestatic 178, 3) := by decide +kernel
theorem dX12_areChances_24 : decode cX12_areChances 24 = .ok (.ifCond .eq 7, 3) := by decide +kernel
theorem dX12_areChances_27 : decode cX12_areChances 27 = .ok (.iconst 1, 1) := by decide +kernel
theorem dX12_areChances_28 : decode cX12_areChances 28 = .ok (.goto 4, 3) := by decide +kernel
theorem dX12_areChances_31 : decode cX12_areChances 31 = .ok (.iconst 0, 1) := by decide +kernel
theorem dX12_areChances_32 : decode cX12_areChances 32 = .ok (.ireturn, 1) := by decide +kernel
set_option maxHeartbeats 4000000 in
set_option maxRecDepth 100000 in
theorem s_X12_areChances {P : PP} {a0 : Nat} {a1 : Int32} {a2 : Int32} {a3 : Int32} (I : IM P a0) (hW : MW P a0) : CtrI yX12_areChances cX12_areChances 4 (some Jvm.ClassFile.FieldType.boolean) ({ frames := 3, cells := 0, slots := 0, locals := 192 } : Room) 0 0 P [.ref a0, .int a1, .int a2, .int a3] (fun r P2 => P = P2 ∧ (0 ≤ r.toInt ∧ r.toInt ≤ 1) ∧ (r.toInt = 0 ∨ (((0 : Int) ≤ a1.toInt ∧ a1.toInt ≤ (1 : Int)) ∧ ((1 : Int) ≤ a2.toInt ∧ a2.toInt ≤ (11 : Int)) ∧ ((0 : Int) ≤ a3.toInt ∧ a3.toInt ≤ (1 : Int)))) ∧ (r.toInt = 0 ∨ ∀ b, pR P2 a0 10 = some b → 0 < (pI P2 b (a1.toInt.toNat)).toInt)) := by
  refine enI (lv := [(0, .ref a0), (1, .int a1), (2, .int a2), (3, .int a3)]) (by decide) (Nat.le_of_ble_eq_true rfl) rfl (fun E D cy C Ci0 ret => ?_)
  have ha0 := I.2.1
  have J31 : G E ({ frames := 3, cells := 0, slots := 0, locals := 192 } : Room) D cy 4 P 0 0 31 [] [] := by
    refine g_iconst (v := 0) C dX12_areChances_31 (by decide) ?_
    exact ret _ _ _ _ _ _ dX12_areChances_32 rfl (by decide) (by decide) ⟨rfl, (by decide), Or.inl rfl, Or.inl rfl⟩
  refine g_aload_n C dX12_areChances_0 rfl 0 rfl ?_
  refine g_iload_n C dX12_areChances_1 rfl 1 rfl ?_
  refine g_callVI (rest := []) C mv_X12_192 [.int a1] (s_X12_isBook I hW) (ha0).1 (ha0).2 rfl rfl (by decide) (Nat.le_of_ble_eq_true rfl) (by decide) dX12_areChances_2 (fun r60 Y61 h62 => ?_)
  obtain ⟨rfl, h62⟩ := h62
  obtain ⟨h62, hi63, hi64⟩ := h62
  have hi63 : r60.toInt = 0 ∨ (((0 : Int) ≤ a1.toInt ∧ a1.toInt ≤ (1 : Int))) := hi63
  have h62 : 0 ≤ r60.toInt ∧ r60.toInt ≤ 1 := h62
  refine b_if_eq C 31 dX12_areChances_5 (by decide) (fun h65 => ?_) (fun h65 => ?_)
  · have h65 : r60.toInt = 0 := congrArg Int32.toInt h65
    clear hi63
    refine g_lv (lv' := []) [] rfl ?_
    exact J31 
  · have h65 : r60.toInt ≠ 0 := ti_ne h65
    replace hi63 := hi63.resolve_left (by omega)
    obtain ⟨b66, e67, h68⟩ := I.fld (ha0) 10 13 2 rfl
    have hi64 := (hi64.resolve_left (by omega)) b66 e67
    have hi64 : 0 < (pI P b66 (a1.toInt.toNat)).toInt := hi64
    have h69 := I.arr e67 rfl (a1.toInt.toNat)
    refine g_iload_n C dX12_areChances_8 rfl 2 rfl ?_
    refine g_iconst (v := 1) C dX12_areChances_9 (by decide) ?_
    refine g_bipush (v := 11) C dX12_areChances_10 (by decide) ?_
    refine g_callSI (b := 0) (ci := 0) (rest := []) C ms_X12_178 [.int a2, .int 1, .int 11] (s_X12_within I.1) rfl rfl (by decide) (Nat.le_of_ble_eq_true rfl) (by decide) dX12_areChances_12 (fun r70 Y71 h72 => ?_)
    obtain ⟨rfl, h72⟩ := h72
    obtain ⟨h72, hi73⟩ := h72
    have hi73 : r70.toInt = 0 ∨ (1 ≤ a2.toInt ∧ a2.toInt ≤ 11) := hi73
    have h72 : 0 ≤ r70.toInt ∧ r70.toInt ≤ 1 := h72
    refine b_if_eq C 31 dX12_areChances_15 (by decide) (fun h74 => ?_) (fun h74 => ?_)
    · have h74 : r70.toInt = 0 := congrArg Int32.toInt h74
      clear hi73
      refine g_lv (lv' := []) [] rfl ?_
      exact J31 
    · have h74 : r70.toInt ≠ 0 := ti_ne h74
      replace hi73 := hi73.resolve_left (by omega)
      refine g_iload_n C dX12_areChances_18 rfl 3 rfl ?_
      refine g_iconst (v := 0) C dX12_areChances_19 (by decide) ?_
      refine g_iconst (v := 1) C dX12_areChances_20 (by decide) ?_
      refine g_callSI (b := 0) (ci := 0) (rest := []) C ms_X12_178 [.int a3, .int 0, .int 1] (s_X12_within I.1) rfl rfl (by decide) (Nat.le_of_ble_eq_true rfl) (by decide) dX12_areChances_21 (fun r75 Y76 h77 => ?_)
      obtain ⟨rfl, h77⟩ := h77
      obtain ⟨h77, hi78⟩ := h77
      have hi78 : r75.toInt = 0 ∨ (0 ≤ a3.toInt ∧ a3.toInt ≤ 1) := hi78
      have h77 : 0 ≤ r75.toInt ∧ r75.toInt ≤ 1 := h77
      refine b_if_eq C 31 dX12_areChances_24 (by decide) (fun h79 => ?_) (fun h79 => ?_)
      · have h79 : r75.toInt = 0 := congrArg Int32.toInt h79
        clear hi78
        refine g_lv (lv' := []) [] rfl ?_
        exact J31 
      · have h79 : r75.toInt ≠ 0 := ti_ne h79
        replace hi78 := hi78.resolve_left (by omega)
        refine g_iconst (v := 1) C dX12_areChances_27 (by decide) ?_
        refine g_goto C 32 dX12_areChances_28 (by decide) ?_
        exact ret _ _ _ _ _ _ dX12_areChances_32 rfl (by decide) (by decide) ⟨rfl, (by decide), Or.inr (by omega), Or.inr (fun b9 e9 => by rw [e67] at e9; cases e9; show 0 < (pI P b66 (a1.toInt.toNat)).toInt; omega)⟩
theorem dX12_average_12 : decode cX12_average 12 = .ok (.ifCond .eq 13, 3) := by decide +kernel
theorem dX12_average_15 : decode cX12_average 15 = .ok (.iload 4, 2) := by decide +kernel
theorem dX12_average_17 : decode cX12_average 17 = .ok (.iconst 0, 1) := by decide +kernel
theorem dX12_average_18 : decode cX12_average 18 = .ok (.iconst 1, 1) := by decide +kernel
theorem dX12_average_19 : decode cX12_average 19 = .ok (.invokestatic 178, 3) := by decide +kernel
theorem dX12_average_22 : decode cX12_average 22 = .ok (.ifCond .ne 7, 3) := by decide +kernel
theorem dX12_average_29 : decode cX12_average 29 = .ok (.aload_n 0, 1) := by decide +kernel
theorem dX12_average_30 : decode cX12_average 30 = .ok (.iload_n 1, 1) := by decide +kernel
theorem dX12_average_31 : decode cX12_average 31 = .ok (.iload_n 2, 1) := by decide +kernel
theorem dX12_average_32 : decode cX12_average 32 = .ok (.invokevirtual 380, 3) := by decide +kernel
theorem dX12_keepsSets_0 : decode cX12_keepsSets 0 = .ok (.iconst 0, 1) := by decide +kernel
theorem dX12_keepsSets_1 : decode cX12_keepsSets 1 = .ok (.istore_n 3, 1) := by decide +kernel
theorem dX12_keepsSets_2 : decode cX12_keepsSets 2 = .ok (.iload_n 3, 1) := by decide +kernel
theorem dX12_keepsSets_3 : decode cX12_keepsSets 3 = .ok (.iload_n 2, 1) := by decide +kernel
theorem dX12_keepsSets_4 : decode cX12_keepsSets 4 = .ok (.if_icmp .ge 21, 3) := by decide +kernel
theorem dX12_keepsSets_7 : decode cX12_keepsSets 7 = .ok (.aload_n 0, 1) := by decide +kernel
theorem dX12_keepsSets_8 : decode cX12_keepsSets 8 = .ok (.getfield 121, 3) := by decide +kernel
theorem dX12_keepsSets_11 : decode cX12_keepsSets 11 = .ok (.iload_n 3, 1) := by decide +kernel
theorem dX12_keepsSets_12 : decode cX12_keepsSets 12 = .ok (.aload_n 0, 1) := by decide +kernel
theorem dX12_keepsSets_13 : decode cX12_keepsSets 13 = .ok (.iload_n 1, 1) := by decide +kernel
theorem dX12_keepsSets_14 : decode cX12_keepsSets 14 = .ok (.iload_n 3, 1) := by decide +kernel
theorem dX12_keepsSets_15 : decode cX12_keepsSets 15 = .ok (.invokevirtual 261, 3) := by decide +kernel
theorem dX12_keepsSets_25 : decode cX12_keepsSets 25 = .ok (.return_, 1) := by decide +kernel
theorem dX12_setOf_0 : decode cX12_setOf 0 = .ok (.aload_n 0, 1) := by decide +kernel
theorem dX12_setOf_1 : decode cX12_setOf 1 = .ok (.iload_n 2, 1) := by decide +kernel
theorem dX12_setOf_2 : decode cX12_setOf 2 = .ok (.i2l, 1) := by decide +kernel
theorem dX12_setOf_3 : decode cX12_setOf 3 = .ok (.ldc2_w 248, 3) := by decide +kernel
theorem dX12_setOf_6 : decode cX12_setOf 6 = .ok (.lmul, 1) := by decide +kernel
theorem dX12_setOf_7 : decode cX12_setOf 7 = .ok (.iload_n 1, 1) := by decide +kernel
theorem dX12_setOf_8 : decode cX12_setOf 8 = .ok (.i2l, 1) := by decide +kernel
theorem dX12_setOf_9 : decode cX12_setOf 9 = .ok (.ldc2_w 250, 3) := by decide +kernel
theorem dX12_setOf_12 : decode cX12_setOf 12 = .ok (.lmul, 1) := by decide +kernel
theorem dX12_setOf_13 : decode cX12_setOf 13 = .ok (.ladd, 1) := by decide +kernel
theorem dX12_setOf_14 : decode cX12_setOf 14 = .ok (.lconst 1, 1) := by decide +kernel
theorem dX12_setOf_15 : decode cX12_setOf 15 = .ok (.ladd, 1) := by decide +kernel
theorem dX12_setOf_16 : decode cX12_setOf 16 = .ok (.ldc2_w 234, 3) := by decide +kernel
theorem dX12_setOf_19 : decode cX12_setOf 19 = .ok (.lrem, 1) := by decide +kernel
theorem dX12_setOf_20 : decode cX12_setOf 20 = .ok (.putfield 226, 3) := by decide +kernel
theorem dX12_setOf_23 : decode cX12_setOf 23 = .ok (.aload_n 0, 1) := by decide +kernel
theorem dX12_setOf_24 : decode cX12_setOf 24 = .ok (.iload_n 1, 1) := by decide +kernel
theorem dX12_setOf_25 : decode cX12_setOf 25 = .ok (.invokevirtual 252, 3) := by decide +kernel
theorem dX12_howMany_0 : decode cX12_howMany 0 = .ok (.iconst 0, 1) := by decide +kernel
theorem dX12_howMany_1 : decode cX12_howMany 1 = .ok (.istore_n 2, 1) := by decide +kernel
theorem dX12_howMany_2 : decode cX12_howMany 2 = .ok (.iconst 1, 1) := by decide +kernel
theorem dX12_howMany_3 : decode cX12_howMany 3 = .ok (.istore_n 3, 1) := by decide +kernel
theorem dX12_howMany_4 : decode cX12_howMany 4 = .ok (.iload_n 3, 1) := by decide +kernel
theorem dX12_howMany_5 : decode cX12_howMany 5 = .ok (.aload_n 0, 1) := by decide +kernel
theorem dX12_howMany_6 : decode cX12_howMany 6 = .ok (.iload_n 1, 1) := by decide +kernel
theorem dX12_howMany_7 : decode cX12_howMany 7 = .ok (.invokevirtual 238, 3) := by decide +kernel
theorem dX12_allOf_0 : decode cX12_allOf 0 = .ok (.aload_n 0, 1) := by decide +kernel
theorem dX12_allOf_1 : decode cX12_allOf 1 = .ok (.getfield 45, 3) := by decide +kernel
theorem dX12_allOf_4 : decode cX12_allOf 4 = .ok (.iload_n 1, 1) := by decide +kernel
theorem dX12_allOf_5 : decode cX12_allOf 5 = .ok (.iaload, 1) := by decide +kernel
theorem dX12_allOf_6 : decode cX12_allOf 6 = .ok (.ifCond .ne 7, 3) := by decide +kernel
theorem dX12_allOf_9 : decode cX12_allOf 9 = .ok (.iconst 0, 1) := by decide +kernel
theorem dX12_allOf_10 : decode cX12_allOf 10 = .ok (.goto 16, 3) := by decide +kernel
theorem dX12_allOf_13 : decode cX12_allOf 13 = .ok (.aload_n 0, 1) := by decide +kernel
theorem dX12_allOf_14 : decode cX12_allOf 14 = .ok (.getfield 45, 3) := by decide +kernel
theorem dX12_allOf_17 : decode cX12_allOf 17 = .ok (.iload_n 1, 1) := by decide +kernel
theorem dX12_allOf_18 : decode cX12_allOf 18 = .ok (.iaload, 1) := by decide +kernel
theorem dX12_allOf_19 : decode cX12_allOf 19 = .ok (.aload_n 0, 1) := by decide +kernel
theorem dX12_allOf_20 : decode cX12_allOf 20 = .ok (.getfield 60, 3) := by decide +kernel
theorem dX12_allOf_23 : decode cX12_allOf 23 = .ok (.iload_n 1, 1) := by decide +kernel
theorem dX12_allOf_24 : decode cX12_allOf 24 = .ok (.iaload, 1) := by decide +kernel
theorem dX12_allOf_25 : decode cX12_allOf 25 = .ok (.iadd, 1) := by decide +kernel
theorem dX12_allOf_26 : decode cX12_allOf 26 = .ok (.ireturn, 1) := by decide +kernel
set_option maxHeartbeats 4000000 in
set_option maxRecDepth 100000 in
theorem s_X12_allOf {P : PP} {a0 : Nat} {a1 : Int32} (I : IM P a0) (ha1 : 0 ≤ a1.toInt ∧ a1.toInt ≤ 1) (hW : MW P a0) : CtrI yX12_allOf cX12_allOf 2 (some Jvm.ClassFile.FieldType.int) ({ frames := 1, cells := 0, slots := 0, locals := 64 } : Room) 0 0 P [.ref a0, .int a1] (fun r P2 => P = P2 ∧ (0 ≤ r.toInt ∧ r.toInt ≤ 20) ∧ (∀ b c, pR P2 a0 10 = some b → pR P2 a0 15 = some c → (r.toInt = 0 ∧ (pI P2 b (a1.toInt.toNat)).toInt = 0) ∨ r.toInt = (pI P2 b (a1.toInt.toNat)).toInt + (pI P2 c (a1.toInt.toNat)).toInt)) := by
  refine enI (lv := [(0, .ref a0), (1, .int a1)]) (by decide) (Nat.le_of_ble_eq_true rfl) rfl (fun E D cy C Ci0 ret => ?_)
  have ha0 := I.2.1
  refine g_aload_n C dX12_allOf_0 rfl 0 rfl ?_
  obtain ⟨b188, e189, h190⟩ := I.fld (ha0) 10 13 2 rfl
  refine g_getR C fi_X12_45 rfl e189 (ha0).1 (ha0).2 dX12_allOf_1 ?_
  refine g_iload_n C dX12_allOf_4 rfl 1 rfl ?_
  refine g_iald (j := (a1.toInt.toNat)) C h190.1 h190.2.1 (ix_in h190.2.2 (by omega)) dX12_allOf_5 ?_
  have h191 := I.arr e189 rfl (a1.toInt.toNat)
  refine b_if_ne C 13 dX12_allOf_6 (by decide) (fun h192 => ?_) (fun h192 => ?_)
  · have h192 : (pI P b188 (a1.toInt.toNat)).toInt ≠ 0 := ti_ne h192
    refine g_aload_n C dX12_allOf_13 rfl 0 rfl ?_
    refine g_getR C fi_X12_45 rfl e189 (ha0).1 (ha0).2 dX12_allOf_14 ?_
    refine g_iload_n C dX12_allOf_17 rfl 1 rfl ?_
    refine g_iald (j := (a1.toInt.toNat)) C h190.1 h190.2.1 (ix_in h190.2.2 (by omega)) dX12_allOf_18 ?_
    refine g_aload_n C dX12_allOf_19 rfl 0 rfl ?_
    obtain ⟨b193, e194, h195⟩ := I.fld (ha0) 15 13 3 rfl
    refine g_getR C fi_X12_60 rfl e194 (ha0).1 (ha0).2 dX12_allOf_20 ?_
    refine g_iload_n C dX12_allOf_23 rfl 1 rfl ?_
    refine g_iald (j := (a1.toInt.toNat)) C h195.1 h195.2.1 (ix_in h195.2.2 (by omega)) dX12_allOf_24 ?_
    have h196 := I.arr e194 rfl (a1.toInt.toNat)
    refine s_iadd C dX12_allOf_25 (by show -2147483648 ≤ (pI P b188 (a1.toInt.toNat)).toInt + (pI P b193 (a1.toInt.toNat)).toInt ∧ (pI P b188 (a1.toInt.toNat)).toInt + (pI P b193 (a1.toInt.toNat)).toInt ≤ 2147483647; omega) (fun z197 h198 => ?_)
    have h198 : z197.toInt = (pI P b188 (a1.toInt.toNat)).toInt + (pI P b193 (a1.toInt.toNat)).toInt := h198
    exact ret _ _ _ _ _ _ dX12_allOf_26 rfl (by decide) (by decide) ⟨rfl, (by omega), (fun b9 c9 e9 f9 => by rw [e189] at e9; cases e9; rw [e194] at f9; cases f9; show (z197.toInt = 0 ∧ (pI P b188 (a1.toInt.toNat)).toInt = 0) ∨ z197.toInt = (pI P b188 (a1.toInt.toNat)).toInt + (pI P b193 (a1.toInt.toNat)).toInt; omega)⟩
  · have h192 : (pI P b188 (a1.toInt.toNat)).toInt = 0 := congrArg Int32.toInt h192
    refine g_iconst (v := 0) C dX12_allOf_9 (by decide) ?_
    refine g_goto C 26 dX12_allOf_10 (by decide) ?_
    obtain ⟨b199, e200, h201⟩ := I.fld (ha0) 15 13 3 rfl
    exact ret _ _ _ _ _ _ dX12_allOf_26 rfl (by decide) (by decide) ⟨rfl, (by decide), (fun b9 c9 e9 f9 => by rw [e189] at e9; cases e9; rw [e200] at f9; cases f9; show ((0 : Int) = 0 ∧ (pI P b188 (a1.toInt.toNat)).toInt = 0) ∨ (0 : Int) = (pI P b188 (a1.toInt.toNat)).toInt + (pI P b199 (a1.toInt.toNat)).toInt; omega)⟩
theorem dX12_howMany_10 : decode cX12_howMany 10 = .ok (.if_icmp .gt 18, 3) := by decide +kernel
theorem dX12_howMany_13 : decode cX12_howMany 13 = .ok (.iload_n 2, 1) := by decide +kernel
theorem dX12_howMany_14 : decode cX12_howMany 14 = .ok (.aload_n 0, 1) := by decide +kernel
theorem dX12_howMany_15 : decode cX12_howMany 15 = .ok (.iload_n 1, 1) := by decide +kernel
theorem dX12_howMany_16 : decode cX12_howMany 16 = .ok (.iload_n 3, 1) := by decide +kernel
theorem dX12_howMany_17 : decode cX12_howMany 17 = .ok (.invokevirtual 241, 3) := by decide +kernel
theorem dX12_howMany_28 : decode cX12_howMany 28 = .ok (.iload_n 2, 1) := by decide +kernel
theorem dX12_howMany_29 : decode cX12_howMany 29 = .ok (.ifCond .ne 5, 3) := by decide +kernel
theorem dX12_howMany_32 : decode cX12_howMany 32 = .ok (.iconst 1, 1) := by decide +kernel
theorem dX12_howMany_33 : decode cX12_howMany 33 = .ok (.ireturn, 1) := by decide +kernel
theorem dX12_oddsOf_0 : decode cX12_oddsOf 0 = .ok (.aload_n 0, 1) := by decide +kernel
theorem dX12_oddsOf_1 : decode cX12_oddsOf 1 = .ok (.getfield 51, 3) := by decide +kernel
theorem dX12_oddsOf_4 : decode cX12_oddsOf 4 = .ok (.bipush 21, 2) := by decide +kernel
theorem dX12_oddsOf_6 : decode cX12_oddsOf 6 = .ok (.iload_n 1, 1) := by decide +kernel
theorem dX12_oddsOf_7 : decode cX12_oddsOf 7 = .ok (.imul, 1) := by decide +kernel
theorem dX12_oddsOf_8 : decode cX12_oddsOf 8 = .ok (.iload_n 2, 1) := by decide +kernel
theorem dX12_oddsOf_9 : decode cX12_oddsOf 9 = .ok (.iadd, 1) := by decide +kernel
theorem dX12_oddsOf_10 : decode cX12_oddsOf 10 = .ok (.iaload, 1) := by decide +kernel
theorem dX12_oddsOf_11 : decode cX12_oddsOf 11 = .ok (.ifCond .ge 7, 3) := by decide +kernel
theorem dX12_oddsOf_14 : decode cX12_oddsOf 14 = .ok (.iconst 0, 1) := by decide +kernel
theorem dX12_oddsOf_15 : decode cX12_oddsOf 15 = .ok (.goto 14, 3) := by decide +kernel
theorem dX12_oddsOf_18 : decode cX12_oddsOf 18 = .ok (.aload_n 0, 1) := by decide +kernel
theorem dX12_oddsOf_19 : decode cX12_oddsOf 19 = .ok (.getfield 51, 3) := by decide +kernel
theorem dX12_oddsOf_22 : decode cX12_oddsOf 22 = .ok (.bipush 21, 2) := by decide +kernel
theorem dX12_oddsOf_24 : decode cX12_oddsOf 24 = .ok (.iload_n 1, 1) := by decide +kernel
theorem dX12_oddsOf_25 : decode cX12_oddsOf 25 = .ok (.imul, 1) := by decide +kernel
theorem dX12_oddsOf_26 : decode cX12_oddsOf 26 = .ok (.iload_n 2, 1) := by decide +kernel
theorem dX12_oddsOf_27 : decode cX12_oddsOf 27 = .ok (.iadd, 1) := by decide +kernel
theorem dX12_oddsOf_28 : decode cX12_oddsOf 28 = .ok (.iaload, 1) := by decide +kernel
theorem dX12_oddsOf_29 : decode cX12_oddsOf 29 = .ok (.ireturn, 1) := by decide +kernel
set_option maxHeartbeats 4000000 in
set_option maxRecDepth 100000 in
theorem s_X12_oddsOf {P : PP} {a0 : Nat} {a1 : Int32} {a2 : Int32} (I : IM P a0) (ha1 : 0 ≤ a1.toInt ∧ a1.toInt ≤ 1) (ha2 : 0 ≤ a2.toInt ∧ a2.toInt ≤ 20) (hW : MW P a0) : CtrI yX12_oddsOf cX12_oddsOf 3 (some Jvm.ClassFile.FieldType.int) ({ frames := 1, cells := 0, slots := 0, locals := 64 } : Room) 0 0 P [.ref a0, .int a1, .int a2] (fun r P2 => P = P2 ∧ (0 ≤ r.toInt ∧ r.toInt ≤ 999) ∧ (∀ b, pR P2 a0 12 = some b → r.toInt = opos (pI P2 b (21 * a1.toInt + a2.toInt).toNat))) := by
  refine enI (lv := [(0, .ref a0), (1, .int a1), (2, .int a2)]) (by decide) (Nat.le_of_ble_eq_true rfl) rfl (fun E D cy C Ci0 ret => ?_)
  have ha0 := I.2.1
  refine g_aload_n C dX12_oddsOf_0 rfl 0 rfl ?_
  obtain ⟨b248, e249, h250⟩ := I.fld (ha0) 12 13 63 rfl
  refine g_getR C fi_X12_51 rfl e249 (ha0).1 (ha0).2 dX12_oddsOf_1 ?_
  refine g_bipush (v := 21) C dX12_oddsOf_4 (by decide) ?_
  refine g_iload_n C dX12_oddsOf_6 rfl 1 rfl ?_
  refine s_imul C dX12_oddsOf_7 (by show -2147483648 ≤ 21 * a1.toInt ∧ 21 * a1.toInt ≤ 2147483647; omega) (fun z251 h252 => ?_)
  have h252 : z251.toInt = 21 * a1.toInt := h252
  refine g_iload_n C dX12_oddsOf_8 rfl 2 rfl ?_
  refine s_iadd C dX12_oddsOf_9 (by show -2147483648 ≤ z251.toInt + a2.toInt ∧ z251.toInt + a2.toInt ≤ 2147483647; omega) (fun z253 h254 => ?_)
  have h254 : z253.toInt = z251.toInt + a2.toInt := h254
  refine g_iald (j := (z253.toInt.toNat)) C h250.1 h250.2.1 (ix_in h250.2.2 (by omega)) dX12_oddsOf_10 ?_
  have h255 := I.arr e249 rfl (z253.toInt.toNat)
  refine b_if_ge C 18 dX12_oddsOf_11 (by decide) (fun h256 => ?_) (fun h256 => ?_)
  · have h256 : 0 ≤ (pI P b248 (z253.toInt.toNat)).toInt := h256
    refine g_aload_n C dX12_oddsOf_18 rfl 0 rfl ?_
    refine g_getR C fi_X12_51 rfl e249 (ha0).1 (ha0).2 dX12_oddsOf_19 ?_
    refine g_bipush (v := 21) C dX12_oddsOf_22 (by decide) ?_
    refine g_iload_n C dX12_oddsOf_24 rfl 1 rfl ?_
    refine s_imul C dX12_oddsOf_25 (by show -2147483648 ≤ 21 * a1.toInt ∧ 21 * a1.toInt ≤ 2147483647; omega) (fun z257 h258 => ?_)
    have h258 : z257.toInt = 21 * a1.toInt := h258
    refine g_iload_n C dX12_oddsOf_26 rfl 2 rfl ?_
    refine s_iadd C dX12_oddsOf_27 (by show -2147483648 ≤ z257.toInt + a2.toInt ∧ z257.toInt + a2.toInt ≤ 2147483647; omega) (fun z259 h260 => ?_)
    have h260 : z259.toInt = z257.toInt + a2.toInt := h260
    refine g_iald (j := (z259.toInt.toNat)) C h250.1 h250.2.1 (ix_in h250.2.2 (by omega)) dX12_oddsOf_28 ?_
    have h261 := I.arr e249 rfl (z259.toInt.toNat)
    have hk262 : (pI P b248 (z253.toInt.toNat)).toInt = (pI P b248 (21 * a1.toInt + a2.toInt).toNat).toInt := by rw [show z253.toInt.toNat = (21 * a1.toInt + a2.toInt).toNat by omega]
    have hk263 : (pI P b248 (z259.toInt.toNat)).toInt = (pI P b248 (21 * a1.toInt + a2.toInt).toNat).toInt := by rw [show z259.toInt.toNat = (21 * a1.toInt + a2.toInt).toNat by omega]
    exact ret _ _ _ _ _ _ dX12_oddsOf_29 rfl (by decide) (by decide) ⟨rfl, (by omega), (fun b9 e9 => by rw [e249] at e9; cases e9; show (pI P b248 (z259.toInt.toNat)).toInt = opos (pI P b248 (21 * a1.toInt + a2.toInt).toNat); unfold opos; split <;> omega)⟩
  · have h256 : (pI P b248 (z253.toInt.toNat)).toInt < 0 := h256
    refine g_iconst (v := 0) C dX12_oddsOf_14 (by decide) ?_
    refine g_goto C 29 dX12_oddsOf_15 (by decide) ?_
    have hk264 : (pI P b248 (z253.toInt.toNat)).toInt = (pI P b248 (21 * a1.toInt + a2.toInt).toNat).toInt := by rw [show z253.toInt.toNat = (21 * a1.toInt + a2.toInt).toNat by omega]
    exact ret _ _ _ _ _ _ dX12_oddsOf_29 rfl (by decide) (by decide) ⟨rfl, (by decide), (fun b9 e9 => by rw [e249] at e9; cases e9; show (0 : Int) = opos (pI P b248 (21 * a1.toInt + a2.toInt).toNat); unfold opos; split <;> omega)⟩
theorem dX12_howMany_20 : decode cX12_howMany 20 = .ok (.iadd, 1) := by decide +kernel
theorem dX12_howMany_21 : decode cX12_howMany 21 = .ok (.istore_n 2, 1) := by decide +kernel
theorem dX12_howMany_22 : decode cX12_howMany 22 = .ok (.iinc 3 1, 3) := by decide +kernel
theorem dX12_howMany_25 : decode cX12_howMany 25 = .ok (.goto (-21), 3) := by decide +kernel
theorem dX12_howMany_34 : decode cX12_howMany 34 = .ok (.aload_n 0, 1) := by decide +kernel
theorem dX12_howMany_35 : decode cX12_howMany 35 = .ok (.invokevirtual 244, 3) := by decide +kernel
theorem dX12_drawn_0 : decode cX12_drawn 0 = .ok (.aload_n 0, 1) := by decide +kernel
theorem dX12_drawn_1 : decode cX12_drawn 1 = .ok (.aload_n 0, 1) := by decide +kernel
theorem dX12_drawn_2 : decode cX12_drawn 2 = .ok (.getfield 226, 3) := by decide +kernel
theorem dX12_drawn_5 : decode cX12_drawn 5 = .ok (.ldc2_w 230, 3) := by decide +kernel
theorem dX12_drawn_8 : decode cX12_drawn 8 = .ok (.lmul, 1) := by decide +kernel
theorem dX12_drawn_9 : decode cX12_drawn 9 = .ok (.ldc2_w 232, 3) := by decide +kernel
theorem dX12_drawn_12 : decode cX12_drawn 12 = .ok (.ladd, 1) := by decide +kernel
theorem dX12_drawn_13 : decode cX12_drawn 13 = .ok (.ldc2_w 234, 3) := by decide +kernel
theorem dX12_drawn_16 : decode cX12_drawn 16 = .ok (.lrem, 1) := by decide +kernel
theorem dX12_drawn_17 : decode cX12_drawn 17 = .ok (.putfield 226, 3) := by decide +kernel
theorem dX12_drawn_20 : decode cX12_drawn 20 = .ok (.aload_n 0, 1) := by decide +kernel
theorem dX12_drawn_21 : decode cX12_drawn 21 = .ok (.getfield 226, 3) := by decide +kernel
theorem dX12_drawn_24 : decode cX12_drawn 24 = .ok (.ldc2_w 236, 3) := by decide +kernel
theorem dX12_drawn_27 : decode cX12_drawn 27 = .ok (.ldiv, 1) := by decide +kernel
theorem dX12_drawn_28 : decode cX12_drawn 28 = .ok (.l2i, 1) := by decide +kernel
theorem dX12_drawn_29 : decode cX12_drawn 29 = .ok (.ireturn, 1) := by decide +kernel
set_option maxHeartbeats 4000000 in
set_option maxRecDepth 100000 in
theorem s_X12_drawn {P : PP} {a0 : Nat} (I : IM P a0) (hW : MW P a0) : CtrI yX12_drawn cX12_drawn 1 (some Jvm.ClassFile.FieldType.int) ({ frames := 1, cells := 0, slots := 0, locals := 64 } : Room) 0 0 P [.ref a0] (fun r P2 => IM P2 a0 ∧ EM [] a0 P P2 ∧ MW P2 a0 ∧ (True)) := by
  refine enI (lv := [(0, .ref a0)]) (by decide) (Nat.le_of_ble_eq_true rfl) rfl (fun E D cy C Ci0 ret => ?_)
  have ha0 := I.2.1
  refine g_aload_n C dX12_drawn_0 rfl 0 rfl ?_
  refine g_aload_n C dX12_drawn_1 rfl 0 rfl ?_
  refine g_getJ C fi_X12_226 rfl (ha0).1 (ha0).2 dX12_drawn_2 ?_
  refine g_topl (fun l337 _ => ?_)
  refine g_ldc2 (v := 1103515245) C kl_X12_230 dX12_drawn_5 ?_
  refine g_topl (fun l338 el338 => ?_)
  have hz_l338 : ¬ l338 = 0 := by rw [el338]; decide
  refine a_lmul C dX12_drawn_8 (fun l339 => ?_)
  refine g_ldc2 (v := 12345) C kl_X12_232 dX12_drawn_9 ?_
  refine g_topl (fun l340 el340 => ?_)
  have hz_l340 : ¬ l340 = 0 := by rw [el340]; decide
  refine a_ladd C dX12_drawn_12 (fun l341 => ?_)
  refine g_ldc2 (v := 2147483648) C kl_X12_234 dX12_drawn_13 ?_
  refine g_topl (fun l342 el342 => ?_)
  have hz_l342 : ¬ l342 = 0 := by rw [el342]; decide
  refine a_lrem C dX12_drawn_16 hz_l342 (fun l343 => ?_)
  refine g_putJ C fi_X12_226 rfl (ha0).1 (ha0).2 dX12_drawn_17 ?_
  refine gq (ks := []) (I.setJ) (EM.setJ) (fun Y344 Iy345 Xy346 => ?_)
  have W347 := hW.keep I Xy346 (by decide) (by decide) (by decide)
  have Xz348 : EM [] a0 P Y344 := Xy346.mono (by decide)
  have h349 := Xy346.at ha0
  refine g_aload_n C dX12_drawn_20 rfl 0 rfl ?_
  refine g_getJ C fi_X12_226 rfl (h349).1 (h349).2 dX12_drawn_21 ?_
  refine g_topl (fun l350 _ => ?_)
  refine g_ldc2 (v := 65536) C kl_X12_236 dX12_drawn_24 ?_
  refine g_topl (fun l351 el351 => ?_)
  have hz_l351 : ¬ l351 = 0 := by rw [el351]; decide
  refine a_ldiv C dX12_drawn_27 hz_l351 (fun l352 => ?_)
  refine a_l2i C dX12_drawn_28 (fun z353 => ?_)
  exact ret _ _ _ _ _ _ dX12_drawn_29 rfl (by decide) (by decide) ⟨Iy345, Xz348, W347, trivial⟩
theorem dX12_howMany_38 : decode cX12_howMany 38 = .ok (.iload_n 2, 1) := by decide +kernel
theorem dX12_howMany_39 : decode cX12_howMany 39 = .ok (.irem, 1) := by decide +kernel
theorem dX12_howMany_40 : decode cX12_howMany 40 = .ok (.istore_n 3, 1) := by decide +kernel
theorem dX12_howMany_41 : decode cX12_howMany 41 = .ok (.iconst 1, 1) := by decide +kernel
theorem dX12_howMany_42 : decode cX12_howMany 42 = .ok (.istore 4, 2) := by decide +kernel
theorem dX12_howMany_44 : decode cX12_howMany 44 = .ok (.aload_n 0, 1) := by decide +kernel
theorem dX12_howMany_45 : decode cX12_howMany 45 = .ok (.iload_n 1, 1) := by decide +kernel
theorem dX12_howMany_46 : decode cX12_howMany 46 = .ok (.iconst 1, 1) := by decide +kernel
theorem dX12_howMany_47 : decode cX12_howMany 47 = .ok (.invokevirtual 241, 3) := by decide +kernel
theorem dX12_howMany_50 : decode cX12_howMany 50 = .ok (.istore 5, 2) := by decide +kernel
theorem dX12_howMany_52 : decode cX12_howMany 52 = .ok (.iload 5, 2) := by decide +kernel
theorem dX12_howMany_54 : decode cX12_howMany 54 = .ok (.iload_n 3, 1) := by decide +kernel
theorem dX12_howMany_55 : decode cX12_howMany 55 = .ok (.if_icmp .gt 21, 3) := by decide +kernel
theorem dX12_howMany_58 : decode cX12_howMany 58 = .ok (.iinc 4 1, 3) := by decide +kernel
theorem dX12_howMany_61 : decode cX12_howMany 61 = .ok (.iload 5, 2) := by decide +kernel
theorem dX12_howMany_63 : decode cX12_howMany 63 = .ok (.aload_n 0, 1) := by decide +kernel
theorem dX12_howMany_64 : decode cX12_howMany 64 = .ok (.iload_n 1, 1) := by decide +kernel
theorem dX12_howMany_65 : decode cX12_howMany 65 = .ok (.iload 4, 2) := by decide +kernel
theorem dX12_howMany_67 : decode cX12_howMany 67 = .ok (.invokevirtual 241, 3) := by decide +kernel
theorem dX12_howMany_70 : decode cX12_howMany 70 = .ok (.iadd, 1) := by decide +kernel
theorem dX12_howMany_71 : decode cX12_howMany 71 = .ok (.istore 5, 2) := by decide +kernel
theorem dX12_howMany_73 : decode cX12_howMany 73 = .ok (.goto (-21), 3) := by decide +kernel
theorem dX12_howMany_76 : decode cX12_howMany 76 = .ok (.iload 4, 2) := by decide +kernel
theorem dX12_howMany_78 : decode cX12_howMany 78 = .ok (.ireturn, 1) := by decide +kernel
set_option maxHeartbeats 4000000 in
set_option maxRecDepth 100000 in
theorem s_X12_howMany {P : PP} {a0 : Nat} {a1 : Int32} (I : IM P a0) (ha1 : 0 ≤ a1.toInt ∧ a1.toInt ≤ 1) (hf0 : ∀ b, pR P a0 10 = some b → 1 ≤ (pI P b (a1.toInt.toNat)).toInt ∧ (pI P b (a1.toInt.toNat)).toInt ≤ 16) (hW : MW P a0) : CtrI yX12_howMany cX12_howMany 6 (some Jvm.ClassFile.FieldType.int) ({ frames := 2, cells := 0, slots := 0, locals := 128 } : Room) 0 0 P [.ref a0, .int a1] (fun r P2 => IM P2 a0 ∧ EM [] a0 P P2 ∧ MW P2 a0 ∧ (1 ≤ r.toInt ∧ r.toInt ≤ 20) ∧ (∀ b c, pR P2 a0 10 = some b → pR P2 a0 15 = some c → r.toInt ≤ (pI P2 b (a1.toInt.toNat)).toInt + (pI P2 c (a1.toInt.toNat)).toInt)) := by
  refine enI (lv := [(0, .ref a0), (1, .int a1)]) (by decide) (Nat.le_of_ble_eq_true rfl) rfl (fun E D cy C Ci0 ret => ?_)
  have ha0 := I.2.1
  have J52 : ∀ (n52 : Nat) (P52 : PP) (v52_3 : Int32) (v52_4 : Int32) (v52_5 : Int32), (20 - v52_4.toInt).toNat < n52 → (IM P52 a0) → (EM [] a0 P P52) → (MW P52 a0) → (-19979 ≤ v52_3.toInt ∧ v52_3.toInt ≤ 19979) → (1 ≤ v52_4.toInt ∧ v52_4.toInt ≤ 20) → (0 ≤ v52_5.toInt ∧ v52_5.toInt ≤ 19980) → (∀ b, pR P52 a0 10 = some b → 1 ≤ (pI P52 b (a1.toInt.toNat)).toInt ∧ (pI P52 b (a1.toInt.toNat)).toInt ≤ 16) → (∀ b912, pR P52 a0 12 = some b912 → v52_5.toInt = oS (pI P b912) (21 * a1.toInt).toNat (v52_4.toInt : Int).toNat) → (∀ b910 b915, pR P52 a0 10 = some b910 → pR P52 a0 15 = some b915 → 1 ≤ v52_4.toInt ∧ v52_4.toInt ≤ ((pI P b910 (a1.toInt.toNat)).toInt + (pI P b915 (a1.toInt.toNat)).toInt)) → (∀ b910 b912 b915, pR P52 a0 10 = some b910 → pR P52 a0 12 = some b912 → pR P52 a0 15 = some b915 → v52_3.toInt < oS (pI P b912) (21 * a1.toInt).toNat (((pI P b910 (a1.toInt.toNat)).toInt + (pI P b915 (a1.toInt.toNat)).toInt)).toNat) → (0 ≤ v52_5.toInt ∧ v52_5.toInt ≤ 999 * v52_4.toInt) → G E ({ frames := 2, cells := 0, slots := 0, locals := 128 } : Room) D cy 6 P52 0 0 52 [(0, .ref a0), (1, .int a1), (3, .int v52_3), (4, .int v52_4), (5, .int v52_5)] [] := by
    intro n52
    induction n52 with
    | zero => intro P52 v52_3 v52_4 v52_5 hm52 I52 X52 W52 hv52_3 hv52_4 hv52_5 hq52_0 rel52_0 rel52_1 rel52_2 rel52_3; omega
    | succ n52 ih52 =>
      intro P52 v52_3 v52_4 v52_5 hm52 I52 X52 W52 hv52_3 hv52_4 hv52_5 hq52_0 rel52_0 rel52_1 rel52_2 rel52_3
      have h1255 := X52.at ha0
      obtain ⟨b1256, e1257, h1258⟩ := I52.fld (h1255) 10 13 2 rfl
      have hq52_0 := hq52_0 b1256 e1257
      obtain ⟨b1259, e1260, h1261⟩ := I52.fld (h1255) 12 13 63 rfl
      have rel52_0 := rel52_0 b1259 e1260
      obtain ⟨b1262, e1263, h1264⟩ := I52.fld (h1255) 15 13 3 rfl
      have rel52_1 := rel52_1 b1256 b1262 e1257 e1263
      have h1265 := I.arr (EM.refB X52 ha0 e1257) rfl (a1.toInt.toNat)
      have h1266 := I.arr (EM.refB X52 ha0 e1263) rfl (a1.toInt.toNat)
      have rel52_2 := rel52_2 b1256 b1259 b1262 e1257 e1260 e1263
      have h1267 := I.arr (EM.refB X52 ha0 e1257) rfl (a1.toInt.toNat)
      have h1268 := I.arr (EM.refB X52 ha0 e1263) rfl (a1.toInt.toNat)
      refine g_iload C dX12_howMany_52 4 rfl ?_
      refine g_iload_n C dX12_howMany_54 rfl 2 rfl ?_
      refine b_icmp_gt C 76 dX12_howMany_55 (by decide) (fun h1269 => ?_) (fun h1269 => ?_)
      · have h1269 : v52_3.toInt < v52_5.toInt := h1269
        refine g_iload C dX12_howMany_76 3 rfl ?_
        exact ret _ _ _ _ _ _ dX12_howMany_78 rfl (by decide) (by decide) ⟨I52, X52, W52, (by omega), (fun b9 c9 e9 f9 => by rw [e1257] at e9; cases e9; rw [e1263] at f9; cases f9; have k1 := X52.keepA (EM.refB X52 ha0 e1257) (by decide) rfl (a1.toInt.toNat); have k2 := X52.keepA (EM.refB X52 ha0 e1263) (by decide) rfl (a1.toInt.toNat); show v52_4.toInt ≤ (pI P52 b1256 (a1.toInt.toNat)).toInt + (pI P52 b1262 (a1.toInt.toNat)).toInt; omega)⟩
      · have h1269 : v52_5.toInt ≤ v52_3.toInt := h1269
        refine s_iinc (lv0 := [(0, .ref a0), (1, .int a1), (3, .int v52_3), (5, .int v52_5)]) (m := 1) C dX12_howMany_58 3 rfl (by decide) rfl (by decide) (by omega) (fun z1270 h1271 => ?_)
        have h1271 : z1270.toInt = v52_4.toInt + 1 := h1271
        have hd : v52_4.toInt ≠ (pI P b1256 (a1.toInt.toNat)).toInt + (pI P b1262 (a1.toInt.toNat)).toInt := fun h9 => by have h8 := rel52_2; rw [show ((pI P b1256 (a1.toInt.toNat)).toInt + (pI P b1262 (a1.toInt.toNat)).toInt).toNat = v52_4.toInt.toNat by omega] at h8; omega
        refine g_iload C dX12_howMany_61 4 rfl ?_
        refine g_aload_n C dX12_howMany_63 rfl 1 rfl ?_
        refine g_iload_n C dX12_howMany_64 rfl 2 rfl ?_
        refine g_iload C dX12_howMany_65 0 rfl ?_
        refine g_callVI (rest := [.int v52_5]) C mv_X12_241 [.int a1, .int z1270] (s_X12_oddsOf I52 (by omega) (by omega) W52) (h1255).1 (h1255).2 rfl rfl (by decide) (Nat.le_of_ble_eq_true rfl) (by decide) dX12_howMany_67 (fun r1272 Y1273 h1274 => ?_)
        obtain ⟨rfl, h1274⟩ := h1274
        obtain ⟨h1274, hi1275⟩ := h1274
        have hi1275 := hi1275 b1259 e1260
        rw [X52.2.2.2 12 (by decide) rfl b1259 (EM.refB X52 ha0 e1260)] at hi1275
        have hi1275 : r1272.toInt = opos (pI P b1259 (21 * a1.toInt + z1270.toInt).toNat) := hi1275
        have h1274 : 0 ≤ r1272.toInt ∧ r1272.toInt ≤ 999 := h1274
        refine s_iadd C dX12_howMany_70 (by show -2147483648 ≤ v52_5.toInt + r1272.toInt ∧ v52_5.toInt + r1272.toInt ≤ 2147483647; omega) (fun z1276 h1277 => ?_)
        have h1277 : z1276.toInt = v52_5.toInt + r1272.toInt := h1277
        refine g_istore (lv' := [(5, .int z1276), (4, .int z1270), (0, .ref a0), (1, .int a1), (3, .int v52_3)]) C dX12_howMany_71 (by decide) rfl ?_
        have st := oS_step2 (f := pI P b1259) (o := (21 * a1.toInt).toNat) (k := (21 * a1.toInt + z1270.toInt).toNat) (d := v52_4.toInt) (d2 := z1270.toInt) (by omega) (by omega) (by omega)
        refine g_goto C 52 dX12_howMany_73 (by decide) ?_
        refine g_lv (lv' := [(0, .ref a0), (1, .int a1), (3, .int v52_3), (4, .int z1270), (5, .int z1276)]) [2, 3, 4, 1, 0] rfl ?_
        exact ih52 P52 v52_3 z1270 z1276 (by omega) I52 X52 W52 (by omega) (by omega) (by omega) (fun b9 e9 => by rw [e1257] at e9; cases e9; omega) (by intro b912 e912; rw [e1260] at e912; cases e912; show z1276.toInt = oS (pI P b1259) (21 * a1.toInt).toNat (z1270.toInt : Int).toNat; omega) (by intro b910 b915 e910 e915; rw [e1257] at e910; cases e910; rw [e1263] at e915; cases e915; show 1 ≤ z1270.toInt ∧ z1270.toInt ≤ ((pI P b1256 (a1.toInt.toNat)).toInt + (pI P b1262 (a1.toInt.toNat)).toInt); omega) (by intro b910 b912 b915 e910 e912 e915; rw [e1257] at e910; cases e910; rw [e1260] at e912; cases e912; rw [e1263] at e915; cases e915; show v52_3.toInt < oS (pI P b1259) (21 * a1.toInt).toNat (((pI P b1256 (a1.toInt.toNat)).toInt + (pI P b1262 (a1.toInt.toNat)).toInt)).toNat; omega) (by show 0 ≤ z1276.toInt ∧ z1276.toInt ≤ 999 * z1270.toInt; omega)
  have J4 : ∀ (n4 : Nat) (v4_2 : Int32) (v4_3 : Int32), (21 - v4_3.toInt).toNat < n4 → (0 ≤ v4_2.toInt ∧ v4_2.toInt ≤ 19980) → (1 ≤ v4_3.toInt ∧ v4_3.toInt ≤ 21) → (∀ b, pR P a0 10 = some b → 1 ≤ (pI P b (a1.toInt.toNat)).toInt ∧ (pI P b (a1.toInt.toNat)).toInt ≤ 16) → (∀ b912, pR P a0 12 = some b912 → v4_2.toInt = oS (pI P b912) (21 * a1.toInt).toNat (v4_3.toInt - 1 : Int).toNat) → (∀ b910 b915, pR P a0 10 = some b910 → pR P a0 15 = some b915 → v4_3.toInt ≤ ((pI P b910 (a1.toInt.toNat)).toInt + (pI P b915 (a1.toInt.toNat)).toInt) + 1) → (0 ≤ v4_2.toInt ∧ v4_2.toInt ≤ 999 * (v4_3.toInt - 1)) → G E ({ frames := 2, cells := 0, slots := 0, locals := 128 } : Room) D cy 6 P 0 0 4 [(0, .ref a0), (1, .int a1), (2, .int v4_2), (3, .int v4_3)] [] := by
    intro n4
    induction n4 with
    | zero => intro v4_2 v4_3 hm4 hv4_2 hv4_3 hq4_0 rel4_0 rel4_1 rel4_2; omega
    | succ n4 ih4 =>
      intro v4_2 v4_3 hm4 hv4_2 hv4_3 hq4_0 rel4_0 rel4_1 rel4_2
      obtain ⟨b1278, e1279, h1280⟩ := I.fld (ha0) 10 13 2 rfl
      have hq4_0 := hq4_0 b1278 e1279
      obtain ⟨b1281, e1282, h1283⟩ := I.fld (ha0) 12 13 63 rfl
      have rel4_0 := rel4_0 b1281 e1282
      obtain ⟨b1284, e1285, h1286⟩ := I.fld (ha0) 15 13 3 rfl
      have rel4_1 := rel4_1 b1278 b1284 e1279 e1285
      have h1287 := I.arr e1279 rfl (a1.toInt.toNat)
      have h1288 := I.arr e1285 rfl (a1.toInt.toNat)
      refine g_iload_n C dX12_howMany_4 rfl 3 rfl ?_
      refine g_aload_n C dX12_howMany_5 rfl 0 rfl ?_
      refine g_iload_n C dX12_howMany_6 rfl 1 rfl ?_
      refine g_callVI (rest := [.int v4_3]) C mv_X12_238 [.int a1] (s_X12_allOf I (by omega) hW) (ha0).1 (ha0).2 rfl rfl (by decide) (Nat.le_of_ble_eq_true rfl) (by decide) dX12_howMany_7 (fun r1289 Y1290 h1291 => ?_)
      obtain ⟨rfl, h1291⟩ := h1291
      obtain ⟨h1291, hi1292⟩ := h1291
      have hi1292 : (r1289.toInt = 0 ∧ (pI P b1278 (a1.toInt.toNat)).toInt = 0) ∨ r1289.toInt = (pI P b1278 (a1.toInt.toNat)).toInt + (pI P b1284 (a1.toInt.toNat)).toInt := hi1292 b1278 b1284 e1279 e1285
      have h1293 := I.arr e1285 rfl (a1.toInt.toNat)
      have h1291 : 0 ≤ r1289.toInt ∧ r1289.toInt ≤ 20 := h1291
      refine b_icmp_gt C 28 dX12_howMany_10 (by decide) (fun h1294 => ?_) (fun h1294 => ?_)
      · have h1294 : r1289.toInt < v4_3.toInt := h1294
        refine g_iload_n C dX12_howMany_28 rfl 2 rfl ?_
        refine b_if_ne C 34 dX12_howMany_29 (by decide) (fun h1295 => ?_) (fun h1295 => ?_)
        · have h1295 : v4_2.toInt ≠ 0 := ti_ne h1295
          have htot : v4_2.toInt = oS (pI P b1281) (21 * a1.toInt).toNat ((pI P b1278 (a1.toInt.toNat)).toInt + (pI P b1284 (a1.toInt.toNat)).toInt).toNat := by rw [show ((pI P b1278 (a1.toInt.toNat)).toInt + (pI P b1284 (a1.toInt.toNat)).toInt).toNat = (v4_3.toInt - 1).toNat by omega]; omega
          refine g_aload_n C dX12_howMany_34 rfl 0 rfl ?_
          refine g_callVI (rest := []) C mv_X12_244 [] (s_X12_drawn I hW) (ha0).1 (ha0).2 rfl rfl (by decide) (Nat.le_of_ble_eq_true rfl) (by decide) dX12_howMany_35 (fun r1296 Y1297 h1298 => ?_)
          obtain ⟨Iy1299, Xy1300, W1301, h1298⟩ := h1298
          have q1302 := Xy1300.keepA e1279 (by decide) rfl (a1.toInt.toNat)
          have q1303 := Xy1300.keepA e1285 (by decide) rfl (a1.toInt.toNat)
          have Xz1304 : EM [] a0 P Y1297 := Xy1300.mono (by decide)
          have e1305 := Xy1300.ref ha0 (by decide) e1279
          have e1306 := Xy1300.ref ha0 (by decide) e1285
          have h1307 := Xy1300.at ha0
          have h1308 := Xy1300.ar h1280
          have h1309 := Xy1300.ar h1286
          have h1298 : True := h1298
          refine g_iload_n C dX12_howMany_38 rfl 2 rfl ?_
          refine s_irem C dX12_howMany_39 (by show 0 < v4_2.toInt; omega) (fun z1310 h1311 => ?_)
          have h1311 : -v4_2.toInt < z1310.toInt ∧ z1310.toInt < v4_2.toInt := h1311
          refine g_istore_n (lv' := [(3, .int z1310), (0, .ref a0), (1, .int a1), (2, .int v4_2)]) C dX12_howMany_40 rfl (by decide) rfl ?_
          refine g_iconst (v := 1) C dX12_howMany_41 (by decide) ?_
          refine g_istore (lv' := [(4, .int 1), (3, .int z1310), (0, .ref a0), (1, .int a1), (2, .int v4_2)]) C dX12_howMany_42 (by decide) rfl ?_
          refine g_aload_n C dX12_howMany_44 rfl 2 rfl ?_
          refine g_iload_n C dX12_howMany_45 rfl 3 rfl ?_
          refine g_iconst (v := 1) C dX12_howMany_46 (by decide) ?_
          refine g_callVI (rest := []) C mv_X12_241 [.int a1, .int 1] (s_X12_oddsOf Iy1299 (by omega) (by decide) W1301) (h1307).1 (h1307).2 rfl rfl (by decide) (Nat.le_of_ble_eq_true rfl) (by decide) dX12_howMany_47 (fun r1312 Y1313 h1314 => ?_)
          obtain ⟨rfl, h1314⟩ := h1314
          obtain ⟨h1314, hi1315⟩ := h1314
          obtain ⟨b1316, e1317, h1318⟩ := Iy1299.fld (h1307) 12 13 63 rfl
          have hi1315 := hi1315 b1316 e1317
          rw [Xz1304.2.2.2 12 (by decide) rfl b1316 (EM.refB Xz1304 ha0 e1317)] at hi1315
          have hi1315 : r1312.toInt = opos (pI P b1316 (21 * a1.toInt + 1).toNat) := hi1315
          have h1314 : 0 ≤ r1312.toInt ∧ r1312.toInt ≤ 999 := h1314
          have hb9 : b1316 = b1281 := Option.some.inj ((EM.refB Xz1304 ha0 e1317).symm.trans (e1282))
          subst hb9
          have s1 := oS_first (f := pI P b1316) (o := (21 * a1.toInt).toNat) (k := (21 * a1.toInt + 1).toNat) (by omega)
          refine g_istore (lv' := [(5, .int r1312), (4, .int 1), (3, .int z1310), (0, .ref a0), (1, .int a1), (2, .int v4_2)]) C dX12_howMany_50 (by decide) rfl ?_
          refine g_lv (lv' := [(0, .ref a0), (1, .int a1), (3, .int z1310), (4, .int 1), (5, .int r1312)]) [3, 4, 2, 1, 0] rfl ?_
          exact J52 _ Y1297 z1310 1 r1312 (Nat.lt_succ_self _) Iy1299 Xz1304 W1301 (by omega) (by decide) (by omega) (fun b9 e9 => by rw [e1305] at e9; cases e9; omega) (by intro b912 e912; rw [e1317] at e912; cases e912; show r1312.toInt = oS (pI P b1316) (21 * a1.toInt).toNat (1 : Int).toNat; omega) (by intro b910 b915 e910 e915; rw [e1305] at e910; cases e910; rw [e1306] at e915; cases e915; show 1 ≤ 1 ∧ 1 ≤ ((pI P b1278 (a1.toInt.toNat)).toInt + (pI P b1284 (a1.toInt.toNat)).toInt); omega) (by intro b910 b912 b915 e910 e912 e915; rw [e1305] at e910; cases e910; rw [e1317] at e912; cases e912; rw [e1306] at e915; cases e915; show z1310.toInt < oS (pI P b1316) (21 * a1.toInt).toNat (((pI P b1278 (a1.toInt.toNat)).toInt + (pI P b1284 (a1.toInt.toNat)).toInt)).toNat; omega) (by show 0 ≤ r1312.toInt ∧ r1312.toInt ≤ 999 * 1; omega)
        · have h1295 : v4_2.toInt = 0 := congrArg Int32.toInt h1295
          refine g_iconst (v := 1) C dX12_howMany_32 (by decide) ?_
          exact ret _ _ _ _ _ _ dX12_howMany_33 rfl (by decide) (by decide) ⟨I, EM.rf, hW, (by decide), (fun b9 c9 e9 f9 => by rw [e1279] at e9; cases e9; rw [e1285] at f9; cases f9; show (1 : Int) ≤ (pI P b1278 (a1.toInt.toNat)).toInt + (pI P b1284 (a1.toInt.toNat)).toInt; omega)⟩
      · have h1294 : v4_3.toInt ≤ r1289.toInt := h1294
        refine g_iload_n C dX12_howMany_13 rfl 2 rfl ?_
        refine g_aload_n C dX12_howMany_14 rfl 0 rfl ?_
        refine g_iload_n C dX12_howMany_15 rfl 1 rfl ?_
        refine g_iload_n C dX12_howMany_16 rfl 3 rfl ?_
        refine g_callVI (rest := [.int v4_2]) C mv_X12_241 [.int a1, .int v4_3] (s_X12_oddsOf I (by omega) (by omega) hW) (ha0).1 (ha0).2 rfl rfl (by decide) (Nat.le_of_ble_eq_true rfl) (by decide) dX12_howMany_17 (fun r1319 Y1320 h1321 => ?_)
        obtain ⟨rfl, h1321⟩ := h1321
        obtain ⟨h1321, hi1322⟩ := h1321
        have hi1322 := hi1322 b1281 e1282
        have hi1322 : r1319.toInt = opos (pI P b1281 (21 * a1.toInt + v4_3.toInt).toNat) := hi1322
        have h1321 : 0 ≤ r1319.toInt ∧ r1319.toInt ≤ 999 := h1321
        refine s_iadd C dX12_howMany_20 (by show -2147483648 ≤ v4_2.toInt + r1319.toInt ∧ v4_2.toInt + r1319.toInt ≤ 2147483647; omega) (fun z1323 h1324 => ?_)
        have h1324 : z1323.toInt = v4_2.toInt + r1319.toInt := h1324
        refine g_istore_n (lv' := [(2, .int z1323), (0, .ref a0), (1, .int a1), (3, .int v4_3)]) C dX12_howMany_21 rfl (by decide) rfl ?_
        refine s_iinc (lv0 := [(2, .int z1323), (0, .ref a0), (1, .int a1)]) (m := 1) C dX12_howMany_22 3 rfl (by decide) rfl (by decide) (by omega) (fun z1325 h1326 => ?_)
        have h1326 : z1325.toInt = v4_3.toInt + 1 := h1326
        have st := oS_step (f := pI P b1281) (o := (21 * a1.toInt).toNat) (k := (21 * a1.toInt + v4_3.toInt).toNat) (d := v4_3.toInt) (d2 := z1325.toInt) (by omega) (by omega) (by omega)
        refine g_goto C 4 dX12_howMany_25 (by decide) ?_
        refine g_lv (lv' := [(0, .ref a0), (1, .int a1), (2, .int z1323), (3, .int z1325)]) [2, 3, 1, 0] rfl ?_
        exact ih4 z1323 z1325 (by omega) (by omega) (by omega) (fun b9 e9 => by rw [e1279] at e9; cases e9; omega) (by intro b912 e912; rw [e1282] at e912; cases e912; show z1323.toInt = oS (pI P b1281) (21 * a1.toInt).toNat (z1325.toInt - 1 : Int).toNat; omega) (by intro b910 b915 e910 e915; rw [e1279] at e910; cases e910; rw [e1285] at e915; cases e915; show z1325.toInt ≤ ((pI P b1278 (a1.toInt.toNat)).toInt + (pI P b1284 (a1.toInt.toNat)).toInt) + 1; omega) (by show 0 ≤ z1323.toInt ∧ z1323.toInt ≤ 999 * (z1325.toInt - 1); omega)
  obtain ⟨b1327, e1328, h1329⟩ := I.fld (ha0) 10 13 2 rfl
  have hf0 := hf0 b1327 e1328
  have h1330 := I.arr e1328 rfl (a1.toInt.toNat)
  obtain ⟨b1331, e1332, h1333⟩ := I.fld (ha0) 15 13 3 rfl
  have h1334 := I.arr e1332 rfl (a1.toInt.toNat)
  obtain ⟨b1335, e1336, h1337⟩ := I.fld (ha0) 12 13 63 rfl
  have s0 := oS_zero (f := pI P b1335) (o := (21 * a1.toInt).toNat)
  refine g_iconst (v := 0) C dX12_howMany_0 (by decide) ?_
  refine g_istore_n (lv' := [(2, .int 0), (0, .ref a0), (1, .int a1)]) C dX12_howMany_1 rfl (by decide) rfl ?_
  refine g_iconst (v := 1) C dX12_howMany_2 (by decide) ?_
  refine g_istore_n (lv' := [(3, .int 1), (2, .int 0), (0, .ref a0), (1, .int a1)]) C dX12_howMany_3 rfl (by decide) rfl ?_
  refine g_lv (lv' := [(0, .ref a0), (1, .int a1), (2, .int 0), (3, .int 1)]) [2, 3, 1, 0] rfl ?_
  exact J4 _ 0 1 (Nat.lt_succ_self _) (by decide) (by decide) (fun b9 e9 => by rw [e1328] at e9; cases e9; omega) (by intro b912 e912; rw [e1336] at e912; cases e912; show 0 = oS (pI P b1335) (21 * a1.toInt).toNat (1 - 1 : Int).toNat; omega) (by intro b910 b915 e910 e915; rw [e1328] at e910; cases e910; rw [e1332] at e915; cases e915; show 1 ≤ ((pI P b1327 (a1.toInt.toNat)).toInt + (pI P b1331 (a1.toInt.toNat)).toInt) + 1; omega) (by show 0 ≤ 0 ∧ 0 ≤ 999 * (1 - 1); omega)
theorem dX12_setOf_28 : decode cX12_setOf 28 = .ok (.istore_n 3, 1) := by decide +kernel
theorem dX12_setOf_29 : decode cX12_setOf 29 = .ok (.iconst 0, 1) := by decide +kernel
theorem dX12_setOf_30 : decode cX12_setOf 30 = .ok (.istore 4, 2) := by decide +kernel
theorem dX12_setOf_32 : decode cX12_setOf 32 = .ok (.iconst 0, 1) := by decide +kernel
theorem dX12_setOf_33 : decode cX12_setOf 33 = .ok (.istore 5, 2) := by decide +kernel
theorem dX12_setOf_35 : decode cX12_setOf 35 = .ok (.iload 5, 2) := by decide +kernel
theorem dX12_setOf_37 : decode cX12_setOf 37 = .ok (.iload_n 3, 1) := by decide +kernel
theorem dX12_setOf_38 : decode cX12_setOf 38 = .ok (.if_icmp .ge 136, 3) := by decide +kernel
theorem dX12_setOf_41 : decode cX12_setOf 41 = .ok (.iconst 0, 1) := by decide +kernel
theorem dX12_setOf_42 : decode cX12_setOf 42 = .ok (.istore 6, 2) := by decide +kernel
theorem dX12_setOf_44 : decode cX12_setOf 44 = .ok (.iconst 0, 1) := by decide +kernel
theorem dX12_setOf_45 : decode cX12_setOf 45 = .ok (.istore 7, 2) := by decide +kernel
theorem dX12_setOf_47 : decode cX12_setOf 47 = .ok (.iload 7, 2) := by decide +kernel
theorem dX12_setOf_49 : decode cX12_setOf 49 = .ok (.aload_n 0, 1) := by decide +kernel
theorem dX12_setOf_50 : decode cX12_setOf 50 = .ok (.iload_n 1, 1) := by decide +kernel
theorem dX12_setOf_51 : decode cX12_setOf 51 = .ok (.invokevirtual 238, 3) := by decide +kernel
theorem dX12_setOf_54 : decode cX12_setOf 54 = .ok (.if_icmp .ge 35, 3) := by decide +kernel
theorem dX12_setOf_89 : decode cX12_setOf 89 = .ok (.aload_n 0, 1) := by decide +kernel
theorem dX12_setOf_90 : decode cX12_setOf 90 = .ok (.invokevirtual 244, 3) := by decide +kernel
theorem dX12_setOf_93 : decode cX12_setOf 93 = .ok (.iload 6, 2) := by decide +kernel
theorem dX12_setOf_95 : decode cX12_setOf 95 = .ok (.irem, 1) := by decide +kernel
theorem dX12_setOf_96 : decode cX12_setOf 96 = .ok (.istore 7, 2) := by decide +kernel
theorem dX12_setOf_98 : decode cX12_setOf 98 = .ok (.iconst 0, 1) := by decide +kernel
theorem dX12_setOf_99 : decode cX12_setOf 99 = .ok (.istore 8, 2) := by decide +kernel
theorem dX12_setOf_101 : decode cX12_setOf 101 = .ok (.iload 4, 2) := by decide +kernel
theorem dX12_setOf_103 : decode cX12_setOf 103 = .ok (.iconst 1, 1) := by decide +kernel
theorem dX12_setOf_104 : decode cX12_setOf 104 = .ok (.iand, 1) := by decide +kernel
theorem dX12_setOf_105 : decode cX12_setOf 105 = .ok (.ifCond .ne 12, 3) := by decide +kernel
theorem dX12_setOf_108 : decode cX12_setOf 108 = .ok (.aload_n 0, 1) := by decide +kernel
theorem dX12_setOf_109 : decode cX12_setOf 109 = .ok (.iload_n 1, 1) := by decide +kernel
theorem dX12_setOf_110 : decode cX12_setOf 110 = .ok (.iconst 0, 1) := by decide +kernel
theorem dX12_setOf_111 : decode cX12_setOf 111 = .ok (.invokevirtual 255, 3) := by decide +kernel
theorem dX12_setOf_117 : decode cX12_setOf 117 = .ok (.iconst 0, 1) := by decide +kernel
theorem dX12_weightOf_0 : decode cX12_weightOf 0 = .ok (.iload_n 2, 1) := by decide +kernel
theorem dX12_weightOf_1 : decode cX12_weightOf 1 = .ok (.aload_n 0, 1) := by decide +kernel
theorem dX12_weightOf_2 : decode cX12_weightOf 2 = .ok (.getfield 54, 3) := by decide +kernel
theorem dX12_weightOf_5 : decode cX12_weightOf 5 = .ok (.iload_n 1, 1) := by decide +kernel
theorem dX12_weightOf_6 : decode cX12_weightOf 6 = .ok (.iaload, 1) := by decide +kernel
theorem dX12_weightOf_7 : decode cX12_weightOf 7 = .ok (.if_icmp .ge 12, 3) := by decide +kernel
theorem dX12_weightOf_10 : decode cX12_weightOf 10 = .ok (.aload_n 0, 1) := by decide +kernel
theorem dX12_weightOf_11 : decode cX12_weightOf 11 = .ok (.getfield 57, 3) := by decide +kernel
theorem dX12_weightOf_14 : decode cX12_weightOf 14 = .ok (.iload_n 1, 1) := by decide +kernel
theorem dX12_weightOf_15 : decode cX12_weightOf 15 = .ok (.iaload, 1) := by decide +kernel
theorem dX12_weightOf_16 : decode cX12_weightOf 16 = .ok (.goto 4, 3) := by decide +kernel
theorem dX12_weightOf_19 : decode cX12_weightOf 19 = .ok (.iconst 1, 1) := by decide +kernel
theorem dX12_weightOf_20 : decode cX12_weightOf 20 = .ok (.ireturn, 1) := by decide +kernel
set_option maxHeartbeats 4000000 in
set_option maxRecDepth 100000 in
theorem s_X12_weightOf {P : PP} {a0 : Nat} {a1 : Int32} {a2 : Int32} (I : IM P a0) (ha1 : 0 ≤ a1.toInt ∧ a1.toInt ≤ 1) (ha2 : 0 ≤ a2.toInt ∧ a2.toInt ≤ 19) (hW : MW P a0) : CtrI yX12_weightOf cX12_weightOf 3 (some Jvm.ClassFile.FieldType.int) ({ frames := 1, cells := 0, slots := 0, locals := 64 } : Room) 0 0 P [.ref a0, .int a1, .int a2] (fun r P2 => P = P2 ∧ (0 ≤ r.toInt ∧ r.toInt ≤ 9) ∧ (∀ b c, pR P2 a0 13 = some b → pR P2 a0 14 = some c → r.toInt = wt (pI P2 b (a1.toInt.toNat)).toInt (pI P2 c (a1.toInt.toNat)).toInt a2.toInt.toNat)) := by
  refine enI (lv := [(0, .ref a0), (1, .int a1), (2, .int a2)]) (by decide) (Nat.le_of_ble_eq_true rfl) rfl (fun E D cy C Ci0 ret => ?_)
  have ha0 := I.2.1
  refine g_iload_n C dX12_weightOf_0 rfl 2 rfl ?_
  refine g_aload_n C dX12_weightOf_1 rfl 0 rfl ?_
  obtain ⟨b1487, e1488, h1489⟩ := I.fld (ha0) 13 13 3 rfl
  refine g_getR C fi_X12_54 rfl e1488 (ha0).1 (ha0).2 dX12_weightOf_2 ?_
  refine g_iload_n C dX12_weightOf_5 rfl 1 rfl ?_
  refine g_iald (j := (a1.toInt.toNat)) C h1489.1 h1489.2.1 (ix_in h1489.2.2 (by omega)) dX12_weightOf_6 ?_
  have u1491 := ti_rng (pI P b1487 (a1.toInt.toNat))
  refine b_icmp_ge C 19 dX12_weightOf_7 (by decide) (fun h1490 => ?_) (fun h1490 => ?_)
  · have h1490 : (pI P b1487 (a1.toInt.toNat)).toInt ≤ a2.toInt := h1490
    refine g_iconst (v := 1) C dX12_weightOf_19 (by decide) ?_
    obtain ⟨b1492, e1493, h1494⟩ := I.fld (ha0) 14 13 3 rfl
    exact ret _ _ _ _ _ _ dX12_weightOf_20 rfl (by decide) (by decide) ⟨rfl, (by decide), (fun b9 c9 e9 f9 => by rw [e1488] at e9; cases e9; rw [e1493] at f9; cases f9; show (1 : Int) = wt (pI P b1487 (a1.toInt.toNat)).toInt (pI P b1492 (a1.toInt.toNat)).toInt a2.toInt.toNat; unfold wt; split <;> omega)⟩
  · have h1490 : a2.toInt < (pI P b1487 (a1.toInt.toNat)).toInt := h1490
    refine g_aload_n C dX12_weightOf_10 rfl 0 rfl ?_
    obtain ⟨b1495, e1496, h1497⟩ := I.fld (ha0) 14 13 3 rfl
    refine g_getR C fi_X12_57 rfl e1496 (ha0).1 (ha0).2 dX12_weightOf_11 ?_
    refine g_iload_n C dX12_weightOf_14 rfl 1 rfl ?_
    refine g_iald (j := (a1.toInt.toNat)) C h1497.1 h1497.2.1 (ix_in h1497.2.2 (by omega)) dX12_weightOf_15 ?_
    have h1498 := I.arr e1496 rfl (a1.toInt.toNat)
    refine g_goto C 20 dX12_weightOf_16 (by decide) ?_
    exact ret _ _ _ _ _ _ dX12_weightOf_20 rfl (by decide) (by decide) ⟨rfl, (by omega), (fun b9 c9 e9 f9 => by rw [e1488] at e9; cases e9; rw [e1496] at f9; cases f9; show (pI P b1495 (a1.toInt.toNat)).toInt = wt (pI P b1487 (a1.toInt.toNat)).toInt (pI P b1495 (a1.toInt.toNat)).toInt a2.toInt.toNat; unfold wt; split <;> omega)⟩
theorem dX12_setOf_57 : decode cX12_setOf 57 = .ok (.iload 6, 2) := by decide +kernel
theorem dX12_setOf_59 : decode cX12_setOf 59 = .ok (.iload 4, 2) := by decide +kernel
theorem dX12_setOf_61 : decode cX12_setOf 61 = .ok (.iload 7, 2) := by decide +kernel
theorem dX12_setOf_63 : decode cX12_setOf 63 = .ok (.ishr, 1) := by decide +kernel
theorem dX12_setOf_64 : decode cX12_setOf 64 = .ok (.iconst 1, 1) := by decide +kernel
theorem dX12_setOf_65 : decode cX12_setOf 65 = .ok (.iand, 1) := by decide +kernel
theorem dX12_setOf_66 : decode cX12_setOf 66 = .ok (.ifCond .ne 13, 3) := by decide +kernel
theorem dX12_setOf_69 : decode cX12_setOf 69 = .ok (.aload_n 0, 1) := by decide +kernel
theorem dX12_setOf_70 : decode cX12_setOf 70 = .ok (.iload_n 1, 1) := by decide +kernel
theorem dX12_setOf_71 : decode cX12_setOf 71 = .ok (.iload 7, 2) := by decide +kernel
theorem dX12_setOf_73 : decode cX12_setOf 73 = .ok (.invokevirtual 255, 3) := by decide +kernel
theorem dX12_setOf_76 : decode cX12_setOf 76 = .ok (.goto 4, 3) := by decide +kernel
theorem dX12_setOf_79 : decode cX12_setOf 79 = .ok (.iconst 0, 1) := by decide +kernel
theorem dX12_setOf_80 : decode cX12_setOf 80 = .ok (.iadd, 1) := by decide +kernel
theorem dX12_setOf_81 : decode cX12_setOf 81 = .ok (.istore 6, 2) := by decide +kernel
theorem dX12_setOf_83 : decode cX12_setOf 83 = .ok (.iinc 7 1, 3) := by decide +kernel
theorem dX12_setOf_86 : decode cX12_setOf 86 = .ok (.goto (-39), 3) := by decide +kernel
theorem dX12_setOf_114 : decode cX12_setOf 114 = .ok (.goto 4, 3) := by decide +kernel
theorem dX12_setOf_118 : decode cX12_setOf 118 = .ok (.istore 9, 2) := by decide +kernel
theorem dX12_setOf_120 : decode cX12_setOf 120 = .ok (.iload 9, 2) := by decide +kernel
theorem dX12_setOf_122 : decode cX12_setOf 122 = .ok (.iload 7, 2) := by decide +kernel
theorem dX12_setOf_124 : decode cX12_setOf 124 = .ok (.if_icmp .gt 35, 3) := by decide +kernel
theorem dX12_setOf_127 : decode cX12_setOf 127 = .ok (.iinc 8 1, 3) := by decide +kernel
theorem dX12_setOf_130 : decode cX12_setOf 130 = .ok (.iload 9, 2) := by decide +kernel
theorem dX12_setOf_132 : decode cX12_setOf 132 = .ok (.iload 4, 2) := by decide +kernel
theorem dX12_setOf_134 : decode cX12_setOf 134 = .ok (.iload 8, 2) := by decide +kernel
theorem dX12_setOf_136 : decode cX12_setOf 136 = .ok (.ishr, 1) := by decide +kernel
theorem dX12_setOf_137 : decode cX12_setOf 137 = .ok (.iconst 1, 1) := by decide +kernel
theorem dX12_setOf_138 : decode cX12_setOf 138 = .ok (.iand, 1) := by decide +kernel
theorem dX12_setOf_139 : decode cX12_setOf 139 = .ok (.ifCond .ne 13, 3) := by decide +kernel
theorem dX12_setOf_142 : decode cX12_setOf 142 = .ok (.aload_n 0, 1) := by decide +kernel
theorem dX12_setOf_143 : decode cX12_setOf 143 = .ok (.iload_n 1, 1) := by decide +kernel
theorem dX12_setOf_144 : decode cX12_setOf 144 = .ok (.iload 8, 2) := by decide +kernel
theorem dX12_setOf_146 : decode cX12_setOf 146 = .ok (.invokevirtual 255, 3) := by decide +kernel
theorem dX12_setOf_149 : decode cX12_setOf 149 = .ok (.goto 4, 3) := by decide +kernel
theorem dX12_setOf_152 : decode cX12_setOf 152 = .ok (.iconst 0, 1) := by decide +kernel
theorem dX12_setOf_153 : decode cX12_setOf 153 = .ok (.iadd, 1) := by decide +kernel
theorem dX12_setOf_154 : decode cX12_setOf 154 = .ok (.istore 9, 2) := by decide +kernel
theorem dX12_setOf_156 : decode cX12_setOf 156 = .ok (.goto (-36), 3) := by decide +kernel
theorem dX12_setOf_159 : decode cX12_setOf 159 = .ok (.iload 4, 2) := by decide +kernel
theorem dX12_setOf_161 : decode cX12_setOf 161 = .ok (.iconst 1, 1) := by decide +kernel
theorem dX12_setOf_162 : decode cX12_setOf 162 = .ok (.iload 8, 2) := by decide +kernel
theorem dX12_setOf_164 : decode cX12_setOf 164 = .ok (.ishl, 1) := by decide +kernel
theorem dX12_setOf_165 : decode cX12_setOf 165 = .ok (.ior, 1) := by decide +kernel
theorem dX12_setOf_166 : decode cX12_setOf 166 = .ok (.istore 4, 2) := by decide +kernel
theorem dX12_setOf_168 : decode cX12_setOf 168 = .ok (.iinc 5 1, 3) := by decide +kernel
theorem dX12_setOf_171 : decode cX12_setOf 171 = .ok (.goto (-136), 3) := by decide +kernel
theorem dX12_setOf_174 : decode cX12_setOf 174 = .ok (.iload 4, 2) := by decide +kernel
theorem dX12_setOf_176 : decode cX12_setOf 176 = .ok (.ireturn, 1) := by decide +kernel
set_option maxHeartbeats 4000000 in
set_option maxRecDepth 100000 in
theorem s_X12_setOf {P : PP} {a0 : Nat} {a1 : Int32} {a2 : Int32} (I : IM P a0) (ha1 : 0 ≤ a1.toInt ∧ a1.toInt ≤ 1) (hf0 : ∀ b, pR P a0 10 = some b → 1 ≤ (pI P b (a1.toInt.toNat)).toInt ∧ (pI P b (a1.toInt.toNat)).toInt ≤ 16) (hW : MW P a0) : CtrI yX12_setOf cX12_setOf 10 (some Jvm.ClassFile.FieldType.int) ({ frames := 3, cells := 0, slots := 0, locals := 192 } : Room) 0 0 P [.ref a0, .int a1, .int a2] (fun r P2 => IM P2 a0 ∧ EM [] a0 P P2 ∧ MW P2 a0 ∧ (True)) := by
  refine enI (lv := [(0, .ref a0), (1, .int a1), (2, .int a2)]) (by decide) (Nat.le_of_ble_eq_true rfl) rfl (fun E D cy C Ci0 ret => ?_)
  have ha0 := I.2.1
  have J35 : ∀ (n35 : Nat) (P35 : PP) (v35_3 : Int32) (v35_4 : Int32) (v35_5 : Int32), (20 - v35_5.toInt).toNat < n35 → (IM P35 a0) → (EM [] a0 P P35) → (MW P35 a0) → (1 ≤ v35_3.toInt ∧ v35_3.toInt ≤ 20) → (0 ≤ v35_5.toInt ∧ v35_5.toInt ≤ 20) → (∀ b, pR P35 a0 10 = some b → 1 ≤ (pI P35 b (a1.toInt.toNat)).toInt ∧ (pI P35 b (a1.toInt.toNat)).toInt ≤ 16) → (cB v35_4 20 ≤ v35_5.toInt) → (0 ≤ v35_5.toInt) → (∀ b910 b915, pR P35 a0 10 = some b910 → pR P35 a0 15 = some b915 → v35_3.toInt ≤ ((pI P b910 (a1.toInt.toNat)).toInt + (pI P b915 (a1.toInt.toNat)).toInt)) → G E ({ frames := 3, cells := 0, slots := 0, locals := 192 } : Room) D cy 10 P35 0 0 35 [(0, .ref a0), (1, .int a1), (3, .int v35_3), (4, .int v35_4), (5, .int v35_5)] [] := by
    intro n35
    induction n35 with
    | zero => intro P35 v35_3 v35_4 v35_5 hm35 I35 X35 W35 hv35_3 hv35_5 hq35_0 rel35_0 rel35_1 rel35_2; omega
    | succ n35 ih35 =>
      intro P35 v35_3 v35_4 v35_5 hm35 I35 X35 W35 hv35_3 hv35_5 hq35_0 rel35_0 rel35_1 rel35_2
      have h5423 := X35.at ha0
      obtain ⟨b5424, e5425, h5426⟩ := I35.fld (h5423) 10 13 2 rfl
      have hq35_0 := hq35_0 b5424 e5425
      obtain ⟨b5427, e5428, h5429⟩ := I35.fld (h5423) 15 13 3 rfl
      have rel35_2 := rel35_2 b5424 b5427 e5425 e5428
      have h5430 := I.arr (EM.refB X35 ha0 e5425) rfl (a1.toInt.toNat)
      have h5431 := I.arr (EM.refB X35 ha0 e5428) rfl (a1.toInt.toNat)
      have J120 : ∀ (n120 : Nat) (P120 : PP) (v120_7 : Int32) (v120_8 : Int32) (v120_9 : Int32), (20 - v120_8.toInt).toNat < n120 → (IM P120 a0) → (EM [] a0 P P120) → (MW P120 a0) → (0 ≤ v35_5.toInt ∧ v35_5.toInt ≤ 19) → (-179 ≤ v120_7.toInt ∧ v120_7.toInt ≤ 179) → (0 ≤ v120_8.toInt ∧ v120_8.toInt ≤ 19) → (0 ≤ v120_9.toInt ∧ v120_9.toInt ≤ 180) → (∀ b, pR P120 a0 10 = some b → 1 ≤ (pI P120 b (a1.toInt.toNat)).toInt ∧ (pI P120 b (a1.toInt.toNat)).toInt ≤ 16) → (∀ b913 b914, pR P120 a0 13 = some b913 → pR P120 a0 14 = some b914 → v120_9.toInt = cS v35_4 (pI P b913 (a1.toInt.toNat)).toInt (pI P b914 (a1.toInt.toNat)).toInt (v120_8.toInt + 1 : Int).toNat) → (∀ b910 b915, pR P120 a0 10 = some b910 → pR P120 a0 15 = some b915 → 0 ≤ v120_8.toInt ∧ v120_8.toInt < ((pI P b910 (a1.toInt.toNat)).toInt + (pI P b915 (a1.toInt.toNat)).toInt)) → (∀ b910 b913 b914 b915, pR P120 a0 10 = some b910 → pR P120 a0 13 = some b913 → pR P120 a0 14 = some b914 → pR P120 a0 15 = some b915 → v120_7.toInt < cS v35_4 (pI P b913 (a1.toInt.toNat)).toInt (pI P b914 (a1.toInt.toNat)).toInt (((pI P b910 (a1.toInt.toNat)).toInt + (pI P b915 (a1.toInt.toNat)).toInt) : Int).toNat) → (0 ≤ v120_9.toInt ∧ v120_9.toInt ≤ 9 * (v120_8.toInt + 1)) → (∀ b910 b915, pR P120 a0 10 = some b910 → pR P120 a0 15 = some b915 → v35_3.toInt ≤ ((pI P b910 (a1.toInt.toNat)).toInt + (pI P b915 (a1.toInt.toNat)).toInt)) → (v35_5.toInt < v35_3.toInt) → G E ({ frames := 3, cells := 0, slots := 0, locals := 192 } : Room) D cy 10 P120 0 0 120 [(0, .ref a0), (1, .int a1), (3, .int v35_3), (4, .int v35_4), (5, .int v35_5), (7, .int v120_7), (8, .int v120_8), (9, .int v120_9)] [] := by
        intro n120
        induction n120 with
        | zero => intro P120 v120_7 v120_8 v120_9 hm120 I120 X120 W120 hv120_5 hv120_7 hv120_8 hv120_9 hq120_0 rel120_0 rel120_1 rel120_2 rel120_3 rel120_4 rel120_5; omega
        | succ n120 ih120 =>
          intro P120 v120_7 v120_8 v120_9 hm120 I120 X120 W120 hv120_5 hv120_7 hv120_8 hv120_9 hq120_0 rel120_0 rel120_1 rel120_2 rel120_3 rel120_4 rel120_5
          have h5432 := X120.at ha0
          obtain ⟨b5433, e5434, h5435⟩ := I120.fld (h5432) 10 13 2 rfl
          have hq120_0 := hq120_0 b5433 e5434
          obtain ⟨b5436, e5437, h5438⟩ := I120.fld (h5432) 13 13 3 rfl
          obtain ⟨b5439, e5440, h5441⟩ := I120.fld (h5432) 14 13 3 rfl
          have rel120_0 := rel120_0 b5436 b5439 e5437 e5440
          have h5442 := I.arr (EM.refB X120 ha0 e5440) rfl (a1.toInt.toNat)
          obtain ⟨b5443, e5444, h5445⟩ := I120.fld (h5432) 15 13 3 rfl
          have rel120_1 := rel120_1 b5433 b5443 e5434 e5444
          have h5446 := I.arr (EM.refB X120 ha0 e5434) rfl (a1.toInt.toNat)
          have h5447 := I.arr (EM.refB X120 ha0 e5444) rfl (a1.toInt.toNat)
          have rel120_2 := rel120_2 b5433 b5436 b5439 b5443 e5434 e5437 e5440 e5444
          have h5448 := I.arr (EM.refB X120 ha0 e5440) rfl (a1.toInt.toNat)
          have h5449 := I.arr (EM.refB X120 ha0 e5434) rfl (a1.toInt.toNat)
          have h5450 := I.arr (EM.refB X120 ha0 e5444) rfl (a1.toInt.toNat)
          have rel120_4 := rel120_4 b5433 b5443 e5434 e5444
          have h5451 := I.arr (EM.refB X120 ha0 e5434) rfl (a1.toInt.toNat)
          have h5452 := I.arr (EM.refB X120 ha0 e5444) rfl (a1.toInt.toNat)
          have J153 : ∀ (v153_8 : Int32) (v153_s0 : Int32), (0 ≤ v35_5.toInt ∧ v35_5.toInt ≤ 19) → (0 ≤ v120_7.toInt ∧ v120_7.toInt ≤ 179) → (1 ≤ v153_8.toInt ∧ v153_8.toInt ≤ 19) → (0 ≤ v153_s0.toInt ∧ v153_s0.toInt ≤ 9) → (0 ≤ v120_9.toInt ∧ v120_9.toInt ≤ 179) → (∀ b, pR P120 a0 10 = some b → 1 ≤ (pI P120 b (a1.toInt.toNat)).toInt ∧ (pI P120 b (a1.toInt.toNat)).toInt ≤ 16) → (∀ b913 b914, pR P120 a0 13 = some b913 → pR P120 a0 14 = some b914 → v120_9.toInt = cS v35_4 (pI P b913 (a1.toInt.toNat)).toInt (pI P b914 (a1.toInt.toNat)).toInt (v153_8.toInt : Int).toNat) → (∀ b913 b914, pR P120 a0 13 = some b913 → pR P120 a0 14 = some b914 → v153_s0.toInt = fS v35_4 (pI P b913 (a1.toInt.toNat)).toInt (pI P b914 (a1.toInt.toNat)).toInt (v153_8.toInt : Int).toNat) → (∀ b910 b915, pR P120 a0 10 = some b910 → pR P120 a0 15 = some b915 → 0 ≤ v153_8.toInt ∧ v153_8.toInt < ((pI P b910 (a1.toInt.toNat)).toInt + (pI P b915 (a1.toInt.toNat)).toInt)) → (∀ b910 b913 b914 b915, pR P120 a0 10 = some b910 → pR P120 a0 13 = some b913 → pR P120 a0 14 = some b914 → pR P120 a0 15 = some b915 → v120_7.toInt < cS v35_4 (pI P b913 (a1.toInt.toNat)).toInt (pI P b914 (a1.toInt.toNat)).toInt (((pI P b910 (a1.toInt.toNat)).toInt + (pI P b915 (a1.toInt.toNat)).toInt) : Int).toNat) → (0 ≤ v120_9.toInt ∧ v120_9.toInt ≤ 9 * v153_8.toInt) → (v153_8.toInt = v120_8.toInt + 1) → (∀ b910 b915, pR P120 a0 10 = some b910 → pR P120 a0 15 = some b915 → v35_3.toInt ≤ ((pI P b910 (a1.toInt.toNat)).toInt + (pI P b915 (a1.toInt.toNat)).toInt)) → (v35_5.toInt < v35_3.toInt) → G E ({ frames := 3, cells := 0, slots := 0, locals := 192 } : Room) D cy 10 P120 0 0 153 [(0, .ref a0), (1, .int a1), (3, .int v35_3), (4, .int v35_4), (5, .int v35_5), (7, .int v120_7), (8, .int v153_8)] [.int v153_s0, .int v120_9] := by
            intro v153_8 v153_s0 hv153_5 hv153_7 hv153_8 hv153_s0 hv153_s1 hq153_0 rel153_0 rel153_1 rel153_2 rel153_3 rel153_4 rel153_5 rel153_6 rel153_7
            have h5453 := X120.at ha0
            obtain ⟨b5454, e5455, h5456⟩ := I120.fld (h5453) 10 13 2 rfl
            have hq153_0 := hq153_0 b5454 e5455
            obtain ⟨b5457, e5458, h5459⟩ := I120.fld (h5453) 13 13 3 rfl
            obtain ⟨b5460, e5461, h5462⟩ := I120.fld (h5453) 14 13 3 rfl
            have rel153_0 := rel153_0 b5457 b5460 e5458 e5461
            have h5463 := I.arr (EM.refB X120 ha0 e5461) rfl (a1.toInt.toNat)
            have rel153_1 := rel153_1 b5457 b5460 e5458 e5461
            have h5464 := I.arr (EM.refB X120 ha0 e5461) rfl (a1.toInt.toNat)
            obtain ⟨b5465, e5466, h5467⟩ := I120.fld (h5453) 15 13 3 rfl
            have rel153_2 := rel153_2 b5454 b5465 e5455 e5466
            have h5468 := I.arr (EM.refB X120 ha0 e5455) rfl (a1.toInt.toNat)
            have h5469 := I.arr (EM.refB X120 ha0 e5466) rfl (a1.toInt.toNat)
            have rel153_3 := rel153_3 b5454 b5457 b5460 b5465 e5455 e5458 e5461 e5466
            have h5470 := I.arr (EM.refB X120 ha0 e5461) rfl (a1.toInt.toNat)
            have h5471 := I.arr (EM.refB X120 ha0 e5455) rfl (a1.toInt.toNat)
            have h5472 := I.arr (EM.refB X120 ha0 e5466) rfl (a1.toInt.toNat)
            have rel153_6 := rel153_6 b5454 b5465 e5455 e5466
            have h5473 := I.arr (EM.refB X120 ha0 e5455) rfl (a1.toInt.toNat)
            have h5474 := I.arr (EM.refB X120 ha0 e5466) rfl (a1.toInt.toNat)
            have hc := hW.1 b5454 b5460 (EM.refB X120 ha0 (e5455)) (EM.refB X120 ha0 (e5461)) (a1.toInt.toNat) (by omega) (by have h9 := hf0 _ (EM.refB X120 ha0 (e5455)); omega)
            have h5475 := I.arr (EM.refB X120 ha0 (e5455)) rfl (a1.toInt.toNat)
            have h5476 := I.arr (EM.refB X120 ha0 (e5461)) rfl (a1.toInt.toNat)
            have h5477 := I.arr (EM.refB X120 ha0 (e5466)) rfl (a1.toInt.toNat)
            have q5478 := X120.keepA (EM.refB X120 ha0 (e5455)) (by decide) rfl (a1.toInt.toNat)
            have q5479 := X120.keepA (EM.refB X120 ha0 (e5461)) (by decide) rfl (a1.toInt.toNat)
            have q5480 := X120.keepA (EM.refB X120 ha0 (e5466)) (by decide) rfl (a1.toInt.toNat)
            refine s_iadd C dX12_setOf_153 (by show -2147483648 ≤ v120_9.toInt + v153_s0.toInt ∧ v120_9.toInt + v153_s0.toInt ≤ 2147483647; omega) (fun z5481 h5482 => ?_)
            have h5482 : z5481.toInt = v120_9.toInt + v153_s0.toInt := h5482
            refine g_istore (lv' := [(9, .int z5481), (0, .ref a0), (1, .int a1), (3, .int v35_3), (4, .int v35_4), (5, .int v35_5), (7, .int v120_7), (8, .int v153_8)]) C dX12_setOf_154 (by decide) rfl ?_
            have st := cS_step (s := v35_4) (a := (pI P b5457 (a1.toInt.toNat)).toInt) (c := (pI P b5460 (a1.toInt.toNat)).toInt) (d := v153_8.toInt) (d2 := v153_8.toInt + 1) (by omega) (by omega)
            refine g_goto C 120 dX12_setOf_156 (by decide) ?_
            refine g_lv (lv' := [(0, .ref a0), (1, .int a1), (3, .int v35_3), (4, .int v35_4), (5, .int v35_5), (7, .int v120_7), (8, .int v153_8), (9, .int z5481)]) [1, 2, 3, 4, 5, 6, 7, 0] rfl ?_
            exact ih120 P120 v120_7 v153_8 z5481 (by omega) I120 X120 W120 (by omega) (by omega) (by omega) (by omega) (fun b9 e9 => by rw [e5455] at e9; cases e9; omega) (by intro b913 b914 e913 e914; rw [e5458] at e913; cases e913; rw [e5461] at e914; cases e914; show z5481.toInt = cS v35_4 (pI P b5457 (a1.toInt.toNat)).toInt (pI P b5460 (a1.toInt.toNat)).toInt (v153_8.toInt + 1 : Int).toNat; omega) (by intro b910 b915 e910 e915; rw [e5455] at e910; cases e910; rw [e5466] at e915; cases e915; show 0 ≤ v153_8.toInt ∧ v153_8.toInt < ((pI P b5454 (a1.toInt.toNat)).toInt + (pI P b5465 (a1.toInt.toNat)).toInt); omega) (by intro b910 b913 b914 b915 e910 e913 e914 e915; rw [e5455] at e910; cases e910; rw [e5458] at e913; cases e913; rw [e5461] at e914; cases e914; rw [e5466] at e915; cases e915; show v120_7.toInt < cS v35_4 (pI P b5457 (a1.toInt.toNat)).toInt (pI P b5460 (a1.toInt.toNat)).toInt (((pI P b5454 (a1.toInt.toNat)).toInt + (pI P b5465 (a1.toInt.toNat)).toInt) : Int).toNat; omega) (by show 0 ≤ z5481.toInt ∧ z5481.toInt ≤ 9 * (v153_8.toInt + 1); omega) (by intro b910 b915 e910 e915; rw [e5455] at e910; cases e910; rw [e5466] at e915; cases e915; show v35_3.toInt ≤ ((pI P b5454 (a1.toInt.toNat)).toInt + (pI P b5465 (a1.toInt.toNat)).toInt); omega) (by show v35_5.toInt < v35_3.toInt; omega)
          have hc := hW.1 b5433 b5439 (EM.refB X120 ha0 (e5434)) (EM.refB X120 ha0 (e5440)) (a1.toInt.toNat) (by omega) (by have h9 := hf0 _ (EM.refB X120 ha0 (e5434)); omega)
          have h5483 := I.arr (EM.refB X120 ha0 (e5434)) rfl (a1.toInt.toNat)
          have h5484 := I.arr (EM.refB X120 ha0 (e5440)) rfl (a1.toInt.toNat)
          have h5485 := I.arr (EM.refB X120 ha0 (e5444)) rfl (a1.toInt.toNat)
          have q5486 := X120.keepA (EM.refB X120 ha0 (e5434)) (by decide) rfl (a1.toInt.toNat)
          have q5487 := X120.keepA (EM.refB X120 ha0 (e5440)) (by decide) rfl (a1.toInt.toNat)
          have q5488 := X120.keepA (EM.refB X120 ha0 (e5444)) (by decide) rfl (a1.toInt.toNat)
          refine g_iload C dX12_setOf_120 7 rfl ?_
          refine g_iload C dX12_setOf_122 5 rfl ?_
          refine b_icmp_gt C 159 dX12_setOf_124 (by decide) (fun h5489 => ?_) (fun h5489 => ?_)
          · have h5489 : v120_7.toInt < v120_9.toInt := h5489
            refine g_iload C dX12_setOf_159 3 rfl ?_
            refine g_iconst (v := 1) C dX12_setOf_161 (by decide) ?_
            refine g_iload C dX12_setOf_162 6 rfl ?_
            refine g_ishl C dX12_setOf_164 ?_
            refine g_topi (fun z5490 h5491 => ?_)
            refine g_ior C dX12_setOf_165 ?_
            refine g_topi (fun z5492 h5493 => ?_)
            have hcb := set_bit h5491 h5493 (by omega)
            refine g_istore (lv' := [(4, .int z5492), (0, .ref a0), (1, .int a1), (3, .int v35_3), (5, .int v35_5), (7, .int v120_7), (8, .int v120_8), (9, .int v120_9)]) C dX12_setOf_166 (by decide) rfl ?_
            refine s_iinc (lv0 := [(4, .int z5492), (0, .ref a0), (1, .int a1), (3, .int v35_3), (7, .int v120_7), (8, .int v120_8), (9, .int v120_9)]) (m := 1) C dX12_setOf_168 4 rfl (by decide) rfl (by decide) (by omega) (fun z5494 h5495 => ?_)
            have h5495 : z5494.toInt = v35_5.toInt + 1 := h5495
            refine g_goto C 35 dX12_setOf_171 (by decide) ?_
            refine g_lv (lv' := [(0, .ref a0), (1, .int a1), (3, .int v35_3), (4, .int z5492), (5, .int z5494)]) [2, 3, 4, 1, 0] rfl ?_
            exact ih35 P120 v35_3 z5492 z5494 (by omega) I120 X120 W120 (by omega) (by omega) (fun b9 e9 => by rw [e5434] at e9; cases e9; omega) (by show cB z5492 20 ≤ z5494.toInt; omega) (by show 0 ≤ z5494.toInt; omega) (by intro b910 b915 e910 e915; rw [e5434] at e910; cases e910; rw [e5444] at e915; cases e915; show v35_3.toInt ≤ ((pI P b5433 (a1.toInt.toNat)).toInt + (pI P b5443 (a1.toInt.toNat)).toInt); omega)
          · have h5489 : v120_9.toInt ≤ v120_7.toInt := h5489
            have hd : v120_8.toInt + 1 ≠ (pI P b5433 (a1.toInt.toNat)).toInt + (pI P b5443 (a1.toInt.toNat)).toInt := fun h9 => by have h8 := rel120_2; rw [show ((pI P b5433 (a1.toInt.toNat)).toInt + (pI P b5443 (a1.toInt.toNat)).toInt).toNat = (v120_8.toInt + 1).toNat by omega] at h8; omega
            refine s_iinc (lv0 := [(0, .ref a0), (1, .int a1), (3, .int v35_3), (4, .int v35_4), (5, .int v35_5), (7, .int v120_7), (9, .int v120_9)]) (m := 1) C dX12_setOf_127 6 rfl (by decide) rfl (by decide) (by omega) (fun z5496 h5497 => ?_)
            have h5497 : z5496.toInt = v120_8.toInt + 1 := h5497
            have hcz : cS v35_4 ((pI P b5436 (a1.toInt.toNat)).toInt) ((pI P b5439 (a1.toInt.toNat)).toInt) (v120_8.toInt + 1).toNat = cS v35_4 ((pI P b5436 (a1.toInt.toNat)).toInt) ((pI P b5439 (a1.toInt.toNat)).toInt) (z5496.toInt).toNat := by rw [show v120_8.toInt + 1 = z5496.toInt by omega]
            refine g_iload C dX12_setOf_130 7 rfl ?_
            refine g_iload C dX12_setOf_132 4 rfl ?_
            refine g_iload C dX12_setOf_134 0 rfl ?_
            refine g_ishr C dX12_setOf_136 ?_
            refine g_topi (fun z5498 h5499 => ?_)
            refine g_iconst (v := 1) C dX12_setOf_137 (by decide) ?_
            refine g_iand C dX12_setOf_138 ?_
            refine g_topi (fun z5500 h5501 => ?_)
            have hbv := bit_val h5499 h5501 (by omega)
            have hfs := fS_of (p := (z5496.toInt).toNat) ((pI P b5436 (a1.toInt.toNat)).toInt) ((pI P b5439 (a1.toInt.toNat)).toInt) hbv
            have hwr := wt_rg (a := (pI P b5436 (a1.toInt.toNat)).toInt) (z5496.toInt).toNat (show 1 ≤ (pI P b5439 (a1.toInt.toNat)).toInt ∧ (pI P b5439 (a1.toInt.toNat)).toInt ≤ 9 by omega)
            refine b_if_ne C 152 dX12_setOf_139 (by decide) (fun h5502 => ?_) (fun h5502 => ?_)
            · have h5502 : z5500.toInt ≠ 0 := ti_ne h5502
              refine g_iconst (v := 0) C dX12_setOf_152 (by decide) ?_
              refine g_lv (lv' := [(0, .ref a0), (1, .int a1), (3, .int v35_3), (4, .int v35_4), (5, .int v35_5), (7, .int v120_7), (8, .int z5496)]) [1, 2, 3, 4, 5, 6, 0] rfl ?_
              exact J153 z5496 0 (by omega) (by omega) (by omega) (by decide) (by omega) (fun b9 e9 => by rw [e5434] at e9; cases e9; omega) (by intro b913 b914 e913 e914; rw [e5437] at e913; cases e913; rw [e5440] at e914; cases e914; show v120_9.toInt = cS v35_4 (pI P b5436 (a1.toInt.toNat)).toInt (pI P b5439 (a1.toInt.toNat)).toInt (z5496.toInt : Int).toNat; omega) (by intro b913 b914 e913 e914; rw [e5437] at e913; cases e913; rw [e5440] at e914; cases e914; show 0 = fS v35_4 (pI P b5436 (a1.toInt.toNat)).toInt (pI P b5439 (a1.toInt.toNat)).toInt (z5496.toInt : Int).toNat; omega) (by intro b910 b915 e910 e915; rw [e5434] at e910; cases e910; rw [e5444] at e915; cases e915; show 0 ≤ z5496.toInt ∧ z5496.toInt < ((pI P b5433 (a1.toInt.toNat)).toInt + (pI P b5443 (a1.toInt.toNat)).toInt); omega) (by intro b910 b913 b914 b915 e910 e913 e914 e915; rw [e5434] at e910; cases e910; rw [e5437] at e913; cases e913; rw [e5440] at e914; cases e914; rw [e5444] at e915; cases e915; show v120_7.toInt < cS v35_4 (pI P b5436 (a1.toInt.toNat)).toInt (pI P b5439 (a1.toInt.toNat)).toInt (((pI P b5433 (a1.toInt.toNat)).toInt + (pI P b5443 (a1.toInt.toNat)).toInt) : Int).toNat; omega) (by show 0 ≤ v120_9.toInt ∧ v120_9.toInt ≤ 9 * z5496.toInt; omega) (by show z5496.toInt = v120_8.toInt + 1; omega) (by intro b910 b915 e910 e915; rw [e5434] at e910; cases e910; rw [e5444] at e915; cases e915; show v35_3.toInt ≤ ((pI P b5433 (a1.toInt.toNat)).toInt + (pI P b5443 (a1.toInt.toNat)).toInt); omega) (by show v35_5.toInt < v35_3.toInt; omega)
            · have h5502 : z5500.toInt = 0 := congrArg Int32.toInt h5502
              refine g_aload_n C dX12_setOf_142 rfl 1 rfl ?_
              refine g_iload_n C dX12_setOf_143 rfl 2 rfl ?_
              refine g_iload C dX12_setOf_144 0 rfl ?_
              refine g_callVI (rest := [.int v120_9]) C mv_X12_255 [.int a1, .int z5496] (s_X12_weightOf I120 (by omega) (by omega) W120) (h5432).1 (h5432).2 rfl rfl (by decide) (Nat.le_of_ble_eq_true rfl) (by decide) dX12_setOf_146 (fun r5503 Y5504 h5505 => ?_)
              obtain ⟨rfl, h5505⟩ := h5505
              obtain ⟨h5505, hi5506⟩ := h5505
              have hi5506 := hi5506 b5436 b5439 e5437 e5440
              rw [X120.2.2.2 13 (by decide) rfl b5436 (EM.refB X120 ha0 e5437), X120.2.2.2 14 (by decide) rfl b5439 (EM.refB X120 ha0 e5440)] at hi5506
              have hi5506 : r5503.toInt = wt (pI P b5436 (a1.toInt.toNat)).toInt (pI P b5439 (a1.toInt.toNat)).toInt (z5496.toInt).toNat := hi5506
              have h5505 : 0 ≤ r5503.toInt ∧ r5503.toInt ≤ 9 := h5505
              refine g_goto C 153 dX12_setOf_149 (by decide) ?_
              refine g_lv (lv' := [(0, .ref a0), (1, .int a1), (3, .int v35_3), (4, .int v35_4), (5, .int v35_5), (7, .int v120_7), (8, .int z5496)]) [1, 2, 3, 4, 5, 6, 0] rfl ?_
              exact J153 z5496 r5503 (by omega) (by omega) (by omega) (by omega) (by omega) (fun b9 e9 => by rw [e5434] at e9; cases e9; omega) (by intro b913 b914 e913 e914; rw [e5437] at e913; cases e913; rw [e5440] at e914; cases e914; show v120_9.toInt = cS v35_4 (pI P b5436 (a1.toInt.toNat)).toInt (pI P b5439 (a1.toInt.toNat)).toInt (z5496.toInt : Int).toNat; omega) (by intro b913 b914 e913 e914; rw [e5437] at e913; cases e913; rw [e5440] at e914; cases e914; show r5503.toInt = fS v35_4 (pI P b5436 (a1.toInt.toNat)).toInt (pI P b5439 (a1.toInt.toNat)).toInt (z5496.toInt : Int).toNat; omega) (by intro b910 b915 e910 e915; rw [e5434] at e910; cases e910; rw [e5444] at e915; cases e915; show 0 ≤ z5496.toInt ∧ z5496.toInt < ((pI P b5433 (a1.toInt.toNat)).toInt + (pI P b5443 (a1.toInt.toNat)).toInt); omega) (by intro b910 b913 b914 b915 e910 e913 e914 e915; rw [e5434] at e910; cases e910; rw [e5437] at e913; cases e913; rw [e5440] at e914; cases e914; rw [e5444] at e915; cases e915; show v120_7.toInt < cS v35_4 (pI P b5436 (a1.toInt.toNat)).toInt (pI P b5439 (a1.toInt.toNat)).toInt (((pI P b5433 (a1.toInt.toNat)).toInt + (pI P b5443 (a1.toInt.toNat)).toInt) : Int).toNat; omega) (by show 0 ≤ v120_9.toInt ∧ v120_9.toInt ≤ 9 * z5496.toInt; omega) (by show z5496.toInt = v120_8.toInt + 1; omega) (by intro b910 b915 e910 e915; rw [e5434] at e910; cases e910; rw [e5444] at e915; cases e915; show v35_3.toInt ≤ ((pI P b5433 (a1.toInt.toNat)).toInt + (pI P b5443 (a1.toInt.toNat)).toInt); omega) (by show v35_5.toInt < v35_3.toInt; omega)
      have J118 : ∀ (P118 : PP) (v118_7 : Int32) (v118_s0 : Int32), (IM P118 a0) → (EM [] a0 P P118) → (MW P118 a0) → (0 ≤ v35_5.toInt ∧ v35_5.toInt ≤ 19) → (-179 ≤ v118_7.toInt ∧ v118_7.toInt ≤ 179) → (0 ≤ v118_s0.toInt ∧ v118_s0.toInt ≤ 9) → (∀ b, pR P118 a0 10 = some b → 1 ≤ (pI P118 b (a1.toInt.toNat)).toInt ∧ (pI P118 b (a1.toInt.toNat)).toInt ≤ 16) → (∀ b913 b914, pR P118 a0 13 = some b913 → pR P118 a0 14 = some b914 → v118_s0.toInt = fS v35_4 (pI P b913 (a1.toInt.toNat)).toInt (pI P b914 (a1.toInt.toNat)).toInt (0 : Int).toNat) → (∀ b910 b913 b914 b915, pR P118 a0 10 = some b910 → pR P118 a0 13 = some b913 → pR P118 a0 14 = some b914 → pR P118 a0 15 = some b915 → v118_7.toInt < cS v35_4 (pI P b913 (a1.toInt.toNat)).toInt (pI P b914 (a1.toInt.toNat)).toInt (((pI P b910 (a1.toInt.toNat)).toInt + (pI P b915 (a1.toInt.toNat)).toInt) : Int).toNat) → (∀ b910 b915, pR P118 a0 10 = some b910 → pR P118 a0 15 = some b915 → v35_3.toInt ≤ ((pI P b910 (a1.toInt.toNat)).toInt + (pI P b915 (a1.toInt.toNat)).toInt)) → (v35_5.toInt < v35_3.toInt) → G E ({ frames := 3, cells := 0, slots := 0, locals := 192 } : Room) D cy 10 P118 0 0 118 [(0, .ref a0), (1, .int a1), (3, .int v35_3), (4, .int v35_4), (5, .int v35_5), (7, .int v118_7), (8, .int 0)] [.int v118_s0] := by
        intro P118 v118_7 v118_s0 I118 X118 W118 hv118_5 hv118_7 hv118_s0 hq118_0 rel118_0 rel118_1 rel118_2 rel118_3
        have h5507 := X118.at ha0
        obtain ⟨b5508, e5509, h5510⟩ := I118.fld (h5507) 10 13 2 rfl
        have hq118_0 := hq118_0 b5508 e5509
        obtain ⟨b5511, e5512, h5513⟩ := I118.fld (h5507) 13 13 3 rfl
        obtain ⟨b5514, e5515, h5516⟩ := I118.fld (h5507) 14 13 3 rfl
        have rel118_0 := rel118_0 b5511 b5514 e5512 e5515
        have h5517 := I.arr (EM.refB X118 ha0 e5515) rfl (a1.toInt.toNat)
        obtain ⟨b5518, e5519, h5520⟩ := I118.fld (h5507) 15 13 3 rfl
        have rel118_1 := rel118_1 b5508 b5511 b5514 b5518 e5509 e5512 e5515 e5519
        have h5521 := I.arr (EM.refB X118 ha0 e5515) rfl (a1.toInt.toNat)
        have h5522 := I.arr (EM.refB X118 ha0 e5509) rfl (a1.toInt.toNat)
        have h5523 := I.arr (EM.refB X118 ha0 e5519) rfl (a1.toInt.toNat)
        have rel118_2 := rel118_2 b5508 b5518 e5509 e5519
        have h5524 := I.arr (EM.refB X118 ha0 e5509) rfl (a1.toInt.toNat)
        have h5525 := I.arr (EM.refB X118 ha0 e5519) rfl (a1.toInt.toNat)
        have hc := hW.1 b5508 b5514 (EM.refB X118 ha0 (e5509)) (EM.refB X118 ha0 (e5515)) (a1.toInt.toNat) (by omega) (by have h9 := hf0 _ (EM.refB X118 ha0 (e5509)); omega)
        have h5526 := I.arr (EM.refB X118 ha0 (e5509)) rfl (a1.toInt.toNat)
        have h5527 := I.arr (EM.refB X118 ha0 (e5515)) rfl (a1.toInt.toNat)
        have h5528 := I.arr (EM.refB X118 ha0 (e5519)) rfl (a1.toInt.toNat)
        have q5529 := X118.keepA (EM.refB X118 ha0 (e5509)) (by decide) rfl (a1.toInt.toNat)
        have q5530 := X118.keepA (EM.refB X118 ha0 (e5515)) (by decide) rfl (a1.toInt.toNat)
        have q5531 := X118.keepA (EM.refB X118 ha0 (e5519)) (by decide) rfl (a1.toInt.toNat)
        have s1 := cS_one (s := v35_4) (a := (pI P b5511 (a1.toInt.toNat)).toInt) (c := (pI P b5514 (a1.toInt.toNat)).toInt)
        refine g_istore (lv' := [(9, .int v118_s0), (0, .ref a0), (1, .int a1), (3, .int v35_3), (4, .int v35_4), (5, .int v35_5), (7, .int v118_7), (8, .int 0)]) C dX12_setOf_118 (by decide) rfl ?_
        refine g_lv (lv' := [(0, .ref a0), (1, .int a1), (3, .int v35_3), (4, .int v35_4), (5, .int v35_5), (7, .int v118_7), (8, .int 0), (9, .int v118_s0)]) [1, 2, 3, 4, 5, 6, 7, 0] rfl ?_
        exact J120 _ P118 v118_7 0 v118_s0 (Nat.lt_succ_self _) I118 X118 W118 (by omega) (by omega) (by decide) (by omega) (fun b9 e9 => by rw [e5509] at e9; cases e9; omega) (by intro b913 b914 e913 e914; rw [e5512] at e913; cases e913; rw [e5515] at e914; cases e914; show v118_s0.toInt = cS v35_4 (pI P b5511 (a1.toInt.toNat)).toInt (pI P b5514 (a1.toInt.toNat)).toInt (0 + 1 : Int).toNat; omega) (by intro b910 b915 e910 e915; rw [e5509] at e910; cases e910; rw [e5519] at e915; cases e915; show 0 ≤ 0 ∧ 0 < ((pI P b5508 (a1.toInt.toNat)).toInt + (pI P b5518 (a1.toInt.toNat)).toInt); omega) (by intro b910 b913 b914 b915 e910 e913 e914 e915; rw [e5509] at e910; cases e910; rw [e5512] at e913; cases e913; rw [e5515] at e914; cases e914; rw [e5519] at e915; cases e915; show v118_7.toInt < cS v35_4 (pI P b5511 (a1.toInt.toNat)).toInt (pI P b5514 (a1.toInt.toNat)).toInt (((pI P b5508 (a1.toInt.toNat)).toInt + (pI P b5518 (a1.toInt.toNat)).toInt) : Int).toNat; omega) (by show 0 ≤ v118_s0.toInt ∧ v118_s0.toInt ≤ 9 * (0 + 1); omega) (by intro b910 b915 e910 e915; rw [e5509] at e910; cases e910; rw [e5519] at e915; cases e915; show v35_3.toInt ≤ ((pI P b5508 (a1.toInt.toNat)).toInt + (pI P b5518 (a1.toInt.toNat)).toInt); omega) (by show v35_5.toInt < v35_3.toInt; omega)
      have J47 : ∀ (n47 : Nat) (v47_6 : Int32) (v47_7 : Int32), (20 - v47_7.toInt).toNat < n47 → (0 ≤ v35_5.toInt ∧ v35_5.toInt ≤ 19) → (0 ≤ v47_6.toInt ∧ v47_6.toInt ≤ 180) → (0 ≤ v47_7.toInt ∧ v47_7.toInt ≤ 20) → (∀ b, pR P35 a0 10 = some b → 1 ≤ (pI P35 b (a1.toInt.toNat)).toInt ∧ (pI P35 b (a1.toInt.toNat)).toInt ≤ 16) → (∀ b913 b914, pR P35 a0 13 = some b913 → pR P35 a0 14 = some b914 → v47_6.toInt = cS v35_4 (pI P b913 (a1.toInt.toNat)).toInt (pI P b914 (a1.toInt.toNat)).toInt (v47_7.toInt : Int).toNat) → (∀ b910 b915, pR P35 a0 10 = some b910 → pR P35 a0 15 = some b915 → v47_7.toInt ≤ ((pI P b910 (a1.toInt.toNat)).toInt + (pI P b915 (a1.toInt.toNat)).toInt)) → (0 ≤ v47_6.toInt ∧ v47_6.toInt ≤ 9 * v47_7.toInt) → (∀ b910 b915, pR P35 a0 10 = some b910 → pR P35 a0 15 = some b915 → v35_3.toInt ≤ ((pI P b910 (a1.toInt.toNat)).toInt + (pI P b915 (a1.toInt.toNat)).toInt)) → (v35_5.toInt < v35_3.toInt) → G E ({ frames := 3, cells := 0, slots := 0, locals := 192 } : Room) D cy 10 P35 0 0 47 [(0, .ref a0), (1, .int a1), (3, .int v35_3), (4, .int v35_4), (5, .int v35_5), (6, .int v47_6), (7, .int v47_7)] [] := by
        intro n47
        induction n47 with
        | zero => intro v47_6 v47_7 hm47 hv47_5 hv47_6 hv47_7 hq47_0 rel47_0 rel47_1 rel47_2 rel47_3 rel47_4; omega
        | succ n47 ih47 =>
          intro v47_6 v47_7 hm47 hv47_5 hv47_6 hv47_7 hq47_0 rel47_0 rel47_1 rel47_2 rel47_3 rel47_4
          have h5532 := X35.at ha0
          obtain ⟨b5533, e5534, h5535⟩ := I35.fld (h5532) 10 13 2 rfl
          have hq47_0 := hq47_0 b5533 e5534
          obtain ⟨b5536, e5537, h5538⟩ := I35.fld (h5532) 13 13 3 rfl
          obtain ⟨b5539, e5540, h5541⟩ := I35.fld (h5532) 14 13 3 rfl
          have rel47_0 := rel47_0 b5536 b5539 e5537 e5540
          have h5542 := I.arr (EM.refB X35 ha0 e5540) rfl (a1.toInt.toNat)
          obtain ⟨b5543, e5544, h5545⟩ := I35.fld (h5532) 15 13 3 rfl
          have rel47_1 := rel47_1 b5533 b5543 e5534 e5544
          have h5546 := I.arr (EM.refB X35 ha0 e5534) rfl (a1.toInt.toNat)
          have h5547 := I.arr (EM.refB X35 ha0 e5544) rfl (a1.toInt.toNat)
          have rel47_3 := rel47_3 b5533 b5543 e5534 e5544
          have h5548 := I.arr (EM.refB X35 ha0 e5534) rfl (a1.toInt.toNat)
          have h5549 := I.arr (EM.refB X35 ha0 e5544) rfl (a1.toInt.toNat)
          have J80 : ∀ (v80_s0 : Int32), (0 ≤ v35_5.toInt ∧ v35_5.toInt ≤ 19) → (0 ≤ v47_7.toInt ∧ v47_7.toInt ≤ 19) → (0 ≤ v80_s0.toInt ∧ v80_s0.toInt ≤ 9) → (∀ b, pR P35 a0 10 = some b → 1 ≤ (pI P35 b (a1.toInt.toNat)).toInt ∧ (pI P35 b (a1.toInt.toNat)).toInt ≤ 16) → (∀ b913 b914, pR P35 a0 13 = some b913 → pR P35 a0 14 = some b914 → v47_6.toInt = cS v35_4 (pI P b913 (a1.toInt.toNat)).toInt (pI P b914 (a1.toInt.toNat)).toInt (v47_7.toInt : Int).toNat) → (∀ b913 b914, pR P35 a0 13 = some b913 → pR P35 a0 14 = some b914 → v80_s0.toInt = fS v35_4 (pI P b913 (a1.toInt.toNat)).toInt (pI P b914 (a1.toInt.toNat)).toInt (v47_7.toInt : Int).toNat) → (∀ b910 b915, pR P35 a0 10 = some b910 → pR P35 a0 15 = some b915 → 0 ≤ v47_7.toInt ∧ v47_7.toInt < ((pI P b910 (a1.toInt.toNat)).toInt + (pI P b915 (a1.toInt.toNat)).toInt)) → (0 ≤ v47_6.toInt ∧ v47_6.toInt ≤ 9 * v47_7.toInt) → (∀ b910 b915, pR P35 a0 10 = some b910 → pR P35 a0 15 = some b915 → v35_3.toInt ≤ ((pI P b910 (a1.toInt.toNat)).toInt + (pI P b915 (a1.toInt.toNat)).toInt)) → (v35_5.toInt < v35_3.toInt) → G E ({ frames := 3, cells := 0, slots := 0, locals := 192 } : Room) D cy 10 P35 0 0 80 [(0, .ref a0), (1, .int a1), (3, .int v35_3), (4, .int v35_4), (5, .int v35_5), (7, .int v47_7)] [.int v80_s0, .int v47_6] := by
            intro v80_s0 hv80_5 hv80_7 hv80_s0 hq80_0 rel80_0 rel80_1 rel80_2 rel80_3 rel80_4 rel80_5
            have h5550 := X35.at ha0
            obtain ⟨b5551, e5552, h5553⟩ := I35.fld (h5550) 10 13 2 rfl
            have hq80_0 := hq80_0 b5551 e5552
            obtain ⟨b5554, e5555, h5556⟩ := I35.fld (h5550) 13 13 3 rfl
            obtain ⟨b5557, e5558, h5559⟩ := I35.fld (h5550) 14 13 3 rfl
            have rel80_0 := rel80_0 b5554 b5557 e5555 e5558
            have h5560 := I.arr (EM.refB X35 ha0 e5558) rfl (a1.toInt.toNat)
            have rel80_1 := rel80_1 b5554 b5557 e5555 e5558
            have h5561 := I.arr (EM.refB X35 ha0 e5558) rfl (a1.toInt.toNat)
            obtain ⟨b5562, e5563, h5564⟩ := I35.fld (h5550) 15 13 3 rfl
            have rel80_2 := rel80_2 b5551 b5562 e5552 e5563
            have h5565 := I.arr (EM.refB X35 ha0 e5552) rfl (a1.toInt.toNat)
            have h5566 := I.arr (EM.refB X35 ha0 e5563) rfl (a1.toInt.toNat)
            have rel80_4 := rel80_4 b5551 b5562 e5552 e5563
            have h5567 := I.arr (EM.refB X35 ha0 e5552) rfl (a1.toInt.toNat)
            have h5568 := I.arr (EM.refB X35 ha0 e5563) rfl (a1.toInt.toNat)
            have hc := hW.1 b5551 b5557 (EM.refB X35 ha0 (e5552)) (EM.refB X35 ha0 (e5558)) (a1.toInt.toNat) (by omega) (by have h9 := hf0 _ (EM.refB X35 ha0 (e5552)); omega)
            have h5569 := I.arr (EM.refB X35 ha0 (e5552)) rfl (a1.toInt.toNat)
            have h5570 := I.arr (EM.refB X35 ha0 (e5558)) rfl (a1.toInt.toNat)
            have h5571 := I.arr (EM.refB X35 ha0 (e5563)) rfl (a1.toInt.toNat)
            have q5572 := X35.keepA (EM.refB X35 ha0 (e5552)) (by decide) rfl (a1.toInt.toNat)
            have q5573 := X35.keepA (EM.refB X35 ha0 (e5558)) (by decide) rfl (a1.toInt.toNat)
            have q5574 := X35.keepA (EM.refB X35 ha0 (e5563)) (by decide) rfl (a1.toInt.toNat)
            refine s_iadd C dX12_setOf_80 (by show -2147483648 ≤ v47_6.toInt + v80_s0.toInt ∧ v47_6.toInt + v80_s0.toInt ≤ 2147483647; omega) (fun z5575 h5576 => ?_)
            have h5576 : z5575.toInt = v47_6.toInt + v80_s0.toInt := h5576
            refine g_istore (lv' := [(6, .int z5575), (0, .ref a0), (1, .int a1), (3, .int v35_3), (4, .int v35_4), (5, .int v35_5), (7, .int v47_7)]) C dX12_setOf_81 (by decide) rfl ?_
            refine s_iinc (lv0 := [(6, .int z5575), (0, .ref a0), (1, .int a1), (3, .int v35_3), (4, .int v35_4), (5, .int v35_5)]) (m := 1) C dX12_setOf_83 6 rfl (by decide) rfl (by decide) (by omega) (fun z5577 h5578 => ?_)
            have h5578 : z5577.toInt = v47_7.toInt + 1 := h5578
            have st := cS_step (s := v35_4) (a := (pI P b5554 (a1.toInt.toNat)).toInt) (c := (pI P b5557 (a1.toInt.toNat)).toInt) (d := v47_7.toInt) (d2 := z5577.toInt) (by omega) (by omega)
            refine g_goto C 47 dX12_setOf_86 (by decide) ?_
            refine g_lv (lv' := [(0, .ref a0), (1, .int a1), (3, .int v35_3), (4, .int v35_4), (5, .int v35_5), (6, .int z5575), (7, .int z5577)]) [2, 3, 4, 5, 6, 1, 0] rfl ?_
            exact ih47 z5575 z5577 (by omega) (by omega) (by omega) (by omega) (fun b9 e9 => by rw [e5552] at e9; cases e9; omega) (by intro b913 b914 e913 e914; rw [e5555] at e913; cases e913; rw [e5558] at e914; cases e914; show z5575.toInt = cS v35_4 (pI P b5554 (a1.toInt.toNat)).toInt (pI P b5557 (a1.toInt.toNat)).toInt (z5577.toInt : Int).toNat; omega) (by intro b910 b915 e910 e915; rw [e5552] at e910; cases e910; rw [e5563] at e915; cases e915; show z5577.toInt ≤ ((pI P b5551 (a1.toInt.toNat)).toInt + (pI P b5562 (a1.toInt.toNat)).toInt); omega) (by show 0 ≤ z5575.toInt ∧ z5575.toInt ≤ 9 * z5577.toInt; omega) (by intro b910 b915 e910 e915; rw [e5552] at e910; cases e910; rw [e5563] at e915; cases e915; show v35_3.toInt ≤ ((pI P b5551 (a1.toInt.toNat)).toInt + (pI P b5562 (a1.toInt.toNat)).toInt); omega) (by show v35_5.toInt < v35_3.toInt; omega)
          have hc := hW.1 b5533 b5539 (EM.refB X35 ha0 (e5534)) (EM.refB X35 ha0 (e5540)) (a1.toInt.toNat) (by omega) (by have h9 := hf0 _ (EM.refB X35 ha0 (e5534)); omega)
          have h5579 := I.arr (EM.refB X35 ha0 (e5534)) rfl (a1.toInt.toNat)
          have h5580 := I.arr (EM.refB X35 ha0 (e5540)) rfl (a1.toInt.toNat)
          have h5581 := I.arr (EM.refB X35 ha0 (e5544)) rfl (a1.toInt.toNat)
          have q5582 := X35.keepA (EM.refB X35 ha0 (e5534)) (by decide) rfl (a1.toInt.toNat)
          have q5583 := X35.keepA (EM.refB X35 ha0 (e5540)) (by decide) rfl (a1.toInt.toNat)
          have q5584 := X35.keepA (EM.refB X35 ha0 (e5544)) (by decide) rfl (a1.toInt.toNat)
          refine g_iload C dX12_setOf_47 6 rfl ?_
          refine g_aload_n C dX12_setOf_49 rfl 0 rfl ?_
          refine g_iload_n C dX12_setOf_50 rfl 1 rfl ?_
          refine g_callVI (rest := [.int v47_7]) C mv_X12_238 [.int a1] (s_X12_allOf I35 (by omega) W35) (h5532).1 (h5532).2 rfl rfl (by decide) (Nat.le_of_ble_eq_true rfl) (by decide) dX12_setOf_51 (fun r5585 Y5586 h5587 => ?_)
          obtain ⟨rfl, h5587⟩ := h5587
          obtain ⟨h5587, hi5588⟩ := h5587
          have hi5588 : (r5585.toInt = 0 ∧ (pI P35 b5533 (a1.toInt.toNat)).toInt = 0) ∨ r5585.toInt = (pI P35 b5533 (a1.toInt.toNat)).toInt + (pI P35 b5543 (a1.toInt.toNat)).toInt := hi5588 b5533 b5543 e5534 e5544
          have h5587 : 0 ≤ r5585.toInt ∧ r5585.toInt ≤ 20 := h5587
          refine b_icmp_ge C 89 dX12_setOf_54 (by decide) (fun h5589 => ?_) (fun h5589 => ?_)
          · have h5589 : r5585.toInt ≤ v47_7.toInt := h5589
            have htot : v47_6.toInt = cS v35_4 ((pI P b5536 (a1.toInt.toNat)).toInt) ((pI P b5539 (a1.toInt.toNat)).toInt) ((pI P b5533 (a1.toInt.toNat)).toInt + (pI P b5543 (a1.toInt.toNat)).toInt).toNat := by rw [show ((pI P b5533 (a1.toInt.toNat)).toInt + (pI P b5543 (a1.toInt.toNat)).toInt).toNat = v47_7.toInt.toNat by omega]; omega
            have hps := cS_pos (s := v35_4) (a := (pI P b5536 (a1.toInt.toNat)).toInt) (c := (pI P b5539 (a1.toInt.toNat)).toInt) (N := (pI P b5533 (a1.toInt.toNat)).toInt + (pI P b5543 (a1.toInt.toNat)).toInt) (by omega) (by omega) (by omega)
            refine g_aload_n C dX12_setOf_89 rfl 0 rfl ?_
            refine g_callVI (rest := []) C mv_X12_244 [] (s_X12_drawn I35 W35) (h5532).1 (h5532).2 rfl rfl (by decide) (Nat.le_of_ble_eq_true rfl) (by decide) dX12_setOf_90 (fun r5590 Y5591 h5592 => ?_)
            obtain ⟨Iy5593, Xy5594, W5595, h5592⟩ := h5592
            have q5596 := Xy5594.keepA e5534 (by decide) rfl (a1.toInt.toNat)
            have q5597 := Xy5594.keepA e5537 (by decide) rfl (a1.toInt.toNat)
            have q5598 := Xy5594.keepA e5540 (by decide) rfl (a1.toInt.toNat)
            have q5599 := Xy5594.keepA e5544 (by decide) rfl (a1.toInt.toNat)
            have Xz5600 : EM [] a0 P Y5591 := EM.tr ha0 X35 (Xy5594.mono (by decide))
            have e5601 := Xy5594.ref h5532 (by decide) e5534
            have e5602 := Xy5594.ref h5532 (by decide) e5537
            have e5603 := Xy5594.ref h5532 (by decide) e5540
            have e5604 := Xy5594.ref h5532 (by decide) e5544
            have h5605 := Xy5594.at h5532
            have h5606 := Xy5594.ar h5535
            have h5607 := Xy5594.ar h5538
            have h5608 := Xy5594.ar h5541
            have h5609 := Xy5594.ar h5545
            have h5592 : True := h5592
            refine g_iload C dX12_setOf_93 5 rfl ?_
            refine s_irem C dX12_setOf_95 (by show 0 < v47_6.toInt; omega) (fun z5610 h5611 => ?_)
            have h5611 : -v47_6.toInt < z5610.toInt ∧ z5610.toInt < v47_6.toInt := h5611
            refine g_istore (lv' := [(7, .int z5610), (0, .ref a0), (1, .int a1), (3, .int v35_3), (4, .int v35_4), (5, .int v35_5), (6, .int v47_6)]) C dX12_setOf_96 (by decide) rfl ?_
            refine g_iconst (v := 0) C dX12_setOf_98 (by decide) ?_
            refine g_istore (lv' := [(8, .int 0), (7, .int z5610), (0, .ref a0), (1, .int a1), (3, .int v35_3), (4, .int v35_4), (5, .int v35_5), (6, .int v47_6)]) C dX12_setOf_99 (by decide) rfl ?_
            refine g_iload C dX12_setOf_101 5 rfl ?_
            refine g_iconst (v := 1) C dX12_setOf_103 (by decide) ?_
            refine g_iand C dX12_setOf_104 ?_
            refine g_topi (fun z5612 h5613 => ?_)
            have hbv : z5612.toInt = bI v35_4 (0 : Int).toNat := by rw [h5613]; exact and1_val _
            have hfs := fS_of (p := (0 : Int).toNat) ((pI P b5536 (a1.toInt.toNat)).toInt) ((pI P b5539 (a1.toInt.toNat)).toInt) hbv
            have hwr := wt_rg (a := (pI P b5536 (a1.toInt.toNat)).toInt) (0 : Int).toNat (show 1 ≤ (pI P b5539 (a1.toInt.toNat)).toInt ∧ (pI P b5539 (a1.toInt.toNat)).toInt ≤ 9 by omega)
            refine b_if_ne C 117 dX12_setOf_105 (by decide) (fun h5614 => ?_) (fun h5614 => ?_)
            · have h5614 : z5612.toInt ≠ 0 := ti_ne h5614
              refine g_iconst (v := 0) C dX12_setOf_117 (by decide) ?_
              refine g_lv (lv' := [(0, .ref a0), (1, .int a1), (3, .int v35_3), (4, .int v35_4), (5, .int v35_5), (7, .int z5610), (8, .int 0)]) [2, 3, 4, 5, 6, 1, 0] rfl ?_
              exact J118 Y5591 z5610 0 Iy5593 Xz5600 W5595 (by omega) (by omega) (by decide) (fun b9 e9 => by rw [e5601] at e9; cases e9; omega) (by intro b913 b914 e913 e914; rw [e5602] at e913; cases e913; rw [e5603] at e914; cases e914; show 0 = fS v35_4 (pI P b5536 (a1.toInt.toNat)).toInt (pI P b5539 (a1.toInt.toNat)).toInt (0 : Int).toNat; omega) (by intro b910 b913 b914 b915 e910 e913 e914 e915; rw [e5601] at e910; cases e910; rw [e5602] at e913; cases e913; rw [e5603] at e914; cases e914; rw [e5604] at e915; cases e915; show z5610.toInt < cS v35_4 (pI P b5536 (a1.toInt.toNat)).toInt (pI P b5539 (a1.toInt.toNat)).toInt (((pI P b5533 (a1.toInt.toNat)).toInt + (pI P b5543 (a1.toInt.toNat)).toInt) : Int).toNat; omega) (by intro b910 b915 e910 e915; rw [e5601] at e910; cases e910; rw [e5604] at e915; cases e915; show v35_3.toInt ≤ ((pI P b5533 (a1.toInt.toNat)).toInt + (pI P b5543 (a1.toInt.toNat)).toInt); omega) (by show v35_5.toInt < v35_3.toInt; omega)
            · have h5614 : z5612.toInt = 0 := congrArg Int32.toInt h5614
              refine g_aload_n C dX12_setOf_108 rfl 2 rfl ?_
              refine g_iload_n C dX12_setOf_109 rfl 3 rfl ?_
              refine g_iconst (v := 0) C dX12_setOf_110 (by decide) ?_
              refine g_callVI (rest := []) C mv_X12_255 [.int a1, .int 0] (s_X12_weightOf Iy5593 (by omega) (by decide) W5595) (h5605).1 (h5605).2 rfl rfl (by decide) (Nat.le_of_ble_eq_true rfl) (by decide) dX12_setOf_111 (fun r5615 Y5616 h5617 => ?_)
              obtain ⟨rfl, h5617⟩ := h5617
              obtain ⟨h5617, hi5618⟩ := h5617
              have hi5618 := hi5618 b5536 b5539 e5602 e5603
              rw [Xz5600.2.2.2 13 (by decide) rfl b5536 (EM.refB Xz5600 ha0 e5602), Xz5600.2.2.2 14 (by decide) rfl b5539 (EM.refB Xz5600 ha0 e5603)] at hi5618
              have hi5618 : r5615.toInt = wt (pI P b5536 (a1.toInt.toNat)).toInt (pI P b5539 (a1.toInt.toNat)).toInt (0 : Int).toNat := hi5618
              have h5617 : 0 ≤ r5615.toInt ∧ r5615.toInt ≤ 9 := h5617
              refine g_goto C 118 dX12_setOf_114 (by decide) ?_
              refine g_lv (lv' := [(0, .ref a0), (1, .int a1), (3, .int v35_3), (4, .int v35_4), (5, .int v35_5), (7, .int z5610), (8, .int 0)]) [2, 3, 4, 5, 6, 1, 0] rfl ?_
              exact J118 Y5591 z5610 r5615 Iy5593 Xz5600 W5595 (by omega) (by omega) (by omega) (fun b9 e9 => by rw [e5601] at e9; cases e9; omega) (by intro b913 b914 e913 e914; rw [e5602] at e913; cases e913; rw [e5603] at e914; cases e914; show r5615.toInt = fS v35_4 (pI P b5536 (a1.toInt.toNat)).toInt (pI P b5539 (a1.toInt.toNat)).toInt (0 : Int).toNat; omega) (by intro b910 b913 b914 b915 e910 e913 e914 e915; rw [e5601] at e910; cases e910; rw [e5602] at e913; cases e913; rw [e5603] at e914; cases e914; rw [e5604] at e915; cases e915; show z5610.toInt < cS v35_4 (pI P b5536 (a1.toInt.toNat)).toInt (pI P b5539 (a1.toInt.toNat)).toInt (((pI P b5533 (a1.toInt.toNat)).toInt + (pI P b5543 (a1.toInt.toNat)).toInt) : Int).toNat; omega) (by intro b910 b915 e910 e915; rw [e5601] at e910; cases e910; rw [e5604] at e915; cases e915; show v35_3.toInt ≤ ((pI P b5533 (a1.toInt.toNat)).toInt + (pI P b5543 (a1.toInt.toNat)).toInt); omega) (by show v35_5.toInt < v35_3.toInt; omega)
          · have h5589 : v47_7.toInt < r5585.toInt := h5589
            refine g_iload C dX12_setOf_57 5 rfl ?_
            refine g_iload C dX12_setOf_59 3 rfl ?_
            refine g_iload C dX12_setOf_61 6 rfl ?_
            refine g_ishr C dX12_setOf_63 ?_
            refine g_topi (fun z5619 h5620 => ?_)
            refine g_iconst (v := 1) C dX12_setOf_64 (by decide) ?_
            refine g_iand C dX12_setOf_65 ?_
            refine g_topi (fun z5621 h5622 => ?_)
            have hbv := bit_val h5620 h5622 (by omega)
            have hfs := fS_of (p := (v47_7.toInt).toNat) ((pI P b5536 (a1.toInt.toNat)).toInt) ((pI P b5539 (a1.toInt.toNat)).toInt) hbv
            have hwr := wt_rg (a := (pI P b5536 (a1.toInt.toNat)).toInt) (v47_7.toInt).toNat (show 1 ≤ (pI P b5539 (a1.toInt.toNat)).toInt ∧ (pI P b5539 (a1.toInt.toNat)).toInt ≤ 9 by omega)
            refine b_if_ne C 79 dX12_setOf_66 (by decide) (fun h5623 => ?_) (fun h5623 => ?_)
            · have h5623 : z5621.toInt ≠ 0 := ti_ne h5623
              refine g_iconst (v := 0) C dX12_setOf_79 (by decide) ?_
              refine g_lv (lv' := [(0, .ref a0), (1, .int a1), (3, .int v35_3), (4, .int v35_4), (5, .int v35_5), (7, .int v47_7)]) [0, 1, 2, 3, 4, 6] rfl ?_
              exact J80 0 (by omega) (by omega) (by decide) (fun b9 e9 => by rw [e5534] at e9; cases e9; omega) (by intro b913 b914 e913 e914; rw [e5537] at e913; cases e913; rw [e5540] at e914; cases e914; show v47_6.toInt = cS v35_4 (pI P b5536 (a1.toInt.toNat)).toInt (pI P b5539 (a1.toInt.toNat)).toInt (v47_7.toInt : Int).toNat; omega) (by intro b913 b914 e913 e914; rw [e5537] at e913; cases e913; rw [e5540] at e914; cases e914; show 0 = fS v35_4 (pI P b5536 (a1.toInt.toNat)).toInt (pI P b5539 (a1.toInt.toNat)).toInt (v47_7.toInt : Int).toNat; omega) (by intro b910 b915 e910 e915; rw [e5534] at e910; cases e910; rw [e5544] at e915; cases e915; show 0 ≤ v47_7.toInt ∧ v47_7.toInt < ((pI P b5533 (a1.toInt.toNat)).toInt + (pI P b5543 (a1.toInt.toNat)).toInt); omega) (by show 0 ≤ v47_6.toInt ∧ v47_6.toInt ≤ 9 * v47_7.toInt; omega) (by intro b910 b915 e910 e915; rw [e5534] at e910; cases e910; rw [e5544] at e915; cases e915; show v35_3.toInt ≤ ((pI P b5533 (a1.toInt.toNat)).toInt + (pI P b5543 (a1.toInt.toNat)).toInt); omega) (by show v35_5.toInt < v35_3.toInt; omega)
            · have h5623 : z5621.toInt = 0 := congrArg Int32.toInt h5623
              refine g_aload_n C dX12_setOf_69 rfl 0 rfl ?_
              refine g_iload_n C dX12_setOf_70 rfl 1 rfl ?_
              refine g_iload C dX12_setOf_71 6 rfl ?_
              refine g_callVI (rest := [.int v47_6]) C mv_X12_255 [.int a1, .int v47_7] (s_X12_weightOf I35 (by omega) (by omega) W35) (h5532).1 (h5532).2 rfl rfl (by decide) (Nat.le_of_ble_eq_true rfl) (by decide) dX12_setOf_73 (fun r5624 Y5625 h5626 => ?_)
              obtain ⟨rfl, h5626⟩ := h5626
              obtain ⟨h5626, hi5627⟩ := h5626
              have hi5627 := hi5627 b5536 b5539 e5537 e5540
              rw [X35.2.2.2 13 (by decide) rfl b5536 (EM.refB X35 ha0 e5537), X35.2.2.2 14 (by decide) rfl b5539 (EM.refB X35 ha0 e5540)] at hi5627
              have hi5627 : r5624.toInt = wt (pI P b5536 (a1.toInt.toNat)).toInt (pI P b5539 (a1.toInt.toNat)).toInt (v47_7.toInt).toNat := hi5627
              have h5626 : 0 ≤ r5624.toInt ∧ r5624.toInt ≤ 9 := h5626
              refine g_goto C 80 dX12_setOf_76 (by decide) ?_
              refine g_lv (lv' := [(0, .ref a0), (1, .int a1), (3, .int v35_3), (4, .int v35_4), (5, .int v35_5), (7, .int v47_7)]) [0, 1, 2, 3, 4, 6] rfl ?_
              exact J80 r5624 (by omega) (by omega) (by omega) (fun b9 e9 => by rw [e5534] at e9; cases e9; omega) (by intro b913 b914 e913 e914; rw [e5537] at e913; cases e913; rw [e5540] at e914; cases e914; show v47_6.toInt = cS v35_4 (pI P b5536 (a1.toInt.toNat)).toInt (pI P b5539 (a1.toInt.toNat)).toInt (v47_7.toInt : Int).toNat; omega) (by intro b913 b914 e913 e914; rw [e5537] at e913; cases e913; rw [e5540] at e914; cases e914; show r5624.toInt = fS v35_4 (pI P b5536 (a1.toInt.toNat)).toInt (pI P b5539 (a1.toInt.toNat)).toInt (v47_7.toInt : Int).toNat; omega) (by intro b910 b915 e910 e915; rw [e5534] at e910; cases e910; rw [e5544] at e915; cases e915; show 0 ≤ v47_7.toInt ∧ v47_7.toInt < ((pI P b5533 (a1.toInt.toNat)).toInt + (pI P b5543 (a1.toInt.toNat)).toInt); omega) (by show 0 ≤ v47_6.toInt ∧ v47_6.toInt ≤ 9 * v47_7.toInt; omega) (by intro b910 b915 e910 e915; rw [e5534] at e910; cases e910; rw [e5544] at e915; cases e915; show v35_3.toInt ≤ ((pI P b5533 (a1.toInt.toNat)).toInt + (pI P b5543 (a1.toInt.toNat)).toInt); omega) (by show v35_5.toInt < v35_3.toInt; omega)
      obtain ⟨b5628, e5629, h5630⟩ := I35.fld (h5423) 13 13 3 rfl
      obtain ⟨b5631, e5632, h5633⟩ := I35.fld (h5423) 14 13 3 rfl
      have hc := hW.1 b5424 b5631 (EM.refB X35 ha0 (e5425)) (EM.refB X35 ha0 (e5632)) (a1.toInt.toNat) (by omega) (by have h9 := hf0 _ (EM.refB X35 ha0 (e5425)); omega)
      have h5634 := I.arr (EM.refB X35 ha0 (e5425)) rfl (a1.toInt.toNat)
      have h5635 := I.arr (EM.refB X35 ha0 (e5632)) rfl (a1.toInt.toNat)
      have h5636 := I.arr (EM.refB X35 ha0 (e5428)) rfl (a1.toInt.toNat)
      have q5637 := X35.keepA (EM.refB X35 ha0 (e5425)) (by decide) rfl (a1.toInt.toNat)
      have q5638 := X35.keepA (EM.refB X35 ha0 (e5632)) (by decide) rfl (a1.toInt.toNat)
      have q5639 := X35.keepA (EM.refB X35 ha0 (e5428)) (by decide) rfl (a1.toInt.toNat)
      refine g_iload C dX12_setOf_35 4 rfl ?_
      refine g_iload_n C dX12_setOf_37 rfl 2 rfl ?_
      refine b_icmp_ge C 174 dX12_setOf_38 (by decide) (fun h5640 => ?_) (fun h5640 => ?_)
      · have h5640 : v35_3.toInt ≤ v35_5.toInt := h5640
        refine g_iload C dX12_setOf_174 3 rfl ?_
        exact ret _ _ _ _ _ _ dX12_setOf_176 rfl (by decide) (by decide) ⟨I35, X35, W35, trivial⟩
      · have h5640 : v35_5.toInt < v35_3.toInt := h5640
        refine g_iconst (v := 0) C dX12_setOf_41 (by decide) ?_
        refine g_istore (lv' := [(6, .int 0), (0, .ref a0), (1, .int a1), (3, .int v35_3), (4, .int v35_4), (5, .int v35_5)]) C dX12_setOf_42 (by decide) rfl ?_
        have s0 : cS v35_4 ((pI P b5628 (a1.toInt.toNat)).toInt) ((pI P b5631 (a1.toInt.toNat)).toInt) (0 : Int).toNat = 0 := rfl
        refine g_iconst (v := 0) C dX12_setOf_44 (by decide) ?_
        refine g_istore (lv' := [(7, .int 0), (6, .int 0), (0, .ref a0), (1, .int a1), (3, .int v35_3), (4, .int v35_4), (5, .int v35_5)]) C dX12_setOf_45 (by decide) rfl ?_
        refine g_lv (lv' := [(0, .ref a0), (1, .int a1), (3, .int v35_3), (4, .int v35_4), (5, .int v35_5), (6, .int 0), (7, .int 0)]) [2, 3, 4, 5, 6, 1, 0] rfl ?_
        exact J47 _ 0 0 (Nat.lt_succ_self _) (by omega) (by decide) (by decide) (fun b9 e9 => by rw [e5425] at e9; cases e9; omega) (by intro b913 b914 e913 e914; rw [e5629] at e913; cases e913; rw [e5632] at e914; cases e914; show 0 = cS v35_4 (pI P b5628 (a1.toInt.toNat)).toInt (pI P b5631 (a1.toInt.toNat)).toInt (0 : Int).toNat; omega) (by intro b910 b915 e910 e915; rw [e5425] at e910; cases e910; rw [e5428] at e915; cases e915; show 0 ≤ ((pI P b5424 (a1.toInt.toNat)).toInt + (pI P b5427 (a1.toInt.toNat)).toInt); omega) (by show 0 ≤ 0 ∧ 0 ≤ 9 * 0; omega) (by intro b910 b915 e910 e915; rw [e5425] at e910; cases e910; rw [e5428] at e915; cases e915; show v35_3.toInt ≤ ((pI P b5424 (a1.toInt.toNat)).toInt + (pI P b5427 (a1.toInt.toNat)).toInt); omega) (by show v35_5.toInt < v35_3.toInt; omega)
  obtain ⟨b5641, e5642, h5643⟩ := I.fld (ha0) 10 13 2 rfl
  have hf0 := hf0 b5641 e5642
  obtain ⟨b5644, e5645, h5646⟩ := I.fld (ha0) 13 13 3 rfl
  obtain ⟨b5647, e5648, h5649⟩ := I.fld (ha0) 14 13 3 rfl
  obtain ⟨b5650, e5651, h5652⟩ := I.fld (ha0) 15 13 3 rfl
  have hc := hW.1 b5641 b5647 e5642 e5648 (a1.toInt.toNat) (by omega) (by omega)
  have hz9 := cB_zero
  have h5653 := I.arr (e5642) rfl (a1.toInt.toNat)
  have h5654 := I.arr (e5648) rfl (a1.toInt.toNat)
  have h5655 := I.arr (e5651) rfl (a1.toInt.toNat)
  refine g_aload_n C dX12_setOf_0 rfl 0 rfl ?_
  refine g_iload_n C dX12_setOf_1 rfl 2 rfl ?_
  refine a_i2l C dX12_setOf_2 (fun l5656 => ?_)
  refine g_ldc2 (v := 7919) C kl_X12_248 dX12_setOf_3 ?_
  refine g_topl (fun l5657 el5657 => ?_)
  have hz_l5657 : ¬ l5657 = 0 := by rw [el5657]; decide
  refine a_lmul C dX12_setOf_6 (fun l5658 => ?_)
  refine g_iload_n C dX12_setOf_7 rfl 1 rfl ?_
  refine a_i2l C dX12_setOf_8 (fun l5659 => ?_)
  refine g_ldc2 (v := 104729) C kl_X12_250 dX12_setOf_9 ?_
  refine g_topl (fun l5660 el5660 => ?_)
  have hz_l5660 : ¬ l5660 = 0 := by rw [el5660]; decide
  refine a_lmul C dX12_setOf_12 (fun l5661 => ?_)
  refine a_ladd C dX12_setOf_13 (fun l5662 => ?_)
  refine g_lconst (v := 1) C dX12_setOf_14 (by decide) ?_
  refine a_ladd C dX12_setOf_15 (fun l5663 => ?_)
  refine g_ldc2 (v := 2147483648) C kl_X12_234 dX12_setOf_16 ?_
  refine g_topl (fun l5664 el5664 => ?_)
  have hz_l5664 : ¬ l5664 = 0 := by rw [el5664]; decide
  refine a_lrem C dX12_setOf_19 hz_l5664 (fun l5665 => ?_)
  refine g_putJ C fi_X12_226 rfl (ha0).1 (ha0).2 dX12_setOf_20 ?_
  refine gq (ks := []) (I.setJ) (EM.setJ) (fun Y5666 Iy5667 Xy5668 => ?_)
  have q5669 := Xy5668.keepA e5642 (by decide) rfl (a1.toInt.toNat)
  have q5670 := Xy5668.keepA e5645 (by decide) rfl (a1.toInt.toNat)
  have q5671 := Xy5668.keepA e5648 (by decide) rfl (a1.toInt.toNat)
  have q5672 := Xy5668.keepA e5651 (by decide) rfl (a1.toInt.toNat)
  have W5673 := hW.keep I Xy5668 (by decide) (by decide) (by decide)
  have Xz5674 : EM [] a0 P Y5666 := Xy5668.mono (by decide)
  have e5675 := Xy5668.ref ha0 (by decide) e5642
  have e5676 := Xy5668.ref ha0 (by decide) e5645
  have e5677 := Xy5668.ref ha0 (by decide) e5648
  have e5678 := Xy5668.ref ha0 (by decide) e5651
  have h5679 := Xy5668.at ha0
  have h5680 := Xy5668.ar h5643
  have h5681 := Xy5668.ar h5646
  have h5682 := Xy5668.ar h5649
  have h5683 := Xy5668.ar h5652
  refine g_aload_n C dX12_setOf_23 rfl 0 rfl ?_
  refine g_iload_n C dX12_setOf_24 rfl 1 rfl ?_
  refine g_callVI (rest := []) C mv_X12_252 [.int a1] (s_X12_howMany Iy5667 (by omega) (fun b9 e9 => by rw [e5675] at e9; cases e9; show 1 ≤ (pI Y5666 b5641 (a1.toInt.toNat)).toInt ∧ (pI Y5666 b5641 (a1.toInt.toNat)).toInt ≤ 16; omega) W5673) (h5679).1 (h5679).2 rfl rfl (by decide) (Nat.le_of_ble_eq_true rfl) (by decide) dX12_setOf_25 (fun r5684 Y5685 h5686 => ?_)
  obtain ⟨Iy5687, Xy5688, W5689, h5686⟩ := h5686
  have q5690 := Xy5688.keepA e5675 (by decide) rfl (a1.toInt.toNat)
  have q5691 := Xy5688.keepA e5676 (by decide) rfl (a1.toInt.toNat)
  have q5692 := Xy5688.keepA e5677 (by decide) rfl (a1.toInt.toNat)
  have q5693 := Xy5688.keepA e5678 (by decide) rfl (a1.toInt.toNat)
  have Xz5694 : EM [] a0 P Y5685 := EM.tr ha0 Xz5674 (Xy5688.mono (by decide))
  have e5695 := Xy5688.ref h5679 (by decide) e5675
  have e5696 := Xy5688.ref h5679 (by decide) e5676
  have e5697 := Xy5688.ref h5679 (by decide) e5677
  have e5698 := Xy5688.ref h5679 (by decide) e5678
  have h5699 := Xy5688.at h5679
  have h5700 := Xy5688.ar h5680
  have h5701 := Xy5688.ar h5681
  have h5702 := Xy5688.ar h5682
  have h5703 := Xy5688.ar h5683
  obtain ⟨h5686, hi5704⟩ := h5686
  have hi5704 : r5684.toInt ≤ (pI Y5685 b5641 (a1.toInt.toNat)).toInt + (pI Y5685 b5650 (a1.toInt.toNat)).toInt := hi5704 b5641 b5650 e5695 e5698
  have h5686 : 1 ≤ r5684.toInt ∧ r5684.toInt ≤ 20 := h5686
  refine g_istore_n (lv' := [(3, .int r5684), (0, .ref a0), (1, .int a1), (2, .int a2)]) C dX12_setOf_28 rfl (by decide) rfl ?_
  refine g_iconst (v := 0) C dX12_setOf_29 (by decide) ?_
  refine g_istore (lv' := [(4, .int 0), (3, .int r5684), (0, .ref a0), (1, .int a1), (2, .int a2)]) C dX12_setOf_30 (by decide) rfl ?_
  refine g_iconst (v := 0) C dX12_setOf_32 (by decide) ?_
  refine g_istore (lv' := [(5, .int 0), (4, .int 0), (3, .int r5684), (0, .ref a0), (1, .int a1), (2, .int a2)]) C dX12_setOf_33 (by decide) rfl ?_
  refine g_lv (lv' := [(0, .ref a0), (1, .int a1), (3, .int r5684), (4, .int 0), (5, .int 0)]) [3, 4, 2, 1, 0] rfl ?_
  exact J35 _ Y5685 r5684 0 0 (Nat.lt_succ_self _) Iy5687 Xz5694 W5689 (by omega) (by decide) (fun b9 e9 => by rw [e5695] at e9; cases e9; omega) (by show cB 0 20 ≤ 0; omega) (by show 0 ≤ 0; omega) (by intro b910 b915 e910 e915; rw [e5695] at e910; cases e910; rw [e5698] at e915; cases e915; show r5684.toInt ≤ ((pI P b5641 (a1.toInt.toNat)).toInt + (pI P b5650 (a1.toInt.toNat)).toInt); omega)
theorem dX12_keepsSets_18 : decode cX12_keepsSets 18 = .ok (.iastore, 1) := by decide +kernel
theorem dX12_keepsSets_19 : decode cX12_keepsSets 19 = .ok (.iinc 3 1, 3) := by decide +kernel
theorem dX12_keepsSets_22 : decode cX12_keepsSets 22 = .ok (.goto (-20), 3) := by decide +kernel
set_option maxHeartbeats 4000000 in
set_option maxRecDepth 100000 in
theorem s_X12_keepsSets {P : PP} {a0 : Nat} {a1 : Int32} {a2 : Int32} (I : IM P a0) (ha1 : 0 ≤ a1.toInt ∧ a1.toInt ≤ 1) (ha2 : 0 ≤ a2.toInt ∧ a2.toInt ≤ 11) (hf0 : ∀ b, pR P a0 10 = some b → 1 ≤ (pI P b (a1.toInt.toNat)).toInt ∧ (pI P b (a1.toInt.toNat)).toInt ≤ 16) (hW : MW P a0) : CtrV yX12_keepsSets cX12_keepsSets 4 none ({ frames := 4, cells := 0, slots := 0, locals := 256 } : Room) 0 0 P [.ref a0, .int a1, .int a2] (fun P2 => IM P2 a0 ∧ EM [43] a0 P P2 ∧ MW P2 a0) := by
  refine enV (lv := [(0, .ref a0), (1, .int a1), (2, .int a2)]) (by decide) (Nat.le_of_ble_eq_true rfl) rfl (fun E D cy C Ci0 ret => ?_)
  have ha0 := I.2.1
  have J2 : ∀ (n2 : Nat) (P2 : PP) (v2_3 : Int32), (11 - v2_3.toInt).toNat < n2 → (IM P2 a0) → (EM [43] a0 P P2) → (MW P2 a0) → (0 ≤ v2_3.toInt ∧ v2_3.toInt ≤ 11) → (∀ b, pR P2 a0 10 = some b → 1 ≤ (pI P2 b (a1.toInt.toNat)).toInt ∧ (pI P2 b (a1.toInt.toNat)).toInt ≤ 16) → G E ({ frames := 4, cells := 0, slots := 0, locals := 256 } : Room) D cy 4 P2 0 0 2 [(0, .ref a0), (1, .int a1), (2, .int a2), (3, .int v2_3)] [] := by
    intro n2
    induction n2 with
    | zero => intro P2 v2_3 hm2 I2 X2 W2 hv2_3 hq2_0; omega
    | succ n2 ih2 =>
      intro P2 v2_3 hm2 I2 X2 W2 hv2_3 hq2_0
      have h6022 := X2.at ha0
      obtain ⟨b6023, e6024, h6025⟩ := I2.fld (h6022) 10 13 2 rfl
      have hq2_0 := hq2_0 b6023 e6024
      refine g_iload_n C dX12_keepsSets_2 rfl 3 rfl ?_
      refine g_iload_n C dX12_keepsSets_3 rfl 2 rfl ?_
      refine b_icmp_ge C 25 dX12_keepsSets_4 (by decide) (fun h6026 => ?_) (fun h6026 => ?_)
      · have h6026 : a2.toInt ≤ v2_3.toInt := h6026
        exact ret _ _ _ _ _ dX12_keepsSets_25 (by decide) (by decide) ⟨I2, X2, W2⟩
      · have h6026 : v2_3.toInt < a2.toInt := h6026
        refine g_aload_n C dX12_keepsSets_7 rfl 0 rfl ?_
        obtain ⟨b6027, e6028, h6029⟩ := I2.fld (h6022) 43 13 60 rfl
        refine g_getR C fi_X12_121 rfl e6028 (h6022).1 (h6022).2 dX12_keepsSets_8 ?_
        refine g_iload_n C dX12_keepsSets_11 rfl 3 rfl ?_
        refine g_aload_n C dX12_keepsSets_12 rfl 0 rfl ?_
        refine g_iload_n C dX12_keepsSets_13 rfl 1 rfl ?_
        refine g_iload_n C dX12_keepsSets_14 rfl 3 rfl ?_
        refine g_callVI (rest := [.int v2_3, .ref b6027]) C mv_X12_261 [.int a1, .int v2_3] (s_X12_setOf I2 (by omega) (fun b9 e9 => by rw [e6024] at e9; cases e9; show 1 ≤ (pI P2 b6023 (a1.toInt.toNat)).toInt ∧ (pI P2 b6023 (a1.toInt.toNat)).toInt ≤ 16; omega) W2) (h6022).1 (h6022).2 rfl rfl (by decide) (Nat.le_of_ble_eq_true rfl) (by decide) dX12_keepsSets_15 (fun r6030 Y6031 h6032 => ?_)
        obtain ⟨Iy6033, Xy6034, W6035, h6032⟩ := h6032
        have q6036 := Xy6034.keepA e6024 (by decide) rfl (a1.toInt.toNat)
        have Xz6037 : EM [43] a0 P Y6031 := EM.tr ha0 X2 (Xy6034.mono (by decide))
        have e6038 := Xy6034.ref h6022 (by decide) e6024
        have e6039 := Xy6034.ref h6022 (by decide) e6028
        have h6040 := Xy6034.at h6022
        have h6041 := Xy6034.ar h6025
        have h6042 := Xy6034.ar h6029
        have h6032 : True := h6032
        refine g_iast (j := (v2_3.toInt.toNat)) C h6042.1 h6042.2.1 (ix_in h6042.2.2 (by omega)) dX12_keepsSets_18 ?_
        refine gqW (ks := [43]) (Iy6033.setA e6039 h6042 (by decide) (arOk.none rfl)) (EM.setA Iy6033 e6039 rfl (by decide)) (fun Y6043 Iy6044 Xy6045 w6046 => ?_)
        have w6046 : (pI Y6043 b6027 (v2_3.toInt.toNat)).toInt = r6030.toInt := w6046
        have q6047 := Xy6045.keepA e6038 (by decide) rfl (a1.toInt.toNat)
        have W6048 := W6035.keep Iy6033 Xy6045 (by decide) (by decide) (by decide)
        have Xz6049 : EM [43] a0 P Y6043 := EM.tr ha0 Xz6037 (Xy6045.mono (by decide))
        have e6050 := Xy6045.ref h6040 (by decide) e6038
        have e6051 := Xy6045.ref h6040 (by decide) e6039
        have h6052 := Xy6045.at h6040
        have h6053 := Xy6045.ar h6041
        have h6054 := Xy6045.ar h6042
        refine s_iinc (lv0 := [(0, .ref a0), (1, .int a1), (2, .int a2)]) (m := 1) C dX12_keepsSets_19 3 rfl (by decide) rfl (by decide) (by omega) (fun z6055 h6056 => ?_)
        have h6056 : z6055.toInt = v2_3.toInt + 1 := h6056
        refine g_goto C 2 dX12_keepsSets_22 (by decide) ?_
        refine g_lv (lv' := [(0, .ref a0), (1, .int a1), (2, .int a2), (3, .int z6055)]) [1, 2, 3, 0] rfl ?_
        exact ih2 Y6043 z6055 (by omega) Iy6044 Xz6049 W6048 (by omega) (fun b9 e9 => by rw [e6050] at e9; cases e9; omega)
  obtain ⟨b6057, e6058, h6059⟩ := I.fld (ha0) 10 13 2 rfl
  have hf0 := hf0 b6057 e6058
  refine g_iconst (v := 0) C dX12_keepsSets_0 (by decide) ?_
  refine g_istore_n (lv' := [(3, .int 0), (0, .ref a0), (1, .int a1), (2, .int a2)]) C dX12_keepsSets_1 rfl (by decide) rfl ?_
  refine g_lv (lv' := [(0, .ref a0), (1, .int a1), (2, .int a2), (3, .int 0)]) [1, 2, 3, 0] rfl ?_
  exact J2 _ P 0 (Nat.lt_succ_self _) I EM.rf hW (by decide) (fun b9 e9 => by rw [e6058] at e9; cases e9; omega)
theorem dX12_average_35 : decode cX12_average 35 = .ok (.aload_n 0, 1) := by decide +kernel
theorem dX12_average_36 : decode cX12_average 36 = .ok (.iload_n 1, 1) := by decide +kernel
theorem dX12_average_37 : decode cX12_average 37 = .ok (.iload_n 2, 1) := by decide +kernel
theorem dX12_average_38 : decode cX12_average 38 = .ok (.iload_n 2, 1) := by decide +kernel
theorem dX12_average_39 : decode cX12_average 39 = .ok (.iload_n 3, 1) := by decide +kernel
theorem dX12_average_40 : decode cX12_average 40 = .ok (.invokevirtual 383, 3) := by decide +kernel
theorem dX12_chancesOf_0 : decode cX12_chancesOf 0 = .ok (.iconst 0, 1) := by decide +kernel
theorem dX12_chancesOf_1 : decode cX12_chancesOf 1 = .ok (.istore 5, 2) := by decide +kernel
theorem dX12_chancesOf_3 : decode cX12_chancesOf 3 = .ok (.iconst 0, 1) := by decide +kernel
theorem dX12_chancesOf_4 : decode cX12_chancesOf 4 = .ok (.istore 6, 2) := by decide +kernel
theorem dX12_chancesOf_6 : decode cX12_chancesOf 6 = .ok (.iload 6, 2) := by decide +kernel
theorem dX12_chancesOf_8 : decode cX12_chancesOf 8 = .ok (.iconst 1, 1) := by decide +kernel
theorem dX12_chancesOf_9 : decode cX12_chancesOf 9 = .ok (.iload_n 2, 1) := by decide +kernel
theorem dX12_chancesOf_10 : decode cX12_chancesOf 10 = .ok (.ishl, 1) := by decide +kernel
theorem dX12_chancesOf_11 : decode cX12_chancesOf 11 = .ok (.if_icmp .ge 112, 3) := by decide +kernel
theorem dX12_chancesOf_14 : decode cX12_chancesOf 14 = .ok (.iload 6, 2) := by decide +kernel
theorem dX12_chancesOf_16 : decode cX12_chancesOf 16 = .ok (.invokestatic 264, 3) := by decide +kernel
theorem dX12_chancesOf_123 : decode cX12_chancesOf 123 = .ok (.iload 5, 2) := by decide +kernel
theorem dX12_chancesOf_125 : decode cX12_chancesOf 125 = .ok (.ireturn, 1) := by decide +kernel
theorem dX12_bits_0 : decode cX12_bits 0 = .ok (.iconst 0, 1) := by decide +kernel
theorem dX12_bits_1 : decode cX12_bits 1 = .ok (.istore_n 1, 1) := by decide +kernel
theorem dX12_bits_2 : decode cX12_bits 2 = .ok (.iconst 0, 1) := by decide +kernel
theorem dX12_bits_3 : decode cX12_bits 3 = .ok (.istore_n 2, 1) := by decide +kernel
theorem dX12_bits_4 : decode cX12_bits 4 = .ok (.iload_n 2, 1) := by decide +kernel
theorem dX12_bits_5 : decode cX12_bits 5 = .ok (.bipush 20, 2) := by decide +kernel
theorem dX12_bits_7 : decode cX12_bits 7 = .ok (.if_icmp .ge 17, 3) := by decide +kernel
theorem dX12_bits_10 : decode cX12_bits 10 = .ok (.iload_n 1, 1) := by decide +kernel
theorem dX12_bits_11 : decode cX12_bits 11 = .ok (.iload_n 0, 1) := by decide +kernel
theorem dX12_bits_12 : decode cX12_bits 12 = .ok (.iload_n 2, 1) := by decide +kernel
theorem dX12_bits_13 : decode cX12_bits 13 = .ok (.ishr, 1) := by decide +kernel
theorem dX12_bits_14 : decode cX12_bits 14 = .ok (.iconst 1, 1) := by decide +kernel
theorem dX12_bits_15 : decode cX12_bits 15 = .ok (.iand, 1) := by decide +kernel
theorem dX12_bits_16 : decode cX12_bits 16 = .ok (.iadd, 1) := by decide +kernel
theorem dX12_bits_17 : decode cX12_bits 17 = .ok (.istore_n 1, 1) := by decide +kernel
theorem dX12_bits_18 : decode cX12_bits 18 = .ok (.iinc 2 1, 3) := by decide +kernel
theorem dX12_bits_21 : decode cX12_bits 21 = .ok (.goto (-17), 3) := by decide +kernel
theorem dX12_bits_24 : decode cX12_bits 24 = .ok (.iload_n 1, 1) := by decide +kernel
theorem dX12_bits_25 : decode cX12_bits 25 = .ok (.ireturn, 1) := by decide +kernel
set_option maxHeartbeats 4000000 in
set_option maxRecDepth 100000 in
theorem s_X12_bits {P : PP} {a0 : Int32} (I : IV P) : CtrI yX12_bits cX12_bits 3 (some Jvm.ClassFile.FieldType.int) ({ frames := 1, cells := 0, slots := 0, locals := 64 } : Room) 0 0 P [.int a0] (fun r P2 => P = P2 ∧ (0 ≤ r.toInt ∧ r.toInt ≤ 20) ∧ (r.toInt = 0 ∨ a0.toInt ≠ 0)) := by
  refine enI (lv := [(0, .int a0)]) (by decide) (Nat.le_of_ble_eq_true rfl) rfl (fun E D cy C Ci0 ret => ?_)
  have J4 : ∀ (n4 : Nat) (v4_1 : Int32) (v4_2 : Int32), (20 - v4_2.toInt).toNat < n4 → (0 ≤ v4_1.toInt ∧ v4_1.toInt ≤ 20) → (0 ≤ v4_2.toInt ∧ v4_2.toInt ≤ 20) → (a0.toInt ≠ 0 ∨ v4_1.toInt = 0) → (v4_1.toInt ≤ v4_2.toInt) → G E ({ frames := 1, cells := 0, slots := 0, locals := 64 } : Room) D cy 3 P 0 0 4 [(0, .int a0), (1, .int v4_1), (2, .int v4_2)] [] := by
    intro n4
    induction n4 with
    | zero => intro v4_1 v4_2 hm4 hv4_1 hv4_2 rel4_0 rel4_1; omega
    | succ n4 ih4 =>
      intro v4_1 v4_2 hm4 hv4_1 hv4_2 rel4_0 rel4_1
      refine g_iload_n C dX12_bits_4 rfl 2 rfl ?_
      refine g_bipush (v := 20) C dX12_bits_5 (by decide) ?_
      refine b_icmp_ge C 24 dX12_bits_7 (by decide) (fun h6247 => ?_) (fun h6247 => ?_)
      · have h6247 : 20 ≤ v4_2.toInt := h6247
        refine g_iload_n C dX12_bits_24 rfl 1 rfl ?_
        exact ret _ _ _ _ _ _ dX12_bits_25 rfl (by decide) (by decide) ⟨rfl, (by omega), (by show v4_1.toInt = 0 ∨ a0.toInt ≠ 0; omega)⟩
      · have h6247 : v4_2.toInt < 20 := h6247
        refine g_iload_n C dX12_bits_10 rfl 1 rfl ?_
        refine g_iload_n C dX12_bits_11 rfl 0 rfl ?_
        refine g_iload_n C dX12_bits_12 rfl 2 rfl ?_
        refine g_ishr C dX12_bits_13 ?_
        refine g_topi (fun z6248 h6249 => ?_)
        refine g_iconst (v := 1) C dX12_bits_14 (by decide) ?_
        refine g_iand C dX12_bits_15 ?_
        refine g_topi (fun z6250 h6251 => ?_)
        have hb6252 := bit_of0 h6249 h6251 (by omega)
        have h6253 : 0 ≤ z6250.toInt ∧ z6250.toInt ≤ 1 := by rw [h6251]; exact i_and (by decide)
        refine s_iadd C dX12_bits_16 (by show -2147483648 ≤ v4_1.toInt + z6250.toInt ∧ v4_1.toInt + z6250.toInt ≤ 2147483647; omega) (fun z6254 h6255 => ?_)
        have h6255 : z6254.toInt = v4_1.toInt + z6250.toInt := h6255
        refine g_istore_n (lv' := [(1, .int z6254), (0, .int a0), (2, .int v4_2)]) C dX12_bits_17 rfl (by decide) rfl ?_
        refine s_iinc (lv0 := [(1, .int z6254), (0, .int a0)]) (m := 1) C dX12_bits_18 2 rfl (by decide) rfl (by decide) (by omega) (fun z6256 h6257 => ?_)
        have h6257 : z6256.toInt = v4_2.toInt + 1 := h6257
        refine g_goto C 4 dX12_bits_21 (by decide) ?_
        refine g_lv (lv' := [(0, .int a0), (1, .int z6254), (2, .int z6256)]) [2, 1, 0] rfl ?_
        exact ih4 z6254 z6256 (by omega) (by omega) (by omega) (by show a0.toInt ≠ 0 ∨ z6254.toInt = 0; omega) (by show z6254.toInt ≤ z6256.toInt; omega)
  refine g_iconst (v := 0) C dX12_bits_0 (by decide) ?_
  refine g_istore_n (lv' := [(1, .int 0), (0, .int a0)]) C dX12_bits_1 rfl (by decide) rfl ?_
  refine g_iconst (v := 0) C dX12_bits_2 (by decide) ?_
  refine g_istore_n (lv' := [(2, .int 0), (1, .int 0), (0, .int a0)]) C dX12_bits_3 rfl (by decide) rfl ?_
  refine g_lv (lv' := [(0, .int a0), (1, .int 0), (2, .int 0)]) [2, 1, 0] rfl ?_
  exact J4 _ 0 0 (Nat.lt_succ_self _) (by decide) (by decide) (by show a0.toInt ≠ 0 ∨ 0 = 0; omega) (by show 0 ≤ 0; omega)
theorem dX12_chancesOf_19 : decode cX12_chancesOf 19 = .ok (.iload_n 3, 1) := by decide +kernel
theorem dX12_chancesOf_20 : decode cX12_chancesOf 20 = .ok (.if_icmp .ne 97, 3) := by decide +kernel
theorem dX12_chancesOf_23 : decode cX12_chancesOf 23 = .ok (.aload_n 0, 1) := by decide +kernel
theorem dX12_chancesOf_24 : decode cX12_chancesOf 24 = .ok (.iload_n 1, 1) := by decide +kernel
theorem dX12_chancesOf_25 : decode cX12_chancesOf 25 = .ok (.invokevirtual 312, 3) := by decide +kernel
theorem dX12_begins_0 : decode cX12_begins 0 = .ok (.aload_n 0, 1) := by decide +kernel
theorem dX12_begins_1 : decode cX12_begins 1 = .ok (.iconst 0, 1) := by decide +kernel
theorem dX12_begins_2 : decode cX12_begins 2 = .ok (.putfield 305, 3) := by decide +kernel
theorem dX12_begins_5 : decode cX12_begins 5 = .ok (.iconst 0, 1) := by decide +kernel
theorem dX12_begins_6 : decode cX12_begins 6 = .ok (.istore_n 2, 1) := by decide +kernel
theorem dX12_begins_7 : decode cX12_begins 7 = .ok (.iload_n 2, 1) := by decide +kernel
theorem dX12_begins_8 : decode cX12_begins 8 = .ok (.aload_n 0, 1) := by decide +kernel
theorem dX12_begins_9 : decode cX12_begins 9 = .ok (.getfield 60, 3) := by decide +kernel
theorem dX12_begins_12 : decode cX12_begins 12 = .ok (.iload_n 1, 1) := by decide +kernel
theorem dX12_begins_13 : decode cX12_begins 13 = .ok (.iaload, 1) := by decide +kernel
theorem dX12_begins_14 : decode cX12_begins 14 = .ok (.if_icmp .ge 36, 3) := by decide +kernel
theorem dX12_begins_17 : decode cX12_begins 17 = .ok (.aload_n 0, 1) := by decide +kernel
theorem dX12_begins_18 : decode cX12_begins 18 = .ok (.aload_n 0, 1) := by decide +kernel
theorem dX12_begins_19 : decode cX12_begins 19 = .ok (.getfield 63, 3) := by decide +kernel
theorem dX12_begins_22 : decode cX12_begins 22 = .ok (.iconst 4, 1) := by decide +kernel
theorem dX12_begins_23 : decode cX12_begins 23 = .ok (.iload_n 1, 1) := by decide +kernel
theorem dX12_begins_24 : decode cX12_begins 24 = .ok (.imul, 1) := by decide +kernel
theorem dX12_begins_25 : decode cX12_begins 25 = .ok (.iload_n 2, 1) := by decide +kernel
theorem dX12_begins_26 : decode cX12_begins 26 = .ok (.iadd, 1) := by decide +kernel
theorem dX12_begins_27 : decode cX12_begins 27 = .ok (.iaload, 1) := by decide +kernel
theorem dX12_begins_28 : decode cX12_begins 28 = .ok (.iconst 1, 1) := by decide +kernel
theorem dX12_begins_29 : decode cX12_begins 29 = .ok (.aload_n 0, 1) := by decide +kernel
theorem dX12_begins_30 : decode cX12_begins 30 = .ok (.getfield 45, 3) := by decide +kernel
theorem dX12_begins_33 : decode cX12_begins 33 = .ok (.iload_n 1, 1) := by decide +kernel
theorem dX12_begins_34 : decode cX12_begins 34 = .ok (.iaload, 1) := by decide +kernel
theorem dX12_begins_35 : decode cX12_begins 35 = .ok (.iload_n 2, 1) := by decide +kernel
theorem dX12_begins_36 : decode cX12_begins 36 = .ok (.iadd, 1) := by decide +kernel
theorem dX12_begins_37 : decode cX12_begins 37 = .ok (.ishl, 1) := by decide +kernel
theorem dX12_begins_38 : decode cX12_begins 38 = .ok (.ior, 1) := by decide +kernel
theorem dX12_begins_39 : decode cX12_begins 39 = .ok (.iconst 0, 1) := by decide +kernel
theorem dX12_begins_40 : decode cX12_begins 40 = .ok (.iconst (-1), 1) := by decide +kernel
theorem dX12_begins_41 : decode cX12_begins 41 = .ok (.invokevirtual 308, 3) := by decide +kernel
theorem dX12_begins_50 : decode cX12_begins 50 = .ok (.return_, 1) := by decide +kernel
theorem dX12_adds_0 : decode cX12_adds 0 = .ok (.aload_n 0, 1) := by decide +kernel
theorem dX12_adds_1 : decode cX12_adds 1 = .ok (.getfield 91, 3) := by decide +kernel
theorem dX12_adds_4 : decode cX12_adds 4 = .ok (.aload_n 0, 1) := by decide +kernel
theorem dX12_adds_5 : decode cX12_adds 5 = .ok (.getfield 305, 3) := by decide +kernel
theorem dX12_adds_8 : decode cX12_adds 8 = .ok (.iload_n 1, 1) := by decide +kernel
theorem dX12_adds_9 : decode cX12_adds 9 = .ok (.iastore, 1) := by decide +kernel
theorem dX12_adds_10 : decode cX12_adds 10 = .ok (.aload_n 0, 1) := by decide +kernel
theorem dX12_adds_11 : decode cX12_adds 11 = .ok (.getfield 94, 3) := by decide +kernel
theorem dX12_adds_14 : decode cX12_adds 14 = .ok (.aload_n 0, 1) := by decide +kernel
theorem dX12_adds_15 : decode cX12_adds 15 = .ok (.getfield 305, 3) := by decide +kernel
theorem dX12_adds_18 : decode cX12_adds 18 = .ok (.iload_n 2, 1) := by decide +kernel
theorem dX12_adds_19 : decode cX12_adds 19 = .ok (.iastore, 1) := by decide +kernel
theorem dX12_adds_20 : decode cX12_adds 20 = .ok (.aload_n 0, 1) := by decide +kernel
theorem dX12_adds_21 : decode cX12_adds 21 = .ok (.getfield 97, 3) := by decide +kernel
theorem dX12_adds_24 : decode cX12_adds 24 = .ok (.aload_n 0, 1) := by decide +kernel
theorem dX12_adds_25 : decode cX12_adds 25 = .ok (.getfield 305, 3) := by decide +kernel
theorem dX12_adds_28 : decode cX12_adds 28 = .ok (.iload_n 3, 1) := by decide +kernel
theorem dX12_adds_29 : decode cX12_adds 29 = .ok (.iastore, 1) := by decide +kernel
theorem dX12_adds_30 : decode cX12_adds 30 = .ok (.aload_n 0, 1) := by decide +kernel
theorem dX12_adds_31 : decode cX12_adds 31 = .ok (.dup, 1) := by decide +kernel
theorem dX12_adds_32 : decode cX12_adds 32 = .ok (.getfield 305, 3) := by decide +kernel
theorem dX12_adds_35 : decode cX12_adds 35 = .ok (.iconst 1, 1) := by decide +kernel
theorem dX12_adds_36 : decode cX12_adds 36 = .ok (.iadd, 1) := by decide +kernel
theorem dX12_adds_37 : decode cX12_adds 37 = .ok (.putfield 305, 3) := by decide +kernel
theorem dX12_adds_40 : decode cX12_adds 40 = .ok (.return_, 1) := by decide +kernel
set_option maxHeartbeats 4000000 in
set_option maxRecDepth 100000 in
theorem s_X12_adds {P : PP} {a0 : Nat} {a1 : Int32} {a2 : Int32} {a3 : Int32} (I : IM P a0) (hp0_28 : 0 ≤ (pI P a0 28).toInt ∧ (pI P a0 28).toInt ≤ 63) (hW : MW P a0) : CtrV yX12_adds cX12_adds 4 none ({ frames := 1, cells := 0, slots := 0, locals := 64 } : Room) 0 0 P [.ref a0, .int a1, .int a2, .int a3] (fun P2 => IM P2 a0 ∧ EM [28, 29, 30, 31] a0 P P2 ∧ MW P2 a0 ∧ ((pI P2 a0 28).toInt = (pI P a0 28).toInt + 1)) := by
  refine enV (lv := [(0, .ref a0), (1, .int a1), (2, .int a2), (3, .int a3)]) (by decide) (Nat.le_of_ble_eq_true rfl) rfl (fun E D cy C Ci0 ret => ?_)
  have ha0 := I.2.1
  refine g_aload_n C dX12_adds_0 rfl 0 rfl ?_
  obtain ⟨b6346, e6347, h6348⟩ := I.fld (ha0) 29 13 64 rfl
  refine g_getR C fi_X12_91 rfl e6347 (ha0).1 (ha0).2 dX12_adds_1 ?_
  refine g_aload_n C dX12_adds_4 rfl 0 rfl ?_
  refine g_getI C fi_X12_305 (by decide) (ha0).1 (ha0).2 dX12_adds_5 ?_
  refine g_iload_n C dX12_adds_8 rfl 1 rfl ?_
  refine g_iast (j := ((pI P a0 28).toInt.toNat)) C h6348.1 h6348.2.1 (ix_in h6348.2.2 (by omega)) dX12_adds_9 ?_
  refine gqW (ks := [29]) (I.setA e6347 h6348 (by decide) (arOk.none rfl)) (EM.setA I e6347 rfl (by decide)) (fun Y6349 Iy6350 Xy6351 w6352 => ?_)
  have w6352 : (pI Y6349 b6346 ((pI P a0 28).toInt.toNat)).toInt = a1.toInt := w6352
  have q6353 := Xy6351.keepF 28 (by decide)
  have W6354 := hW.keep I Xy6351 (by decide) (by decide) (by decide)
  have Xz6355 : EM [28, 29, 30, 31] a0 P Y6349 := Xy6351.mono (by decide)
  have h6356 := Xy6351.at ha0
  refine g_aload_n C dX12_adds_10 rfl 0 rfl ?_
  obtain ⟨b6357, e6358, h6359⟩ := Iy6350.fld (h6356) 30 13 64 rfl
  refine g_getR C fi_X12_94 rfl e6358 (h6356).1 (h6356).2 dX12_adds_11 ?_
  refine g_aload_n C dX12_adds_14 rfl 0 rfl ?_
  refine g_getI C fi_X12_305 (by decide) (h6356).1 (h6356).2 dX12_adds_15 ?_
  refine g_iload_n C dX12_adds_18 rfl 2 rfl ?_
  refine g_iast (j := ((pI Y6349 a0 28).toInt.toNat)) C h6359.1 h6359.2.1 (ix_in h6359.2.2 (by omega)) dX12_adds_19 ?_
  refine gqW (ks := [30]) (Iy6350.setA e6358 h6359 (by decide) (arOk.none rfl)) (EM.setA Iy6350 e6358 rfl (by decide)) (fun Y6360 Iy6361 Xy6362 w6363 => ?_)
  have w6363 : (pI Y6360 b6357 ((pI Y6349 a0 28).toInt.toNat)).toInt = a2.toInt := w6363
  have q6364 := Xy6362.keepF 28 (by decide)
  have W6365 := W6354.keep Iy6350 Xy6362 (by decide) (by decide) (by decide)
  have Xz6366 : EM [28, 29, 30, 31] a0 P Y6360 := EM.tr ha0 Xz6355 (Xy6362.mono (by decide))
  have h6367 := Xy6362.at h6356
  refine g_aload_n C dX12_adds_20 rfl 0 rfl ?_
  obtain ⟨b6368, e6369, h6370⟩ := Iy6361.fld (h6367) 31 13 64 rfl
  refine g_getR C fi_X12_97 rfl e6369 (h6367).1 (h6367).2 dX12_adds_21 ?_
  refine g_aload_n C dX12_adds_24 rfl 0 rfl ?_
  refine g_getI C fi_X12_305 (by decide) (h6367).1 (h6367).2 dX12_adds_25 ?_
  refine g_iload_n C dX12_adds_28 rfl 3 rfl ?_
  refine g_iast (j := ((pI Y6360 a0 28).toInt.toNat)) C h6370.1 h6370.2.1 (ix_in h6370.2.2 (by omega)) dX12_adds_29 ?_
  refine gqW (ks := [31]) (Iy6361.setA e6369 h6370 (by decide) (arOk.none rfl)) (EM.setA Iy6361 e6369 rfl (by decide)) (fun Y6371 Iy6372 Xy6373 w6374 => ?_)
  have w6374 : (pI Y6371 b6368 ((pI Y6360 a0 28).toInt.toNat)).toInt = a3.toInt := w6374
  have q6375 := Xy6373.keepF 28 (by decide)
  have W6376 := W6365.keep Iy6361 Xy6373 (by decide) (by decide) (by decide)
  have Xz6377 : EM [28, 29, 30, 31] a0 P Y6371 := EM.tr ha0 Xz6366 (Xy6373.mono (by decide))
  have h6378 := Xy6373.at h6367
  refine g_aload_n C dX12_adds_30 rfl 0 rfl ?_
  refine g_dup C dX12_adds_31 rfl ?_
  refine g_getI C fi_X12_305 (by decide) (h6378).1 (h6378).2 dX12_adds_32 ?_
  refine g_iconst (v := 1) C dX12_adds_35 (by decide) ?_
  refine s_iadd C dX12_adds_36 (by show -2147483648 ≤ (pI Y6371 a0 28).toInt + 1 ∧ (pI Y6371 a0 28).toInt + 1 ≤ 2147483647; omega) (fun z6379 h6380 => ?_)
  have h6380 : z6379.toInt = (pI Y6371 a0 28).toInt + 1 := h6380
  refine g_putI C fi_X12_305 rfl (h6378).1 (h6378).2 dX12_adds_37 ?_
  refine gqW (ks := [28]) (Iy6372.setI (rgOk.of rfl (by omega))) (EM.setI Iy6372 (by decide)) (fun Y6381 Iy6382 Xy6383 w6384 => ?_)
  have w6384 : (pI Y6381 a0 28).toInt = z6379.toInt := w6384
  have W6385 := W6376.keep Iy6372 Xy6383 (by decide) (by decide) (by decide)
  have Xz6386 : EM [28, 29, 30, 31] a0 P Y6381 := EM.tr ha0 Xz6377 (Xy6383.mono (by decide))
  have h6387 := Xy6383.at h6378
  exact ret _ _ _ _ _ dX12_adds_40 (by decide) (by decide) ⟨Iy6382, Xz6386, W6385, (by show (pI Y6381 a0 28).toInt = (pI P a0 28).toInt + 1; omega)⟩
theorem dX12_begins_44 : decode cX12_begins 44 = .ok (.iinc 2 1, 3) := by decide +kernel
theorem dX12_begins_47 : decode cX12_begins 47 = .ok (.goto (-40), 3) := by decide +kernel
set_option maxHeartbeats 4000000 in
set_option maxRecDepth 100000 in
theorem s_X12_begins {P : PP} {a0 : Nat} {a1 : Int32} (I : IM P a0) (ha1 : 0 ≤ a1.toInt ∧ a1.toInt ≤ 1) (hW : MW P a0) : CtrV yX12_begins cX12_begins 3 none ({ frames := 2, cells := 0, slots := 0, locals := 128 } : Room) 0 0 P [.ref a0, .int a1] (fun P2 => IM P2 a0 ∧ EM [28, 29, 30, 31] a0 P P2 ∧ MW P2 a0 ∧ ((pI P2 a0 28).toInt ≤ 4)) := by
  refine enV (lv := [(0, .ref a0), (1, .int a1)]) (by decide) (Nat.le_of_ble_eq_true rfl) rfl (fun E D cy C Ci0 ret => ?_)
  have ha0 := I.2.1
  have J7 : ∀ (n7 : Nat) (P7 : PP) (v7_2 : Int32), (4 - v7_2.toInt).toNat < n7 → (IM P7 a0) → (EM [28, 29, 30, 31] a0 P P7) → (MW P7 a0) → (0 ≤ v7_2.toInt ∧ v7_2.toInt ≤ 4) → (0 ≤ (pI P7 a0 28).toInt) → ((pI P7 a0 28).toInt ≤ v7_2.toInt) → G E ({ frames := 2, cells := 0, slots := 0, locals := 128 } : Room) D cy 3 P7 0 0 7 [(0, .ref a0), (1, .int a1), (2, .int v7_2)] [] := by
    intro n7
    induction n7 with
    | zero => intro P7 v7_2 hm7 I7 X7 W7 hv7_2 hq7_0 rel7_0; omega
    | succ n7 ih7 =>
      intro P7 v7_2 hm7 I7 X7 W7 hv7_2 hq7_0 rel7_0
      have h7748 := X7.at ha0
      refine g_iload_n C dX12_begins_7 rfl 2 rfl ?_
      refine g_aload_n C dX12_begins_8 rfl 0 rfl ?_
      obtain ⟨b7749, e7750, h7751⟩ := I7.fld (h7748) 15 13 3 rfl
      refine g_getR C fi_X12_60 rfl e7750 (h7748).1 (h7748).2 dX12_begins_9 ?_
      refine g_iload_n C dX12_begins_12 rfl 1 rfl ?_
      refine g_iald (j := (a1.toInt.toNat)) C h7751.1 h7751.2.1 (ix_in h7751.2.2 (by omega)) dX12_begins_13 ?_
      have h7752 := I7.arr e7750 rfl (a1.toInt.toNat)
      refine b_icmp_ge C 50 dX12_begins_14 (by decide) (fun h7753 => ?_) (fun h7753 => ?_)
      · have h7753 : (pI P7 b7749 (a1.toInt.toNat)).toInt ≤ v7_2.toInt := h7753
        exact ret _ _ _ _ _ dX12_begins_50 (by decide) (by decide) ⟨I7, X7, W7, (by show (pI P7 a0 28).toInt ≤ 4; omega)⟩
      · have h7753 : v7_2.toInt < (pI P7 b7749 (a1.toInt.toNat)).toInt := h7753
        refine g_aload_n C dX12_begins_17 rfl 0 rfl ?_
        refine g_aload_n C dX12_begins_18 rfl 0 rfl ?_
        obtain ⟨b7754, e7755, h7756⟩ := I7.fld (h7748) 16 13 12 rfl
        refine g_getR C fi_X12_63 rfl e7755 (h7748).1 (h7748).2 dX12_begins_19 ?_
        refine g_iconst (v := 4) C dX12_begins_22 (by decide) ?_
        refine g_iload_n C dX12_begins_23 rfl 1 rfl ?_
        refine s_imul C dX12_begins_24 (by show -2147483648 ≤ 4 * a1.toInt ∧ 4 * a1.toInt ≤ 2147483647; omega) (fun z7757 h7758 => ?_)
        have h7758 : z7757.toInt = 4 * a1.toInt := h7758
        refine g_iload_n C dX12_begins_25 rfl 2 rfl ?_
        refine s_iadd C dX12_begins_26 (by show -2147483648 ≤ z7757.toInt + v7_2.toInt ∧ z7757.toInt + v7_2.toInt ≤ 2147483647; omega) (fun z7759 h7760 => ?_)
        have h7760 : z7759.toInt = z7757.toInt + v7_2.toInt := h7760
        refine g_iald (j := (z7759.toInt.toNat)) C h7756.1 h7756.2.1 (ix_in h7756.2.2 (by omega)) dX12_begins_27 ?_
        refine g_iconst (v := 1) C dX12_begins_28 (by decide) ?_
        refine g_aload_n C dX12_begins_29 rfl 0 rfl ?_
        obtain ⟨b7761, e7762, h7763⟩ := I7.fld (h7748) 10 13 2 rfl
        refine g_getR C fi_X12_45 rfl e7762 (h7748).1 (h7748).2 dX12_begins_30 ?_
        refine g_iload_n C dX12_begins_33 rfl 1 rfl ?_
        refine g_iald (j := (a1.toInt.toNat)) C h7763.1 h7763.2.1 (ix_in h7763.2.2 (by omega)) dX12_begins_34 ?_
        have h7764 := I7.arr e7762 rfl (a1.toInt.toNat)
        refine g_iload_n C dX12_begins_35 rfl 2 rfl ?_
        refine s_iadd C dX12_begins_36 (by show -2147483648 ≤ (pI P7 b7761 (a1.toInt.toNat)).toInt + v7_2.toInt ∧ (pI P7 b7761 (a1.toInt.toNat)).toInt + v7_2.toInt ≤ 2147483647; omega) (fun z7765 h7766 => ?_)
        have h7766 : z7765.toInt = (pI P7 b7761 (a1.toInt.toNat)).toInt + v7_2.toInt := h7766
        refine a_ishl C dX12_begins_37 (fun z7767 => ?_)
        refine a_ior C dX12_begins_38 (fun z7769 => ?_)
        refine g_iconst (v := 0) C dX12_begins_39 (by decide) ?_
        refine g_iconst (v := (-1)) C dX12_begins_40 (by decide) ?_
        refine g_callVV (rest := []) C mv_X12_308 [.int z7769, .int 0, .int (-1)] (s_X12_adds I7 (by omega) W7) (h7748).1 (h7748).2 rfl rfl (by decide) (Nat.le_of_ble_eq_true rfl) (by decide) dX12_begins_41 (fun Y7772 h7773 => ?_)
        obtain ⟨Iy7774, Xy7775, W7776, p7777⟩ := h7773
        have p7777 : (pI Y7772 a0 28).toInt = (pI P7 a0 28).toInt + 1 := p7777
        have q7778 := Xy7775.keepA e7750 (by decide) rfl (a1.toInt.toNat)
        have q7779 := Xy7775.keepA e7762 (by decide) rfl (a1.toInt.toNat)
        have Xz7780 : EM [28, 29, 30, 31] a0 P Y7772 := EM.tr ha0 X7 (Xy7775.mono (by decide))
        have e7781 := Xy7775.ref h7748 (by decide) e7750
        have e7782 := Xy7775.ref h7748 (by decide) e7762
        have h7783 := Xy7775.at h7748
        have h7784 := Xy7775.ar h7751
        have h7785 := Xy7775.ar h7763
        have h7786 := Iy7774.rg h7783 28 rfl
        refine s_iinc (lv0 := [(0, .ref a0), (1, .int a1)]) (m := 1) C dX12_begins_44 2 rfl (by decide) rfl (by decide) (by omega) (fun z7787 h7788 => ?_)
        have h7788 : z7787.toInt = v7_2.toInt + 1 := h7788
        refine g_goto C 7 dX12_begins_47 (by decide) ?_
        refine g_lv (lv' := [(0, .ref a0), (1, .int a1), (2, .int z7787)]) [1, 2, 0] rfl ?_
        exact ih7 Y7772 z7787 (by omega) Iy7774 Xz7780 W7776 (by omega) (by omega) (by show (pI Y7772 a0 28).toInt ≤ z7787.toInt; omega)
  refine g_aload_n C dX12_begins_0 rfl 0 rfl ?_
  refine g_iconst (v := 0) C dX12_begins_1 (by decide) ?_
  refine g_putI C fi_X12_305 rfl (ha0).1 (ha0).2 dX12_begins_2 ?_
  refine gqW (ks := [28]) (I.setI (rgOk.of rfl (by decide))) (EM.setI I (by decide)) (fun Y7789 Iy7790 Xy7791 w7792 => ?_)
  have w7792 : (pI Y7789 a0 28).toInt = 0 := w7792
  have W7793 := hW.keep I Xy7791 (by decide) (by decide) (by decide)
  have Xz7794 : EM [28, 29, 30, 31] a0 P Y7789 := Xy7791.mono (by decide)
  have h7795 := Xy7791.at ha0
  refine g_iconst (v := 0) C dX12_begins_5 (by decide) ?_
  refine g_istore_n (lv' := [(2, .int 0), (0, .ref a0), (1, .int a1)]) C dX12_begins_6 rfl (by decide) rfl ?_
  refine g_lv (lv' := [(0, .ref a0), (1, .int a1), (2, .int 0)]) [1, 2, 0] rfl ?_
  exact J7 _ Y7789 0 (Nat.lt_succ_self _) Iy7790 Xz7794 W7793 (by decide) (by omega) (by show (pI Y7789 a0 28).toInt ≤ 0; omega)
theorem dX12_chancesOf_28 : decode cX12_chancesOf 28 = .ok (.iconst 0, 1) := by decide +kernel
theorem dX12_chancesOf_29 : decode cX12_chancesOf 29 = .ok (.istore 7, 2) := by decide +kernel
theorem dX12_chancesOf_31 : decode cX12_chancesOf 31 = .ok (.iload 7, 2) := by decide +kernel
theorem dX12_chancesOf_33 : decode cX12_chancesOf 33 = .ok (.iload_n 2, 1) := by decide +kernel
theorem dX12_chancesOf_34 : decode cX12_chancesOf 34 = .ok (.if_icmp .ge 33, 3) := by decide +kernel
theorem dX12_chancesOf_37 : decode cX12_chancesOf 37 = .ok (.iload 6, 2) := by decide +kernel
theorem dX12_chancesOf_39 : decode cX12_chancesOf 39 = .ok (.iload 7, 2) := by decide +kernel
theorem dX12_chancesOf_41 : decode cX12_chancesOf 41 = .ok (.ishr, 1) := by decide +kernel
theorem dX12_chancesOf_42 : decode cX12_chancesOf 42 = .ok (.iconst 1, 1) := by decide +kernel
theorem dX12_chancesOf_43 : decode cX12_chancesOf 43 = .ok (.iand, 1) := by decide +kernel
theorem dX12_chancesOf_44 : decode cX12_chancesOf 44 = .ok (.iconst 1, 1) := by decide +kernel
theorem dX12_chancesOf_45 : decode cX12_chancesOf 45 = .ok (.if_icmp .ne 16, 3) := by decide +kernel
theorem dX12_chancesOf_48 : decode cX12_chancesOf 48 = .ok (.aload_n 0, 1) := by decide +kernel
theorem dX12_chancesOf_49 : decode cX12_chancesOf 49 = .ok (.aload_n 0, 1) := by decide +kernel
theorem dX12_chancesOf_50 : decode cX12_chancesOf 50 = .ok (.getfield 121, 3) := by decide +kernel
theorem dX12_chancesOf_53 : decode cX12_chancesOf 53 = .ok (.iload 7, 2) := by decide +kernel
theorem dX12_chancesOf_55 : decode cX12_chancesOf 55 = .ok (.iaload, 1) := by decide +kernel
theorem dX12_chancesOf_56 : decode cX12_chancesOf 56 = .ok (.iconst 0, 1) := by decide +kernel
theorem dX12_chancesOf_57 : decode cX12_chancesOf 57 = .ok (.iconst (-1), 1) := by decide +kernel
theorem dX12_chancesOf_58 : decode cX12_chancesOf 58 = .ok (.invokevirtual 308, 3) := by decide +kernel
theorem dX12_chancesOf_61 : decode cX12_chancesOf 61 = .ok (.iinc 7 1, 3) := by decide +kernel
theorem dX12_chancesOf_64 : decode cX12_chancesOf 64 = .ok (.goto (-33), 3) := by decide +kernel
theorem dX12_chancesOf_67 : decode cX12_chancesOf 67 = .ok (.iload 4, 2) := by decide +kernel
theorem dX12_chancesOf_69 : decode cX12_chancesOf 69 = .ok (.ifCond .ne 10, 3) := by decide +kernel
theorem dX12_chancesOf_79 : decode cX12_chancesOf 79 = .ok (.aload_n 0, 1) := by decide +kernel
theorem dX12_chancesOf_80 : decode cX12_chancesOf 80 = .ok (.invokevirtual 346, 3) := by decide +kernel
theorem dX12_chancesOf_117 : decode cX12_chancesOf 117 = .ok (.iinc 6 1, 3) := by decide +kernel
theorem dX12_chancesOf_120 : decode cX12_chancesOf 120 = .ok (.goto (-114), 3) := by decide +kernel
theorem dX12_findSolved_0 : decode cX12_findSolved 0 = .ok (.aload_n 0, 1) := by decide +kernel
theorem dX12_findSolved_1 : decode cX12_findSolved 1 = .ok (.iconst 0, 1) := by decide +kernel
theorem dX12_findSolved_2 : decode cX12_findSolved 2 = .ok (.putfield 324, 3) := by decide +kernel
theorem dX12_findSolved_5 : decode cX12_findSolved 5 = .ok (.aload_n 0, 1) := by decide +kernel
theorem dX12_findSolved_6 : decode cX12_findSolved 6 = .ok (.iconst 1, 1) := by decide +kernel
theorem dX12_findSolved_7 : decode cX12_findSolved 7 = .ok (.putfield 326, 3) := by decide +kernel
theorem dX12_findSolved_10 : decode cX12_findSolved 10 = .ok (.iconst 0, 1) := by decide +kernel
theorem dX12_findSolved_11 : decode cX12_findSolved 11 = .ok (.istore_n 1, 1) := by decide +kernel
theorem dX12_findSolved_12 : decode cX12_findSolved 12 = .ok (.iload_n 1, 1) := by decide +kernel
theorem dX12_findSolved_13 : decode cX12_findSolved 13 = .ok (.bipush 20, 2) := by decide +kernel
theorem dX12_findSolved_15 : decode cX12_findSolved 15 = .ok (.if_icmp .ge 16, 3) := by decide +kernel
theorem dX12_findSolved_18 : decode cX12_findSolved 18 = .ok (.aload_n 0, 1) := by decide +kernel
theorem dX12_findSolved_19 : decode cX12_findSolved 19 = .ok (.getfield 106, 3) := by decide +kernel
theorem dX12_findSolved_22 : decode cX12_findSolved 22 = .ok (.iload_n 1, 1) := by decide +kernel
theorem dX12_findSolved_23 : decode cX12_findSolved 23 = .ok (.iconst 0, 1) := by decide +kernel
theorem dX12_findSolved_24 : decode cX12_findSolved 24 = .ok (.iastore, 1) := by decide +kernel
theorem dX12_findSolved_25 : decode cX12_findSolved 25 = .ok (.iinc 1 1, 3) := by decide +kernel
theorem dX12_findSolved_28 : decode cX12_findSolved 28 = .ok (.goto (-16), 3) := by decide +kernel
theorem dX12_findSolved_31 : decode cX12_findSolved 31 = .ok (.iconst 0, 1) := by decide +kernel
theorem dX12_findSolved_32 : decode cX12_findSolved 32 = .ok (.istore_n 1, 1) := by decide +kernel
theorem dX12_findSolved_33 : decode cX12_findSolved 33 = .ok (.iload_n 1, 1) := by decide +kernel
theorem dX12_findSolved_34 : decode cX12_findSolved 34 = .ok (.aload_n 0, 1) := by decide +kernel
theorem dX12_findSolved_35 : decode cX12_findSolved 35 = .ok (.getfield 305, 3) := by decide +kernel
theorem dX12_findSolved_38 : decode cX12_findSolved 38 = .ok (.if_icmp .ge 224, 3) := by decide +kernel
theorem dX12_findSolved_41 : decode cX12_findSolved 41 = .ok (.aload_n 0, 1) := by decide +kernel
theorem dX12_findSolved_42 : decode cX12_findSolved 42 = .ok (.getfield 91, 3) := by decide +kernel
theorem dX12_findSolved_45 : decode cX12_findSolved 45 = .ok (.iload_n 1, 1) := by decide +kernel
theorem dX12_findSolved_46 : decode cX12_findSolved 46 = .ok (.iaload, 1) := by decide +kernel
theorem dX12_findSolved_47 : decode cX12_findSolved 47 = .ok (.istore_n 2, 1) := by decide +kernel
theorem dX12_findSolved_48 : decode cX12_findSolved 48 = .ok (.aload_n 0, 1) := by decide +kernel
theorem dX12_findSolved_49 : decode cX12_findSolved 49 = .ok (.getfield 94, 3) := by decide +kernel
theorem dX12_findSolved_52 : decode cX12_findSolved 52 = .ok (.iload_n 1, 1) := by decide +kernel
theorem dX12_findSolved_53 : decode cX12_findSolved 53 = .ok (.iaload, 1) := by decide +kernel
theorem dX12_findSolved_54 : decode cX12_findSolved 54 = .ok (.istore_n 3, 1) := by decide +kernel
theorem dX12_findSolved_55 : decode cX12_findSolved 55 = .ok (.iconst 0, 1) := by decide +kernel
theorem dX12_findSolved_56 : decode cX12_findSolved 56 = .ok (.istore 4, 2) := by decide +kernel
theorem dX12_findSolved_58 : decode cX12_findSolved 58 = .ok (.iload 4, 2) := by decide +kernel
theorem dX12_findSolved_60 : decode cX12_findSolved 60 = .ok (.bipush 20, 2) := by decide +kernel
theorem dX12_findSolved_62 : decode cX12_findSolved 62 = .ok (.if_icmp .ge 49, 3) := by decide +kernel
theorem dX12_findSolved_65 : decode cX12_findSolved 65 = .ok (.iload_n 2, 1) := by decide +kernel
theorem dX12_findSolved_66 : decode cX12_findSolved 66 = .ok (.iload 4, 2) := by decide +kernel
theorem dX12_findSolved_68 : decode cX12_findSolved 68 = .ok (.ishr, 1) := by decide +kernel
theorem dX12_findSolved_69 : decode cX12_findSolved 69 = .ok (.iconst 1, 1) := by decide +kernel
theorem dX12_findSolved_70 : decode cX12_findSolved 70 = .ok (.iand, 1) := by decide +kernel
theorem dX12_findSolved_71 : decode cX12_findSolved 71 = .ok (.iconst 1, 1) := by decide +kernel
theorem dX12_findSolved_72 : decode cX12_findSolved 72 = .ok (.if_icmp .ne 33, 3) := by decide +kernel
theorem dX12_findSolved_75 : decode cX12_findSolved 75 = .ok (.aload_n 0, 1) := by decide +kernel
theorem dX12_findSolved_76 : decode cX12_findSolved 76 = .ok (.getfield 106, 3) := by decide +kernel
theorem dX12_findSolved_79 : decode cX12_findSolved 79 = .ok (.iload 4, 2) := by decide +kernel
theorem dX12_findSolved_81 : decode cX12_findSolved 81 = .ok (.iaload, 1) := by decide +kernel
theorem dX12_findSolved_82 : decode cX12_findSolved 82 = .ok (.ifCond .eq 23, 3) := by decide +kernel
theorem dX12_findSolved_85 : decode cX12_findSolved 85 = .ok (.iload_n 2, 1) := by decide +kernel
theorem dX12_findSolved_86 : decode cX12_findSolved 86 = .ok (.aload_n 0, 1) := by decide +kernel
theorem dX12_findSolved_87 : decode cX12_findSolved 87 = .ok (.getfield 106, 3) := by decide +kernel
theorem dX12_findSolved_90 : decode cX12_findSolved 90 = .ok (.iload 4, 2) := by decide +kernel
theorem dX12_findSolved_92 : decode cX12_findSolved 92 = .ok (.iaload, 1) := by decide +kernel
theorem dX12_findSolved_93 : decode cX12_findSolved 93 = .ok (.ixor, 1) := by decide +kernel
theorem dX12_findSolved_94 : decode cX12_findSolved 94 = .ok (.istore_n 2, 1) := by decide +kernel
theorem dX12_findSolved_95 : decode cX12_findSolved 95 = .ok (.iload_n 3, 1) := by decide +kernel
theorem dX12_findSolved_96 : decode cX12_findSolved 96 = .ok (.aload_n 0, 1) := by decide +kernel
theorem dX12_findSolved_97 : decode cX12_findSolved 97 = .ok (.getfield 109, 3) := by decide +kernel
theorem dX12_findSolved_100 : decode cX12_findSolved 100 = .ok (.iload 4, 2) := by decide +kernel
theorem dX12_findSolved_102 : decode cX12_findSolved 102 = .ok (.iaload, 1) := by decide +kernel
theorem dX12_findSolved_103 : decode cX12_findSolved 103 = .ok (.ixor, 1) := by decide +kernel
theorem dX12_findSolved_104 : decode cX12_findSolved 104 = .ok (.istore_n 3, 1) := by decide +kernel
theorem dX12_findSolved_105 : decode cX12_findSolved 105 = .ok (.iinc 4 1, 3) := by decide +kernel
theorem dX12_findSolved_108 : decode cX12_findSolved 108 = .ok (.goto (-50), 3) := by decide +kernel
theorem dX12_findSolved_111 : decode cX12_findSolved 111 = .ok (.iconst (-1), 1) := by decide +kernel
theorem dX12_findSolved_112 : decode cX12_findSolved 112 = .ok (.istore 4, 2) := by decide +kernel
theorem dX12_findSolved_114 : decode cX12_findSolved 114 = .ok (.bipush 19, 2) := by decide +kernel
theorem dX12_findSolved_116 : decode cX12_findSolved 116 = .ok (.istore 5, 2) := by decide +kernel
theorem dX12_findSolved_118 : decode cX12_findSolved 118 = .ok (.iload 5, 2) := by decide +kernel
theorem dX12_findSolved_120 : decode cX12_findSolved 120 = .ok (.ifCond .lt 28, 3) := by decide +kernel
theorem dX12_findSolved_123 : decode cX12_findSolved 123 = .ok (.iload_n 2, 1) := by decide +kernel
theorem dX12_findSolved_124 : decode cX12_findSolved 124 = .ok (.iload 5, 2) := by decide +kernel
theorem dX12_findSolved_126 : decode cX12_findSolved 126 = .ok (.ishr, 1) := by decide +kernel
theorem dX12_findSolved_127 : decode cX12_findSolved 127 = .ok (.iconst 1, 1) := by decide +kernel
theorem dX12_findSolved_128 : decode cX12_findSolved 128 = .ok (.iand, 1) := by decide +kernel
theorem dX12_findSolved_129 : decode cX12_findSolved 129 = .ok (.iconst 1, 1) := by decide +kernel
theorem dX12_findSolved_130 : decode cX12_findSolved 130 = .ok (.if_icmp .ne 8, 3) := by decide +kernel
theorem dX12_findSolved_133 : decode cX12_findSolved 133 = .ok (.iload 5, 2) := by decide +kernel
theorem dX12_findSolved_135 : decode cX12_findSolved 135 = .ok (.goto 5, 3) := by decide +kernel
theorem dX12_findSolved_138 : decode cX12_findSolved 138 = .ok (.iload 4, 2) := by decide +kernel
theorem dX12_findSolved_140 : decode cX12_findSolved 140 = .ok (.istore 4, 2) := by decide +kernel
theorem dX12_findSolved_142 : decode cX12_findSolved 142 = .ok (.iinc 5 (-1), 3) := by decide +kernel
theorem dX12_findSolved_145 : decode cX12_findSolved 145 = .ok (.goto (-27), 3) := by decide +kernel
theorem dX12_findSolved_148 : decode cX12_findSolved 148 = .ok (.iload 4, 2) := by decide +kernel
theorem dX12_findSolved_150 : decode cX12_findSolved 150 = .ok (.ifCond .ge 26, 3) := by decide +kernel
theorem dX12_findSolved_153 : decode cX12_findSolved 153 = .ok (.aload_n 0, 1) := by decide +kernel
theorem dX12_findSolved_154 : decode cX12_findSolved 154 = .ok (.aload_n 0, 1) := by decide +kernel
theorem dX12_findSolved_155 : decode cX12_findSolved 155 = .ok (.getfield 326, 3) := by decide +kernel
theorem dX12_findSolved_158 : decode cX12_findSolved 158 = .ok (.ifCond .eq 11, 3) := by decide +kernel
theorem dX12_findSolved_161 : decode cX12_findSolved 161 = .ok (.iload_n 3, 1) := by decide +kernel
theorem dX12_findSolved_162 : decode cX12_findSolved 162 = .ok (.ifCond .ne 7, 3) := by decide +kernel
theorem dX12_findSolved_165 : decode cX12_findSolved 165 = .ok (.iconst 1, 1) := by decide +kernel
theorem dX12_findSolved_166 : decode cX12_findSolved 166 = .ok (.goto 4, 3) := by decide +kernel
theorem dX12_findSolved_169 : decode cX12_findSolved 169 = .ok (.iconst 0, 1) := by decide +kernel
theorem dX12_findSolved_170 : decode cX12_findSolved 170 = .ok (.putfield 326, 3) := by decide +kernel
theorem dX12_findSolved_173 : decode cX12_findSolved 173 = .ok (.goto 83, 3) := by decide +kernel
theorem dX12_findSolved_176 : decode cX12_findSolved 176 = .ok (.iconst 0, 1) := by decide +kernel
theorem dX12_findSolved_177 : decode cX12_findSolved 177 = .ok (.istore 5, 2) := by decide +kernel
theorem dX12_findSolved_179 : decode cX12_findSolved 179 = .ok (.iload 5, 2) := by decide +kernel
theorem dX12_findSolved_181 : decode cX12_findSolved 181 = .ok (.bipush 20, 2) := by decide +kernel
theorem dX12_findSolved_183 : decode cX12_findSolved 183 = .ok (.if_icmp .ge 47, 3) := by decide +kernel
theorem dX12_findSolved_186 : decode cX12_findSolved 186 = .ok (.aload_n 0, 1) := by decide +kernel
theorem dX12_findSolved_187 : decode cX12_findSolved 187 = .ok (.getfield 106, 3) := by decide +kernel
theorem dX12_findSolved_190 : decode cX12_findSolved 190 = .ok (.iload 5, 2) := by decide +kernel
theorem dX12_findSolved_192 : decode cX12_findSolved 192 = .ok (.iaload, 1) := by decide +kernel
theorem dX12_findSolved_193 : decode cX12_findSolved 193 = .ok (.iload 4, 2) := by decide +kernel
theorem dX12_findSolved_195 : decode cX12_findSolved 195 = .ok (.ishr, 1) := by decide +kernel
theorem dX12_findSolved_196 : decode cX12_findSolved 196 = .ok (.iconst 1, 1) := by decide +kernel
theorem dX12_findSolved_197 : decode cX12_findSolved 197 = .ok (.iand, 1) := by decide +kernel
theorem dX12_findSolved_198 : decode cX12_findSolved 198 = .ok (.iconst 1, 1) := by decide +kernel
theorem dX12_findSolved_199 : decode cX12_findSolved 199 = .ok (.if_icmp .ne 25, 3) := by decide +kernel
theorem dX12_findSolved_202 : decode cX12_findSolved 202 = .ok (.aload_n 0, 1) := by decide +kernel
theorem dX12_findSolved_203 : decode cX12_findSolved 203 = .ok (.getfield 106, 3) := by decide +kernel
theorem dX12_findSolved_206 : decode cX12_findSolved 206 = .ok (.iload 5, 2) := by decide +kernel
theorem dX12_findSolved_208 : decode cX12_findSolved 208 = .ok (.dup2, 1) := by decide +kernel
theorem dX12_findSolved_209 : decode cX12_findSolved 209 = .ok (.iaload, 1) := by decide +kernel
theorem dX12_findSolved_210 : decode cX12_findSolved 210 = .ok (.iload_n 2, 1) := by decide +kernel
theorem dX12_findSolved_211 : decode cX12_findSolved 211 = .ok (.ixor, 1) := by decide +kernel
theorem dX12_findSolved_212 : decode cX12_findSolved 212 = .ok (.iastore, 1) := by decide +kernel
theorem dX12_findSolved_213 : decode cX12_findSolved 213 = .ok (.aload_n 0, 1) := by decide +kernel
theorem dX12_findSolved_214 : decode cX12_findSolved 214 = .ok (.getfield 109, 3) := by decide +kernel
theorem dX12_findSolved_217 : decode cX12_findSolved 217 = .ok (.iload 5, 2) := by decide +kernel
theorem dX12_findSolved_219 : decode cX12_findSolved 219 = .ok (.dup2, 1) := by decide +kernel
theorem dX12_findSolved_220 : decode cX12_findSolved 220 = .ok (.iaload, 1) := by decide +kernel
theorem dX12_findSolved_221 : decode cX12_findSolved 221 = .ok (.iload_n 3, 1) := by decide +kernel
theorem dX12_findSolved_222 : decode cX12_findSolved 222 = .ok (.ixor, 1) := by decide +kernel
theorem dX12_findSolved_223 : decode cX12_findSolved 223 = .ok (.iastore, 1) := by decide +kernel
theorem dX12_findSolved_224 : decode cX12_findSolved 224 = .ok (.iinc 5 1, 3) := by decide +kernel
theorem dX12_findSolved_227 : decode cX12_findSolved 227 = .ok (.goto (-48), 3) := by decide +kernel
theorem dX12_findSolved_230 : decode cX12_findSolved 230 = .ok (.aload_n 0, 1) := by decide +kernel
theorem dX12_findSolved_231 : decode cX12_findSolved 231 = .ok (.getfield 106, 3) := by decide +kernel
theorem dX12_findSolved_234 : decode cX12_findSolved 234 = .ok (.iload 4, 2) := by decide +kernel
theorem dX12_findSolved_236 : decode cX12_findSolved 236 = .ok (.iload_n 2, 1) := by decide +kernel
theorem dX12_findSolved_237 : decode cX12_findSolved 237 = .ok (.iastore, 1) := by decide +kernel
theorem dX12_findSolved_238 : decode cX12_findSolved 238 = .ok (.aload_n 0, 1) := by decide +kernel
theorem dX12_findSolved_239 : decode cX12_findSolved 239 = .ok (.getfield 109, 3) := by decide +kernel
theorem dX12_findSolved_242 : decode cX12_findSolved 242 = .ok (.iload 4, 2) := by decide +kernel
theorem dX12_findSolved_244 : decode cX12_findSolved 244 = .ok (.iload_n 3, 1) := by decide +kernel
theorem dX12_findSolved_245 : decode cX12_findSolved 245 = .ok (.iastore, 1) := by decide +kernel
theorem dX12_findSolved_246 : decode cX12_findSolved 246 = .ok (.aload_n 0, 1) := by decide +kernel
theorem dX12_findSolved_247 : decode cX12_findSolved 247 = .ok (.dup, 1) := by decide +kernel
theorem dX12_findSolved_248 : decode cX12_findSolved 248 = .ok (.getfield 324, 3) := by decide +kernel
theorem dX12_findSolved_251 : decode cX12_findSolved 251 = .ok (.iconst 1, 1) := by decide +kernel
theorem dX12_findSolved_252 : decode cX12_findSolved 252 = .ok (.iadd, 1) := by decide +kernel
theorem dX12_findSolved_253 : decode cX12_findSolved 253 = .ok (.putfield 324, 3) := by decide +kernel
theorem dX12_findSolved_256 : decode cX12_findSolved 256 = .ok (.iinc 1 1, 3) := by decide +kernel
theorem dX12_findSolved_259 : decode cX12_findSolved 259 = .ok (.goto (-226), 3) := by decide +kernel
theorem dX12_findSolved_262 : decode cX12_findSolved 262 = .ok (.return_, 1) := by decide +kernel
set_option maxHeartbeats 4000000 in
set_option maxRecDepth 100000 in
theorem s_X12_findSolved {P : PP} {a0 : Nat} (I : IM P a0) (hW : MW P a0) : CtrV yX12_findSolved cX12_findSolved 6 none ({ frames := 1, cells := 0, slots := 0, locals := 64 } : Room) 0 0 P [.ref a0] (fun P2 => IM P2 a0 ∧ EM [35, 36, 37, 38] a0 P P2 ∧ MW P2 a0) := by
  refine enV (lv := [(0, .ref a0)]) (by decide) (Nat.le_of_ble_eq_true rfl) rfl (fun E D cy C Ci0 ret => ?_)
  have ha0 := I.2.1
  have J33 : ∀ (n33 : Nat) (P33 : PP) (v33_1 : Int32), (64 - v33_1.toInt).toNat < n33 → (IM P33 a0) → (EM [35, 36, 37, 38] a0 P P33) → (MW P33 a0) → (0 ≤ v33_1.toInt ∧ v33_1.toInt ≤ 64) → G E ({ frames := 1, cells := 0, slots := 0, locals := 64 } : Room) D cy 6 P33 0 0 33 [(0, .ref a0), (1, .int v33_1)] [] := by
    intro n33
    induction n33 with
    | zero => intro P33 v33_1 hm33 I33 X33 W33 hv33_1; omega
    | succ n33 ih33 =>
      intro P33 v33_1 hm33 I33 X33 W33 hv33_1
      have h14647 := X33.at ha0
      have J256 : ∀ (P256 : PP), (IM P256 a0) → (EM [35, 36, 37, 38] a0 P P256) → (MW P256 a0) → (0 ≤ v33_1.toInt ∧ v33_1.toInt ≤ 63) → (1 ≤ (pI P256 a0 28).toInt ∧ (pI P256 a0 28).toInt ≤ 64) → G E ({ frames := 1, cells := 0, slots := 0, locals := 64 } : Room) D cy 6 P256 0 0 256 [(0, .ref a0), (1, .int v33_1)] [] := by
        intro P256 I256 X256 W256 hv256_1 hq256_0
        have h14648 := X256.at ha0
        refine s_iinc (lv0 := [(0, .ref a0)]) (m := 1) C dX12_findSolved_256 1 rfl (by decide) rfl (by decide) (by omega) (fun z14649 h14650 => ?_)
        have h14650 : z14649.toInt = v33_1.toInt + 1 := h14650
        refine g_goto C 33 dX12_findSolved_259 (by decide) ?_
        refine g_lv (lv' := [(0, .ref a0), (1, .int z14649)]) [1, 0] rfl ?_
        exact ih33 P256 z14649 (by omega) I256 X256 W256 (by omega)
      have J179 : ∀ (n179 : Nat) (P179 : PP) (v179_2 : Int32) (v179_3 : Int32) (v179_4 : Int32) (v179_5 : Int32), (20 - v179_5.toInt).toNat < n179 → (IM P179 a0) → (EM [35, 36, 37, 38] a0 P P179) → (MW P179 a0) → (0 ≤ v33_1.toInt ∧ v33_1.toInt ≤ 63) → (0 ≤ v179_4.toInt ∧ v179_4.toInt ≤ 19) → (0 ≤ v179_5.toInt ∧ v179_5.toInt ≤ 20) → (1 ≤ (pI P179 a0 28).toInt ∧ (pI P179 a0 28).toInt ≤ 64) → G E ({ frames := 1, cells := 0, slots := 0, locals := 64 } : Room) D cy 6 P179 0 0 179 [(0, .ref a0), (1, .int v33_1), (2, .int v179_2), (3, .int v179_3), (4, .int v179_4), (5, .int v179_5)] [] := by
        intro n179
        induction n179 with
        | zero => intro P179 v179_2 v179_3 v179_4 v179_5 hm179 I179 X179 W179 hv179_1 hv179_4 hv179_5 hq179_0; omega
        | succ n179 ih179 =>
          intro P179 v179_2 v179_3 v179_4 v179_5 hm179 I179 X179 W179 hv179_1 hv179_4 hv179_5 hq179_0
          have h14651 := X179.at ha0
          have J224 : ∀ (P224 : PP), (IM P224 a0) → (EM [35, 36, 37, 38] a0 P P224) → (MW P224 a0) → (0 ≤ v33_1.toInt ∧ v33_1.toInt ≤ 63) → (0 ≤ v179_5.toInt ∧ v179_5.toInt ≤ 19) → (1 ≤ (pI P224 a0 28).toInt ∧ (pI P224 a0 28).toInt ≤ 64) → G E ({ frames := 1, cells := 0, slots := 0, locals := 64 } : Room) D cy 6 P224 0 0 224 [(0, .ref a0), (1, .int v33_1), (2, .int v179_2), (3, .int v179_3), (4, .int v179_4), (5, .int v179_5)] [] := by
            intro P224 I224 X224 W224 hv224_1 hv224_5 hq224_0
            have h14652 := X224.at ha0
            refine s_iinc (lv0 := [(0, .ref a0), (1, .int v33_1), (2, .int v179_2), (3, .int v179_3), (4, .int v179_4)]) (m := 1) C dX12_findSolved_224 5 rfl (by decide) rfl (by decide) (by omega) (fun z14653 h14654 => ?_)
            have h14654 : z14653.toInt = v179_5.toInt + 1 := h14654
            refine g_goto C 179 dX12_findSolved_227 (by decide) ?_
            refine g_lv (lv' := [(0, .ref a0), (1, .int v33_1), (2, .int v179_2), (3, .int v179_3), (4, .int v179_4), (5, .int z14653)]) [1, 2, 3, 4, 5, 0] rfl ?_
            exact ih179 P224 v179_2 v179_3 v179_4 z14653 (by omega) I224 X224 W224 (by omega) (by omega) (by omega) (by omega)
          refine g_iload C dX12_findSolved_179 5 rfl ?_
          refine g_bipush (v := 20) C dX12_findSolved_181 (by decide) ?_
          refine b_icmp_ge C 230 dX12_findSolved_183 (by decide) (fun h14655 => ?_) (fun h14655 => ?_)
          · have h14655 : 20 ≤ v179_5.toInt := h14655
            refine g_aload_n C dX12_findSolved_230 rfl 0 rfl ?_
            obtain ⟨b14656, e14657, h14658⟩ := I179.fld (h14651) 37 13 20 rfl
            refine g_getR C fi_X12_106 rfl e14657 (h14651).1 (h14651).2 dX12_findSolved_231 ?_
            refine g_iload C dX12_findSolved_234 4 rfl ?_
            refine g_iload_n C dX12_findSolved_236 rfl 2 rfl ?_
            refine g_iast (j := (v179_4.toInt.toNat)) C h14658.1 h14658.2.1 (ix_in h14658.2.2 (by omega)) dX12_findSolved_237 ?_
            refine gqW (ks := [37]) (I179.setA e14657 h14658 (by decide) (arOk.none rfl)) (EM.setA I179 e14657 rfl (by decide)) (fun Y14659 Iy14660 Xy14661 w14662 => ?_)
            have w14662 : (pI Y14659 b14656 (v179_4.toInt.toNat)).toInt = v179_2.toInt := w14662
            have q14663 := Xy14661.keepF 28 (by decide)
            have W14664 := W179.keep I179 Xy14661 (by decide) (by decide) (by decide)
            have Xz14665 : EM [35, 36, 37, 38] a0 P Y14659 := EM.tr ha0 X179 (Xy14661.mono (by decide))
            have e14666 := Xy14661.ref h14651 (by decide) e14657
            have h14667 := Xy14661.at h14651
            have h14668 := Xy14661.ar h14658
            refine g_aload_n C dX12_findSolved_238 rfl 0 rfl ?_
            obtain ⟨b14669, e14670, h14671⟩ := Iy14660.fld (h14667) 38 13 20 rfl
            refine g_getR C fi_X12_109 rfl e14670 (h14667).1 (h14667).2 dX12_findSolved_239 ?_
            refine g_iload C dX12_findSolved_242 4 rfl ?_
            refine g_iload_n C dX12_findSolved_244 rfl 3 rfl ?_
            refine g_iast (j := (v179_4.toInt.toNat)) C h14671.1 h14671.2.1 (ix_in h14671.2.2 (by omega)) dX12_findSolved_245 ?_
            refine gqW (ks := [38]) (Iy14660.setA e14670 h14671 (by decide) (arOk.none rfl)) (EM.setA Iy14660 e14670 rfl (by decide)) (fun Y14672 Iy14673 Xy14674 w14675 => ?_)
            have w14675 : (pI Y14672 b14669 (v179_4.toInt.toNat)).toInt = v179_3.toInt := w14675
            have q14676 := Xy14674.keepF 28 (by decide)
            have q14677 := Xy14674.keepA e14666 (by decide) rfl (v179_4.toInt.toNat)
            have W14678 := W14664.keep Iy14660 Xy14674 (by decide) (by decide) (by decide)
            have Xz14679 : EM [35, 36, 37, 38] a0 P Y14672 := EM.tr ha0 Xz14665 (Xy14674.mono (by decide))
            have e14680 := Xy14674.ref h14667 (by decide) e14666
            have e14681 := Xy14674.ref h14667 (by decide) e14670
            have h14682 := Xy14674.at h14667
            have h14683 := Xy14674.ar h14668
            have h14684 := Xy14674.ar h14671
            refine g_aload_n C dX12_findSolved_246 rfl 0 rfl ?_
            refine g_dup C dX12_findSolved_247 rfl ?_
            refine g_getI C fi_X12_324 (by decide) (h14682).1 (h14682).2 dX12_findSolved_248 ?_
            refine g_iconst (v := 1) C dX12_findSolved_251 (by decide) ?_
            refine a_iadd C dX12_findSolved_252 (fun z14685 => ?_)
            refine g_putI C fi_X12_324 rfl (h14682).1 (h14682).2 dX12_findSolved_253 ?_
            refine gqW (ks := [35]) (Iy14673.setI (rgOk.none rfl)) (EM.setI Iy14673 (by decide)) (fun Y14687 Iy14688 Xy14689 w14690 => ?_)
            have w14690 : (pI Y14687 a0 35).toInt = z14685.toInt := w14690
            have q14691 := Xy14689.keepF 28 (by decide)
            have q14692 := Xy14689.keepA e14680 (by decide) rfl (v179_4.toInt.toNat)
            have q14693 := Xy14689.keepA e14681 (by decide) rfl (v179_4.toInt.toNat)
            have W14694 := W14678.keep Iy14673 Xy14689 (by decide) (by decide) (by decide)
            have Xz14695 : EM [35, 36, 37, 38] a0 P Y14687 := EM.tr ha0 Xz14679 (Xy14689.mono (by decide))
            have e14696 := Xy14689.ref h14682 (by decide) e14680
            have e14697 := Xy14689.ref h14682 (by decide) e14681
            have h14698 := Xy14689.at h14682
            have h14699 := Xy14689.ar h14683
            have h14700 := Xy14689.ar h14684
            refine g_lv (lv' := [(0, .ref a0), (1, .int v33_1)]) [0, 1] rfl ?_
            exact J256 Y14687 Iy14688 Xz14695 W14694 (by omega) (by omega)
          · have h14655 : v179_5.toInt < 20 := h14655
            refine g_aload_n C dX12_findSolved_186 rfl 0 rfl ?_
            obtain ⟨b14701, e14702, h14703⟩ := I179.fld (h14651) 37 13 20 rfl
            refine g_getR C fi_X12_106 rfl e14702 (h14651).1 (h14651).2 dX12_findSolved_187 ?_
            refine g_iload C dX12_findSolved_190 5 rfl ?_
            refine g_iald (j := (v179_5.toInt.toNat)) C h14703.1 h14703.2.1 (ix_in h14703.2.2 (by omega)) dX12_findSolved_192 ?_
            refine g_iload C dX12_findSolved_193 4 rfl ?_
            refine a_ishr C dX12_findSolved_195 (fun z14704 => ?_)
            refine g_iconst (v := 1) C dX12_findSolved_196 (by decide) ?_
            refine s_iand C dX12_findSolved_197 (by show 0 ≤ 1; omega) (fun z14706 h14707 => ?_)
            have h14707 : 0 ≤ z14706.toInt ∧ z14706.toInt ≤ 1 := h14707
            refine g_iconst (v := 1) C dX12_findSolved_198 (by decide) ?_
            refine b_icmp_ne C 224 dX12_findSolved_199 (by decide) (fun h14708 => ?_) (fun h14708 => ?_)
            · have h14708 : z14706.toInt ≠ 1 := ti_ne h14708
              exact J224 P179 I179 X179 W179 (by omega) (by omega) (by omega)
            · have h14708 : z14706.toInt = 1 := congrArg Int32.toInt h14708
              refine g_aload_n C dX12_findSolved_202 rfl 0 rfl ?_
              refine g_getR C fi_X12_106 rfl e14702 (h14651).1 (h14651).2 dX12_findSolved_203 ?_
              refine g_iload C dX12_findSolved_206 5 rfl ?_
              refine g_dup2_11 C dX12_findSolved_208 rfl rfl ?_
              refine g_iald (j := (v179_5.toInt.toNat)) C h14703.1 h14703.2.1 (ix_in h14703.2.2 (by omega)) dX12_findSolved_209 ?_
              refine g_iload_n C dX12_findSolved_210 rfl 2 rfl ?_
              refine a_ixor C dX12_findSolved_211 (fun z14709 => ?_)
              refine g_iast (j := (v179_5.toInt.toNat)) C h14703.1 h14703.2.1 (ix_in h14703.2.2 (by omega)) dX12_findSolved_212 ?_
              refine gqW (ks := [37]) (I179.setA e14702 h14703 (by decide) (arOk.none rfl)) (EM.setA I179 e14702 rfl (by decide)) (fun Y14711 Iy14712 Xy14713 w14714 => ?_)
              have w14714 : (pI Y14711 b14701 (v179_5.toInt.toNat)).toInt = z14709.toInt := w14714
              have q14715 := Xy14713.keepF 28 (by decide)
              have W14716 := W179.keep I179 Xy14713 (by decide) (by decide) (by decide)
              have Xz14717 : EM [35, 36, 37, 38] a0 P Y14711 := EM.tr ha0 X179 (Xy14713.mono (by decide))
              have e14718 := Xy14713.ref h14651 (by decide) e14702
              have h14719 := Xy14713.at h14651
              have h14720 := Xy14713.ar h14703
              refine g_aload_n C dX12_findSolved_213 rfl 0 rfl ?_
              obtain ⟨b14721, e14722, h14723⟩ := Iy14712.fld (h14719) 38 13 20 rfl
              refine g_getR C fi_X12_109 rfl e14722 (h14719).1 (h14719).2 dX12_findSolved_214 ?_
              refine g_iload C dX12_findSolved_217 5 rfl ?_
              refine g_dup2_11 C dX12_findSolved_219 rfl rfl ?_
              refine g_iald (j := (v179_5.toInt.toNat)) C h14723.1 h14723.2.1 (ix_in h14723.2.2 (by omega)) dX12_findSolved_220 ?_
              refine g_iload_n C dX12_findSolved_221 rfl 3 rfl ?_
              refine a_ixor C dX12_findSolved_222 (fun z14724 => ?_)
              refine g_iast (j := (v179_5.toInt.toNat)) C h14723.1 h14723.2.1 (ix_in h14723.2.2 (by omega)) dX12_findSolved_223 ?_
              refine gqW (ks := [38]) (Iy14712.setA e14722 h14723 (by decide) (arOk.none rfl)) (EM.setA Iy14712 e14722 rfl (by decide)) (fun Y14726 Iy14727 Xy14728 w14729 => ?_)
              have w14729 : (pI Y14726 b14721 (v179_5.toInt.toNat)).toInt = z14724.toInt := w14729
              have q14730 := Xy14728.keepF 28 (by decide)
              have q14731 := Xy14728.keepA e14718 (by decide) rfl (v179_5.toInt.toNat)
              have W14732 := W14716.keep Iy14712 Xy14728 (by decide) (by decide) (by decide)
              have Xz14733 : EM [35, 36, 37, 38] a0 P Y14726 := EM.tr ha0 Xz14717 (Xy14728.mono (by decide))
              have e14734 := Xy14728.ref h14719 (by decide) e14718
              have e14735 := Xy14728.ref h14719 (by decide) e14722
              have h14736 := Xy14728.at h14719
              have h14737 := Xy14728.ar h14720
              have h14738 := Xy14728.ar h14723
              exact J224 Y14726 Iy14727 Xz14733 W14732 (by omega) (by omega) (by omega)
      have J170 : ∀ (v170_s0 : Int32), (0 ≤ v33_1.toInt ∧ v33_1.toInt ≤ 63) → (0 ≤ v170_s0.toInt ∧ v170_s0.toInt ≤ 1) → (1 ≤ (pI P33 a0 28).toInt ∧ (pI P33 a0 28).toInt ≤ 64) → G E ({ frames := 1, cells := 0, slots := 0, locals := 64 } : Room) D cy 6 P33 0 0 170 [(0, .ref a0), (1, .int v33_1)] [.int v170_s0, .ref a0] := by
        intro v170_s0 hv170_1 hv170_s0 hq170_0
        have h14739 := X33.at ha0
        refine g_putZ C fi_X12_326 rfl (b01 (by omega)) (h14739).1 (h14739).2 dX12_findSolved_170 ?_
        refine gqW (ks := [36]) (I33.setI (rgOk.of rfl (by omega))) (EM.setI I33 (by decide)) (fun Y14740 Iy14741 Xy14742 w14743 => ?_)
        have w14743 : (pI Y14740 a0 36).toInt = v170_s0.toInt := w14743
        have q14744 := Xy14742.keepF 28 (by decide)
        have W14745 := W33.keep I33 Xy14742 (by decide) (by decide) (by decide)
        have Xz14746 : EM [35, 36, 37, 38] a0 P Y14740 := EM.tr ha0 X33 (Xy14742.mono (by decide))
        have h14747 := Xy14742.at h14739
        refine g_goto C 256 dX12_findSolved_173 (by decide) ?_
        exact J256 Y14740 Iy14741 Xz14746 W14745 (by omega) (by omega)
      have J169 : (0 ≤ v33_1.toInt ∧ v33_1.toInt ≤ 63) → (1 ≤ (pI P33 a0 28).toInt ∧ (pI P33 a0 28).toInt ≤ 64) → (0 ≤ (pI P33 a0 36).toInt ∧ (pI P33 a0 36).toInt ≤ 1) → G E ({ frames := 1, cells := 0, slots := 0, locals := 64 } : Room) D cy 6 P33 0 0 169 [(0, .ref a0), (1, .int v33_1)] [.ref a0] := by
        intro hv169_1 hq169_0 hq169_1
        have h14748 := X33.at ha0
        refine g_iconst (v := 0) C dX12_findSolved_169 (by decide) ?_
        exact J170 0 (by omega) (by decide) (by omega)
      have J118 : ∀ (n118 : Nat) (v118_2 : Int32) (v118_3 : Int32) (v118_4 : Int32) (v118_5 : Int32), (v118_5.toInt - (-1)).toNat < n118 → (0 ≤ v33_1.toInt ∧ v33_1.toInt ≤ 63) → (-1 ≤ v118_4.toInt ∧ v118_4.toInt ≤ 19) → (-1 ≤ v118_5.toInt ∧ v118_5.toInt ≤ 19) → (1 ≤ (pI P33 a0 28).toInt ∧ (pI P33 a0 28).toInt ≤ 64) → G E ({ frames := 1, cells := 0, slots := 0, locals := 64 } : Room) D cy 6 P33 0 0 118 [(0, .ref a0), (1, .int v33_1), (2, .int v118_2), (3, .int v118_3), (4, .int v118_4), (5, .int v118_5)] [] := by
        intro n118
        induction n118 with
        | zero => intro v118_2 v118_3 v118_4 v118_5 hm118 hv118_1 hv118_4 hv118_5 hq118_0; omega
        | succ n118 ih118 =>
          intro v118_2 v118_3 v118_4 v118_5 hm118 hv118_1 hv118_4 hv118_5 hq118_0
          have h14749 := X33.at ha0
          have J140 : ∀ (v140_s0 : Int32), (0 ≤ v33_1.toInt ∧ v33_1.toInt ≤ 63) → (0 ≤ v118_5.toInt ∧ v118_5.toInt ≤ 19) → (-1 ≤ v140_s0.toInt ∧ v140_s0.toInt ≤ 19) → (1 ≤ (pI P33 a0 28).toInt ∧ (pI P33 a0 28).toInt ≤ 64) → G E ({ frames := 1, cells := 0, slots := 0, locals := 64 } : Room) D cy 6 P33 0 0 140 [(0, .ref a0), (1, .int v33_1), (2, .int v118_2), (3, .int v118_3), (5, .int v118_5)] [.int v140_s0] := by
            intro v140_s0 hv140_1 hv140_5 hv140_s0 hq140_0
            have h14750 := X33.at ha0
            refine g_istore (lv' := [(4, .int v140_s0), (0, .ref a0), (1, .int v33_1), (2, .int v118_2), (3, .int v118_3), (5, .int v118_5)]) C dX12_findSolved_140 (by decide) rfl ?_
            refine s_iinc (lv0 := [(4, .int v140_s0), (0, .ref a0), (1, .int v33_1), (2, .int v118_2), (3, .int v118_3)]) (m := -1) C dX12_findSolved_142 5 rfl (by decide) rfl (by decide) (by omega) (fun z14751 h14752 => ?_)
            have h14752 : z14751.toInt = v118_5.toInt + (-1) := h14752
            refine g_goto C 118 dX12_findSolved_145 (by decide) ?_
            refine g_lv (lv' := [(0, .ref a0), (1, .int v33_1), (2, .int v118_2), (3, .int v118_3), (4, .int v140_s0), (5, .int z14751)]) [2, 3, 4, 5, 1, 0] rfl ?_
            exact ih118 v118_2 v118_3 v140_s0 z14751 (by omega) (by omega) (by omega) (by omega) (by omega)
          refine g_iload C dX12_findSolved_118 5 rfl ?_
          refine b_if_lt C 148 dX12_findSolved_120 (by decide) (fun h14753 => ?_) (fun h14753 => ?_)
          · have h14753 : v118_5.toInt < 0 := h14753
            refine g_iload C dX12_findSolved_148 4 rfl ?_
            refine b_if_ge C 176 dX12_findSolved_150 (by decide) (fun h14754 => ?_) (fun h14754 => ?_)
            · have h14754 : 0 ≤ v118_4.toInt := h14754
              refine g_iconst (v := 0) C dX12_findSolved_176 (by decide) ?_
              refine g_istore (lv' := [(5, .int 0), (0, .ref a0), (1, .int v33_1), (2, .int v118_2), (3, .int v118_3), (4, .int v118_4)]) C dX12_findSolved_177 (by decide) rfl ?_
              refine g_lv (lv' := [(0, .ref a0), (1, .int v33_1), (2, .int v118_2), (3, .int v118_3), (4, .int v118_4), (5, .int 0)]) [1, 2, 3, 4, 5, 0] rfl ?_
              exact J179 _ P33 v118_2 v118_3 v118_4 0 (Nat.lt_succ_self _) I33 X33 W33 (by omega) (by omega) (by decide) (by omega)
            · have h14754 : v118_4.toInt < 0 := h14754
              refine g_aload_n C dX12_findSolved_153 rfl 0 rfl ?_
              refine g_aload_n C dX12_findSolved_154 rfl 0 rfl ?_
              refine g_getI C fi_X12_326 (by decide) (h14749).1 (h14749).2 dX12_findSolved_155 ?_
              have h14755 := I33.rg (h14749) 36 rfl
              refine b_if_eq C 169 dX12_findSolved_158 (by decide) (fun h14756 => ?_) (fun h14756 => ?_)
              · have h14756 : (pI P33 a0 36).toInt = 0 := congrArg Int32.toInt h14756
                refine g_lv (lv' := [(0, .ref a0), (1, .int v33_1)]) [0, 1] rfl ?_
                exact J169 (by omega) (by omega) (by omega)
              · have h14756 : (pI P33 a0 36).toInt ≠ 0 := ti_ne h14756
                refine g_iload_n C dX12_findSolved_161 rfl 3 rfl ?_
                have u14758 := ti_rng v118_3
                refine b_if_ne C 169 dX12_findSolved_162 (by decide) (fun h14757 => ?_) (fun h14757 => ?_)
                · have h14757 : v118_3.toInt ≠ 0 := ti_ne h14757
                  refine g_lv (lv' := [(0, .ref a0), (1, .int v33_1)]) [0, 1] rfl ?_
                  exact J169 (by omega) (by omega) (by omega)
                · have h14757 : v118_3.toInt = 0 := congrArg Int32.toInt h14757
                  refine g_iconst (v := 1) C dX12_findSolved_165 (by decide) ?_
                  refine g_goto C 170 dX12_findSolved_166 (by decide) ?_
                  refine g_lv (lv' := [(0, .ref a0), (1, .int v33_1)]) [0, 1] rfl ?_
                  exact J170 1 (by omega) (by decide) (by omega)
          · have h14753 : 0 ≤ v118_5.toInt := h14753
            refine g_iload_n C dX12_findSolved_123 rfl 2 rfl ?_
            refine g_iload C dX12_findSolved_124 5 rfl ?_
            refine a_ishr C dX12_findSolved_126 (fun z14759 => ?_)
            refine g_iconst (v := 1) C dX12_findSolved_127 (by decide) ?_
            refine s_iand C dX12_findSolved_128 (by show 0 ≤ 1; omega) (fun z14761 h14762 => ?_)
            have h14762 : 0 ≤ z14761.toInt ∧ z14761.toInt ≤ 1 := h14762
            refine g_iconst (v := 1) C dX12_findSolved_129 (by decide) ?_
            refine b_icmp_ne C 138 dX12_findSolved_130 (by decide) (fun h14763 => ?_) (fun h14763 => ?_)
            · have h14763 : z14761.toInt ≠ 1 := ti_ne h14763
              refine g_iload C dX12_findSolved_138 4 rfl ?_
              refine g_lv (lv' := [(0, .ref a0), (1, .int v33_1), (2, .int v118_2), (3, .int v118_3), (5, .int v118_5)]) [0, 1, 2, 3, 5] rfl ?_
              exact J140 v118_4 (by omega) (by omega) (by omega) (by omega)
            · have h14763 : z14761.toInt = 1 := congrArg Int32.toInt h14763
              refine g_iload C dX12_findSolved_133 5 rfl ?_
              refine g_goto C 140 dX12_findSolved_135 (by decide) ?_
              refine g_lv (lv' := [(0, .ref a0), (1, .int v33_1), (2, .int v118_2), (3, .int v118_3), (5, .int v118_5)]) [0, 1, 2, 3, 5] rfl ?_
              exact J140 v118_5 (by omega) (by omega) (by omega) (by omega)
      have J58 : ∀ (n58 : Nat) (v58_2 : Int32) (v58_3 : Int32) (v58_4 : Int32), (20 - v58_4.toInt).toNat < n58 → (0 ≤ v33_1.toInt ∧ v33_1.toInt ≤ 63) → (0 ≤ v58_4.toInt ∧ v58_4.toInt ≤ 20) → (1 ≤ (pI P33 a0 28).toInt ∧ (pI P33 a0 28).toInt ≤ 64) → G E ({ frames := 1, cells := 0, slots := 0, locals := 64 } : Room) D cy 6 P33 0 0 58 [(0, .ref a0), (1, .int v33_1), (2, .int v58_2), (3, .int v58_3), (4, .int v58_4)] [] := by
        intro n58
        induction n58 with
        | zero => intro v58_2 v58_3 v58_4 hm58 hv58_1 hv58_4 hq58_0; omega
        | succ n58 ih58 =>
          intro v58_2 v58_3 v58_4 hm58 hv58_1 hv58_4 hq58_0
          have h14764 := X33.at ha0
          have J105 : ∀ (v105_2 : Int32) (v105_3 : Int32), (0 ≤ v33_1.toInt ∧ v33_1.toInt ≤ 63) → (0 ≤ v58_4.toInt ∧ v58_4.toInt ≤ 19) → (1 ≤ (pI P33 a0 28).toInt ∧ (pI P33 a0 28).toInt ≤ 64) → G E ({ frames := 1, cells := 0, slots := 0, locals := 64 } : Room) D cy 6 P33 0 0 105 [(0, .ref a0), (1, .int v33_1), (2, .int v105_2), (3, .int v105_3), (4, .int v58_4)] [] := by
            intro v105_2 v105_3 hv105_1 hv105_4 hq105_0
            have h14765 := X33.at ha0
            refine s_iinc (lv0 := [(0, .ref a0), (1, .int v33_1), (2, .int v105_2), (3, .int v105_3)]) (m := 1) C dX12_findSolved_105 4 rfl (by decide) rfl (by decide) (by omega) (fun z14766 h14767 => ?_)
            have h14767 : z14766.toInt = v58_4.toInt + 1 := h14767
            refine g_goto C 58 dX12_findSolved_108 (by decide) ?_
            refine g_lv (lv' := [(0, .ref a0), (1, .int v33_1), (2, .int v105_2), (3, .int v105_3), (4, .int z14766)]) [1, 2, 3, 4, 0] rfl ?_
            exact ih58 v105_2 v105_3 z14766 (by omega) (by omega) (by omega) (by omega)
          refine g_iload C dX12_findSolved_58 4 rfl ?_
          refine g_bipush (v := 20) C dX12_findSolved_60 (by decide) ?_
          refine b_icmp_ge C 111 dX12_findSolved_62 (by decide) (fun h14768 => ?_) (fun h14768 => ?_)
          · have h14768 : 20 ≤ v58_4.toInt := h14768
            refine g_iconst (v := (-1)) C dX12_findSolved_111 (by decide) ?_
            refine g_istore (lv' := [(4, .int (-1)), (0, .ref a0), (1, .int v33_1), (2, .int v58_2), (3, .int v58_3)]) C dX12_findSolved_112 (by decide) rfl ?_
            refine g_bipush (v := 19) C dX12_findSolved_114 (by decide) ?_
            refine g_istore (lv' := [(5, .int 19), (4, .int (-1)), (0, .ref a0), (1, .int v33_1), (2, .int v58_2), (3, .int v58_3)]) C dX12_findSolved_116 (by decide) rfl ?_
            refine g_lv (lv' := [(0, .ref a0), (1, .int v33_1), (2, .int v58_2), (3, .int v58_3), (4, .int (-1)), (5, .int 19)]) [2, 3, 4, 5, 1, 0] rfl ?_
            exact J118 _ v58_2 v58_3 (-1) 19 (Nat.lt_succ_self _) (by omega) (by decide) (by decide) (by omega)
          · have h14768 : v58_4.toInt < 20 := h14768
            refine g_iload_n C dX12_findSolved_65 rfl 2 rfl ?_
            refine g_iload C dX12_findSolved_66 4 rfl ?_
            refine a_ishr C dX12_findSolved_68 (fun z14769 => ?_)
            refine g_iconst (v := 1) C dX12_findSolved_69 (by decide) ?_
            refine s_iand C dX12_findSolved_70 (by show 0 ≤ 1; omega) (fun z14771 h14772 => ?_)
            have h14772 : 0 ≤ z14771.toInt ∧ z14771.toInt ≤ 1 := h14772
            refine g_iconst (v := 1) C dX12_findSolved_71 (by decide) ?_
            refine b_icmp_ne C 105 dX12_findSolved_72 (by decide) (fun h14773 => ?_) (fun h14773 => ?_)
            · have h14773 : z14771.toInt ≠ 1 := ti_ne h14773
              exact J105 v58_2 v58_3 (by omega) (by omega) (by omega)
            · have h14773 : z14771.toInt = 1 := congrArg Int32.toInt h14773
              refine g_aload_n C dX12_findSolved_75 rfl 0 rfl ?_
              obtain ⟨b14774, e14775, h14776⟩ := I33.fld (h14764) 37 13 20 rfl
              refine g_getR C fi_X12_106 rfl e14775 (h14764).1 (h14764).2 dX12_findSolved_76 ?_
              refine g_iload C dX12_findSolved_79 4 rfl ?_
              refine g_iald (j := (v58_4.toInt.toNat)) C h14776.1 h14776.2.1 (ix_in h14776.2.2 (by omega)) dX12_findSolved_81 ?_
              have u14778 := ti_rng (pI P33 b14774 (v58_4.toInt.toNat))
              refine b_if_eq C 105 dX12_findSolved_82 (by decide) (fun h14777 => ?_) (fun h14777 => ?_)
              · have h14777 : (pI P33 b14774 (v58_4.toInt.toNat)).toInt = 0 := congrArg Int32.toInt h14777
                exact J105 v58_2 v58_3 (by omega) (by omega) (by omega)
              · have h14777 : (pI P33 b14774 (v58_4.toInt.toNat)).toInt ≠ 0 := ti_ne h14777
                refine g_iload_n C dX12_findSolved_85 rfl 2 rfl ?_
                refine g_aload_n C dX12_findSolved_86 rfl 0 rfl ?_
                refine g_getR C fi_X12_106 rfl e14775 (h14764).1 (h14764).2 dX12_findSolved_87 ?_
                refine g_iload C dX12_findSolved_90 4 rfl ?_
                refine g_iald (j := (v58_4.toInt.toNat)) C h14776.1 h14776.2.1 (ix_in h14776.2.2 (by omega)) dX12_findSolved_92 ?_
                refine a_ixor C dX12_findSolved_93 (fun z14779 => ?_)
                refine g_istore_n (lv' := [(2, .int z14779), (0, .ref a0), (1, .int v33_1), (3, .int v58_3), (4, .int v58_4)]) C dX12_findSolved_94 rfl (by decide) rfl ?_
                refine g_iload_n C dX12_findSolved_95 rfl 3 rfl ?_
                refine g_aload_n C dX12_findSolved_96 rfl 1 rfl ?_
                obtain ⟨b14781, e14782, h14783⟩ := I33.fld (h14764) 38 13 20 rfl
                refine g_getR C fi_X12_109 rfl e14782 (h14764).1 (h14764).2 dX12_findSolved_97 ?_
                refine g_iload C dX12_findSolved_100 4 rfl ?_
                refine g_iald (j := (v58_4.toInt.toNat)) C h14783.1 h14783.2.1 (ix_in h14783.2.2 (by omega)) dX12_findSolved_102 ?_
                refine a_ixor C dX12_findSolved_103 (fun z14784 => ?_)
                refine g_istore_n (lv' := [(3, .int z14784), (2, .int z14779), (0, .ref a0), (1, .int v33_1), (4, .int v58_4)]) C dX12_findSolved_104 rfl (by decide) rfl ?_
                refine g_lv (lv' := [(0, .ref a0), (1, .int v33_1), (2, .int z14779), (3, .int z14784), (4, .int v58_4)]) [2, 3, 1, 0, 4] rfl ?_
                exact J105 z14779 z14784 (by omega) (by omega) (by omega)
      refine g_iload_n C dX12_findSolved_33 rfl 1 rfl ?_
      refine g_aload_n C dX12_findSolved_34 rfl 0 rfl ?_
      refine g_getI C fi_X12_305 (by decide) (h14647).1 (h14647).2 dX12_findSolved_35 ?_
      have h14786 := I33.rg (h14647) 28 rfl
      refine b_icmp_ge C 262 dX12_findSolved_38 (by decide) (fun h14787 => ?_) (fun h14787 => ?_)
      · have h14787 : (pI P33 a0 28).toInt ≤ v33_1.toInt := h14787
        exact ret _ _ _ _ _ dX12_findSolved_262 (by decide) (by decide) ⟨I33, X33, W33⟩
      · have h14787 : v33_1.toInt < (pI P33 a0 28).toInt := h14787
        refine g_aload_n C dX12_findSolved_41 rfl 0 rfl ?_
        obtain ⟨b14788, e14789, h14790⟩ := I33.fld (h14647) 29 13 64 rfl
        refine g_getR C fi_X12_91 rfl e14789 (h14647).1 (h14647).2 dX12_findSolved_42 ?_
        refine g_iload_n C dX12_findSolved_45 rfl 1 rfl ?_
        refine g_iald (j := (v33_1.toInt.toNat)) C h14790.1 h14790.2.1 (ix_in h14790.2.2 (by omega)) dX12_findSolved_46 ?_
        refine g_topi (fun z14791 h14792 => ?_)
        have h14792 : z14791.toInt = (pI P33 b14788 (v33_1.toInt.toNat)).toInt := congrArg Int32.toInt h14792
        refine g_istore_n (lv' := [(2, .int z14791), (0, .ref a0), (1, .int v33_1)]) C dX12_findSolved_47 rfl (by decide) rfl ?_
        refine g_aload_n C dX12_findSolved_48 rfl 1 rfl ?_
        obtain ⟨b14793, e14794, h14795⟩ := I33.fld (h14647) 30 13 64 rfl
        refine g_getR C fi_X12_94 rfl e14794 (h14647).1 (h14647).2 dX12_findSolved_49 ?_
        refine g_iload_n C dX12_findSolved_52 rfl 2 rfl ?_
        refine g_iald (j := (v33_1.toInt.toNat)) C h14795.1 h14795.2.1 (ix_in h14795.2.2 (by omega)) dX12_findSolved_53 ?_
        refine g_topi (fun z14796 h14797 => ?_)
        have h14797 : z14796.toInt = (pI P33 b14793 (v33_1.toInt.toNat)).toInt := congrArg Int32.toInt h14797
        refine g_istore_n (lv' := [(3, .int z14796), (2, .int z14791), (0, .ref a0), (1, .int v33_1)]) C dX12_findSolved_54 rfl (by decide) rfl ?_
        refine g_iconst (v := 0) C dX12_findSolved_55 (by decide) ?_
        refine g_istore (lv' := [(4, .int 0), (3, .int z14796), (2, .int z14791), (0, .ref a0), (1, .int v33_1)]) C dX12_findSolved_56 (by decide) rfl ?_
        refine g_lv (lv' := [(0, .ref a0), (1, .int v33_1), (2, .int z14791), (3, .int z14796), (4, .int 0)]) [3, 4, 2, 1, 0] rfl ?_
        exact J58 _ z14791 z14796 0 (Nat.lt_succ_self _) (by omega) (by decide) (by omega)
  have J12 : ∀ (n12 : Nat) (P12 : PP) (v12_1 : Int32), (20 - v12_1.toInt).toNat < n12 → (IM P12 a0) → (EM [35, 36, 37, 38] a0 P P12) → (MW P12 a0) → (0 ≤ v12_1.toInt ∧ v12_1.toInt ≤ 20) → (0 ≤ (pI P12 a0 35).toInt ∧ (pI P12 a0 35).toInt ≤ 0) → (1 ≤ (pI P12 a0 36).toInt ∧ (pI P12 a0 36).toInt ≤ 1) → G E ({ frames := 1, cells := 0, slots := 0, locals := 64 } : Room) D cy 6 P12 0 0 12 [(0, .ref a0), (1, .int v12_1)] [] := by
    intro n12
    induction n12 with
    | zero => intro P12 v12_1 hm12 I12 X12 W12 hv12_1 hq12_0 hq12_1; omega
    | succ n12 ih12 =>
      intro P12 v12_1 hm12 I12 X12 W12 hv12_1 hq12_0 hq12_1
      have h14798 := X12.at ha0
      refine g_iload_n C dX12_findSolved_12 rfl 1 rfl ?_
      refine g_bipush (v := 20) C dX12_findSolved_13 (by decide) ?_
      refine b_icmp_ge C 31 dX12_findSolved_15 (by decide) (fun h14799 => ?_) (fun h14799 => ?_)
      · have h14799 : 20 ≤ v12_1.toInt := h14799
        refine g_iconst (v := 0) C dX12_findSolved_31 (by decide) ?_
        refine g_istore_n (lv' := [(1, .int 0), (0, .ref a0)]) C dX12_findSolved_32 rfl (by decide) rfl ?_
        refine g_lv (lv' := [(0, .ref a0), (1, .int 0)]) [1, 0] rfl ?_
        exact J33 _ P12 0 (Nat.lt_succ_self _) I12 X12 W12 (by decide)
      · have h14799 : v12_1.toInt < 20 := h14799
        refine g_aload_n C dX12_findSolved_18 rfl 0 rfl ?_
        obtain ⟨b14800, e14801, h14802⟩ := I12.fld (h14798) 37 13 20 rfl
        refine g_getR C fi_X12_106 rfl e14801 (h14798).1 (h14798).2 dX12_findSolved_19 ?_
        refine g_iload_n C dX12_findSolved_22 rfl 1 rfl ?_
        refine g_iconst (v := 0) C dX12_findSolved_23 (by decide) ?_
        refine g_iast (j := (v12_1.toInt.toNat)) C h14802.1 h14802.2.1 (ix_in h14802.2.2 (by omega)) dX12_findSolved_24 ?_
        refine gqW (ks := [37]) (I12.setA e14801 h14802 (by decide) (arOk.none rfl)) (EM.setA I12 e14801 rfl (by decide)) (fun Y14803 Iy14804 Xy14805 w14806 => ?_)
        have w14806 : (pI Y14803 b14800 (v12_1.toInt.toNat)).toInt = 0 := w14806
        have q14807 := Xy14805.keepF 35 (by decide)
        have q14808 := Xy14805.keepF 36 (by decide)
        have W14809 := W12.keep I12 Xy14805 (by decide) (by decide) (by decide)
        have Xz14810 : EM [35, 36, 37, 38] a0 P Y14803 := EM.tr ha0 X12 (Xy14805.mono (by decide))
        have e14811 := Xy14805.ref h14798 (by decide) e14801
        have h14812 := Xy14805.at h14798
        have h14813 := Xy14805.ar h14802
        refine s_iinc (lv0 := [(0, .ref a0)]) (m := 1) C dX12_findSolved_25 1 rfl (by decide) rfl (by decide) (by omega) (fun z14814 h14815 => ?_)
        have h14815 : z14814.toInt = v12_1.toInt + 1 := h14815
        refine g_goto C 12 dX12_findSolved_28 (by decide) ?_
        refine g_lv (lv' := [(0, .ref a0), (1, .int z14814)]) [1, 0] rfl ?_
        exact ih12 Y14803 z14814 (by omega) Iy14804 Xz14810 W14809 (by omega) (by omega) (by omega)
  refine g_aload_n C dX12_findSolved_0 rfl 0 rfl ?_
  refine g_iconst (v := 0) C dX12_findSolved_1 (by decide) ?_
  refine g_putI C fi_X12_324 rfl (ha0).1 (ha0).2 dX12_findSolved_2 ?_
  refine gqW (ks := [35]) (I.setI (rgOk.none rfl)) (EM.setI I (by decide)) (fun Y14816 Iy14817 Xy14818 w14819 => ?_)
  have w14819 : (pI Y14816 a0 35).toInt = 0 := w14819
  have W14820 := hW.keep I Xy14818 (by decide) (by decide) (by decide)
  have Xz14821 : EM [35, 36, 37, 38] a0 P Y14816 := Xy14818.mono (by decide)
  have h14822 := Xy14818.at ha0
  refine g_aload_n C dX12_findSolved_5 rfl 0 rfl ?_
  refine g_iconst (v := 1) C dX12_findSolved_6 (by decide) ?_
  refine g_putZ C fi_X12_326 rfl (Or.inr rfl) (h14822).1 (h14822).2 dX12_findSolved_7 ?_
  refine gqW (ks := [36]) (Iy14817.setI (rgOk.of rfl (by decide))) (EM.setI Iy14817 (by decide)) (fun Y14823 Iy14824 Xy14825 w14826 => ?_)
  have w14826 : (pI Y14823 a0 36).toInt = 1 := w14826
  have q14827 := Xy14825.keepF 35 (by decide)
  have W14828 := W14820.keep Iy14817 Xy14825 (by decide) (by decide) (by decide)
  have Xz14829 : EM [35, 36, 37, 38] a0 P Y14823 := EM.tr ha0 Xz14821 (Xy14825.mono (by decide))
  have h14830 := Xy14825.at h14822
  refine g_iconst (v := 0) C dX12_findSolved_10 (by decide) ?_
  refine g_istore_n (lv' := [(1, .int 0), (0, .ref a0)]) C dX12_findSolved_11 rfl (by decide) rfl ?_
  refine g_lv (lv' := [(0, .ref a0), (1, .int 0)]) [1, 0] rfl ?_
  exact J12 _ Y14823 0 (Nat.lt_succ_self _) Iy14824 Xz14829 W14828 (by decide) (by omega) (by omega)
theorem dX12_chancesOf_72 : decode cX12_chancesOf 72 = .ok (.aload_n 0, 1) := by decide +kernel
theorem dX12_chancesOf_73 : decode cX12_chancesOf 73 = .ok (.invokevirtual 343, 3) := by decide +kernel
theorem dX12_findPeeled_0 : decode cX12_findPeeled 0 = .ok (.aload_n 0, 1) := by decide +kernel
theorem dX12_findPeeled_1 : decode cX12_findPeeled 1 = .ok (.iconst 0, 1) := by decide +kernel
theorem dX12_findPeeled_2 : decode cX12_findPeeled 2 = .ok (.putfield 318, 3) := by decide +kernel
theorem dX12_findPeeled_5 : decode cX12_findPeeled 5 = .ok (.iconst 1, 1) := by decide +kernel
theorem dX12_findPeeled_6 : decode cX12_findPeeled 6 = .ok (.istore_n 1, 1) := by decide +kernel
theorem dX12_findPeeled_7 : decode cX12_findPeeled 7 = .ok (.iload_n 1, 1) := by decide +kernel
theorem dX12_findPeeled_8 : decode cX12_findPeeled 8 = .ok (.ifCond .eq 112, 3) := by decide +kernel
theorem dX12_findPeeled_11 : decode cX12_findPeeled 11 = .ok (.iconst 0, 1) := by decide +kernel
theorem dX12_findPeeled_12 : decode cX12_findPeeled 12 = .ok (.istore_n 1, 1) := by decide +kernel
theorem dX12_findPeeled_13 : decode cX12_findPeeled 13 = .ok (.iconst 0, 1) := by decide +kernel
theorem dX12_findPeeled_14 : decode cX12_findPeeled 14 = .ok (.istore_n 2, 1) := by decide +kernel
theorem dX12_findPeeled_15 : decode cX12_findPeeled 15 = .ok (.iload_n 2, 1) := by decide +kernel
theorem dX12_findPeeled_16 : decode cX12_findPeeled 16 = .ok (.aload_n 0, 1) := by decide +kernel
theorem dX12_findPeeled_17 : decode cX12_findPeeled 17 = .ok (.getfield 305, 3) := by decide +kernel
theorem dX12_findPeeled_20 : decode cX12_findPeeled 20 = .ok (.if_icmp .ge 97, 3) := by decide +kernel
theorem dX12_findPeeled_23 : decode cX12_findPeeled 23 = .ok (.iload_n 1, 1) := by decide +kernel
theorem dX12_findPeeled_24 : decode cX12_findPeeled 24 = .ok (.ifCond .ne 93, 3) := by decide +kernel
theorem dX12_findPeeled_27 : decode cX12_findPeeled 27 = .ok (.aload_n 0, 1) := by decide +kernel
theorem dX12_findPeeled_28 : decode cX12_findPeeled 28 = .ok (.getfield 91, 3) := by decide +kernel
theorem dX12_findPeeled_31 : decode cX12_findPeeled 31 = .ok (.iload_n 2, 1) := by decide +kernel
theorem dX12_findPeeled_32 : decode cX12_findPeeled 32 = .ok (.iaload, 1) := by decide +kernel
theorem dX12_findPeeled_33 : decode cX12_findPeeled 33 = .ok (.aload_n 0, 1) := by decide +kernel
theorem dX12_findPeeled_34 : decode cX12_findPeeled 34 = .ok (.getfield 318, 3) := by decide +kernel
theorem dX12_findPeeled_37 : decode cX12_findPeeled 37 = .ok (.iconst (-1), 1) := by decide +kernel
theorem dX12_findPeeled_38 : decode cX12_findPeeled 38 = .ok (.ixor, 1) := by decide +kernel
theorem dX12_findPeeled_39 : decode cX12_findPeeled 39 = .ok (.iand, 1) := by decide +kernel
theorem dX12_findPeeled_40 : decode cX12_findPeeled 40 = .ok (.istore_n 3, 1) := by decide +kernel
theorem dX12_findPeeled_41 : decode cX12_findPeeled 41 = .ok (.iload_n 3, 1) := by decide +kernel
theorem dX12_findPeeled_42 : decode cX12_findPeeled 42 = .ok (.invokestatic 264, 3) := by decide +kernel
theorem dX12_findPeeled_45 : decode cX12_findPeeled 45 = .ok (.iconst 1, 1) := by decide +kernel
theorem dX12_findPeeled_46 : decode cX12_findPeeled 46 = .ok (.if_icmp .ne 65, 3) := by decide +kernel
theorem dX12_findPeeled_49 : decode cX12_findPeeled 49 = .ok (.iconst 1, 1) := by decide +kernel
theorem dX12_findPeeled_50 : decode cX12_findPeeled 50 = .ok (.istore_n 1, 1) := by decide +kernel
theorem dX12_findPeeled_51 : decode cX12_findPeeled 51 = .ok (.aload_n 0, 1) := by decide +kernel
theorem dX12_findPeeled_52 : decode cX12_findPeeled 52 = .ok (.iload_n 2, 1) := by decide +kernel
theorem dX12_findPeeled_53 : decode cX12_findPeeled 53 = .ok (.invokevirtual 321, 3) := by decide +kernel
theorem dX12_comesTo_0 : decode cX12_comesTo 0 = .ok (.aload_n 0, 1) := by decide +kernel
theorem dX12_comesTo_1 : decode cX12_comesTo 1 = .ok (.getfield 94, 3) := by decide +kernel
theorem dX12_comesTo_4 : decode cX12_comesTo 4 = .ok (.iload_n 1, 1) := by decide +kernel
theorem dX12_comesTo_5 : decode cX12_comesTo 5 = .ok (.iaload, 1) := by decide +kernel
theorem dX12_comesTo_6 : decode cX12_comesTo 6 = .ok (.istore_n 2, 1) := by decide +kernel
theorem dX12_comesTo_7 : decode cX12_comesTo 7 = .ok (.iconst 0, 1) := by decide +kernel
theorem dX12_comesTo_8 : decode cX12_comesTo 8 = .ok (.istore_n 3, 1) := by decide +kernel
theorem dX12_comesTo_9 : decode cX12_comesTo 9 = .ok (.iload_n 3, 1) := by decide +kernel
theorem dX12_comesTo_10 : decode cX12_comesTo 10 = .ok (.bipush 20, 2) := by decide +kernel
theorem dX12_comesTo_12 : decode cX12_comesTo 12 = .ok (.if_icmp .ge 40, 3) := by decide +kernel
theorem dX12_comesTo_15 : decode cX12_comesTo 15 = .ok (.iload_n 2, 1) := by decide +kernel
theorem dX12_comesTo_16 : decode cX12_comesTo 16 = .ok (.aload_n 0, 1) := by decide +kernel
theorem dX12_comesTo_17 : decode cX12_comesTo 17 = .ok (.getfield 91, 3) := by decide +kernel
theorem dX12_comesTo_20 : decode cX12_comesTo 20 = .ok (.iload_n 1, 1) := by decide +kernel
theorem dX12_comesTo_21 : decode cX12_comesTo 21 = .ok (.iaload, 1) := by decide +kernel
theorem dX12_comesTo_22 : decode cX12_comesTo 22 = .ok (.aload_n 0, 1) := by decide +kernel
theorem dX12_comesTo_23 : decode cX12_comesTo 23 = .ok (.getfield 318, 3) := by decide +kernel
theorem dX12_comesTo_26 : decode cX12_comesTo 26 = .ok (.iand, 1) := by decide +kernel
theorem dX12_comesTo_27 : decode cX12_comesTo 27 = .ok (.iconst 1, 1) := by decide +kernel
theorem dX12_comesTo_28 : decode cX12_comesTo 28 = .ok (.iload_n 3, 1) := by decide +kernel
theorem dX12_comesTo_29 : decode cX12_comesTo 29 = .ok (.ishl, 1) := by decide +kernel
theorem dX12_comesTo_30 : decode cX12_comesTo 30 = .ok (.iand, 1) := by decide +kernel
theorem dX12_comesTo_31 : decode cX12_comesTo 31 = .ok (.ifCond .eq 12, 3) := by decide +kernel
theorem dX12_comesTo_34 : decode cX12_comesTo 34 = .ok (.aload_n 0, 1) := by decide +kernel
theorem dX12_comesTo_35 : decode cX12_comesTo 35 = .ok (.getfield 103, 3) := by decide +kernel
theorem dX12_comesTo_38 : decode cX12_comesTo 38 = .ok (.iload_n 3, 1) := by decide +kernel
theorem dX12_comesTo_39 : decode cX12_comesTo 39 = .ok (.iaload, 1) := by decide +kernel
theorem dX12_comesTo_40 : decode cX12_comesTo 40 = .ok (.goto 4, 3) := by decide +kernel
theorem dX12_comesTo_43 : decode cX12_comesTo 43 = .ok (.iconst 0, 1) := by decide +kernel
theorem dX12_comesTo_44 : decode cX12_comesTo 44 = .ok (.ixor, 1) := by decide +kernel
theorem dX12_comesTo_45 : decode cX12_comesTo 45 = .ok (.istore_n 2, 1) := by decide +kernel
theorem dX12_comesTo_46 : decode cX12_comesTo 46 = .ok (.iinc 3 1, 3) := by decide +kernel
theorem dX12_comesTo_49 : decode cX12_comesTo 49 = .ok (.goto (-40), 3) := by decide +kernel
theorem dX12_comesTo_52 : decode cX12_comesTo 52 = .ok (.iload_n 2, 1) := by decide +kernel
theorem dX12_comesTo_53 : decode cX12_comesTo 53 = .ok (.ireturn, 1) := by decide +kernel
set_option maxHeartbeats 4000000 in
set_option maxRecDepth 100000 in
theorem s_X12_comesTo {P : PP} {a0 : Nat} {a1 : Int32} (I : IM P a0) (ha1 : 0 ≤ a1.toInt ∧ a1.toInt ≤ 63) (hW : MW P a0) : CtrI yX12_comesTo cX12_comesTo 4 (some Jvm.ClassFile.FieldType.int) ({ frames := 1, cells := 0, slots := 0, locals := 64 } : Room) 0 0 P [.ref a0, .int a1] (fun r P2 => P = P2 ∧ (True)) := by
  refine enI (lv := [(0, .ref a0), (1, .int a1)]) (by decide) (Nat.le_of_ble_eq_true rfl) rfl (fun E D cy C Ci0 ret => ?_)
  have ha0 := I.2.1
  have J9 : ∀ (n9 : Nat) (v9_2 : Int32) (v9_3 : Int32), (20 - v9_3.toInt).toNat < n9 → (0 ≤ v9_3.toInt ∧ v9_3.toInt ≤ 20) → G E ({ frames := 1, cells := 0, slots := 0, locals := 64 } : Room) D cy 4 P 0 0 9 [(0, .ref a0), (1, .int a1), (2, .int v9_2), (3, .int v9_3)] [] := by
    intro n9
    induction n9 with
    | zero => intro v9_2 v9_3 hm9 hv9_3; omega
    | succ n9 ih9 =>
      intro v9_2 v9_3 hm9 hv9_3
      have J44 : ∀ (v44_s0 : Int32), (0 ≤ v9_3.toInt ∧ v9_3.toInt ≤ 19) → G E ({ frames := 1, cells := 0, slots := 0, locals := 64 } : Room) D cy 4 P 0 0 44 [(0, .ref a0), (1, .int a1), (3, .int v9_3)] [.int v44_s0, .int v9_2] := by
        intro v44_s0 hv44_3
        refine a_ixor C dX12_comesTo_44 (fun z15224 => ?_)
        refine g_istore_n (lv' := [(2, .int z15224), (0, .ref a0), (1, .int a1), (3, .int v9_3)]) C dX12_comesTo_45 rfl (by decide) rfl ?_
        refine s_iinc (lv0 := [(2, .int z15224), (0, .ref a0), (1, .int a1)]) (m := 1) C dX12_comesTo_46 3 rfl (by decide) rfl (by decide) (by omega) (fun z15226 h15227 => ?_)
        have h15227 : z15226.toInt = v9_3.toInt + 1 := h15227
        refine g_goto C 9 dX12_comesTo_49 (by decide) ?_
        refine g_lv (lv' := [(0, .ref a0), (1, .int a1), (2, .int z15224), (3, .int z15226)]) [2, 3, 1, 0] rfl ?_
        exact ih9 z15224 z15226 (by omega) (by omega)
      refine g_iload_n C dX12_comesTo_9 rfl 3 rfl ?_
      refine g_bipush (v := 20) C dX12_comesTo_10 (by decide) ?_
      refine b_icmp_ge C 52 dX12_comesTo_12 (by decide) (fun h15228 => ?_) (fun h15228 => ?_)
      · have h15228 : 20 ≤ v9_3.toInt := h15228
        refine g_iload_n C dX12_comesTo_52 rfl 2 rfl ?_
        exact ret _ _ _ _ _ _ dX12_comesTo_53 rfl (by decide) (by decide) ⟨rfl, trivial⟩
      · have h15228 : v9_3.toInt < 20 := h15228
        refine g_iload_n C dX12_comesTo_15 rfl 2 rfl ?_
        refine g_aload_n C dX12_comesTo_16 rfl 0 rfl ?_
        obtain ⟨b15229, e15230, h15231⟩ := I.fld (ha0) 29 13 64 rfl
        refine g_getR C fi_X12_91 rfl e15230 (ha0).1 (ha0).2 dX12_comesTo_17 ?_
        refine g_iload_n C dX12_comesTo_20 rfl 1 rfl ?_
        refine g_iald (j := (a1.toInt.toNat)) C h15231.1 h15231.2.1 (ix_in h15231.2.2 (by omega)) dX12_comesTo_21 ?_
        refine g_aload_n C dX12_comesTo_22 rfl 0 rfl ?_
        refine g_getI C fi_X12_318 (by decide) (ha0).1 (ha0).2 dX12_comesTo_23 ?_
        refine a_iand C dX12_comesTo_26 (fun z15232 => ?_)
        refine g_iconst (v := 1) C dX12_comesTo_27 (by decide) ?_
        refine g_iload_n C dX12_comesTo_28 rfl 3 rfl ?_
        refine a_ishl C dX12_comesTo_29 (fun z15234 => ?_)
        refine a_iand C dX12_comesTo_30 (fun z15236 => ?_)
        have u15239 := ti_rng z15236
        refine b_if_eq C 43 dX12_comesTo_31 (by decide) (fun h15238 => ?_) (fun h15238 => ?_)
        · have h15238 : z15236.toInt = 0 := congrArg Int32.toInt h15238
          refine g_iconst (v := 0) C dX12_comesTo_43 (by decide) ?_
          refine g_lv (lv' := [(0, .ref a0), (1, .int a1), (3, .int v9_3)]) [0, 1, 3] rfl ?_
          exact J44 0 (by omega)
        · have h15238 : z15236.toInt ≠ 0 := ti_ne h15238
          refine g_aload_n C dX12_comesTo_34 rfl 0 rfl ?_
          obtain ⟨b15240, e15241, h15242⟩ := I.fld (ha0) 34 13 20 rfl
          refine g_getR C fi_X12_103 rfl e15241 (ha0).1 (ha0).2 dX12_comesTo_35 ?_
          refine g_iload_n C dX12_comesTo_38 rfl 3 rfl ?_
          refine g_iald (j := (v9_3.toInt.toNat)) C h15242.1 h15242.2.1 (ix_in h15242.2.2 (by omega)) dX12_comesTo_39 ?_
          refine g_goto C 44 dX12_comesTo_40 (by decide) ?_
          refine g_lv (lv' := [(0, .ref a0), (1, .int a1), (3, .int v9_3)]) [0, 1, 3] rfl ?_
          exact J44 (pI P b15240 (v9_3.toInt.toNat)) (by omega)
  refine g_aload_n C dX12_comesTo_0 rfl 0 rfl ?_
  obtain ⟨b15243, e15244, h15245⟩ := I.fld (ha0) 30 13 64 rfl
  refine g_getR C fi_X12_94 rfl e15244 (ha0).1 (ha0).2 dX12_comesTo_1 ?_
  refine g_iload_n C dX12_comesTo_4 rfl 1 rfl ?_
  refine g_iald (j := (a1.toInt.toNat)) C h15245.1 h15245.2.1 (ix_in h15245.2.2 (by omega)) dX12_comesTo_5 ?_
  refine g_topi (fun z15246 h15247 => ?_)
  have h15247 : z15246.toInt = (pI P b15243 (a1.toInt.toNat)).toInt := congrArg Int32.toInt h15247
  refine g_istore_n (lv' := [(2, .int z15246), (0, .ref a0), (1, .int a1)]) C dX12_comesTo_6 rfl (by decide) rfl ?_
  refine g_iconst (v := 0) C dX12_comesTo_7 (by decide) ?_
  refine g_istore_n (lv' := [(3, .int 0), (2, .int z15246), (0, .ref a0), (1, .int a1)]) C dX12_comesTo_8 rfl (by decide) rfl ?_
  refine g_lv (lv' := [(0, .ref a0), (1, .int a1), (2, .int z15246), (3, .int 0)]) [2, 3, 1, 0] rfl ?_
  exact J9 _ z15246 0 (Nat.lt_succ_self _) (by decide)
theorem dX12_findPeeled_56 : decode cX12_findPeeled 56 = .ok (.istore 4, 2) := by decide +kernel
theorem dX12_findPeeled_58 : decode cX12_findPeeled 58 = .ok (.iconst 0, 1) := by decide +kernel
theorem dX12_findPeeled_59 : decode cX12_findPeeled 59 = .ok (.istore 5, 2) := by decide +kernel
theorem dX12_findPeeled_61 : decode cX12_findPeeled 61 = .ok (.iload 5, 2) := by decide +kernel
theorem dX12_findPeeled_63 : decode cX12_findPeeled 63 = .ok (.bipush 20, 2) := by decide +kernel
theorem dX12_findPeeled_65 : decode cX12_findPeeled 65 = .ok (.if_icmp .ge 36, 3) := by decide +kernel
theorem dX12_findPeeled_68 : decode cX12_findPeeled 68 = .ok (.aload_n 0, 1) := by decide +kernel
theorem dX12_findPeeled_69 : decode cX12_findPeeled 69 = .ok (.getfield 103, 3) := by decide +kernel
theorem dX12_findPeeled_72 : decode cX12_findPeeled 72 = .ok (.iload 5, 2) := by decide +kernel
theorem dX12_findPeeled_74 : decode cX12_findPeeled 74 = .ok (.iload_n 3, 1) := by decide +kernel
theorem dX12_findPeeled_75 : decode cX12_findPeeled 75 = .ok (.iconst 1, 1) := by decide +kernel
theorem dX12_findPeeled_76 : decode cX12_findPeeled 76 = .ok (.iload 5, 2) := by decide +kernel
theorem dX12_findPeeled_78 : decode cX12_findPeeled 78 = .ok (.ishl, 1) := by decide +kernel
theorem dX12_findPeeled_79 : decode cX12_findPeeled 79 = .ok (.if_icmp .ne 8, 3) := by decide +kernel
theorem dX12_findPeeled_82 : decode cX12_findPeeled 82 = .ok (.iload 4, 2) := by decide +kernel
theorem dX12_findPeeled_84 : decode cX12_findPeeled 84 = .ok (.goto 10, 3) := by decide +kernel
theorem dX12_findPeeled_87 : decode cX12_findPeeled 87 = .ok (.aload_n 0, 1) := by decide +kernel
theorem dX12_findPeeled_88 : decode cX12_findPeeled 88 = .ok (.getfield 103, 3) := by decide +kernel
theorem dX12_findPeeled_91 : decode cX12_findPeeled 91 = .ok (.iload 5, 2) := by decide +kernel
theorem dX12_findPeeled_93 : decode cX12_findPeeled 93 = .ok (.iaload, 1) := by decide +kernel
theorem dX12_findPeeled_94 : decode cX12_findPeeled 94 = .ok (.iastore, 1) := by decide +kernel
theorem dX12_findPeeled_95 : decode cX12_findPeeled 95 = .ok (.iinc 5 1, 3) := by decide +kernel
theorem dX12_findPeeled_98 : decode cX12_findPeeled 98 = .ok (.goto (-37), 3) := by decide +kernel
theorem dX12_findPeeled_101 : decode cX12_findPeeled 101 = .ok (.aload_n 0, 1) := by decide +kernel
theorem dX12_findPeeled_102 : decode cX12_findPeeled 102 = .ok (.dup, 1) := by decide +kernel
theorem dX12_findPeeled_103 : decode cX12_findPeeled 103 = .ok (.getfield 318, 3) := by decide +kernel
theorem dX12_findPeeled_106 : decode cX12_findPeeled 106 = .ok (.iload_n 3, 1) := by decide +kernel
theorem dX12_findPeeled_107 : decode cX12_findPeeled 107 = .ok (.ior, 1) := by decide +kernel
theorem dX12_findPeeled_108 : decode cX12_findPeeled 108 = .ok (.putfield 318, 3) := by decide +kernel
theorem dX12_findPeeled_111 : decode cX12_findPeeled 111 = .ok (.iinc 2 1, 3) := by decide +kernel
theorem dX12_findPeeled_114 : decode cX12_findPeeled 114 = .ok (.goto (-99), 3) := by decide +kernel
theorem dX12_findPeeled_117 : decode cX12_findPeeled 117 = .ok (.goto (-110), 3) := by decide +kernel
theorem dX12_findPeeled_120 : decode cX12_findPeeled 120 = .ok (.return_, 1) := by decide +kernel
set_option maxHeartbeats 4000000 in
set_option maxRecDepth 100000 in
theorem s_X12_findPeeled {P : PP} {a0 : Nat} (I : IM P a0) (hW : MW P a0) : CtrV yX12_findPeeled cX12_findPeeled 6 none ({ frames := 2, cells := 0, slots := 0, locals := 128 } : Room) 0 0 P [.ref a0] (fun P2 => IM P2 a0 ∧ EM [33, 34] a0 P P2 ∧ MW P2 a0) := by
  refine enV (lv := [(0, .ref a0)]) (by decide) (Nat.le_of_ble_eq_true rfl) rfl (fun E D cy C Ci0 ret => ?_)
  have ha0 := I.2.1
  have J7 : ∀ (n7 : Nat) (P7 : PP) (v7_1 : Int32), (2 * (nf_M (pI P7 a0 33) : Int) + v7_1.toInt).toNat < n7 → (IM P7 a0) → (EM [33, 34] a0 P P7) → (MW P7 a0) → (0 ≤ v7_1.toInt ∧ v7_1.toInt ≤ 1) → G E ({ frames := 2, cells := 0, slots := 0, locals := 128 } : Room) D cy 6 P7 0 0 7 [(0, .ref a0), (1, .int v7_1)] [] := by
    intro n7
    induction n7 with
    | zero => intro P7 v7_1 hm7 I7 X7 W7 hv7_1; omega
    | succ n7 ih7 =>
      intro P7 v7_1 hm7 I7 X7 W7 hv7_1
      have h16433 := X7.at ha0
      have J117 : ∀ (P117 : PP) (v117_1 : Int32), (IM P117 a0) → (EM [33, 34] a0 P P117) → (MW P117 a0) → (0 ≤ v117_1.toInt ∧ v117_1.toInt ≤ 1) → ((v117_1.toInt = 0 ∧ nf_M (pI P117 a0 33) = nf_M (pI P7 a0 33)) ∨ (v117_1.toInt = 1 ∧ nf_M (pI P117 a0 33) < nf_M (pI P7 a0 33))) → (v7_1.toInt = 1) → G E ({ frames := 2, cells := 0, slots := 0, locals := 128 } : Room) D cy 6 P117 0 0 117 [(0, .ref a0), (1, .int v117_1)] [] := by
        intro P117 v117_1 I117 X117 W117 hv117_1 rel117_0 rel117_1
        have h16434 := X117.at ha0
        refine g_goto C 7 dX12_findPeeled_117 (by decide) ?_
        exact ih7 P117 v117_1 (by omega) I117 X117 W117 (by omega)
      have J15 : ∀ (n15 : Nat) (P15 : PP) (v15_1 : Int32) (v15_2 : Int32), (64 - v15_2.toInt).toNat < n15 → (IM P15 a0) → (EM [33, 34] a0 P P15) → (MW P15 a0) → (0 ≤ v15_1.toInt ∧ v15_1.toInt ≤ 1) → (0 ≤ v15_2.toInt ∧ v15_2.toInt ≤ 64) → ((v15_1.toInt = 0 ∧ nf_M (pI P15 a0 33) = nf_M (pI P7 a0 33)) ∨ (v15_1.toInt = 1 ∧ nf_M (pI P15 a0 33) < nf_M (pI P7 a0 33))) → (v7_1.toInt = 1) → G E ({ frames := 2, cells := 0, slots := 0, locals := 128 } : Room) D cy 6 P15 0 0 15 [(0, .ref a0), (1, .int v15_1), (2, .int v15_2)] [] := by
        intro n15
        induction n15 with
        | zero => intro P15 v15_1 v15_2 hm15 I15 X15 W15 hv15_1 hv15_2 rel15_0 rel15_1; omega
        | succ n15 ih15 =>
          intro P15 v15_1 v15_2 hm15 I15 X15 W15 hv15_1 hv15_2 rel15_0 rel15_1
          have h16435 := X15.at ha0
          have J111 : ∀ (P111 : PP) (v111_1 : Int32), (IM P111 a0) → (EM [33, 34] a0 P P111) → (MW P111 a0) → (0 ≤ v111_1.toInt ∧ v111_1.toInt ≤ 1) → (0 ≤ v15_2.toInt ∧ v15_2.toInt ≤ 63) → (1 ≤ (pI P111 a0 28).toInt ∧ (pI P111 a0 28).toInt ≤ 64) → ((v111_1.toInt = 0 ∧ nf_M (pI P111 a0 33) = nf_M (pI P7 a0 33)) ∨ (v111_1.toInt = 1 ∧ nf_M (pI P111 a0 33) < nf_M (pI P7 a0 33))) → (v7_1.toInt = 1) → G E ({ frames := 2, cells := 0, slots := 0, locals := 128 } : Room) D cy 6 P111 0 0 111 [(0, .ref a0), (1, .int v111_1), (2, .int v15_2)] [] := by
            intro P111 v111_1 I111 X111 W111 hv111_1 hv111_2 hq111_0 rel111_0 rel111_1
            have h16436 := X111.at ha0
            refine s_iinc (lv0 := [(0, .ref a0), (1, .int v111_1)]) (m := 1) C dX12_findPeeled_111 2 rfl (by decide) rfl (by decide) (by omega) (fun z16437 h16438 => ?_)
            have h16438 : z16437.toInt = v15_2.toInt + 1 := h16438
            refine g_goto C 15 dX12_findPeeled_114 (by decide) ?_
            refine g_lv (lv' := [(0, .ref a0), (1, .int v111_1), (2, .int z16437)]) [1, 2, 0] rfl ?_
            exact ih15 P111 v111_1 z16437 (by omega) I111 X111 W111 (by omega) (by omega) (by show (v111_1.toInt = 0 ∧ nf_M (pI P111 a0 33) = nf_M (pI P7 a0 33)) ∨ (v111_1.toInt = 1 ∧ nf_M (pI P111 a0 33) < nf_M (pI P7 a0 33)); omega) (by show v7_1.toInt = 1; omega)
          have J61 : ∀ (n61 : Nat) (P61 : PP) (v61_3 : Int32) (v61_4 : Int32) (v61_5 : Int32), (20 - v61_5.toInt).toNat < n61 → (IM P61 a0) → (EM [33, 34] a0 P P61) → (MW P61 a0) → (0 ≤ v15_2.toInt ∧ v15_2.toInt ≤ 63) → (0 ≤ v61_5.toInt ∧ v61_5.toInt ≤ 20) → (1 ≤ (pI P61 a0 28).toInt ∧ (pI P61 a0 28).toInt ≤ 64) → (nf_M (pI P61 a0 33) = nf_M (pI P7 a0 33)) → (nf_M (pI P61 a0 33 ||| v61_3) < nf_M (pI P61 a0 33)) → (v7_1.toInt = 1) → G E ({ frames := 2, cells := 0, slots := 0, locals := 128 } : Room) D cy 6 P61 0 0 61 [(0, .ref a0), (1, .int 1), (2, .int v15_2), (3, .int v61_3), (4, .int v61_4), (5, .int v61_5)] [] := by
            intro n61
            induction n61 with
            | zero => intro P61 v61_3 v61_4 v61_5 hm61 I61 X61 W61 hv61_2 hv61_5 hq61_0 rel61_0 rel61_1 rel61_2; omega
            | succ n61 ih61 =>
              intro P61 v61_3 v61_4 v61_5 hm61 I61 X61 W61 hv61_2 hv61_5 hq61_0 rel61_0 rel61_1 rel61_2
              have h16439 := X61.at ha0
              have J94 : ∀ (v94_s0 : Int32) (b94_s2 : Nat), (0 ≤ v15_2.toInt ∧ v15_2.toInt ≤ 63) → (0 ≤ v61_5.toInt ∧ v61_5.toInt ≤ 19) → (Ar P61 b94_s2 13 20) → (pR P61 a0 34 = some b94_s2) → (1 ≤ (pI P61 a0 28).toInt ∧ (pI P61 a0 28).toInt ≤ 64) → (nf_M (pI P61 a0 33) = nf_M (pI P7 a0 33)) → (nf_M (pI P61 a0 33 ||| v61_3) < nf_M (pI P61 a0 33)) → (v7_1.toInt = 1) → G E ({ frames := 2, cells := 0, slots := 0, locals := 128 } : Room) D cy 6 P61 0 0 94 [(0, .ref a0), (1, .int 1), (2, .int v15_2), (3, .int v61_3), (4, .int v61_4), (5, .int v61_5)] [.int v94_s0, .int v61_5, .ref b94_s2] := by
                intro v94_s0 b94_s2 hv94_2 hv94_5 hb94_s2 eb94_s2 hq94_0 rel94_0 rel94_1 rel94_2
                have h16440 := X61.at ha0
                refine g_iast (j := (v61_5.toInt.toNat)) C hb94_s2.1 hb94_s2.2.1 (ix_in hb94_s2.2.2 (by omega)) dX12_findPeeled_94 ?_
                refine gqW (ks := [34]) (I61.setA eb94_s2 hb94_s2 (by decide) (arOk.none rfl)) (EM.setA I61 eb94_s2 rfl (by decide)) (fun Y16441 Iy16442 Xy16443 w16444 => ?_)
                have w16444 : (pI Y16441 b94_s2 (v61_5.toInt.toNat)).toInt = v94_s0.toInt := w16444
                have q16445 := Xy16443.keepF 28 (by decide)
                have W16446 := W61.keep I61 Xy16443 (by decide) (by decide) (by decide)
                have Xz16447 : EM [33, 34] a0 P Y16441 := EM.tr ha0 X61 (Xy16443.mono (by decide))
                have e16448 := Xy16443.ref h16440 (by decide) eb94_s2
                have h16449 := Xy16443.at h16440
                have h16450 := Xy16443.ar hb94_s2
                have m16451 : nf_M (pI Y16441 a0 33) = nf_M (pI P61 a0 33) := by rw [Xy16443.2.2.1 33 (by decide)]
                have m16452 : nf_M (pI Y16441 a0 33 ||| v61_3) = nf_M (pI P61 a0 33 ||| v61_3) := by rw [Xy16443.2.2.1 33 (by decide)]
                refine s_iinc (lv0 := [(0, .ref a0), (1, .int 1), (2, .int v15_2), (3, .int v61_3), (4, .int v61_4)]) (m := 1) C dX12_findPeeled_95 5 rfl (by decide) rfl (by decide) (by omega) (fun z16453 h16454 => ?_)
                have h16454 : z16453.toInt = v61_5.toInt + 1 := h16454
                refine g_goto C 61 dX12_findPeeled_98 (by decide) ?_
                refine g_lv (lv' := [(0, .ref a0), (1, .int 1), (2, .int v15_2), (3, .int v61_3), (4, .int v61_4), (5, .int z16453)]) [1, 2, 3, 4, 5, 0] rfl ?_
                exact ih61 Y16441 v61_3 v61_4 z16453 (by omega) Iy16442 Xz16447 W16446 (by omega) (by omega) (by omega) (by show nf_M (pI Y16441 a0 33) = nf_M (pI P7 a0 33); omega) (by show nf_M (pI Y16441 a0 33 ||| v61_3) < nf_M (pI Y16441 a0 33); omega) (by show v7_1.toInt = 1; omega)
              refine g_iload C dX12_findPeeled_61 5 rfl ?_
              refine g_bipush (v := 20) C dX12_findPeeled_63 (by decide) ?_
              refine b_icmp_ge C 101 dX12_findPeeled_65 (by decide) (fun h16455 => ?_) (fun h16455 => ?_)
              · have h16455 : 20 ≤ v61_5.toInt := h16455
                refine g_aload_n C dX12_findPeeled_101 rfl 0 rfl ?_
                refine g_dup C dX12_findPeeled_102 rfl ?_
                refine g_getI C fi_X12_318 (by decide) (h16439).1 (h16439).2 dX12_findPeeled_103 ?_
                refine g_iload_n C dX12_findPeeled_106 rfl 3 rfl ?_
                refine g_ior C dX12_findPeeled_107 ?_
                refine g_topi (fun z16456 h16457 => ?_)
                refine g_putI C fi_X12_318 rfl (h16439).1 (h16439).2 dX12_findPeeled_108 ?_
                refine gqW (ks := [33]) (I61.setI (rgOk.none rfl)) (EM.setI I61 (by decide)) (fun Y16458 Iy16459 Xy16460 w16461 => ?_)
                have w16461 : (pI Y16458 a0 33).toInt = z16456.toInt := w16461
                have q16462 := Xy16460.keepF 28 (by decide)
                have W16463 := W61.keep I61 Xy16460 (by decide) (by decide) (by decide)
                have Xz16464 : EM [33, 34] a0 P Y16458 := EM.tr ha0 X61 (Xy16460.mono (by decide))
                have h16465 := Xy16460.at h16439
                have m16466 : nf_M (pI Y16458 a0 33) = nf_M (pI P61 a0 33 ||| v61_3) := by rw [Int32.toInt_inj.mp (show (pI Y16458 a0 33).toInt = z16456.toInt by omega), h16457]
                refine g_lv (lv' := [(0, .ref a0), (1, .int 1), (2, .int v15_2)]) [0, 1, 2] rfl ?_
                exact J111 Y16458 1 Iy16459 Xz16464 W16463 (by decide) (by omega) (by omega) (by show (1 = 0 ∧ nf_M (pI Y16458 a0 33) = nf_M (pI P7 a0 33)) ∨ (1 = 1 ∧ nf_M (pI Y16458 a0 33) < nf_M (pI P7 a0 33)); omega) (by show v7_1.toInt = 1; omega)
              · have h16455 : v61_5.toInt < 20 := h16455
                refine g_aload_n C dX12_findPeeled_68 rfl 0 rfl ?_
                obtain ⟨b16467, e16468, h16469⟩ := I61.fld (h16439) 34 13 20 rfl
                refine g_getR C fi_X12_103 rfl e16468 (h16439).1 (h16439).2 dX12_findPeeled_69 ?_
                refine g_iload C dX12_findPeeled_72 5 rfl ?_
                refine g_iload_n C dX12_findPeeled_74 rfl 3 rfl ?_
                refine g_iconst (v := 1) C dX12_findPeeled_75 (by decide) ?_
                refine g_iload C dX12_findPeeled_76 5 rfl ?_
                refine a_ishl C dX12_findPeeled_78 (fun z16470 => ?_)
                have u16473 := ti_rng v61_3
                have u16474 := ti_rng z16470
                refine b_icmp_ne C 87 dX12_findPeeled_79 (by decide) (fun h16472 => ?_) (fun h16472 => ?_)
                · have h16472 : v61_3.toInt ≠ z16470.toInt := ti_ne h16472
                  refine g_aload_n C dX12_findPeeled_87 rfl 0 rfl ?_
                  refine g_getR C fi_X12_103 rfl e16468 (h16439).1 (h16439).2 dX12_findPeeled_88 ?_
                  refine g_iload C dX12_findPeeled_91 5 rfl ?_
                  refine g_iald (j := (v61_5.toInt.toNat)) C h16469.1 h16469.2.1 (ix_in h16469.2.2 (by omega)) dX12_findPeeled_93 ?_
                  exact J94 (pI P61 b16467 (v61_5.toInt.toNat)) b16467 (by omega) (by omega) h16469 e16468 (by omega) (by show nf_M (pI P61 a0 33) = nf_M (pI P7 a0 33); omega) (by show nf_M (pI P61 a0 33 ||| v61_3) < nf_M (pI P61 a0 33); omega) (by show v7_1.toInt = 1; omega)
                · have h16472 : v61_3.toInt = z16470.toInt := congrArg Int32.toInt h16472
                  refine g_iload C dX12_findPeeled_82 4 rfl ?_
                  refine g_goto C 94 dX12_findPeeled_84 (by decide) ?_
                  exact J94 v61_4 b16467 (by omega) (by omega) h16469 e16468 (by omega) (by show nf_M (pI P61 a0 33) = nf_M (pI P7 a0 33); omega) (by show nf_M (pI P61 a0 33 ||| v61_3) < nf_M (pI P61 a0 33); omega) (by show v7_1.toInt = 1; omega)
          refine g_iload_n C dX12_findPeeled_15 rfl 2 rfl ?_
          refine g_aload_n C dX12_findPeeled_16 rfl 0 rfl ?_
          refine g_getI C fi_X12_305 (by decide) (h16435).1 (h16435).2 dX12_findPeeled_17 ?_
          have h16475 := I15.rg (h16435) 28 rfl
          refine b_icmp_ge C 117 dX12_findPeeled_20 (by decide) (fun h16476 => ?_) (fun h16476 => ?_)
          · have h16476 : (pI P15 a0 28).toInt ≤ v15_2.toInt := h16476
            refine g_lv (lv' := [(0, .ref a0), (1, .int v15_1)]) [0, 1] rfl ?_
            exact J117 P15 v15_1 I15 X15 W15 (by omega) (by show (v15_1.toInt = 0 ∧ nf_M (pI P15 a0 33) = nf_M (pI P7 a0 33)) ∨ (v15_1.toInt = 1 ∧ nf_M (pI P15 a0 33) < nf_M (pI P7 a0 33)); omega) (by show v7_1.toInt = 1; omega)
          · have h16476 : v15_2.toInt < (pI P15 a0 28).toInt := h16476
            refine g_iload_n C dX12_findPeeled_23 rfl 1 rfl ?_
            refine b_if_ne C 117 dX12_findPeeled_24 (by decide) (fun h16477 => ?_) (fun h16477 => ?_)
            · have h16477 : v15_1.toInt ≠ 0 := ti_ne h16477
              refine g_lv (lv' := [(0, .ref a0), (1, .int v15_1)]) [0, 1] rfl ?_
              exact J117 P15 v15_1 I15 X15 W15 (by omega) (by show (v15_1.toInt = 0 ∧ nf_M (pI P15 a0 33) = nf_M (pI P7 a0 33)) ∨ (v15_1.toInt = 1 ∧ nf_M (pI P15 a0 33) < nf_M (pI P7 a0 33)); omega) (by show v7_1.toInt = 1; omega)
            · have h16477 : v15_1.toInt = 0 := congrArg Int32.toInt h16477
              refine g_aload_n C dX12_findPeeled_27 rfl 0 rfl ?_
              obtain ⟨b16478, e16479, h16480⟩ := I15.fld (h16435) 29 13 64 rfl
              refine g_getR C fi_X12_91 rfl e16479 (h16435).1 (h16435).2 dX12_findPeeled_28 ?_
              refine g_iload_n C dX12_findPeeled_31 rfl 2 rfl ?_
              refine g_iald (j := (v15_2.toInt.toNat)) C h16480.1 h16480.2.1 (ix_in h16480.2.2 (by omega)) dX12_findPeeled_32 ?_
              refine g_aload_n C dX12_findPeeled_33 rfl 0 rfl ?_
              refine g_getI C fi_X12_318 (by decide) (h16435).1 (h16435).2 dX12_findPeeled_34 ?_
              refine g_iconst (v := (-1)) C dX12_findPeeled_37 (by decide) ?_
              refine g_ixor C dX12_findPeeled_38 ?_
              refine g_topi (fun z16481 h16482 => ?_)
              refine g_iand C dX12_findPeeled_39 ?_
              refine g_topi (fun z16483 h16484 => ?_)
              refine g_istore_n (lv' := [(3, .int z16483), (0, .ref a0), (1, .int v15_1), (2, .int v15_2)]) C dX12_findPeeled_40 rfl (by decide) rfl ?_
              refine g_iload_n C dX12_findPeeled_41 rfl 0 rfl ?_
              refine g_callSI (b := 0) (ci := 0) (rest := []) C ms_X12_264 [.int z16483] (s_X12_bits I15.1) rfl rfl (by decide) (Nat.le_of_ble_eq_true rfl) (by decide) dX12_findPeeled_42 (fun r16485 Y16486 h16487 => ?_)
              obtain ⟨rfl, h16487⟩ := h16487
              obtain ⟨h16487, hi16488⟩ := h16487
              have hi16488 : r16485.toInt = 0 ∨ z16483.toInt ≠ 0 := hi16488
              have h16487 : 0 ≤ r16485.toInt ∧ r16485.toInt ≤ 20 := h16487
              refine g_iconst (v := 1) C dX12_findPeeled_45 (by decide) ?_
              refine b_icmp_ne C 111 dX12_findPeeled_46 (by decide) (fun h16489 => ?_) (fun h16489 => ?_)
              · have h16489 : r16485.toInt ≠ 1 := ti_ne h16489
                refine g_lv (lv' := [(0, .ref a0), (1, .int v15_1), (2, .int v15_2)]) [1, 2, 3] rfl ?_
                exact J111 P15 v15_1 I15 X15 W15 (by omega) (by omega) (by omega) (by show (v15_1.toInt = 0 ∧ nf_M (pI P15 a0 33) = nf_M (pI P7 a0 33)) ∨ (v15_1.toInt = 1 ∧ nf_M (pI P15 a0 33) < nf_M (pI P7 a0 33)); omega) (by show v7_1.toInt = 1; omega)
              · have h16489 : r16485.toInt = 1 := congrArg Int32.toInt h16489
                have hne : ¬ z16483 = 0 := fun h9 => by have h8 : z16483.toInt = 0 := congrArg Int32.toInt h9; omega
                have hdi : (pI P15 a0 33) &&& z16483 = 0 := by rw [h16484, h16482]; exact and_rest _ _
                have hgr := nf_gr (pI P15 a0 33) z16483 hdi hne
                refine g_iconst (v := 1) C dX12_findPeeled_49 (by decide) ?_
                refine g_istore_n (lv' := [(1, .int 1), (3, .int z16483), (0, .ref a0), (2, .int v15_2)]) C dX12_findPeeled_50 rfl (by decide) rfl ?_
                refine g_aload_n C dX12_findPeeled_51 rfl 2 rfl ?_
                refine g_iload_n C dX12_findPeeled_52 rfl 3 rfl ?_
                refine g_callVI (rest := []) C mv_X12_321 [.int v15_2] (s_X12_comesTo I15 (by omega) W15) (h16435).1 (h16435).2 rfl rfl (by decide) (Nat.le_of_ble_eq_true rfl) (by decide) dX12_findPeeled_53 (fun r16490 Y16491 h16492 => ?_)
                obtain ⟨rfl, h16492⟩ := h16492
                have h16492 : True := h16492
                refine g_istore (lv' := [(4, .int r16490), (1, .int 1), (3, .int z16483), (0, .ref a0), (2, .int v15_2)]) C dX12_findPeeled_56 (by decide) rfl ?_
                refine g_iconst (v := 0) C dX12_findPeeled_58 (by decide) ?_
                refine g_istore (lv' := [(5, .int 0), (4, .int r16490), (1, .int 1), (3, .int z16483), (0, .ref a0), (2, .int v15_2)]) C dX12_findPeeled_59 (by decide) rfl ?_
                refine g_lv (lv' := [(0, .ref a0), (1, .int 1), (2, .int v15_2), (3, .int z16483), (4, .int r16490), (5, .int 0)]) [4, 2, 5, 3, 1, 0] rfl ?_
                exact J61 _ P15 z16483 r16490 0 (Nat.lt_succ_self _) I15 X15 W15 (by omega) (by decide) (by omega) (by show nf_M (pI P15 a0 33) = nf_M (pI P7 a0 33); omega) (by show nf_M (pI P15 a0 33 ||| z16483) < nf_M (pI P15 a0 33); omega) (by show v7_1.toInt = 1; omega)
      refine g_iload_n C dX12_findPeeled_7 rfl 1 rfl ?_
      refine b_if_eq C 120 dX12_findPeeled_8 (by decide) (fun h16493 => ?_) (fun h16493 => ?_)
      · have h16493 : v7_1.toInt = 0 := congrArg Int32.toInt h16493
        exact ret _ _ _ _ _ dX12_findPeeled_120 (by decide) (by decide) ⟨I7, X7, W7⟩
      · have h16493 : v7_1.toInt ≠ 0 := ti_ne h16493
        refine g_iconst (v := 0) C dX12_findPeeled_11 (by decide) ?_
        refine g_istore_n (lv' := [(1, .int 0), (0, .ref a0)]) C dX12_findPeeled_12 rfl (by decide) rfl ?_
        refine g_iconst (v := 0) C dX12_findPeeled_13 (by decide) ?_
        refine g_istore_n (lv' := [(2, .int 0), (1, .int 0), (0, .ref a0)]) C dX12_findPeeled_14 rfl (by decide) rfl ?_
        refine g_lv (lv' := [(0, .ref a0), (1, .int 0), (2, .int 0)]) [2, 1, 0] rfl ?_
        exact J15 _ P7 0 0 (Nat.lt_succ_self _) I7 X7 W7 (by decide) (by decide) (by show (0 = 0 ∧ nf_M (pI P7 a0 33) = nf_M (pI P7 a0 33)) ∨ (0 = 1 ∧ nf_M (pI P7 a0 33) < nf_M (pI P7 a0 33)); omega) (by show v7_1.toInt = 1; omega)
  refine g_aload_n C dX12_findPeeled_0 rfl 0 rfl ?_
  refine g_iconst (v := 0) C dX12_findPeeled_1 (by decide) ?_
  refine g_putI C fi_X12_318 rfl (ha0).1 (ha0).2 dX12_findPeeled_2 ?_
  refine gqW (ks := [33]) (I.setI (rgOk.none rfl)) (EM.setI I (by decide)) (fun Y16494 Iy16495 Xy16496 w16497 => ?_)
  have w16497 : (pI Y16494 a0 33).toInt = 0 := w16497
  have W16498 := hW.keep I Xy16496 (by decide) (by decide) (by decide)
  have Xz16499 : EM [33, 34] a0 P Y16494 := Xy16496.mono (by decide)
  have h16500 := Xy16496.at ha0
  refine g_iconst (v := 1) C dX12_findPeeled_5 (by decide) ?_
  refine g_istore_n (lv' := [(1, .int 1), (0, .ref a0)]) C dX12_findPeeled_6 rfl (by decide) rfl ?_
  refine g_lv (lv' := [(0, .ref a0), (1, .int 1)]) [1, 0] rfl ?_
  exact J7 _ Y16494 1 (Nat.lt_succ_self _) Iy16495 Xz16499 W16498 (by decide)
theorem dX12_chancesOf_76 : decode cX12_chancesOf 76 = .ok (.goto 7, 3) := by decide +kernel
theorem dX12_chancesOf_83 : decode cX12_chancesOf 83 = .ok (.iload 5, 2) := by decide +kernel
theorem dX12_chancesOf_85 : decode cX12_chancesOf 85 = .ok (.aload_n 0, 1) := by decide +kernel
theorem dX12_chancesOf_86 : decode cX12_chancesOf 86 = .ok (.iload_n 1, 1) := by decide +kernel
theorem dX12_chancesOf_87 : decode cX12_chancesOf 87 = .ok (.iload 4, 2) := by decide +kernel
theorem dX12_chancesOf_89 : decode cX12_chancesOf 89 = .ok (.ifCond .ne 10, 3) := by decide +kernel
theorem dX12_chancesOf_99 : decode cX12_chancesOf 99 = .ok (.aload_n 0, 1) := by decide +kernel
theorem dX12_chancesOf_100 : decode cX12_chancesOf 100 = .ok (.invokevirtual 349, 3) := by decide +kernel
theorem dX12_fixedSet_0 : decode cX12_fixedSet 0 = .ok (.iconst 0, 1) := by decide +kernel
theorem dX12_fixedSet_1 : decode cX12_fixedSet 1 = .ok (.istore_n 1, 1) := by decide +kernel
theorem dX12_fixedSet_2 : decode cX12_fixedSet 2 = .ok (.iconst 0, 1) := by decide +kernel
theorem dX12_fixedSet_3 : decode cX12_fixedSet 3 = .ok (.istore_n 2, 1) := by decide +kernel
theorem dX12_fixedSet_4 : decode cX12_fixedSet 4 = .ok (.iload_n 2, 1) := by decide +kernel
theorem dX12_fixedSet_5 : decode cX12_fixedSet 5 = .ok (.bipush 20, 2) := by decide +kernel
theorem dX12_fixedSet_7 : decode cX12_fixedSet 7 = .ok (.if_icmp .ge 27, 3) := by decide +kernel
theorem dX12_fixedSet_10 : decode cX12_fixedSet 10 = .ok (.iload_n 1, 1) := by decide +kernel
theorem dX12_fixedSet_11 : decode cX12_fixedSet 11 = .ok (.aload_n 0, 1) := by decide +kernel
theorem dX12_fixedSet_12 : decode cX12_fixedSet 12 = .ok (.iload_n 2, 1) := by decide +kernel
theorem dX12_fixedSet_13 : decode cX12_fixedSet 13 = .ok (.invokevirtual 330, 3) := by decide +kernel
theorem dX12_isFixed_0 : decode cX12_isFixed 0 = .ok (.aload_n 0, 1) := by decide +kernel
theorem dX12_isFixed_1 : decode cX12_isFixed 1 = .ok (.getfield 326, 3) := by decide +kernel
theorem dX12_isFixed_4 : decode cX12_isFixed 4 = .ok (.ifCond .eq 19, 3) := by decide +kernel
theorem dX12_isFixed_7 : decode cX12_isFixed 7 = .ok (.aload_n 0, 1) := by decide +kernel
theorem dX12_isFixed_8 : decode cX12_isFixed 8 = .ok (.getfield 106, 3) := by decide +kernel
theorem dX12_isFixed_11 : decode cX12_isFixed 11 = .ok (.iload_n 1, 1) := by decide +kernel
theorem dX12_isFixed_12 : decode cX12_isFixed 12 = .ok (.iaload, 1) := by decide +kernel
theorem dX12_isFixed_13 : decode cX12_isFixed 13 = .ok (.iconst 1, 1) := by decide +kernel
theorem dX12_isFixed_14 : decode cX12_isFixed 14 = .ok (.iload_n 1, 1) := by decide +kernel
theorem dX12_isFixed_15 : decode cX12_isFixed 15 = .ok (.ishl, 1) := by decide +kernel
theorem dX12_isFixed_16 : decode cX12_isFixed 16 = .ok (.if_icmp .ne 7, 3) := by decide +kernel
theorem dX12_isFixed_19 : decode cX12_isFixed 19 = .ok (.iconst 1, 1) := by decide +kernel
theorem dX12_isFixed_20 : decode cX12_isFixed 20 = .ok (.goto 4, 3) := by decide +kernel
theorem dX12_isFixed_23 : decode cX12_isFixed 23 = .ok (.iconst 0, 1) := by decide +kernel
theorem dX12_isFixed_24 : decode cX12_isFixed 24 = .ok (.ireturn, 1) := by decide +kernel
set_option maxHeartbeats 4000000 in
set_option maxRecDepth 100000 in
theorem s_X12_isFixed {P : PP} {a0 : Nat} {a1 : Int32} (I : IM P a0) (ha1 : 0 ≤ a1.toInt ∧ a1.toInt ≤ 19) (hW : MW P a0) : CtrI yX12_isFixed cX12_isFixed 2 (some Jvm.ClassFile.FieldType.boolean) ({ frames := 1, cells := 0, slots := 0, locals := 64 } : Room) 0 0 P [.ref a0, .int a1] (fun r P2 => P = P2 ∧ (0 ≤ r.toInt ∧ r.toInt ≤ 1)) := by
  refine enI (lv := [(0, .ref a0), (1, .int a1)]) (by decide) (Nat.le_of_ble_eq_true rfl) rfl (fun E D cy C Ci0 ret => ?_)
  have ha0 := I.2.1
  have J23 : (0 ≤ (pI P a0 36).toInt ∧ (pI P a0 36).toInt ≤ 1) → G E ({ frames := 1, cells := 0, slots := 0, locals := 64 } : Room) D cy 2 P 0 0 23 [] [] := by
    intro hq23_0
    refine g_iconst (v := 0) C dX12_isFixed_23 (by decide) ?_
    exact ret _ _ _ _ _ _ dX12_isFixed_24 rfl (by decide) (by decide) ⟨rfl, (by decide)⟩
  refine g_aload_n C dX12_isFixed_0 rfl 0 rfl ?_
  refine g_getI C fi_X12_326 (by decide) (ha0).1 (ha0).2 dX12_isFixed_1 ?_
  have h16693 := I.rg (ha0) 36 rfl
  refine b_if_eq C 23 dX12_isFixed_4 (by decide) (fun h16694 => ?_) (fun h16694 => ?_)
  · have h16694 : (pI P a0 36).toInt = 0 := congrArg Int32.toInt h16694
    refine g_lv (lv' := []) [] rfl ?_
    exact J23 (by omega)
  · have h16694 : (pI P a0 36).toInt ≠ 0 := ti_ne h16694
    refine g_aload_n C dX12_isFixed_7 rfl 0 rfl ?_
    obtain ⟨b16695, e16696, h16697⟩ := I.fld (ha0) 37 13 20 rfl
    refine g_getR C fi_X12_106 rfl e16696 (ha0).1 (ha0).2 dX12_isFixed_8 ?_
    refine g_iload_n C dX12_isFixed_11 rfl 1 rfl ?_
    refine g_iald (j := (a1.toInt.toNat)) C h16697.1 h16697.2.1 (ix_in h16697.2.2 (by omega)) dX12_isFixed_12 ?_
    refine g_iconst (v := 1) C dX12_isFixed_13 (by decide) ?_
    refine g_iload_n C dX12_isFixed_14 rfl 1 rfl ?_
    refine a_ishl C dX12_isFixed_15 (fun z16698 => ?_)
    have u16701 := ti_rng (pI P b16695 (a1.toInt.toNat))
    have u16702 := ti_rng z16698
    refine b_icmp_ne C 23 dX12_isFixed_16 (by decide) (fun h16700 => ?_) (fun h16700 => ?_)
    · have h16700 : (pI P b16695 (a1.toInt.toNat)).toInt ≠ z16698.toInt := ti_ne h16700
      refine g_lv (lv' := []) [] rfl ?_
      exact J23 (by omega)
    · have h16700 : (pI P b16695 (a1.toInt.toNat)).toInt = z16698.toInt := congrArg Int32.toInt h16700
      refine g_iconst (v := 1) C dX12_isFixed_19 (by decide) ?_
      refine g_goto C 24 dX12_isFixed_20 (by decide) ?_
      exact ret _ _ _ _ _ _ dX12_isFixed_24 rfl (by decide) (by decide) ⟨rfl, (by decide)⟩
theorem dX12_fixedSet_16 : decode cX12_fixedSet 16 = .ok (.ifCond .eq 9, 3) := by decide +kernel
theorem dX12_fixedSet_19 : decode cX12_fixedSet 19 = .ok (.iconst 1, 1) := by decide +kernel
theorem dX12_fixedSet_20 : decode cX12_fixedSet 20 = .ok (.iload_n 2, 1) := by decide +kernel
theorem dX12_fixedSet_21 : decode cX12_fixedSet 21 = .ok (.ishl, 1) := by decide +kernel
theorem dX12_fixedSet_22 : decode cX12_fixedSet 22 = .ok (.goto 4, 3) := by decide +kernel
theorem dX12_fixedSet_25 : decode cX12_fixedSet 25 = .ok (.iconst 0, 1) := by decide +kernel
theorem dX12_fixedSet_26 : decode cX12_fixedSet 26 = .ok (.ior, 1) := by decide +kernel
theorem dX12_fixedSet_27 : decode cX12_fixedSet 27 = .ok (.istore_n 1, 1) := by decide +kernel
theorem dX12_fixedSet_28 : decode cX12_fixedSet 28 = .ok (.iinc 2 1, 3) := by decide +kernel
theorem dX12_fixedSet_31 : decode cX12_fixedSet 31 = .ok (.goto (-27), 3) := by decide +kernel
theorem dX12_fixedSet_34 : decode cX12_fixedSet 34 = .ok (.iload_n 1, 1) := by decide +kernel
theorem dX12_fixedSet_35 : decode cX12_fixedSet 35 = .ok (.ireturn, 1) := by decide +kernel
set_option maxHeartbeats 4000000 in
set_option maxRecDepth 100000 in
theorem s_X12_fixedSet {P : PP} {a0 : Nat} (I : IM P a0) (hW : MW P a0) : CtrI yX12_fixedSet cX12_fixedSet 3 (some Jvm.ClassFile.FieldType.int) ({ frames := 2, cells := 0, slots := 0, locals := 128 } : Room) 0 0 P [.ref a0] (fun r P2 => P = P2 ∧ (True)) := by
  refine enI (lv := [(0, .ref a0)]) (by decide) (Nat.le_of_ble_eq_true rfl) rfl (fun E D cy C Ci0 ret => ?_)
  have ha0 := I.2.1
  have J4 : ∀ (n4 : Nat) (v4_1 : Int32) (v4_2 : Int32), (20 - v4_2.toInt).toNat < n4 → (0 ≤ v4_2.toInt ∧ v4_2.toInt ≤ 20) → G E ({ frames := 2, cells := 0, slots := 0, locals := 128 } : Room) D cy 3 P 0 0 4 [(0, .ref a0), (1, .int v4_1), (2, .int v4_2)] [] := by
    intro n4
    induction n4 with
    | zero => intro v4_1 v4_2 hm4 hv4_2; omega
    | succ n4 ih4 =>
      intro v4_1 v4_2 hm4 hv4_2
      have J26 : ∀ (v26_s0 : Int32), (0 ≤ v4_2.toInt ∧ v4_2.toInt ≤ 19) → G E ({ frames := 2, cells := 0, slots := 0, locals := 128 } : Room) D cy 3 P 0 0 26 [(0, .ref a0), (2, .int v4_2)] [.int v26_s0, .int v4_1] := by
        intro v26_s0 hv26_2
        refine a_ior C dX12_fixedSet_26 (fun z16846 => ?_)
        refine g_istore_n (lv' := [(1, .int z16846), (0, .ref a0), (2, .int v4_2)]) C dX12_fixedSet_27 rfl (by decide) rfl ?_
        refine s_iinc (lv0 := [(1, .int z16846), (0, .ref a0)]) (m := 1) C dX12_fixedSet_28 2 rfl (by decide) rfl (by decide) (by omega) (fun z16848 h16849 => ?_)
        have h16849 : z16848.toInt = v4_2.toInt + 1 := h16849
        refine g_goto C 4 dX12_fixedSet_31 (by decide) ?_
        refine g_lv (lv' := [(0, .ref a0), (1, .int z16846), (2, .int z16848)]) [2, 1, 0] rfl ?_
        exact ih4 z16846 z16848 (by omega) (by omega)
      refine g_iload_n C dX12_fixedSet_4 rfl 2 rfl ?_
      refine g_bipush (v := 20) C dX12_fixedSet_5 (by decide) ?_
      refine b_icmp_ge C 34 dX12_fixedSet_7 (by decide) (fun h16850 => ?_) (fun h16850 => ?_)
      · have h16850 : 20 ≤ v4_2.toInt := h16850
        refine g_iload_n C dX12_fixedSet_34 rfl 1 rfl ?_
        exact ret _ _ _ _ _ _ dX12_fixedSet_35 rfl (by decide) (by decide) ⟨rfl, trivial⟩
      · have h16850 : v4_2.toInt < 20 := h16850
        refine g_iload_n C dX12_fixedSet_10 rfl 1 rfl ?_
        refine g_aload_n C dX12_fixedSet_11 rfl 0 rfl ?_
        refine g_iload_n C dX12_fixedSet_12 rfl 2 rfl ?_
        refine g_callVI (rest := [.int v4_1]) C mv_X12_330 [.int v4_2] (s_X12_isFixed I (by omega) hW) (ha0).1 (ha0).2 rfl rfl (by decide) (Nat.le_of_ble_eq_true rfl) (by decide) dX12_fixedSet_13 (fun r16851 Y16852 h16853 => ?_)
        obtain ⟨rfl, h16853⟩ := h16853
        have h16853 : 0 ≤ r16851.toInt ∧ r16851.toInt ≤ 1 := h16853
        refine b_if_eq C 25 dX12_fixedSet_16 (by decide) (fun h16854 => ?_) (fun h16854 => ?_)
        · have h16854 : r16851.toInt = 0 := congrArg Int32.toInt h16854
          refine g_iconst (v := 0) C dX12_fixedSet_25 (by decide) ?_
          refine g_lv (lv' := [(0, .ref a0), (2, .int v4_2)]) [0, 2] rfl ?_
          exact J26 0 (by omega)
        · have h16854 : r16851.toInt ≠ 0 := ti_ne h16854
          refine g_iconst (v := 1) C dX12_fixedSet_19 (by decide) ?_
          refine g_iload_n C dX12_fixedSet_20 rfl 2 rfl ?_
          refine a_ishl C dX12_fixedSet_21 (fun z16855 => ?_)
          refine g_goto C 26 dX12_fixedSet_22 (by decide) ?_
          refine g_lv (lv' := [(0, .ref a0), (2, .int v4_2)]) [0, 2] rfl ?_
          exact J26 z16855 (by omega)
  refine g_iconst (v := 0) C dX12_fixedSet_0 (by decide) ?_
  refine g_istore_n (lv' := [(1, .int 0), (0, .ref a0)]) C dX12_fixedSet_1 rfl (by decide) rfl ?_
  refine g_iconst (v := 0) C dX12_fixedSet_2 (by decide) ?_
  refine g_istore_n (lv' := [(2, .int 0), (1, .int 0), (0, .ref a0)]) C dX12_fixedSet_3 rfl (by decide) rfl ?_
  refine g_lv (lv' := [(0, .ref a0), (1, .int 0), (2, .int 0)]) [2, 1, 0] rfl ?_
  exact J4 _ 0 0 (Nat.lt_succ_self _) (by decide)
