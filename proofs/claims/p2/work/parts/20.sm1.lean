theorem dX12_draw_0 : decode cX12_draw 0 = .ok (.aload_n 0, 1) := by decide +kernel
theorem dX12_draw_1 : decode cX12_draw 1 = .ok (.iconst 0, 1) := by decide +kernel
theorem dX12_draw_2 : decode cX12_draw 2 = .ok (.putfield 1, 3) := by decide +kernel
theorem dX12_draw_5 : decode cX12_draw 5 = .ok (.aload_n 0, 1) := by decide +kernel
theorem dX12_draw_6 : decode cX12_draw 6 = .ok (.iload_n 1, 1) := by decide +kernel
theorem dX12_draw_7 : decode cX12_draw 7 = .ok (.invokevirtual 192, 3) := by decide +kernel
theorem dX12_isBook_0 : decode cX12_isBook 0 = .ok (.iload_n 1, 1) := by decide +kernel
theorem dX12_isBook_1 : decode cX12_isBook 1 = .ok (.iconst 0, 1) := by decide +kernel
theorem dX12_isBook_2 : decode cX12_isBook 2 = .ok (.iconst 1, 1) := by decide +kernel
theorem dX12_isBook_3 : decode cX12_isBook 3 = .ok (.invokestatic 178, 3) := by decide +kernel
theorem dX12_within_0 : decode cX12_within 0 = .ok (.iload_n 0, 1) := by decide +kernel
theorem dX12_within_1 : decode cX12_within 1 = .ok (.iload_n 1, 1) := by decide +kernel
theorem dX12_within_2 : decode cX12_within 2 = .ok (.if_icmp .lt 12, 3) := by decide +kernel
theorem dX12_within_5 : decode cX12_within 5 = .ok (.iload_n 0, 1) := by decide +kernel
theorem dX12_within_6 : decode cX12_within 6 = .ok (.iload_n 2, 1) := by decide +kernel
theorem dX12_within_7 : decode cX12_within 7 = .ok (.if_icmp .gt 7, 3) := by decide +kernel
theorem dX12_within_10 : decode cX12_within 10 = .ok (.iconst 1, 1) := by decide +kernel
theorem dX12_within_11 : decode cX12_within 11 = .ok (.goto 4, 3) := by decide +kernel
theorem dX12_within_14 : decode cX12_within 14 = .ok (.iconst 0, 1) := by decide +kernel
theorem dX12_within_15 : decode cX12_within 15 = .ok (.ireturn, 1) := by decide +kernel
set_option maxHeartbeats 4000000 in
set_option maxRecDepth 100000 in
theorem s_X12_within {P : PP} {a0 : Int32} {a1 : Int32} {a2 : Int32} (I : IV P) : CtrI yX12_within cX12_within 3 (some Jvm.ClassFile.FieldType.boolean) ({ frames := 1, cells := 0, slots := 0, locals := 64 } : Room) 0 0 P [.int a0, .int a1, .int a2] (fun r P2 => P = P2 ∧ (0 ≤ r.toInt ∧ r.toInt ≤ 1) ∧ (r.toInt = 0 ∨ (a1.toInt ≤ a0.toInt ∧ a0.toInt ≤ a2.toInt))) := by
  refine enI (lv := [(0, .int a0), (1, .int a1), (2, .int a2)]) (by decide) (Nat.le_of_ble_eq_true rfl) rfl (fun E D cy C Ci0 ret => ?_)
  have J14 : G E ({ frames := 1, cells := 0, slots := 0, locals := 64 } : Room) D cy 3 P 0 0 14 [] [] := by
    refine g_iconst (v := 0) C dX12_within_14 (by decide) ?_
    exact ret _ _ _ _ _ _ dX12_within_15 rfl (by decide) (by decide) ⟨rfl, (by decide), Or.inl rfl⟩
  refine g_iload_n C dX12_within_0 rfl 0 rfl ?_
  refine g_iload_n C dX12_within_1 rfl 1 rfl ?_
  have u15 := ti_rng a0
  have u16 := ti_rng a1
  refine b_icmp_lt C 14 dX12_within_2 (by decide) (fun h14 => ?_) (fun h14 => ?_)
  · have h14 : a0.toInt < a1.toInt := h14
    refine g_lv (lv' := []) [] rfl ?_
    exact J14 
  · have h14 : a1.toInt ≤ a0.toInt := h14
    refine g_iload_n C dX12_within_5 rfl 0 rfl ?_
    refine g_iload_n C dX12_within_6 rfl 2 rfl ?_
    have u18 := ti_rng a0
    have u19 := ti_rng a2
    refine b_icmp_gt C 14 dX12_within_7 (by decide) (fun h17 => ?_) (fun h17 => ?_)
    · have h17 : a2.toInt < a0.toInt := h17
      refine g_lv (lv' := []) [] rfl ?_
      exact J14 
    · have h17 : a0.toInt ≤ a2.toInt := h17
      refine g_iconst (v := 1) C dX12_within_10 (by decide) ?_
      refine g_goto C 15 dX12_within_11 (by decide) ?_
      exact ret _ _ _ _ _ _ dX12_within_15 rfl (by decide) (by decide) ⟨rfl, (by decide), Or.inr (by omega)⟩
theorem dX12_isBook_6 : decode cX12_isBook 6 = .ok (.ifCond .eq 16, 3) := by decide +kernel
theorem dX12_isBook_9 : decode cX12_isBook 9 = .ok (.aload_n 0, 1) := by decide +kernel
theorem dX12_isBook_10 : decode cX12_isBook 10 = .ok (.getfield 45, 3) := by decide +kernel
theorem dX12_isBook_13 : decode cX12_isBook 13 = .ok (.iload_n 1, 1) := by decide +kernel
theorem dX12_isBook_14 : decode cX12_isBook 14 = .ok (.iaload, 1) := by decide +kernel
theorem dX12_isBook_15 : decode cX12_isBook 15 = .ok (.ifCond .le 7, 3) := by decide +kernel
theorem dX12_isBook_18 : decode cX12_isBook 18 = .ok (.iconst 1, 1) := by decide +kernel
theorem dX12_isBook_19 : decode cX12_isBook 19 = .ok (.goto 4, 3) := by decide +kernel
theorem dX12_isBook_22 : decode cX12_isBook 22 = .ok (.iconst 0, 1) := by decide +kernel
theorem dX12_isBook_23 : decode cX12_isBook 23 = .ok (.ireturn, 1) := by decide +kernel
set_option maxHeartbeats 4000000 in
set_option maxRecDepth 100000 in
theorem s_X12_isBook {P : PP} {a0 : Nat} {a1 : Int32} (I : IM P a0) (hW : MW P a0) : CtrI yX12_isBook cX12_isBook 2 (some Jvm.ClassFile.FieldType.boolean) ({ frames := 2, cells := 0, slots := 0, locals := 128 } : Room) 0 0 P [.ref a0, .int a1] (fun r P2 => P = P2 ∧ (0 ≤ r.toInt ∧ r.toInt ≤ 1) ∧ (r.toInt = 0 ∨ (((0 : Int) ≤ a1.toInt ∧ a1.toInt ≤ (1 : Int)))) ∧ (r.toInt = 0 ∨ ∀ b, pR P2 a0 10 = some b → 0 < (pI P2 b (a1.toInt.toNat)).toInt)) := by
  refine enI (lv := [(0, .ref a0), (1, .int a1)]) (by decide) (Nat.le_of_ble_eq_true rfl) rfl (fun E D cy C Ci0 ret => ?_)
  have ha0 := I.2.1
  have J22 : G E ({ frames := 2, cells := 0, slots := 0, locals := 128 } : Room) D cy 2 P 0 0 22 [] [] := by
    refine g_iconst (v := 0) C dX12_isBook_22 (by decide) ?_
    exact ret _ _ _ _ _ _ dX12_isBook_23 rfl (by decide) (by decide) ⟨rfl, (by decide), Or.inl rfl, Or.inl rfl⟩
  refine g_iload_n C dX12_isBook_0 rfl 1 rfl ?_
  refine g_iconst (v := 0) C dX12_isBook_1 (by decide) ?_
  refine g_iconst (v := 1) C dX12_isBook_2 (by decide) ?_
  refine g_callSI (b := 0) (ci := 0) (rest := []) C ms_X12_178 [.int a1, .int 0, .int 1] (s_X12_within I.1) rfl rfl (by decide) (Nat.le_of_ble_eq_true rfl) (by decide) dX12_isBook_3 (fun r30 Y31 h32 => ?_)
  obtain ⟨rfl, h32⟩ := h32
  obtain ⟨h32, hi33⟩ := h32
  have hi33 : r30.toInt = 0 ∨ (0 ≤ a1.toInt ∧ a1.toInt ≤ 1) := hi33
  have h32 : 0 ≤ r30.toInt ∧ r30.toInt ≤ 1 := h32
  refine b_if_eq C 22 dX12_isBook_6 (by decide) (fun h34 => ?_) (fun h34 => ?_)
  · have h34 : r30.toInt = 0 := congrArg Int32.toInt h34
    clear hi33
    refine g_lv (lv' := []) [] rfl ?_
    exact J22 
  · have h34 : r30.toInt ≠ 0 := ti_ne h34
    replace hi33 := hi33.resolve_left (by omega)
    refine g_aload_n C dX12_isBook_9 rfl 0 rfl ?_
    obtain ⟨b35, e36, h37⟩ := I.fld (ha0) 10 13 2 rfl
    refine g_getR C fi_X12_45 rfl e36 (ha0).1 (ha0).2 dX12_isBook_10 ?_
    refine g_iload_n C dX12_isBook_13 rfl 1 rfl ?_
    refine g_iald (j := (a1.toInt.toNat)) C h37.1 h37.2.1 (ix_in h37.2.2 (by omega)) dX12_isBook_14 ?_
    have h38 := I.arr e36 rfl (a1.toInt.toNat)
    refine b_if_le C 22 dX12_isBook_15 (by decide) (fun h39 => ?_) (fun h39 => ?_)
    · have h39 : (pI P b35 (a1.toInt.toNat)).toInt ≤ 0 := h39
      refine g_lv (lv' := []) [] rfl ?_
      exact J22 
    · have h39 : 0 < (pI P b35 (a1.toInt.toNat)).toInt := h39
      refine g_iconst (v := 1) C dX12_isBook_18 (by decide) ?_
      refine g_goto C 23 dX12_isBook_19 (by decide) ?_
      exact ret _ _ _ _ _ _ dX12_isBook_23 rfl (by decide) (by decide) ⟨rfl, (by decide), Or.inr (by omega), Or.inr (fun b9 e9 => by rw [e36] at e9; cases e9; show 0 < (pI P b35 (a1.toInt.toNat)).toInt; omega)⟩
theorem dX12_draw_10 : decode cX12_draw 10 = .ok (.ifCond .eq 11, 3) := by decide +kernel
theorem dX12_draw_13 : decode cX12_draw 13 = .ok (.aload_n 0, 1) := by decide +kernel
theorem dX12_draw_14 : decode cX12_draw 14 = .ok (.iload_n 1, 1) := by decide +kernel
theorem dX12_draw_15 : decode cX12_draw 15 = .ok (.invokevirtual 196, 3) := by decide +kernel
theorem dX12_isOut_0 : decode cX12_isOut 0 = .ok (.iconst 0, 1) := by decide +kernel
theorem dX12_isOut_1 : decode cX12_isOut 1 = .ok (.istore_n 2, 1) := by decide +kernel
theorem dX12_isOut_2 : decode cX12_isOut 2 = .ok (.iconst 0, 1) := by decide +kernel
theorem dX12_isOut_3 : decode cX12_isOut 3 = .ok (.istore_n 3, 1) := by decide +kernel
theorem dX12_isOut_4 : decode cX12_isOut 4 = .ok (.iload_n 3, 1) := by decide +kernel
theorem dX12_isOut_5 : decode cX12_isOut 5 = .ok (.iconst 4, 1) := by decide +kernel
theorem dX12_isOut_6 : decode cX12_isOut 6 = .ok (.if_icmp .ge 70, 3) := by decide +kernel
theorem dX12_isOut_9 : decode cX12_isOut 9 = .ok (.iconst 0, 1) := by decide +kernel
theorem dX12_isOut_10 : decode cX12_isOut 10 = .ok (.istore 4, 2) := by decide +kernel
theorem dX12_isOut_12 : decode cX12_isOut 12 = .ok (.iload 4, 2) := by decide +kernel
theorem dX12_isOut_14 : decode cX12_isOut 14 = .ok (.aload_n 0, 1) := by decide +kernel
theorem dX12_isOut_15 : decode cX12_isOut 15 = .ok (.getfield 69, 3) := by decide +kernel
theorem dX12_isOut_18 : decode cX12_isOut 18 = .ok (.iload_n 3, 1) := by decide +kernel
theorem dX12_isOut_19 : decode cX12_isOut 19 = .ok (.iaload, 1) := by decide +kernel
theorem dX12_isOut_20 : decode cX12_isOut 20 = .ok (.if_icmp .ge 50, 3) := by decide +kernel
theorem dX12_isOut_23 : decode cX12_isOut 23 = .ok (.iload_n 2, 1) := by decide +kernel
theorem dX12_isOut_24 : decode cX12_isOut 24 = .ok (.ifCond .ne 34, 3) := by decide +kernel
theorem dX12_isOut_27 : decode cX12_isOut 27 = .ok (.aload_n 0, 1) := by decide +kernel
theorem dX12_isOut_28 : decode cX12_isOut 28 = .ok (.getfield 75, 3) := by decide +kernel
theorem dX12_isOut_31 : decode cX12_isOut 31 = .ok (.bipush 40, 2) := by decide +kernel
theorem dX12_isOut_33 : decode cX12_isOut 33 = .ok (.iload_n 3, 1) := by decide +kernel
theorem dX12_isOut_34 : decode cX12_isOut 34 = .ok (.imul, 1) := by decide +kernel
theorem dX12_isOut_35 : decode cX12_isOut 35 = .ok (.iload 4, 2) := by decide +kernel
theorem dX12_isOut_37 : decode cX12_isOut 37 = .ok (.iadd, 1) := by decide +kernel
theorem dX12_isOut_38 : decode cX12_isOut 38 = .ok (.iaload, 1) := by decide +kernel
theorem dX12_isOut_39 : decode cX12_isOut 39 = .ok (.iload_n 1, 1) := by decide +kernel
theorem dX12_isOut_40 : decode cX12_isOut 40 = .ok (.if_icmp .eq 18, 3) := by decide +kernel
theorem dX12_isOut_43 : decode cX12_isOut 43 = .ok (.aload_n 0, 1) := by decide +kernel
theorem dX12_isOut_44 : decode cX12_isOut 44 = .ok (.getfield 75, 3) := by decide +kernel
theorem dX12_isOut_47 : decode cX12_isOut 47 = .ok (.bipush 40, 2) := by decide +kernel
theorem dX12_isOut_49 : decode cX12_isOut 49 = .ok (.iload_n 3, 1) := by decide +kernel
theorem dX12_isOut_50 : decode cX12_isOut 50 = .ok (.imul, 1) := by decide +kernel
theorem dX12_isOut_51 : decode cX12_isOut 51 = .ok (.iload 4, 2) := by decide +kernel
theorem dX12_isOut_53 : decode cX12_isOut 53 = .ok (.iadd, 1) := by decide +kernel
theorem dX12_isOut_54 : decode cX12_isOut 54 = .ok (.iaload, 1) := by decide +kernel
theorem dX12_isOut_55 : decode cX12_isOut 55 = .ok (.ifCond .ge 7, 3) := by decide +kernel
theorem dX12_isOut_58 : decode cX12_isOut 58 = .ok (.iconst 1, 1) := by decide +kernel
theorem dX12_isOut_59 : decode cX12_isOut 59 = .ok (.goto 4, 3) := by decide +kernel
theorem dX12_isOut_62 : decode cX12_isOut 62 = .ok (.iconst 0, 1) := by decide +kernel
theorem dX12_isOut_63 : decode cX12_isOut 63 = .ok (.istore_n 2, 1) := by decide +kernel
theorem dX12_isOut_64 : decode cX12_isOut 64 = .ok (.iinc 4 1, 3) := by decide +kernel
theorem dX12_isOut_67 : decode cX12_isOut 67 = .ok (.goto (-55), 3) := by decide +kernel
theorem dX12_isOut_70 : decode cX12_isOut 70 = .ok (.iinc 3 1, 3) := by decide +kernel
theorem dX12_isOut_73 : decode cX12_isOut 73 = .ok (.goto (-69), 3) := by decide +kernel
theorem dX12_isOut_76 : decode cX12_isOut 76 = .ok (.iload_n 2, 1) := by decide +kernel
theorem dX12_isOut_77 : decode cX12_isOut 77 = .ok (.ireturn, 1) := by decide +kernel
set_option maxHeartbeats 4000000 in
set_option maxRecDepth 100000 in
theorem s_X12_isOut {P : PP} {a0 : Nat} {a1 : Int32} (I : IM P a0) (hW : MW P a0) : CtrI yX12_isOut cX12_isOut 5 (some Jvm.ClassFile.FieldType.boolean) ({ frames := 1, cells := 0, slots := 0, locals := 64 } : Room) 0 0 P [.ref a0, .int a1] (fun r P2 => P = P2 ∧ (0 ≤ r.toInt ∧ r.toInt ≤ 1)) := by
  refine enI (lv := [(0, .ref a0), (1, .int a1)]) (by decide) (Nat.le_of_ble_eq_true rfl) rfl (fun E D cy C Ci0 ret => ?_)
  have ha0 := I.2.1
  have J4 : ∀ (n4 : Nat) (v4_2 : Int32) (v4_3 : Int32), (4 - v4_3.toInt).toNat < n4 → (0 ≤ v4_2.toInt ∧ v4_2.toInt ≤ 1) → (0 ≤ v4_3.toInt ∧ v4_3.toInt ≤ 4) → G E ({ frames := 1, cells := 0, slots := 0, locals := 64 } : Room) D cy 5 P 0 0 4 [(0, .ref a0), (1, .int a1), (2, .int v4_2), (3, .int v4_3)] [] := by
    intro n4
    induction n4 with
    | zero => intro v4_2 v4_3 hm4 hv4_2 hv4_3; omega
    | succ n4 ih4 =>
      intro v4_2 v4_3 hm4 hv4_2 hv4_3
      have J12 : ∀ (n12 : Nat) (v12_2 : Int32) (v12_4 : Int32), (40 - v12_4.toInt).toNat < n12 → (0 ≤ v12_2.toInt ∧ v12_2.toInt ≤ 1) → (0 ≤ v4_3.toInt ∧ v4_3.toInt ≤ 3) → (0 ≤ v12_4.toInt ∧ v12_4.toInt ≤ 40) → G E ({ frames := 1, cells := 0, slots := 0, locals := 64 } : Room) D cy 5 P 0 0 12 [(0, .ref a0), (1, .int a1), (2, .int v12_2), (3, .int v4_3), (4, .int v12_4)] [] := by
        intro n12
        induction n12 with
        | zero => intro v12_2 v12_4 hm12 hv12_2 hv12_3 hv12_4; omega
        | succ n12 ih12 =>
          intro v12_2 v12_4 hm12 hv12_2 hv12_3 hv12_4
          have J63 : ∀ (v63_s0 : Int32), (0 ≤ v4_3.toInt ∧ v4_3.toInt ≤ 3) → (0 ≤ v12_4.toInt ∧ v12_4.toInt ≤ 39) → (0 ≤ v63_s0.toInt ∧ v63_s0.toInt ≤ 1) → (∀ b, pR P a0 20 = some b → 1 ≤ (pI P b (v4_3.toInt.toNat)).toInt ∧ (pI P b (v4_3.toInt.toNat)).toInt ≤ 40) → G E ({ frames := 1, cells := 0, slots := 0, locals := 64 } : Room) D cy 5 P 0 0 63 [(0, .ref a0), (1, .int a1), (3, .int v4_3), (4, .int v12_4)] [.int v63_s0] := by
            intro v63_s0 hv63_3 hv63_4 hv63_s0 hq63_0
            obtain ⟨b542, e543, h544⟩ := I.fld (ha0) 20 13 20 rfl
            have hq63_0 := hq63_0 b542 e543
            refine g_istore_n (lv' := [(2, .int v63_s0), (0, .ref a0), (1, .int a1), (3, .int v4_3), (4, .int v12_4)]) C dX12_isOut_63 rfl (by decide) rfl ?_
            refine s_iinc (lv0 := [(2, .int v63_s0), (0, .ref a0), (1, .int a1), (3, .int v4_3)]) (m := 1) C dX12_isOut_64 4 rfl (by decide) rfl (by decide) (by omega) (fun z545 h546 => ?_)
            have h546 : z545.toInt = v12_4.toInt + 1 := h546
            refine g_goto C 12 dX12_isOut_67 (by decide) ?_
            refine g_lv (lv' := [(0, .ref a0), (1, .int a1), (2, .int v63_s0), (3, .int v4_3), (4, .int z545)]) [2, 3, 1, 4, 0] rfl ?_
            exact ih12 v63_s0 z545 (by omega) (by omega) (by omega) (by omega)
          have J58 : (0 ≤ v4_3.toInt ∧ v4_3.toInt ≤ 3) → (0 ≤ v12_4.toInt ∧ v12_4.toInt ≤ 39) → (∀ b, pR P a0 20 = some b → 1 ≤ (pI P b (v4_3.toInt.toNat)).toInt ∧ (pI P b (v4_3.toInt.toNat)).toInt ≤ 40) → G E ({ frames := 1, cells := 0, slots := 0, locals := 64 } : Room) D cy 5 P 0 0 58 [(0, .ref a0), (1, .int a1), (3, .int v4_3), (4, .int v12_4)] [] := by
            intro hv58_3 hv58_4 hq58_0
            obtain ⟨b547, e548, h549⟩ := I.fld (ha0) 20 13 20 rfl
            have hq58_0 := hq58_0 b547 e548
            refine g_iconst (v := 1) C dX12_isOut_58 (by decide) ?_
            refine g_goto C 63 dX12_isOut_59 (by decide) ?_
            exact J63 1 (by omega) (by omega) (by decide) (fun b9 e9 => by rw [e548] at e9; cases e9; omega)
          refine g_iload C dX12_isOut_12 4 rfl ?_
          refine g_aload_n C dX12_isOut_14 rfl 0 rfl ?_
          obtain ⟨b550, e551, h552⟩ := I.fld (ha0) 20 13 20 rfl
          refine g_getR C fi_X12_69 rfl e551 (ha0).1 (ha0).2 dX12_isOut_15 ?_
          refine g_iload_n C dX12_isOut_18 rfl 3 rfl ?_
          refine g_iald (j := (v4_3.toInt.toNat)) C h552.1 h552.2.1 (ix_in h552.2.2 (by omega)) dX12_isOut_19 ?_
          have h553 := I.arr e551 rfl (v4_3.toInt.toNat)
          refine b_icmp_ge C 70 dX12_isOut_20 (by decide) (fun h554 => ?_) (fun h554 => ?_)
          · have h554 : (pI P b550 (v4_3.toInt.toNat)).toInt ≤ v12_4.toInt := h554
            refine s_iinc (lv0 := [(0, .ref a0), (1, .int a1), (2, .int v12_2), (4, .int v12_4)]) (m := 1) C dX12_isOut_70 3 rfl (by decide) rfl (by decide) (by omega) (fun z555 h556 => ?_)
            have h556 : z555.toInt = v4_3.toInt + 1 := h556
            refine g_goto C 4 dX12_isOut_73 (by decide) ?_
            refine g_lv (lv' := [(0, .ref a0), (1, .int a1), (2, .int v12_2), (3, .int z555)]) [1, 2, 3, 0] rfl ?_
            exact ih4 v12_2 z555 (by omega) (by omega) (by omega)
          · have h554 : v12_4.toInt < (pI P b550 (v4_3.toInt.toNat)).toInt := h554
            refine g_iload_n C dX12_isOut_23 rfl 2 rfl ?_
            refine b_if_ne C 58 dX12_isOut_24 (by decide) (fun h557 => ?_) (fun h557 => ?_)
            · have h557 : v12_2.toInt ≠ 0 := ti_ne h557
              refine g_lv (lv' := [(0, .ref a0), (1, .int a1), (3, .int v4_3), (4, .int v12_4)]) [0, 1, 3, 4] rfl ?_
              exact J58 (by omega) (by omega) (fun b9 e9 => by rw [e551] at e9; cases e9; omega)
            · have h557 : v12_2.toInt = 0 := congrArg Int32.toInt h557
              refine g_aload_n C dX12_isOut_27 rfl 0 rfl ?_
              obtain ⟨b558, e559, h560⟩ := I.fld (ha0) 22 13 800 rfl
              refine g_getR C fi_X12_75 rfl e559 (ha0).1 (ha0).2 dX12_isOut_28 ?_
              refine g_bipush (v := 40) C dX12_isOut_31 (by decide) ?_
              refine g_iload_n C dX12_isOut_33 rfl 3 rfl ?_
              refine s_imul C dX12_isOut_34 (by show -2147483648 ≤ 40 * v4_3.toInt ∧ 40 * v4_3.toInt ≤ 2147483647; omega) (fun z561 h562 => ?_)
              have h562 : z561.toInt = 40 * v4_3.toInt := h562
              refine g_iload C dX12_isOut_35 4 rfl ?_
              refine s_iadd C dX12_isOut_37 (by show -2147483648 ≤ z561.toInt + v12_4.toInt ∧ z561.toInt + v12_4.toInt ≤ 2147483647; omega) (fun z563 h564 => ?_)
              have h564 : z563.toInt = z561.toInt + v12_4.toInt := h564
              refine g_iald (j := (z563.toInt.toNat)) C h560.1 h560.2.1 (ix_in h560.2.2 (by omega)) dX12_isOut_38 ?_
              have h565 := I.arr e559 rfl (z563.toInt.toNat)
              refine g_iload_n C dX12_isOut_39 rfl 1 rfl ?_
              have u567 := ti_rng a1
              refine b_icmp_eq C 58 dX12_isOut_40 (by decide) (fun h566 => ?_) (fun h566 => ?_)
              · have h566 : (pI P b558 (z563.toInt.toNat)).toInt = a1.toInt := congrArg Int32.toInt h566
                refine g_lv (lv' := [(0, .ref a0), (1, .int a1), (3, .int v4_3), (4, .int v12_4)]) [0, 1, 3, 4] rfl ?_
                exact J58 (by omega) (by omega) (fun b9 e9 => by rw [e551] at e9; cases e9; omega)
              · have h566 : (pI P b558 (z563.toInt.toNat)).toInt ≠ a1.toInt := ti_ne h566
                refine g_aload_n C dX12_isOut_43 rfl 0 rfl ?_
                refine g_getR C fi_X12_75 rfl e559 (ha0).1 (ha0).2 dX12_isOut_44 ?_
                refine g_bipush (v := 40) C dX12_isOut_47 (by decide) ?_
                refine g_iload_n C dX12_isOut_49 rfl 3 rfl ?_
                refine s_imul C dX12_isOut_50 (by show -2147483648 ≤ 40 * v4_3.toInt ∧ 40 * v4_3.toInt ≤ 2147483647; omega) (fun z568 h569 => ?_)
                have h569 : z568.toInt = 40 * v4_3.toInt := h569
                refine g_iload C dX12_isOut_51 4 rfl ?_
                refine s_iadd C dX12_isOut_53 (by show -2147483648 ≤ z568.toInt + v12_4.toInt ∧ z568.toInt + v12_4.toInt ≤ 2147483647; omega) (fun z570 h571 => ?_)
                have h571 : z570.toInt = z568.toInt + v12_4.toInt := h571
                refine g_iald (j := (z570.toInt.toNat)) C h560.1 h560.2.1 (ix_in h560.2.2 (by omega)) dX12_isOut_54 ?_
                have h572 := I.arr e559 rfl (z570.toInt.toNat)
                refine b_if_ge C 62 dX12_isOut_55 (by decide) (fun h573 => ?_) (fun h573 => ?_)
                · have h573 : 0 ≤ (pI P b558 (z570.toInt.toNat)).toInt := h573
                  refine g_iconst (v := 0) C dX12_isOut_62 (by decide) ?_
                  refine g_lv (lv' := [(0, .ref a0), (1, .int a1), (3, .int v4_3), (4, .int v12_4)]) [0, 1, 3, 4] rfl ?_
                  exact J63 0 (by omega) (by omega) (by decide) (fun b9 e9 => by rw [e551] at e9; cases e9; omega)
                · have h573 : (pI P b558 (z570.toInt.toNat)).toInt < 0 := h573
                  refine g_lv (lv' := [(0, .ref a0), (1, .int a1), (3, .int v4_3), (4, .int v12_4)]) [0, 1, 3, 4] rfl ?_
                  exact J58 (by omega) (by omega) (fun b9 e9 => by rw [e551] at e9; cases e9; omega)
      refine g_iload_n C dX12_isOut_4 rfl 3 rfl ?_
      refine g_iconst (v := 4) C dX12_isOut_5 (by decide) ?_
      refine b_icmp_ge C 76 dX12_isOut_6 (by decide) (fun h574 => ?_) (fun h574 => ?_)
      · have h574 : 4 ≤ v4_3.toInt := h574
        refine g_iload_n C dX12_isOut_76 rfl 2 rfl ?_
        exact ret _ _ _ _ _ _ dX12_isOut_77 (nar_b (b01 (by omega))) (by decide) (by decide) ⟨rfl, (by omega)⟩
      · have h574 : v4_3.toInt < 4 := h574
        refine g_iconst (v := 0) C dX12_isOut_9 (by decide) ?_
        refine g_istore (lv' := [(4, .int 0), (0, .ref a0), (1, .int a1), (2, .int v4_2), (3, .int v4_3)]) C dX12_isOut_10 (by decide) rfl ?_
        refine g_lv (lv' := [(0, .ref a0), (1, .int a1), (2, .int v4_2), (3, .int v4_3), (4, .int 0)]) [1, 2, 3, 4, 0] rfl ?_
        exact J12 _ v4_2 0 (Nat.lt_succ_self _) (by omega) (by omega) (by decide)
  refine g_iconst (v := 0) C dX12_isOut_0 (by decide) ?_
  refine g_istore_n (lv' := [(2, .int 0), (0, .ref a0), (1, .int a1)]) C dX12_isOut_1 rfl (by decide) rfl ?_
  refine g_iconst (v := 0) C dX12_isOut_2 (by decide) ?_
  refine g_istore_n (lv' := [(3, .int 0), (2, .int 0), (0, .ref a0), (1, .int a1)]) C dX12_isOut_3 rfl (by decide) rfl ?_
  refine g_lv (lv' := [(0, .ref a0), (1, .int a1), (2, .int 0), (3, .int 0)]) [2, 3, 1, 0] rfl ?_
  exact J4 _ 0 0 (Nat.lt_succ_self _) (by decide) (by decide)
theorem dX12_draw_18 : decode cX12_draw 18 = .ok (.ifCond .eq 10, 3) := by decide +kernel
theorem dX12_draw_28 : decode cX12_draw 28 = .ok (.aload_n 0, 1) := by decide +kernel
theorem dX12_draw_29 : decode cX12_draw 29 = .ok (.invokevirtual 199, 3) := by decide +kernel
theorem dX12_cutAll_0 : decode cX12_cutAll 0 = .ok (.aload_n 0, 1) := by decide +kernel
theorem dX12_cutAll_1 : decode cX12_cutAll 1 = .ok (.aload_n 0, 1) := by decide +kernel
theorem dX12_cutAll_2 : decode cX12_cutAll 2 = .ok (.getfield 11, 3) := by decide +kernel
theorem dX12_cutAll_5 : decode cX12_cutAll 5 = .ok (.putfield 140, 3) := by decide +kernel
theorem dX12_cutAll_8 : decode cX12_cutAll 8 = .ok (.aload_n 0, 1) := by decide +kernel
theorem dX12_cutAll_9 : decode cX12_cutAll 9 = .ok (.iconst 0, 1) := by decide +kernel
theorem dX12_cutAll_10 : decode cX12_cutAll 10 = .ok (.putfield 11, 3) := by decide +kernel
theorem dX12_cutAll_13 : decode cX12_cutAll 13 = .ok (.iconst 0, 1) := by decide +kernel
theorem dX12_cutAll_14 : decode cX12_cutAll 14 = .ok (.istore_n 1, 1) := by decide +kernel
theorem dX12_cutAll_15 : decode cX12_cutAll 15 = .ok (.iconst 0, 1) := by decide +kernel
theorem dX12_cutAll_16 : decode cX12_cutAll 16 = .ok (.istore_n 2, 1) := by decide +kernel
theorem dX12_cutAll_17 : decode cX12_cutAll 17 = .ok (.iload_n 2, 1) := by decide +kernel
theorem dX12_cutAll_18 : decode cX12_cutAll 18 = .ok (.aload_n 0, 1) := by decide +kernel
theorem dX12_cutAll_19 : decode cX12_cutAll 19 = .ok (.getfield 140, 3) := by decide +kernel
theorem dX12_cutAll_22 : decode cX12_cutAll 22 = .ok (.if_icmp .ge 257, 3) := by decide +kernel
theorem dX12_cutAll_25 : decode cX12_cutAll 25 = .ok (.aload_n 0, 1) := by decide +kernel
theorem dX12_cutAll_26 : decode cX12_cutAll 26 = .ok (.getfield 14, 3) := by decide +kernel
theorem dX12_cutAll_29 : decode cX12_cutAll 29 = .ok (.iload_n 2, 1) := by decide +kernel
theorem dX12_cutAll_30 : decode cX12_cutAll 30 = .ok (.iaload, 1) := by decide +kernel
theorem dX12_cutAll_31 : decode cX12_cutAll 31 = .ok (.istore_n 3, 1) := by decide +kernel
theorem dX12_cutAll_32 : decode cX12_cutAll 32 = .ok (.iload_n 3, 1) := by decide +kernel
theorem dX12_cutAll_33 : decode cX12_cutAll 33 = .ok (.bipush 10, 2) := by decide +kernel
theorem dX12_cutAll_35 : decode cX12_cutAll 35 = .ok (.if_icmp .eq 9, 3) := by decide +kernel
theorem dX12_cutAll_38 : decode cX12_cutAll 38 = .ok (.iload_n 3, 1) := by decide +kernel
theorem dX12_cutAll_39 : decode cX12_cutAll 39 = .ok (.bipush 32, 2) := by decide +kernel
theorem dX12_cutAll_41 : decode cX12_cutAll 41 = .ok (.if_icmp .ne 9, 3) := by decide +kernel
theorem dX12_cutAll_50 : decode cX12_cutAll 50 = .ok (.iload_n 2, 1) := by decide +kernel
theorem dX12_cutAll_51 : decode cX12_cutAll 51 = .ok (.istore 4, 2) := by decide +kernel
theorem dX12_cutAll_53 : decode cX12_cutAll 53 = .ok (.lconst 0, 1) := by decide +kernel
theorem dX12_cutAll_54 : decode cX12_cutAll 54 = .ok (.lstore 5, 2) := by decide +kernel
theorem dX12_cutAll_56 : decode cX12_cutAll 56 = .ok (.aload_n 0, 1) := by decide +kernel
theorem dX12_cutAll_57 : decode cX12_cutAll 57 = .ok (.getfield 27, 3) := by decide +kernel
theorem dX12_cutAll_60 : decode cX12_cutAll 60 = .ok (.iload_n 1, 1) := by decide +kernel
theorem dX12_cutAll_61 : decode cX12_cutAll 61 = .ok (.iload_n 2, 1) := by decide +kernel
theorem dX12_cutAll_62 : decode cX12_cutAll 62 = .ok (.iastore, 1) := by decide +kernel
theorem dX12_cutAll_63 : decode cX12_cutAll 63 = .ok (.iload_n 3, 1) := by decide +kernel
theorem dX12_cutAll_64 : decode cX12_cutAll 64 = .ok (.invokestatic 136, 3) := by decide +kernel
theorem dX12_cutAll_279 : decode cX12_cutAll 279 = .ok (.aload_n 0, 1) := by decide +kernel
theorem dX12_cutAll_280 : decode cX12_cutAll 280 = .ok (.getfield 24, 3) := by decide +kernel
theorem dX12_cutAll_283 : decode cX12_cutAll 283 = .ok (.iload_n 1, 1) := by decide +kernel
theorem dX12_cutAll_284 : decode cX12_cutAll 284 = .ok (.iconst 0, 1) := by decide +kernel
theorem dX12_cutAll_285 : decode cX12_cutAll 285 = .ok (.iastore, 1) := by decide +kernel
theorem dX12_cutAll_286 : decode cX12_cutAll 286 = .ok (.aload_n 0, 1) := by decide +kernel
theorem dX12_cutAll_287 : decode cX12_cutAll 287 = .ok (.getfield 27, 3) := by decide +kernel
theorem dX12_cutAll_290 : decode cX12_cutAll 290 = .ok (.iload_n 1, 1) := by decide +kernel
theorem dX12_cutAll_291 : decode cX12_cutAll 291 = .ok (.aload_n 0, 1) := by decide +kernel
theorem dX12_cutAll_292 : decode cX12_cutAll 292 = .ok (.getfield 140, 3) := by decide +kernel
theorem dX12_cutAll_295 : decode cX12_cutAll 295 = .ok (.iastore, 1) := by decide +kernel
theorem dX12_cutAll_296 : decode cX12_cutAll 296 = .ok (.aload_n 0, 1) := by decide +kernel
theorem dX12_cutAll_297 : decode cX12_cutAll 297 = .ok (.iconst 0, 1) := by decide +kernel
theorem dX12_cutAll_298 : decode cX12_cutAll 298 = .ok (.putfield 159, 3) := by decide +kernel
theorem dX12_cutAll_301 : decode cX12_cutAll 301 = .ok (.aload_n 0, 1) := by decide +kernel
theorem dX12_cutAll_302 : decode cX12_cutAll 302 = .ok (.iconst 0, 1) := by decide +kernel
theorem dX12_cutAll_303 : decode cX12_cutAll 303 = .ok (.putfield 162, 3) := by decide +kernel
theorem dX12_cutAll_306 : decode cX12_cutAll 306 = .ok (.return_, 1) := by decide +kernel
theorem dX12_isLetter_0 : decode cX12_isLetter 0 = .ok (.iload_n 0, 1) := by decide +kernel
theorem dX12_isLetter_1 : decode cX12_isLetter 1 = .ok (.bipush 97, 2) := by decide +kernel
theorem dX12_isLetter_3 : decode cX12_isLetter 3 = .ok (.if_icmp .lt 13, 3) := by decide +kernel
theorem dX12_isLetter_6 : decode cX12_isLetter 6 = .ok (.iload_n 0, 1) := by decide +kernel
theorem dX12_isLetter_7 : decode cX12_isLetter 7 = .ok (.bipush 122, 2) := by decide +kernel
theorem dX12_isLetter_9 : decode cX12_isLetter 9 = .ok (.if_icmp .gt 7, 3) := by decide +kernel
theorem dX12_isLetter_12 : decode cX12_isLetter 12 = .ok (.iconst 1, 1) := by decide +kernel
theorem dX12_isLetter_13 : decode cX12_isLetter 13 = .ok (.goto 4, 3) := by decide +kernel
theorem dX12_isLetter_16 : decode cX12_isLetter 16 = .ok (.iconst 0, 1) := by decide +kernel
theorem dX12_isLetter_17 : decode cX12_isLetter 17 = .ok (.ireturn, 1) := by decide +kernel
set_option maxHeartbeats 4000000 in
set_option maxRecDepth 100000 in
theorem s_X12_isLetter {P : PP} {a0 : Int32} (I : IV P) : CtrI yX12_isLetter cX12_isLetter 1 (some Jvm.ClassFile.FieldType.boolean) ({ frames := 1, cells := 0, slots := 0, locals := 64 } : Room) 0 0 P [.int a0] (fun r P2 => P = P2 ∧ (0 ≤ r.toInt ∧ r.toInt ≤ 1) ∧ (r.toInt = 0 ∨ (((97 : Int) ≤ a0.toInt ∧ a0.toInt ≤ (122 : Int)))) ∧ (r.toInt ≠ 0 ∨ a0.toInt < 97 ∨ 122 < a0.toInt)) := by
  refine enI (lv := [(0, .int a0)]) (by decide) (Nat.le_of_ble_eq_true rfl) rfl (fun E D cy C Ci0 ret => ?_)
  have J16 : (a0.toInt < 97 ∨ 122 < a0.toInt) → G E ({ frames := 1, cells := 0, slots := 0, locals := 64 } : Room) D cy 1 P 0 0 16 [] [] := by
    intro rel16_0
    refine g_iconst (v := 0) C dX12_isLetter_16 (by decide) ?_
    exact ret _ _ _ _ _ _ dX12_isLetter_17 rfl (by decide) (by decide) ⟨rfl, (by decide), Or.inl rfl, (by show (0 : Int) ≠ 0 ∨ a0.toInt < 97 ∨ 122 < a0.toInt; omega)⟩
  refine g_iload_n C dX12_isLetter_0 rfl 0 rfl ?_
  refine g_bipush (v := 97) C dX12_isLetter_1 (by decide) ?_
  have u709 := ti_rng a0
  refine b_icmp_lt C 16 dX12_isLetter_3 (by decide) (fun h708 => ?_) (fun h708 => ?_)
  · have h708 : a0.toInt < 97 := h708
    refine g_lv (lv' := []) [] rfl ?_
    exact J16 (by show a0.toInt < 97 ∨ 122 < a0.toInt; omega)
  · have h708 : 97 ≤ a0.toInt := h708
    refine g_iload_n C dX12_isLetter_6 rfl 0 rfl ?_
    refine g_bipush (v := 122) C dX12_isLetter_7 (by decide) ?_
    have u711 := ti_rng a0
    refine b_icmp_gt C 16 dX12_isLetter_9 (by decide) (fun h710 => ?_) (fun h710 => ?_)
    · have h710 : 122 < a0.toInt := h710
      refine g_lv (lv' := []) [] rfl ?_
      exact J16 (by show a0.toInt < 97 ∨ 122 < a0.toInt; omega)
    · have h710 : a0.toInt ≤ 122 := h710
      refine g_iconst (v := 1) C dX12_isLetter_12 (by decide) ?_
      refine g_goto C 17 dX12_isLetter_13 (by decide) ?_
      exact ret _ _ _ _ _ _ dX12_isLetter_17 rfl (by decide) (by decide) ⟨rfl, (by decide), Or.inr (by omega), (by show (1 : Int) ≠ 0 ∨ a0.toInt < 97 ∨ 122 < a0.toInt; omega)⟩
theorem dX12_cutAll_67 : decode cX12_cutAll 67 = .ok (.ifCond .eq 85, 3) := by decide +kernel
theorem dX12_cutAll_152 : decode cX12_cutAll 152 = .ok (.iload_n 3, 1) := by decide +kernel
theorem dX12_cutAll_153 : decode cX12_cutAll 153 = .ok (.invokestatic 149, 3) := by decide +kernel
theorem dX12_isDigit_0 : decode cX12_isDigit 0 = .ok (.iload_n 0, 1) := by decide +kernel
theorem dX12_isDigit_1 : decode cX12_isDigit 1 = .ok (.bipush 48, 2) := by decide +kernel
theorem dX12_isDigit_3 : decode cX12_isDigit 3 = .ok (.if_icmp .lt 13, 3) := by decide +kernel
theorem dX12_isDigit_6 : decode cX12_isDigit 6 = .ok (.iload_n 0, 1) := by decide +kernel
theorem dX12_isDigit_7 : decode cX12_isDigit 7 = .ok (.bipush 57, 2) := by decide +kernel
theorem dX12_isDigit_9 : decode cX12_isDigit 9 = .ok (.if_icmp .gt 7, 3) := by decide +kernel
theorem dX12_isDigit_12 : decode cX12_isDigit 12 = .ok (.iconst 1, 1) := by decide +kernel
theorem dX12_isDigit_13 : decode cX12_isDigit 13 = .ok (.goto 4, 3) := by decide +kernel
theorem dX12_isDigit_16 : decode cX12_isDigit 16 = .ok (.iconst 0, 1) := by decide +kernel
theorem dX12_isDigit_17 : decode cX12_isDigit 17 = .ok (.ireturn, 1) := by decide +kernel
set_option maxHeartbeats 4000000 in
set_option maxRecDepth 100000 in
theorem s_X12_isDigit {P : PP} {a0 : Int32} (I : IV P) : CtrI yX12_isDigit cX12_isDigit 1 (some Jvm.ClassFile.FieldType.boolean) ({ frames := 1, cells := 0, slots := 0, locals := 64 } : Room) 0 0 P [.int a0] (fun r P2 => P = P2 ∧ (0 ≤ r.toInt ∧ r.toInt ≤ 1) ∧ (r.toInt = 0 ∨ (((48 : Int) ≤ a0.toInt ∧ a0.toInt ≤ (57 : Int)))) ∧ (r.toInt ≠ 0 ∨ a0.toInt < 48 ∨ 57 < a0.toInt)) := by
  refine enI (lv := [(0, .int a0)]) (by decide) (Nat.le_of_ble_eq_true rfl) rfl (fun E D cy C Ci0 ret => ?_)
  have J16 : (a0.toInt < 48 ∨ 57 < a0.toInt) → G E ({ frames := 1, cells := 0, slots := 0, locals := 64 } : Room) D cy 1 P 0 0 16 [] [] := by
    intro rel16_0
    refine g_iconst (v := 0) C dX12_isDigit_16 (by decide) ?_
    exact ret _ _ _ _ _ _ dX12_isDigit_17 rfl (by decide) (by decide) ⟨rfl, (by decide), Or.inl rfl, (by show (0 : Int) ≠ 0 ∨ a0.toInt < 48 ∨ 57 < a0.toInt; omega)⟩
  refine g_iload_n C dX12_isDigit_0 rfl 0 rfl ?_
  refine g_bipush (v := 48) C dX12_isDigit_1 (by decide) ?_
  have u831 := ti_rng a0
  refine b_icmp_lt C 16 dX12_isDigit_3 (by decide) (fun h830 => ?_) (fun h830 => ?_)
  · have h830 : a0.toInt < 48 := h830
    refine g_lv (lv' := []) [] rfl ?_
    exact J16 (by show a0.toInt < 48 ∨ 57 < a0.toInt; omega)
  · have h830 : 48 ≤ a0.toInt := h830
    refine g_iload_n C dX12_isDigit_6 rfl 0 rfl ?_
    refine g_bipush (v := 57) C dX12_isDigit_7 (by decide) ?_
    have u833 := ti_rng a0
    refine b_icmp_gt C 16 dX12_isDigit_9 (by decide) (fun h832 => ?_) (fun h832 => ?_)
    · have h832 : 57 < a0.toInt := h832
      refine g_lv (lv' := []) [] rfl ?_
      exact J16 (by show a0.toInt < 48 ∨ 57 < a0.toInt; omega)
    · have h832 : a0.toInt ≤ 57 := h832
      refine g_iconst (v := 1) C dX12_isDigit_12 (by decide) ?_
      refine g_goto C 17 dX12_isDigit_13 (by decide) ?_
      exact ret _ _ _ _ _ _ dX12_isDigit_17 rfl (by decide) (by decide) ⟨rfl, (by decide), Or.inr (by omega), (by show (1 : Int) ≠ 0 ∨ a0.toInt < 48 ∨ 57 < a0.toInt; omega)⟩
theorem dX12_cutAll_156 : decode cX12_cutAll 156 = .ok (.ifCond .eq 84, 3) := by decide +kernel
theorem dX12_cutAll_240 : decode cX12_cutAll 240 = .ok (.iload_n 3, 1) := by decide +kernel
theorem dX12_cutAll_241 : decode cX12_cutAll 241 = .ok (.i2l, 1) := by decide +kernel
theorem dX12_cutAll_242 : decode cX12_cutAll 242 = .ok (.lstore 5, 2) := by decide +kernel
theorem dX12_cutAll_244 : decode cX12_cutAll 244 = .ok (.aload_n 0, 1) := by decide +kernel
theorem dX12_cutAll_245 : decode cX12_cutAll 245 = .ok (.getfield 24, 3) := by decide +kernel
theorem dX12_cutAll_248 : decode cX12_cutAll 248 = .ok (.iload_n 1, 1) := by decide +kernel
theorem dX12_cutAll_249 : decode cX12_cutAll 249 = .ok (.iload_n 3, 1) := by decide +kernel
theorem dX12_cutAll_250 : decode cX12_cutAll 250 = .ok (.invokestatic 156, 3) := by decide +kernel
theorem dX12_isSignOf_0 : decode cX12_isSignOf 0 = .ok (.iload_n 0, 1) := by decide +kernel
theorem dX12_isSignOf_1 : decode cX12_isSignOf 1 = .ok (.bipush 59, 2) := by decide +kernel
theorem dX12_isSignOf_3 : decode cX12_isSignOf 3 = .ok (.if_icmp .ne 7, 3) := by decide +kernel
theorem dX12_isSignOf_6 : decode cX12_isSignOf 6 = .ok (.iconst 1, 1) := by decide +kernel
theorem dX12_isSignOf_7 : decode cX12_isSignOf 7 = .ok (.goto 4, 3) := by decide +kernel
theorem dX12_isSignOf_10 : decode cX12_isSignOf 10 = .ok (.iconst 0, 1) := by decide +kernel
theorem dX12_isSignOf_11 : decode cX12_isSignOf 11 = .ok (.ireturn, 1) := by decide +kernel
set_option maxHeartbeats 4000000 in
set_option maxRecDepth 100000 in
theorem s_X12_isSignOf {P : PP} {a0 : Int32} (I : IV P) : CtrI yX12_isSignOf cX12_isSignOf 1 (some Jvm.ClassFile.FieldType.boolean) ({ frames := 1, cells := 0, slots := 0, locals := 64 } : Room) 0 0 P [.int a0] (fun r P2 => P = P2 ∧ (0 ≤ r.toInt ∧ r.toInt ≤ 1) ∧ (r.toInt = 0 ∨ (((59 : Int) ≤ a0.toInt ∧ a0.toInt ≤ (59 : Int))))) := by
  refine enI (lv := [(0, .int a0)]) (by decide) (Nat.le_of_ble_eq_true rfl) rfl (fun E D cy C Ci0 ret => ?_)
  refine g_iload_n C dX12_isSignOf_0 rfl 0 rfl ?_
  refine g_bipush (v := 59) C dX12_isSignOf_1 (by decide) ?_
  have u961 := ti_rng a0
  refine b_icmp_ne C 10 dX12_isSignOf_3 (by decide) (fun h960 => ?_) (fun h960 => ?_)
  · have h960 : a0.toInt ≠ 59 := ti_ne h960
    refine g_iconst (v := 0) C dX12_isSignOf_10 (by decide) ?_
    exact ret _ _ _ _ _ _ dX12_isSignOf_11 rfl (by decide) (by decide) ⟨rfl, (by decide), Or.inl rfl⟩
  · have h960 : a0.toInt = 59 := congrArg Int32.toInt h960
    refine g_iconst (v := 1) C dX12_isSignOf_6 (by decide) ?_
    refine g_goto C 11 dX12_isSignOf_7 (by decide) ?_
    exact ret _ _ _ _ _ _ dX12_isSignOf_11 rfl (by decide) (by decide) ⟨rfl, (by decide), Or.inr (by omega)⟩
theorem dX12_cutAll_44 : decode cX12_cutAll 44 = .ok (.iinc 2 1, 3) := by decide +kernel
theorem dX12_cutAll_47 : decode cX12_cutAll 47 = .ok (.goto (-30), 3) := by decide +kernel
theorem dX12_cutAll_70 : decode cX12_cutAll 70 = .ok (.iload_n 2, 1) := by decide +kernel
theorem dX12_cutAll_71 : decode cX12_cutAll 71 = .ok (.aload_n 0, 1) := by decide +kernel
theorem dX12_cutAll_72 : decode cX12_cutAll 72 = .ok (.getfield 140, 3) := by decide +kernel
theorem dX12_cutAll_75 : decode cX12_cutAll 75 = .ok (.if_icmp .ge 54, 3) := by decide +kernel
theorem dX12_cutAll_78 : decode cX12_cutAll 78 = .ok (.aload_n 0, 1) := by decide +kernel
theorem dX12_cutAll_79 : decode cX12_cutAll 79 = .ok (.getfield 14, 3) := by decide +kernel
theorem dX12_cutAll_82 : decode cX12_cutAll 82 = .ok (.iload_n 2, 1) := by decide +kernel
theorem dX12_cutAll_83 : decode cX12_cutAll 83 = .ok (.iaload, 1) := by decide +kernel
theorem dX12_cutAll_84 : decode cX12_cutAll 84 = .ok (.invokestatic 136, 3) := by decide +kernel
theorem dX12_cutAll_87 : decode cX12_cutAll 87 = .ok (.ifCond .eq 42, 3) := by decide +kernel
theorem dX12_cutAll_90 : decode cX12_cutAll 90 = .ok (.iload_n 2, 1) := by decide +kernel
theorem dX12_cutAll_91 : decode cX12_cutAll 91 = .ok (.iload 4, 2) := by decide +kernel
theorem dX12_cutAll_93 : decode cX12_cutAll 93 = .ok (.isub, 1) := by decide +kernel
theorem dX12_cutAll_94 : decode cX12_cutAll 94 = .ok (.bipush 8, 2) := by decide +kernel
theorem dX12_cutAll_96 : decode cX12_cutAll 96 = .ok (.if_icmp .ge 23, 3) := by decide +kernel
theorem dX12_cutAll_99 : decode cX12_cutAll 99 = .ok (.ldc2_w 143, 3) := by decide +kernel
theorem dX12_cutAll_102 : decode cX12_cutAll 102 = .ok (.lload 5, 2) := by decide +kernel
theorem dX12_cutAll_104 : decode cX12_cutAll 104 = .ok (.lmul, 1) := by decide +kernel
theorem dX12_cutAll_105 : decode cX12_cutAll 105 = .ok (.aload_n 0, 1) := by decide +kernel
theorem dX12_cutAll_106 : decode cX12_cutAll 106 = .ok (.getfield 14, 3) := by decide +kernel
theorem dX12_cutAll_109 : decode cX12_cutAll 109 = .ok (.iload_n 2, 1) := by decide +kernel
theorem dX12_cutAll_110 : decode cX12_cutAll 110 = .ok (.iaload, 1) := by decide +kernel
theorem dX12_cutAll_111 : decode cX12_cutAll 111 = .ok (.invokestatic 145, 3) := by decide +kernel
theorem dX12_cutAll_159 : decode cX12_cutAll 159 = .ok (.iload_n 2, 1) := by decide +kernel
theorem dX12_cutAll_160 : decode cX12_cutAll 160 = .ok (.aload_n 0, 1) := by decide +kernel
theorem dX12_cutAll_161 : decode cX12_cutAll 161 = .ok (.getfield 140, 3) := by decide +kernel
theorem dX12_cutAll_164 : decode cX12_cutAll 164 = .ok (.if_icmp .ge 54, 3) := by decide +kernel
theorem dX12_cutAll_167 : decode cX12_cutAll 167 = .ok (.aload_n 0, 1) := by decide +kernel
theorem dX12_cutAll_168 : decode cX12_cutAll 168 = .ok (.getfield 14, 3) := by decide +kernel
theorem dX12_cutAll_171 : decode cX12_cutAll 171 = .ok (.iload_n 2, 1) := by decide +kernel
theorem dX12_cutAll_172 : decode cX12_cutAll 172 = .ok (.iaload, 1) := by decide +kernel
theorem dX12_cutAll_173 : decode cX12_cutAll 173 = .ok (.invokestatic 149, 3) := by decide +kernel
theorem dX12_cutAll_176 : decode cX12_cutAll 176 = .ok (.ifCond .eq 42, 3) := by decide +kernel
theorem dX12_cutAll_179 : decode cX12_cutAll 179 = .ok (.iload_n 2, 1) := by decide +kernel
theorem dX12_cutAll_180 : decode cX12_cutAll 180 = .ok (.iload 4, 2) := by decide +kernel
theorem dX12_cutAll_182 : decode cX12_cutAll 182 = .ok (.isub, 1) := by decide +kernel
theorem dX12_cutAll_183 : decode cX12_cutAll 183 = .ok (.iconst 4, 1) := by decide +kernel
theorem dX12_cutAll_184 : decode cX12_cutAll 184 = .ok (.if_icmp .ge 24, 3) := by decide +kernel
theorem dX12_cutAll_187 : decode cX12_cutAll 187 = .ok (.ldc2_w 152, 3) := by decide +kernel
theorem dX12_cutAll_190 : decode cX12_cutAll 190 = .ok (.lload 5, 2) := by decide +kernel
theorem dX12_cutAll_192 : decode cX12_cutAll 192 = .ok (.lmul, 1) := by decide +kernel
theorem dX12_cutAll_193 : decode cX12_cutAll 193 = .ok (.aload_n 0, 1) := by decide +kernel
theorem dX12_cutAll_194 : decode cX12_cutAll 194 = .ok (.getfield 14, 3) := by decide +kernel
theorem dX12_cutAll_197 : decode cX12_cutAll 197 = .ok (.iload_n 2, 1) := by decide +kernel
theorem dX12_cutAll_198 : decode cX12_cutAll 198 = .ok (.iaload, 1) := by decide +kernel
theorem dX12_cutAll_199 : decode cX12_cutAll 199 = .ok (.i2l, 1) := by decide +kernel
theorem dX12_cutAll_200 : decode cX12_cutAll 200 = .ok (.ladd, 1) := by decide +kernel
theorem dX12_cutAll_201 : decode cX12_cutAll 201 = .ok (.ldc2_w 154, 3) := by decide +kernel
theorem dX12_cutAll_204 : decode cX12_cutAll 204 = .ok (.lsub, 1) := by decide +kernel
theorem dX12_cutAll_205 : decode cX12_cutAll 205 = .ok (.goto 5, 3) := by decide +kernel
theorem dX12_cutAll_253 : decode cX12_cutAll 253 = .ok (.ifCond .eq 7, 3) := by decide +kernel
theorem dX12_cutAll_256 : decode cX12_cutAll 256 = .ok (.iconst 3, 1) := by decide +kernel
theorem dX12_cutAll_257 : decode cX12_cutAll 257 = .ok (.goto 4, 3) := by decide +kernel
theorem dX12_cutAll_260 : decode cX12_cutAll 260 = .ok (.iconst 4, 1) := by decide +kernel
theorem dX12_cutAll_261 : decode cX12_cutAll 261 = .ok (.iastore, 1) := by decide +kernel
theorem dX12_cutAll_262 : decode cX12_cutAll 262 = .ok (.iinc 2 1, 3) := by decide +kernel
theorem dX12_rank_0 : decode cX12_rank 0 = .ok (.iload_n 0, 1) := by decide +kernel
theorem dX12_rank_1 : decode cX12_rank 1 = .ok (.invokestatic 136, 3) := by decide +kernel
theorem dX12_rank_4 : decode cX12_rank 4 = .ok (.ifCond .eq 10, 3) := by decide +kernel
theorem dX12_rank_7 : decode cX12_rank 7 = .ok (.iload_n 0, 1) := by decide +kernel
theorem dX12_rank_8 : decode cX12_rank 8 = .ok (.bipush 96, 2) := by decide +kernel
theorem dX12_rank_10 : decode cX12_rank 10 = .ok (.isub, 1) := by decide +kernel
theorem dX12_rank_11 : decode cX12_rank 11 = .ok (.goto 7, 3) := by decide +kernel
theorem dX12_rank_14 : decode cX12_rank 14 = .ok (.iload_n 0, 1) := by decide +kernel
theorem dX12_rank_15 : decode cX12_rank 15 = .ok (.bipush 21, 2) := by decide +kernel
theorem dX12_rank_17 : decode cX12_rank 17 = .ok (.isub, 1) := by decide +kernel
theorem dX12_rank_18 : decode cX12_rank 18 = .ok (.ireturn, 1) := by decide +kernel
set_option maxHeartbeats 4000000 in
set_option maxRecDepth 100000 in
theorem s_X12_rank {P : PP} {a0 : Int32} (I : IV P) : CtrI yX12_rank cX12_rank 1 (some Jvm.ClassFile.FieldType.int) ({ frames := 2, cells := 0, slots := 0, locals := 128 } : Room) 0 0 P [.int a0] (fun r P2 => P = P2 ∧ (True)) := by
  refine enI (lv := [(0, .int a0)]) (by decide) (Nat.le_of_ble_eq_true rfl) rfl (fun E D cy C Ci0 ret => ?_)
  refine g_iload_n C dX12_rank_0 rfl 0 rfl ?_
  refine g_callSI (b := 0) (ci := 0) (rest := []) C ms_X12_136 [.int a0] (s_X12_isLetter I) rfl rfl (by decide) (Nat.le_of_ble_eq_true rfl) (by decide) dX12_rank_1 (fun r1166 Y1167 h1168 => ?_)
  obtain ⟨rfl, h1168⟩ := h1168
  obtain ⟨h1168, hi1169, hi1170⟩ := h1168
  have hi1169 : r1166.toInt = 0 ∨ (((97 : Int) ≤ a0.toInt ∧ a0.toInt ≤ (122 : Int))) := hi1169
  have hi1170 : r1166.toInt ≠ 0 ∨ a0.toInt < 97 ∨ 122 < a0.toInt := hi1170
  have h1168 : 0 ≤ r1166.toInt ∧ r1166.toInt ≤ 1 := h1168
  refine b_if_eq C 14 dX12_rank_4 (by decide) (fun h1171 => ?_) (fun h1171 => ?_)
  · have h1171 : r1166.toInt = 0 := congrArg Int32.toInt h1171
    clear hi1169
    refine g_iload_n C dX12_rank_14 rfl 0 rfl ?_
    refine g_bipush (v := 21) C dX12_rank_15 (by decide) ?_
    refine a_isub C dX12_rank_17 (fun z1172 => ?_)
    exact ret _ _ _ _ _ _ dX12_rank_18 rfl (by decide) (by decide) ⟨rfl, trivial⟩
  · have h1171 : r1166.toInt ≠ 0 := ti_ne h1171
    replace hi1169 := hi1169.resolve_left (by omega)
    refine g_iload_n C dX12_rank_7 rfl 0 rfl ?_
    refine g_bipush (v := 96) C dX12_rank_8 (by decide) ?_
    refine s_isub C dX12_rank_10 (by show -2147483648 ≤ a0.toInt - 96 ∧ a0.toInt - 96 ≤ 2147483647; omega) (fun z1174 h1175 => ?_)
    have h1175 : z1174.toInt = a0.toInt - 96 := h1175
    refine g_goto C 18 dX12_rank_11 (by decide) ?_
    exact ret _ _ _ _ _ _ dX12_rank_18 rfl (by decide) (by decide) ⟨rfl, trivial⟩
theorem dX12_cutAll_114 : decode cX12_cutAll 114 = .ok (.i2l, 1) := by decide +kernel
theorem dX12_cutAll_115 : decode cX12_cutAll 115 = .ok (.ladd, 1) := by decide +kernel
theorem dX12_cutAll_116 : decode cX12_cutAll 116 = .ok (.goto 5, 3) := by decide +kernel
theorem dX12_cutAll_119 : decode cX12_cutAll 119 = .ok (.lload 5, 2) := by decide +kernel
theorem dX12_cutAll_121 : decode cX12_cutAll 121 = .ok (.lstore 5, 2) := by decide +kernel
theorem dX12_cutAll_123 : decode cX12_cutAll 123 = .ok (.iinc 2 1, 3) := by decide +kernel
theorem dX12_cutAll_126 : decode cX12_cutAll 126 = .ok (.goto (-56), 3) := by decide +kernel
theorem dX12_cutAll_129 : decode cX12_cutAll 129 = .ok (.aload_n 0, 1) := by decide +kernel
theorem dX12_cutAll_130 : decode cX12_cutAll 130 = .ok (.getfield 24, 3) := by decide +kernel
theorem dX12_cutAll_133 : decode cX12_cutAll 133 = .ok (.iload_n 1, 1) := by decide +kernel
theorem dX12_cutAll_134 : decode cX12_cutAll 134 = .ok (.iload_n 2, 1) := by decide +kernel
theorem dX12_cutAll_135 : decode cX12_cutAll 135 = .ok (.iload 4, 2) := by decide +kernel
theorem dX12_cutAll_137 : decode cX12_cutAll 137 = .ok (.isub, 1) := by decide +kernel
theorem dX12_cutAll_138 : decode cX12_cutAll 138 = .ok (.bipush 8, 2) := by decide +kernel
theorem dX12_cutAll_140 : decode cX12_cutAll 140 = .ok (.if_icmp .le 7, 3) := by decide +kernel
theorem dX12_cutAll_143 : decode cX12_cutAll 143 = .ok (.iconst 4, 1) := by decide +kernel
theorem dX12_cutAll_144 : decode cX12_cutAll 144 = .ok (.goto 4, 3) := by decide +kernel
theorem dX12_cutAll_147 : decode cX12_cutAll 147 = .ok (.iconst 1, 1) := by decide +kernel
theorem dX12_cutAll_148 : decode cX12_cutAll 148 = .ok (.iastore, 1) := by decide +kernel
theorem dX12_cutAll_149 : decode cX12_cutAll 149 = .ok (.goto 116, 3) := by decide +kernel
theorem dX12_cutAll_208 : decode cX12_cutAll 208 = .ok (.lload 5, 2) := by decide +kernel
theorem dX12_cutAll_210 : decode cX12_cutAll 210 = .ok (.lstore 5, 2) := by decide +kernel
theorem dX12_cutAll_212 : decode cX12_cutAll 212 = .ok (.iinc 2 1, 3) := by decide +kernel
theorem dX12_cutAll_215 : decode cX12_cutAll 215 = .ok (.goto (-56), 3) := by decide +kernel
theorem dX12_cutAll_218 : decode cX12_cutAll 218 = .ok (.aload_n 0, 1) := by decide +kernel
theorem dX12_cutAll_219 : decode cX12_cutAll 219 = .ok (.getfield 24, 3) := by decide +kernel
theorem dX12_cutAll_222 : decode cX12_cutAll 222 = .ok (.iload_n 1, 1) := by decide +kernel
theorem dX12_cutAll_223 : decode cX12_cutAll 223 = .ok (.iload_n 2, 1) := by decide +kernel
theorem dX12_cutAll_224 : decode cX12_cutAll 224 = .ok (.iload 4, 2) := by decide +kernel
theorem dX12_cutAll_226 : decode cX12_cutAll 226 = .ok (.isub, 1) := by decide +kernel
theorem dX12_cutAll_227 : decode cX12_cutAll 227 = .ok (.iconst 4, 1) := by decide +kernel
theorem dX12_cutAll_228 : decode cX12_cutAll 228 = .ok (.if_icmp .le 7, 3) := by decide +kernel
theorem dX12_cutAll_231 : decode cX12_cutAll 231 = .ok (.iconst 4, 1) := by decide +kernel
theorem dX12_cutAll_232 : decode cX12_cutAll 232 = .ok (.goto 4, 3) := by decide +kernel
theorem dX12_cutAll_235 : decode cX12_cutAll 235 = .ok (.iconst 2, 1) := by decide +kernel
theorem dX12_cutAll_236 : decode cX12_cutAll 236 = .ok (.iastore, 1) := by decide +kernel
theorem dX12_cutAll_237 : decode cX12_cutAll 237 = .ok (.goto 28, 3) := by decide +kernel
theorem dX12_cutAll_265 : decode cX12_cutAll 265 = .ok (.aload_n 0, 1) := by decide +kernel
theorem dX12_cutAll_266 : decode cX12_cutAll 266 = .ok (.getfield 30, 3) := by decide +kernel
theorem dX12_cutAll_269 : decode cX12_cutAll 269 = .ok (.iload_n 1, 1) := by decide +kernel
theorem dX12_cutAll_270 : decode cX12_cutAll 270 = .ok (.lload 5, 2) := by decide +kernel
theorem dX12_cutAll_272 : decode cX12_cutAll 272 = .ok (.lastore, 1) := by decide +kernel
theorem dX12_cutAll_273 : decode cX12_cutAll 273 = .ok (.iinc 1 1, 3) := by decide +kernel
theorem dX12_cutAll_276 : decode cX12_cutAll 276 = .ok (.goto (-259), 3) := by decide +kernel
set_option maxHeartbeats 4000000 in
set_option maxRecDepth 100000 in
theorem s_X12_cutAll {P : PP} {a0 : Nat} (I : IM P a0) (hW : MW P a0) : CtrV yX12_cutAll cX12_cutAll 7 none ({ frames := 3, cells := 0, slots := 0, locals := 192 } : Room) 0 0 P [.ref a0] (fun P2 => IM P2 a0 ∧ EM [2, 3, 4, 5, 7, 8] a0 P P2 ∧ MW P2 a0) := by
  refine enV (lv := [(0, .ref a0)]) (by decide) (Nat.le_of_ble_eq_true rfl) rfl (fun E D cy C Ci0 ret => ?_)
  have ha0 := I.2.1
  have J17 : ∀ (n17 : Nat) (P17 : PP) (v17_1 : Int32) (v17_2 : Int32), (1000 - v17_2.toInt).toNat < n17 → (IM P17 a0) → (EM [2, 3, 4, 5, 7, 8] a0 P P17) → (MW P17 a0) → (0 ≤ v17_1.toInt ∧ v17_1.toInt ≤ 1000) → (0 ≤ v17_2.toInt ∧ v17_2.toInt ≤ 1000) → (0 ≤ (pI P17 a0 2).toInt ∧ (pI P17 a0 2).toInt ≤ 0) → (v17_1.toInt ≤ v17_2.toInt) → G E ({ frames := 3, cells := 0, slots := 0, locals := 192 } : Room) D cy 7 P17 0 0 17 [(0, .ref a0), (1, .int v17_1), (2, .int v17_2)] [] := by
    intro n17
    induction n17 with
    | zero => intro P17 v17_1 v17_2 hm17 I17 X17 W17 hv17_1 hv17_2 hq17_0 rel17_0; omega
    | succ n17 ih17 =>
      intro P17 v17_1 v17_2 hm17 I17 X17 W17 hv17_1 hv17_2 hq17_0 rel17_0
      have h12473 := X17.at ha0
      have J265 : ∀ (P265 : PP) (v265_2 : Int32) (l265_5 : Int64), (IM P265 a0) → (EM [2, 3, 4, 5, 7, 8] a0 P P265) → (MW P265 a0) → (0 ≤ v265_2.toInt ∧ v265_2.toInt ≤ 1000) → (0 ≤ (pI P265 a0 2).toInt ∧ (pI P265 a0 2).toInt ≤ 0) → (1 ≤ (pI P265 a0 3).toInt ∧ (pI P265 a0 3).toInt ≤ 1000) → (∀ b, pR P265 a0 4 = some b → 1 ≤ (pI P265 b (v17_1.toInt.toNat)).toInt ∧ (pI P265 b (v17_1.toInt.toNat)).toInt ≤ 4) → (∀ b, pR P265 a0 5 = some b → 0 ≤ (pI P265 b (v17_1.toInt.toNat)).toInt ∧ (pI P265 b (v17_1.toInt.toNat)).toInt ≤ 999) → (v17_1.toInt < v265_2.toInt) → (v17_2.toInt < v265_2.toInt) → G E ({ frames := 3, cells := 0, slots := 0, locals := 192 } : Room) D cy 7 P265 0 0 265 [(0, .ref a0), (1, .int v17_1), (2, .int v265_2), (5, .long l265_5)] [] := by
        intro P265 v265_2 l265_5 I265 X265 W265 hv265_2 hq265_0 hq265_1 hq265_2 hq265_3 rel265_0 rel265_1
        have h12474 := X265.at ha0
        obtain ⟨b12475, e12476, h12477⟩ := I265.fld (h12474) 4 13 1002 rfl
        have hq265_2 := hq265_2 b12475 e12476
        obtain ⟨b12478, e12479, h12480⟩ := I265.fld (h12474) 5 13 1002 rfl
        have hq265_3 := hq265_3 b12478 e12479
        refine g_aload_n C dX12_cutAll_265 rfl 0 rfl ?_
        obtain ⟨b12481, e12482, h12483⟩ := I265.fld (h12474) 6 14 1002 rfl
        refine g_getR C fi_X12_30 rfl e12482 (h12474).1 (h12474).2 dX12_cutAll_266 ?_
        refine g_iload_n C dX12_cutAll_269 rfl 1 rfl ?_
        refine g_lload C dX12_cutAll_270 3 rfl ?_
        refine g_last (j := (v17_1.toInt.toNat)) C h12483.1 h12483.2.1 (ix_in h12483.2.2 (by omega)) dX12_cutAll_272 ?_
        refine gq (ks := []) (I265.setJ) (EM.setJ) (fun Y12484 Iy12485 Xy12486 => ?_)
        have q12487 := Xy12486.keepF 2 (by decide)
        have q12488 := Xy12486.keepF 3 (by decide)
        have q12489 := Xy12486.keepA e12476 (by decide) rfl (v17_1.toInt.toNat)
        have q12490 := Xy12486.keepA e12479 (by decide) rfl (v17_1.toInt.toNat)
        have W12491 := W265.keep I265 Xy12486 (by decide) (by decide) (by decide)
        have Xz12492 : EM [2, 3, 4, 5, 7, 8] a0 P Y12484 := EM.tr ha0 X265 (Xy12486.mono (by decide))
        have e12493 := Xy12486.ref h12474 (by decide) e12476
        have e12494 := Xy12486.ref h12474 (by decide) e12479
        have h12495 := Xy12486.at h12474
        have h12496 := Xy12486.ar h12477
        have h12497 := Xy12486.ar h12480
        refine s_iinc (lv0 := [(0, .ref a0), (2, .int v265_2), (5, .long l265_5)]) (m := 1) C dX12_cutAll_273 1 rfl (by decide) rfl (by decide) (by omega) (fun z12498 h12499 => ?_)
        have h12499 : z12498.toInt = v17_1.toInt + 1 := h12499
        refine g_goto C 17 dX12_cutAll_276 (by decide) ?_
        refine g_lv (lv' := [(0, .ref a0), (1, .int z12498), (2, .int v265_2)]) [1, 0, 2] rfl ?_
        exact ih17 Y12484 z12498 v265_2 (by omega) Iy12485 Xz12492 W12491 (by omega) (by omega) (by omega) (by show z12498.toInt ≤ v265_2.toInt; omega)
      have J261 : ∀ (P261 : PP) (l261_5 : Int64) (v261_s0 : Int32) (b261_s2 : Nat), (IM P261 a0) → (EM [2, 3, 4, 5, 7, 8] a0 P P261) → (MW P261 a0) → (0 ≤ v17_2.toInt ∧ v17_2.toInt ≤ 999) → (3 ≤ v261_s0.toInt ∧ v261_s0.toInt ≤ 4) → (Ar P261 b261_s2 13 1002) → (pR P261 a0 4 = some b261_s2) → (0 ≤ (pI P261 a0 2).toInt ∧ (pI P261 a0 2).toInt ≤ 0) → (1 ≤ (pI P261 a0 3).toInt ∧ (pI P261 a0 3).toInt ≤ 1000) → (∀ b, pR P261 a0 5 = some b → 0 ≤ (pI P261 b (v17_1.toInt.toNat)).toInt ∧ (pI P261 b (v17_1.toInt.toNat)).toInt ≤ 999) → (v17_1.toInt ≤ v17_2.toInt) → (v17_2.toInt = v17_2.toInt) → G E ({ frames := 3, cells := 0, slots := 0, locals := 192 } : Room) D cy 7 P261 0 0 261 [(0, .ref a0), (1, .int v17_1), (2, .int v17_2), (5, .long l261_5)] [.int v261_s0, .int v17_1, .ref b261_s2] := by
        intro P261 l261_5 v261_s0 b261_s2 I261 X261 W261 hv261_2 hv261_s0 hb261_s2 eb261_s2 hq261_0 hq261_1 hq261_2 rel261_0 rel261_1
        have h12500 := X261.at ha0
        obtain ⟨b12501, e12502, h12503⟩ := I261.fld (h12500) 5 13 1002 rfl
        have hq261_2 := hq261_2 b12501 e12502
        refine g_iast (j := (v17_1.toInt.toNat)) C hb261_s2.1 hb261_s2.2.1 (ix_in hb261_s2.2.2 (by omega)) dX12_cutAll_261 ?_
        refine gqW (ks := [4]) (I261.setA eb261_s2 hb261_s2 (by decide) (arOk.of rfl (by omega))) (EM.setA I261 eb261_s2 rfl (by decide)) (fun Y12504 Iy12505 Xy12506 w12507  => ?_)
        have w12507 : (pI Y12504 b261_s2 (v17_1.toInt.toNat)).toInt = v261_s0.toInt := w12507
        have q12508 := Xy12506.keepF 2 (by decide)
        have q12509 := Xy12506.keepF 3 (by decide)
        have q12510 := Xy12506.keepA e12502 (by decide) rfl (v17_1.toInt.toNat)
        have W12511 := W261.keep I261 Xy12506 (by decide) (by decide) (by decide)
        have Xz12512 : EM [2, 3, 4, 5, 7, 8] a0 P Y12504 := EM.tr ha0 X261 (Xy12506.mono (by decide))
        have e12513 := Xy12506.ref h12500 (by decide) eb261_s2
        have e12514 := Xy12506.ref h12500 (by decide) e12502
        have h12515 := Xy12506.at h12500
        have h12516 := Xy12506.ar h12503
        have h12517 := Xy12506.ar hb261_s2
        refine s_iinc (lv0 := [(0, .ref a0), (1, .int v17_1), (5, .long l261_5)]) (m := 1) C dX12_cutAll_262 2 rfl (by decide) rfl (by decide) (by omega) (fun z12518 h12519 => ?_)
        have h12519 : z12518.toInt = v17_2.toInt + 1 := h12519
        refine g_lv (lv' := [(0, .ref a0), (1, .int v17_1), (2, .int z12518), (5, .long l261_5)]) [1, 2, 0, 3] rfl ?_
        exact J265 Y12504 z12518 l261_5 Iy12505 Xz12512 W12511 (by omega) (by omega) (by omega) (fun b9 e9 => by rw [e12513] at e9; cases e9; omega) (fun b9 e9 => by rw [e12514] at e9; cases e9; omega) (by show v17_1.toInt < z12518.toInt; omega) (by show v17_2.toInt < z12518.toInt; omega)
      have J236 : ∀ (P236 : PP) (v236_2 : Int32) (l236_5 : Int64) (v236_s0 : Int32) (b236_s2 : Nat), (IM P236 a0) → (EM [2, 3, 4, 5, 7, 8] a0 P P236) → (MW P236 a0) → (0 ≤ v236_2.toInt ∧ v236_2.toInt ≤ 1000) → (2 ≤ v236_s0.toInt ∧ v236_s0.toInt ≤ 4) → (Ar P236 b236_s2 13 1002) → (pR P236 a0 4 = some b236_s2) → (0 ≤ (pI P236 a0 2).toInt ∧ (pI P236 a0 2).toInt ≤ 0) → (1 ≤ (pI P236 a0 3).toInt ∧ (pI P236 a0 3).toInt ≤ 1000) → (∀ b, pR P236 a0 5 = some b → 0 ≤ (pI P236 b (v17_1.toInt.toNat)).toInt ∧ (pI P236 b (v17_1.toInt.toNat)).toInt ≤ 999) → (v17_1.toInt < v236_2.toInt) → (v17_2.toInt < v236_2.toInt) → G E ({ frames := 3, cells := 0, slots := 0, locals := 192 } : Room) D cy 7 P236 0 0 236 [(0, .ref a0), (1, .int v17_1), (2, .int v236_2), (5, .long l236_5)] [.int v236_s0, .int v17_1, .ref b236_s2] := by
        intro P236 v236_2 l236_5 v236_s0 b236_s2 I236 X236 W236 hv236_2 hv236_s0 hb236_s2 eb236_s2 hq236_0 hq236_1 hq236_2 rel236_0 rel236_1
        have h12520 := X236.at ha0
        obtain ⟨b12521, e12522, h12523⟩ := I236.fld (h12520) 5 13 1002 rfl
        have hq236_2 := hq236_2 b12521 e12522
        refine g_iast (j := (v17_1.toInt.toNat)) C hb236_s2.1 hb236_s2.2.1 (ix_in hb236_s2.2.2 (by omega)) dX12_cutAll_236 ?_
        refine gqW (ks := [4]) (I236.setA eb236_s2 hb236_s2 (by decide) (arOk.of rfl (by omega))) (EM.setA I236 eb236_s2 rfl (by decide)) (fun Y12524 Iy12525 Xy12526 w12527  => ?_)
        have w12527 : (pI Y12524 b236_s2 (v17_1.toInt.toNat)).toInt = v236_s0.toInt := w12527
        have q12528 := Xy12526.keepF 2 (by decide)
        have q12529 := Xy12526.keepF 3 (by decide)
        have q12530 := Xy12526.keepA e12522 (by decide) rfl (v17_1.toInt.toNat)
        have W12531 := W236.keep I236 Xy12526 (by decide) (by decide) (by decide)
        have Xz12532 : EM [2, 3, 4, 5, 7, 8] a0 P Y12524 := EM.tr ha0 X236 (Xy12526.mono (by decide))
        have e12533 := Xy12526.ref h12520 (by decide) eb236_s2
        have e12534 := Xy12526.ref h12520 (by decide) e12522
        have h12535 := Xy12526.at h12520
        have h12536 := Xy12526.ar h12523
        have h12537 := Xy12526.ar hb236_s2
        refine g_goto C 265 dX12_cutAll_237 (by decide) ?_
        exact J265 Y12524 v236_2 l236_5 Iy12525 Xz12532 W12531 (by omega) (by omega) (by omega) (fun b9 e9 => by rw [e12533] at e9; cases e9; omega) (fun b9 e9 => by rw [e12534] at e9; cases e9; omega) (by show v17_1.toInt < v236_2.toInt; omega) (by show v17_2.toInt < v236_2.toInt; omega)
      have J218 : ∀ (P218 : PP) (v218_2 : Int32) (l218_5 : Int64), (IM P218 a0) → (EM [2, 3, 4, 5, 7, 8] a0 P P218) → (MW P218 a0) → (0 ≤ v218_2.toInt ∧ v218_2.toInt ≤ 1000) → (0 ≤ v17_2.toInt ∧ v17_2.toInt ≤ 999) → (0 ≤ (pI P218 a0 2).toInt ∧ (pI P218 a0 2).toInt ≤ 0) → (1 ≤ (pI P218 a0 3).toInt ∧ (pI P218 a0 3).toInt ≤ 1000) → (∀ b, pR P218 a0 5 = some b → 0 ≤ (pI P218 b (v17_1.toInt.toNat)).toInt ∧ (pI P218 b (v17_1.toInt.toNat)).toInt ≤ 999) → (v17_1.toInt ≤ v17_2.toInt) → (v17_2.toInt < v218_2.toInt) → (v17_2.toInt < v218_2.toInt) → G E ({ frames := 3, cells := 0, slots := 0, locals := 192 } : Room) D cy 7 P218 0 0 218 [(0, .ref a0), (1, .int v17_1), (2, .int v218_2), (4, .int v17_2), (5, .long l218_5)] [] := by
        intro P218 v218_2 l218_5 I218 X218 W218 hv218_2 hv218_4 hq218_0 hq218_1 hq218_2 rel218_0 rel218_1 rel218_2
        have h12538 := X218.at ha0
        obtain ⟨b12539, e12540, h12541⟩ := I218.fld (h12538) 5 13 1002 rfl
        have hq218_2 := hq218_2 b12539 e12540
        refine g_aload_n C dX12_cutAll_218 rfl 0 rfl ?_
        obtain ⟨b12542, e12543, h12544⟩ := I218.fld (h12538) 4 13 1002 rfl
        refine g_getR C fi_X12_24 rfl e12543 (h12538).1 (h12538).2 dX12_cutAll_219 ?_
        refine g_iload_n C dX12_cutAll_222 rfl 1 rfl ?_
        refine g_iload_n C dX12_cutAll_223 rfl 2 rfl ?_
        refine g_iload C dX12_cutAll_224 3 rfl ?_
        refine s_isub C dX12_cutAll_226 (by show -2147483648 ≤ v218_2.toInt - v17_2.toInt ∧ v218_2.toInt - v17_2.toInt ≤ 2147483647; omega) (fun z12545 h12546 => ?_)
        have h12546 : z12545.toInt = v218_2.toInt - v17_2.toInt := h12546
        refine g_iconst (v := 4) C dX12_cutAll_227 (by decide) ?_
        refine b_icmp_le C 235 dX12_cutAll_228 (by decide) (fun h12547 => ?_) (fun h12547 => ?_)
        · have h12547 : z12545.toInt ≤ 4 := h12547
          refine g_iconst (v := 2) C dX12_cutAll_235 (by decide) ?_
          refine g_lv (lv' := [(0, .ref a0), (1, .int v17_1), (2, .int v218_2), (5, .long l218_5)]) [0, 1, 2, 4] rfl ?_
          exact J236 P218 v218_2 l218_5 2 b12542 I218 X218 W218 (by omega) (by decide) h12544 e12543 (by omega) (by omega) (fun b9 e9 => by rw [e12540] at e9; cases e9; omega) (by show v17_1.toInt < v218_2.toInt; omega) (by show v17_2.toInt < v218_2.toInt; omega)
        · have h12547 : 4 < z12545.toInt := h12547
          refine g_iconst (v := 4) C dX12_cutAll_231 (by decide) ?_
          refine g_goto C 236 dX12_cutAll_232 (by decide) ?_
          refine g_lv (lv' := [(0, .ref a0), (1, .int v17_1), (2, .int v218_2), (5, .long l218_5)]) [0, 1, 2, 4] rfl ?_
          exact J236 P218 v218_2 l218_5 4 b12542 I218 X218 W218 (by omega) (by decide) h12544 e12543 (by omega) (by omega) (fun b9 e9 => by rw [e12540] at e9; cases e9; omega) (by show v17_1.toInt < v218_2.toInt; omega) (by show v17_2.toInt < v218_2.toInt; omega)
      have J159 : ∀ (n159 : Nat) (P159 : PP) (v159_2 : Int32) (l159_5 : Int64), (1000 - v159_2.toInt).toNat < n159 → (IM P159 a0) → (EM [2, 3, 4, 5, 7, 8] a0 P P159) → (MW P159 a0) → (0 ≤ v159_2.toInt ∧ v159_2.toInt ≤ 1000) → (0 ≤ v17_2.toInt ∧ v17_2.toInt ≤ 999) → (0 ≤ (pI P159 a0 2).toInt ∧ (pI P159 a0 2).toInt ≤ 0) → (1 ≤ (pI P159 a0 3).toInt ∧ (pI P159 a0 3).toInt ≤ 1000) → (∀ b, pR P159 a0 5 = some b → 0 ≤ (pI P159 b (v17_1.toInt.toNat)).toInt ∧ (pI P159 b (v17_1.toInt.toNat)).toInt ≤ 999) → (v17_1.toInt ≤ v17_2.toInt) → (∀ b91, pR P159 a0 1 = some b91 → v17_2.toInt < v159_2.toInt ∨ (v17_2.toInt = v159_2.toInt ∧ v159_2.toInt < (pI P159 a0 3).toInt ∧ 48 ≤ (pI P159 b91 (v159_2.toInt.toNat)).toInt ∧ (pI P159 b91 (v159_2.toInt.toNat)).toInt ≤ 57)) → (v17_2.toInt = v17_2.toInt) → G E ({ frames := 3, cells := 0, slots := 0, locals := 192 } : Room) D cy 7 P159 0 0 159 [(0, .ref a0), (1, .int v17_1), (2, .int v159_2), (4, .int v17_2), (5, .long l159_5)] [] := by
        intro n159
        induction n159 with
        | zero => intro P159 v159_2 l159_5 hm159 I159 X159 W159 hv159_2 hv159_4 hq159_0 hq159_1 hq159_2 rel159_0 rel159_1 rel159_2; omega
        | succ n159 ih159 =>
          intro P159 v159_2 l159_5 hm159 I159 X159 W159 hv159_2 hv159_4 hq159_0 hq159_1 hq159_2 rel159_0 rel159_1 rel159_2
          have h12548 := X159.at ha0
          obtain ⟨b12549, e12550, h12551⟩ := I159.fld (h12548) 5 13 1002 rfl
          have hq159_2 := hq159_2 b12549 e12550
          obtain ⟨b12552, e12553, h12554⟩ := I159.fld (h12548) 1 13 1000 rfl
          have rel159_1 := rel159_1 b12552 e12553
          have J210 : ∀ (l210_s0 : Int64), (0 ≤ v159_2.toInt ∧ v159_2.toInt ≤ 999) → (0 ≤ v17_2.toInt ∧ v17_2.toInt ≤ 999) → (0 ≤ (pI P159 a0 2).toInt ∧ (pI P159 a0 2).toInt ≤ 0) → (1 ≤ (pI P159 a0 3).toInt ∧ (pI P159 a0 3).toInt ≤ 1000) → (∀ b, pR P159 a0 1 = some b → 48 ≤ (pI P159 b (v159_2.toInt.toNat)).toInt ∧ (pI P159 b (v159_2.toInt.toNat)).toInt ≤ 57) → (∀ b, pR P159 a0 5 = some b → 0 ≤ (pI P159 b (v17_1.toInt.toNat)).toInt ∧ (pI P159 b (v17_1.toInt.toNat)).toInt ≤ 999) → (v17_1.toInt ≤ v17_2.toInt) → (v17_2.toInt ≤ v159_2.toInt) → (v17_2.toInt = v17_2.toInt) → G E ({ frames := 3, cells := 0, slots := 0, locals := 192 } : Room) D cy 7 P159 0 0 210 [(0, .ref a0), (1, .int v17_1), (2, .int v159_2), (4, .int v17_2)] [.long l210_s0] := by
            intro l210_s0 hv210_2 hv210_4 hq210_0 hq210_1 hq210_2 hq210_3 rel210_0 rel210_1 rel210_2
            have h12555 := X159.at ha0
            obtain ⟨b12556, e12557, h12558⟩ := I159.fld (h12555) 1 13 1000 rfl
            have hq210_2 := hq210_2 b12556 e12557
            obtain ⟨b12559, e12560, h12561⟩ := I159.fld (h12555) 5 13 1002 rfl
            have hq210_3 := hq210_3 b12559 e12560
            refine g_lstore (lv' := [(5, .long l210_s0), (0, .ref a0), (1, .int v17_1), (2, .int v159_2), (4, .int v17_2)]) C dX12_cutAll_210 (by decide) rfl ?_
            refine s_iinc (lv0 := [(5, .long l210_s0), (0, .ref a0), (1, .int v17_1), (4, .int v17_2)]) (m := 1) C dX12_cutAll_212 3 rfl (by decide) rfl (by decide) (by omega) (fun z12562 h12563 => ?_)
            have h12563 : z12562.toInt = v159_2.toInt + 1 := h12563
            refine g_goto C 159 dX12_cutAll_215 (by decide) ?_
            refine g_lv (lv' := [(0, .ref a0), (1, .int v17_1), (2, .int z12562), (4, .int v17_2), (5, .long l210_s0)]) [2, 3, 0, 4, 1] rfl ?_
            exact ih159 P159 z12562 l210_s0 (by omega) I159 X159 W159 (by omega) (by omega) (by omega) (by omega) (fun b9 e9 => by rw [e12560] at e9; cases e9; omega) (by show v17_1.toInt ≤ v17_2.toInt; omega) (by intro b91 e91; rw [e12557] at e91; cases e91; show v17_2.toInt < z12562.toInt ∨ (v17_2.toInt = z12562.toInt ∧ z12562.toInt < (pI P159 a0 3).toInt ∧ 48 ≤ (pI P159 b12556 (z12562.toInt.toNat)).toInt ∧ (pI P159 b12556 (z12562.toInt.toNat)).toInt ≤ 57); omega) (by show v17_2.toInt = v17_2.toInt; omega)
          refine g_iload_n C dX12_cutAll_159 rfl 2 rfl ?_
          refine g_aload_n C dX12_cutAll_160 rfl 0 rfl ?_
          refine g_getI C fi_X12_140 (by decide) (h12548).1 (h12548).2 dX12_cutAll_161 ?_
          refine b_icmp_ge C 218 dX12_cutAll_164 (by decide) (fun h12564 => ?_) (fun h12564 => ?_)
          · have h12564 : (pI P159 a0 3).toInt ≤ v159_2.toInt := h12564
            exact J218 P159 v159_2 l159_5 I159 X159 W159 (by omega) (by omega) (by omega) (by omega) (fun b9 e9 => by rw [e12550] at e9; cases e9; omega) (by show v17_1.toInt ≤ v17_2.toInt; omega) (by show v17_2.toInt < v159_2.toInt; omega) (by show v17_2.toInt < v159_2.toInt; omega)
          · have h12564 : v159_2.toInt < (pI P159 a0 3).toInt := h12564
            refine g_aload_n C dX12_cutAll_167 rfl 0 rfl ?_
            refine g_getR C fi_X12_14 rfl e12553 (h12548).1 (h12548).2 dX12_cutAll_168 ?_
            refine g_iload_n C dX12_cutAll_171 rfl 2 rfl ?_
            refine g_iald (j := (v159_2.toInt.toNat)) C h12554.1 h12554.2.1 (ix_in h12554.2.2 (by omega)) dX12_cutAll_172 ?_
            refine g_callSI (b := 0) (ci := 0) (rest := []) C ms_X12_149 [.int (pI P159 b12552 (v159_2.toInt.toNat))] (s_X12_isDigit I159.1) rfl rfl (by decide) (Nat.le_of_ble_eq_true rfl) (by decide) dX12_cutAll_173 (fun r12565 Y12566 h12567 => ?_)
            obtain ⟨rfl, h12567⟩ := h12567
            obtain ⟨h12567, hi12568, hi12569⟩ := h12567
            have hi12568 : r12565.toInt = 0 ∨ (((48 : Int) ≤ (pI P159 b12552 (v159_2.toInt.toNat)).toInt ∧ (pI P159 b12552 (v159_2.toInt.toNat)).toInt ≤ (57 : Int))) := hi12568
            have hi12569 : r12565.toInt ≠ 0 ∨ (pI P159 b12552 (v159_2.toInt.toNat)).toInt < 48 ∨ 57 < (pI P159 b12552 (v159_2.toInt.toNat)).toInt := hi12569
            have h12567 : 0 ≤ r12565.toInt ∧ r12565.toInt ≤ 1 := h12567
            refine b_if_eq C 218 dX12_cutAll_176 (by decide) (fun h12570 => ?_) (fun h12570 => ?_)
            · have h12570 : r12565.toInt = 0 := congrArg Int32.toInt h12570
              clear hi12568
              exact J218 P159 v159_2 l159_5 I159 X159 W159 (by omega) (by omega) (by omega) (by omega) (fun b9 e9 => by rw [e12550] at e9; cases e9; omega) (by show v17_1.toInt ≤ v17_2.toInt; omega) (by show v17_2.toInt < v159_2.toInt; omega) (by show v17_2.toInt < v159_2.toInt; omega)
            · have h12570 : r12565.toInt ≠ 0 := ti_ne h12570
              replace hi12568 := hi12568.resolve_left (by omega)
              refine g_iload_n C dX12_cutAll_179 rfl 2 rfl ?_
              refine g_iload C dX12_cutAll_180 3 rfl ?_
              refine s_isub C dX12_cutAll_182 (by show -2147483648 ≤ v159_2.toInt - v17_2.toInt ∧ v159_2.toInt - v17_2.toInt ≤ 2147483647; omega) (fun z12571 h12572 => ?_)
              have h12572 : z12571.toInt = v159_2.toInt - v17_2.toInt := h12572
              refine g_iconst (v := 4) C dX12_cutAll_183 (by decide) ?_
              refine b_icmp_ge C 208 dX12_cutAll_184 (by decide) (fun h12573 => ?_) (fun h12573 => ?_)
              · have h12573 : 4 ≤ z12571.toInt := h12573
                refine g_lload C dX12_cutAll_208 4 rfl ?_
                refine g_lv (lv' := [(0, .ref a0), (1, .int v17_1), (2, .int v159_2), (4, .int v17_2)]) [0, 1, 2, 3] rfl ?_
                exact J210 l159_5 (by omega) (by omega) (by omega) (by omega) (fun b9 e9 => by rw [e12553] at e9; cases e9; omega) (fun b9 e9 => by rw [e12550] at e9; cases e9; omega) (by show v17_1.toInt ≤ v17_2.toInt; omega) (by show v17_2.toInt ≤ v159_2.toInt; omega) (by show v17_2.toInt = v17_2.toInt; omega)
              · have h12573 : z12571.toInt < 4 := h12573
                refine g_ldc2 (v := 10) C kl_X12_152 dX12_cutAll_187 ?_
                refine g_topl (fun l12574 el12574 => ?_)
                have hz_l12574 : ¬ l12574 = 0 := by rw [el12574]; decide
                refine g_lload C dX12_cutAll_190 4 rfl ?_
                refine a_lmul C dX12_cutAll_192 (fun l12575 => ?_)
                refine g_aload_n C dX12_cutAll_193 rfl 0 rfl ?_
                refine g_getR C fi_X12_14 rfl e12553 (h12548).1 (h12548).2 dX12_cutAll_194 ?_
                refine g_iload_n C dX12_cutAll_197 rfl 2 rfl ?_
                refine g_iald (j := (v159_2.toInt.toNat)) C h12554.1 h12554.2.1 (ix_in h12554.2.2 (by omega)) dX12_cutAll_198 ?_
                refine a_i2l C dX12_cutAll_199 (fun l12576 => ?_)
                refine a_ladd C dX12_cutAll_200 (fun l12577 => ?_)
                refine g_ldc2 (v := 48) C kl_X12_154 dX12_cutAll_201 ?_
                refine g_topl (fun l12578 el12578 => ?_)
                have hz_l12578 : ¬ l12578 = 0 := by rw [el12578]; decide
                refine a_lsub C dX12_cutAll_204 (fun l12579 => ?_)
                refine g_goto C 210 dX12_cutAll_205 (by decide) ?_
                refine g_lv (lv' := [(0, .ref a0), (1, .int v17_1), (2, .int v159_2), (4, .int v17_2)]) [0, 1, 2, 3] rfl ?_
                exact J210 l12579 (by omega) (by omega) (by omega) (by omega) (fun b9 e9 => by rw [e12553] at e9; cases e9; omega) (fun b9 e9 => by rw [e12550] at e9; cases e9; omega) (by show v17_1.toInt ≤ v17_2.toInt; omega) (by show v17_2.toInt ≤ v159_2.toInt; omega) (by show v17_2.toInt = v17_2.toInt; omega)
      have J148 : ∀ (P148 : PP) (v148_2 : Int32) (l148_5 : Int64) (v148_s0 : Int32) (b148_s2 : Nat), (IM P148 a0) → (EM [2, 3, 4, 5, 7, 8] a0 P P148) → (MW P148 a0) → (0 ≤ v148_2.toInt ∧ v148_2.toInt ≤ 1000) → (1 ≤ v148_s0.toInt ∧ v148_s0.toInt ≤ 4) → (Ar P148 b148_s2 13 1002) → (pR P148 a0 4 = some b148_s2) → (0 ≤ (pI P148 a0 2).toInt ∧ (pI P148 a0 2).toInt ≤ 0) → (1 ≤ (pI P148 a0 3).toInt ∧ (pI P148 a0 3).toInt ≤ 1000) → (∀ b, pR P148 a0 5 = some b → 0 ≤ (pI P148 b (v17_1.toInt.toNat)).toInt ∧ (pI P148 b (v17_1.toInt.toNat)).toInt ≤ 999) → (v17_1.toInt < v148_2.toInt) → (v17_2.toInt < v148_2.toInt) → G E ({ frames := 3, cells := 0, slots := 0, locals := 192 } : Room) D cy 7 P148 0 0 148 [(0, .ref a0), (1, .int v17_1), (2, .int v148_2), (5, .long l148_5)] [.int v148_s0, .int v17_1, .ref b148_s2] := by
        intro P148 v148_2 l148_5 v148_s0 b148_s2 I148 X148 W148 hv148_2 hv148_s0 hb148_s2 eb148_s2 hq148_0 hq148_1 hq148_2 rel148_0 rel148_1
        have h12580 := X148.at ha0
        obtain ⟨b12581, e12582, h12583⟩ := I148.fld (h12580) 5 13 1002 rfl
        have hq148_2 := hq148_2 b12581 e12582
        refine g_iast (j := (v17_1.toInt.toNat)) C hb148_s2.1 hb148_s2.2.1 (ix_in hb148_s2.2.2 (by omega)) dX12_cutAll_148 ?_
        refine gqW (ks := [4]) (I148.setA eb148_s2 hb148_s2 (by decide) (arOk.of rfl (by omega))) (EM.setA I148 eb148_s2 rfl (by decide)) (fun Y12584 Iy12585 Xy12586 w12587  => ?_)
        have w12587 : (pI Y12584 b148_s2 (v17_1.toInt.toNat)).toInt = v148_s0.toInt := w12587
        have q12588 := Xy12586.keepF 2 (by decide)
        have q12589 := Xy12586.keepF 3 (by decide)
        have q12590 := Xy12586.keepA e12582 (by decide) rfl (v17_1.toInt.toNat)
        have W12591 := W148.keep I148 Xy12586 (by decide) (by decide) (by decide)
        have Xz12592 : EM [2, 3, 4, 5, 7, 8] a0 P Y12584 := EM.tr ha0 X148 (Xy12586.mono (by decide))
        have e12593 := Xy12586.ref h12580 (by decide) eb148_s2
        have e12594 := Xy12586.ref h12580 (by decide) e12582
        have h12595 := Xy12586.at h12580
        have h12596 := Xy12586.ar h12583
        have h12597 := Xy12586.ar hb148_s2
        refine g_goto C 265 dX12_cutAll_149 (by decide) ?_
        exact J265 Y12584 v148_2 l148_5 Iy12585 Xz12592 W12591 (by omega) (by omega) (by omega) (fun b9 e9 => by rw [e12593] at e9; cases e9; omega) (fun b9 e9 => by rw [e12594] at e9; cases e9; omega) (by show v17_1.toInt < v148_2.toInt; omega) (by show v17_2.toInt < v148_2.toInt; omega)
      have J129 : ∀ (P129 : PP) (v129_2 : Int32) (l129_5 : Int64), (IM P129 a0) → (EM [2, 3, 4, 5, 7, 8] a0 P P129) → (MW P129 a0) → (0 ≤ v129_2.toInt ∧ v129_2.toInt ≤ 1000) → (0 ≤ v17_2.toInt ∧ v17_2.toInt ≤ 999) → (0 ≤ (pI P129 a0 2).toInt ∧ (pI P129 a0 2).toInt ≤ 0) → (1 ≤ (pI P129 a0 3).toInt ∧ (pI P129 a0 3).toInt ≤ 1000) → (∀ b, pR P129 a0 5 = some b → 0 ≤ (pI P129 b (v17_1.toInt.toNat)).toInt ∧ (pI P129 b (v17_1.toInt.toNat)).toInt ≤ 999) → (v17_1.toInt ≤ v17_2.toInt) → (v17_2.toInt < v129_2.toInt) → (v17_2.toInt < v129_2.toInt) → G E ({ frames := 3, cells := 0, slots := 0, locals := 192 } : Room) D cy 7 P129 0 0 129 [(0, .ref a0), (1, .int v17_1), (2, .int v129_2), (4, .int v17_2), (5, .long l129_5)] [] := by
        intro P129 v129_2 l129_5 I129 X129 W129 hv129_2 hv129_4 hq129_0 hq129_1 hq129_2 rel129_0 rel129_1 rel129_2
        have h12598 := X129.at ha0
        obtain ⟨b12599, e12600, h12601⟩ := I129.fld (h12598) 5 13 1002 rfl
        have hq129_2 := hq129_2 b12599 e12600
        refine g_aload_n C dX12_cutAll_129 rfl 0 rfl ?_
        obtain ⟨b12602, e12603, h12604⟩ := I129.fld (h12598) 4 13 1002 rfl
        refine g_getR C fi_X12_24 rfl e12603 (h12598).1 (h12598).2 dX12_cutAll_130 ?_
        refine g_iload_n C dX12_cutAll_133 rfl 1 rfl ?_
        refine g_iload_n C dX12_cutAll_134 rfl 2 rfl ?_
        refine g_iload C dX12_cutAll_135 3 rfl ?_
        refine s_isub C dX12_cutAll_137 (by show -2147483648 ≤ v129_2.toInt - v17_2.toInt ∧ v129_2.toInt - v17_2.toInt ≤ 2147483647; omega) (fun z12605 h12606 => ?_)
        have h12606 : z12605.toInt = v129_2.toInt - v17_2.toInt := h12606
        refine g_bipush (v := 8) C dX12_cutAll_138 (by decide) ?_
        refine b_icmp_le C 147 dX12_cutAll_140 (by decide) (fun h12607 => ?_) (fun h12607 => ?_)
        · have h12607 : z12605.toInt ≤ 8 := h12607
          refine g_iconst (v := 1) C dX12_cutAll_147 (by decide) ?_
          refine g_lv (lv' := [(0, .ref a0), (1, .int v17_1), (2, .int v129_2), (5, .long l129_5)]) [0, 1, 2, 4] rfl ?_
          exact J148 P129 v129_2 l129_5 1 b12602 I129 X129 W129 (by omega) (by decide) h12604 e12603 (by omega) (by omega) (fun b9 e9 => by rw [e12600] at e9; cases e9; omega) (by show v17_1.toInt < v129_2.toInt; omega) (by show v17_2.toInt < v129_2.toInt; omega)
        · have h12607 : 8 < z12605.toInt := h12607
          refine g_iconst (v := 4) C dX12_cutAll_143 (by decide) ?_
          refine g_goto C 148 dX12_cutAll_144 (by decide) ?_
          refine g_lv (lv' := [(0, .ref a0), (1, .int v17_1), (2, .int v129_2), (5, .long l129_5)]) [0, 1, 2, 4] rfl ?_
          exact J148 P129 v129_2 l129_5 4 b12602 I129 X129 W129 (by omega) (by decide) h12604 e12603 (by omega) (by omega) (fun b9 e9 => by rw [e12600] at e9; cases e9; omega) (by show v17_1.toInt < v129_2.toInt; omega) (by show v17_2.toInt < v129_2.toInt; omega)
      have J70 : ∀ (n70 : Nat) (P70 : PP) (v70_2 : Int32) (l70_5 : Int64), (1000 - v70_2.toInt).toNat < n70 → (IM P70 a0) → (EM [2, 3, 4, 5, 7, 8] a0 P P70) → (MW P70 a0) → (0 ≤ v70_2.toInt ∧ v70_2.toInt ≤ 1000) → (0 ≤ v17_2.toInt ∧ v17_2.toInt ≤ 999) → (0 ≤ (pI P70 a0 2).toInt ∧ (pI P70 a0 2).toInt ≤ 0) → (1 ≤ (pI P70 a0 3).toInt ∧ (pI P70 a0 3).toInt ≤ 1000) → (∀ b, pR P70 a0 5 = some b → 0 ≤ (pI P70 b (v17_1.toInt.toNat)).toInt ∧ (pI P70 b (v17_1.toInt.toNat)).toInt ≤ 999) → (v17_1.toInt ≤ v17_2.toInt) → (∀ b91, pR P70 a0 1 = some b91 → v17_2.toInt < v70_2.toInt ∨ (v17_2.toInt = v70_2.toInt ∧ v70_2.toInt < (pI P70 a0 3).toInt ∧ 97 ≤ (pI P70 b91 (v70_2.toInt.toNat)).toInt ∧ (pI P70 b91 (v70_2.toInt.toNat)).toInt ≤ 122)) → (v17_2.toInt = v17_2.toInt) → G E ({ frames := 3, cells := 0, slots := 0, locals := 192 } : Room) D cy 7 P70 0 0 70 [(0, .ref a0), (1, .int v17_1), (2, .int v70_2), (4, .int v17_2), (5, .long l70_5)] [] := by
        intro n70
        induction n70 with
        | zero => intro P70 v70_2 l70_5 hm70 I70 X70 W70 hv70_2 hv70_4 hq70_0 hq70_1 hq70_2 rel70_0 rel70_1 rel70_2; omega
        | succ n70 ih70 =>
          intro P70 v70_2 l70_5 hm70 I70 X70 W70 hv70_2 hv70_4 hq70_0 hq70_1 hq70_2 rel70_0 rel70_1 rel70_2
          have h12608 := X70.at ha0
          obtain ⟨b12609, e12610, h12611⟩ := I70.fld (h12608) 5 13 1002 rfl
          have hq70_2 := hq70_2 b12609 e12610
          obtain ⟨b12612, e12613, h12614⟩ := I70.fld (h12608) 1 13 1000 rfl
          have rel70_1 := rel70_1 b12612 e12613
          have J121 : ∀ (l121_s0 : Int64), (0 ≤ v70_2.toInt ∧ v70_2.toInt ≤ 999) → (0 ≤ v17_2.toInt ∧ v17_2.toInt ≤ 999) → (0 ≤ (pI P70 a0 2).toInt ∧ (pI P70 a0 2).toInt ≤ 0) → (1 ≤ (pI P70 a0 3).toInt ∧ (pI P70 a0 3).toInt ≤ 1000) → (∀ b, pR P70 a0 1 = some b → 97 ≤ (pI P70 b (v70_2.toInt.toNat)).toInt ∧ (pI P70 b (v70_2.toInt.toNat)).toInt ≤ 122) → (∀ b, pR P70 a0 5 = some b → 0 ≤ (pI P70 b (v17_1.toInt.toNat)).toInt ∧ (pI P70 b (v17_1.toInt.toNat)).toInt ≤ 999) → (v17_1.toInt ≤ v17_2.toInt) → (v17_2.toInt ≤ v70_2.toInt) → (v17_2.toInt = v17_2.toInt) → G E ({ frames := 3, cells := 0, slots := 0, locals := 192 } : Room) D cy 7 P70 0 0 121 [(0, .ref a0), (1, .int v17_1), (2, .int v70_2), (4, .int v17_2)] [.long l121_s0] := by
            intro l121_s0 hv121_2 hv121_4 hq121_0 hq121_1 hq121_2 hq121_3 rel121_0 rel121_1 rel121_2
            have h12615 := X70.at ha0
            obtain ⟨b12616, e12617, h12618⟩ := I70.fld (h12615) 1 13 1000 rfl
            have hq121_2 := hq121_2 b12616 e12617
            obtain ⟨b12619, e12620, h12621⟩ := I70.fld (h12615) 5 13 1002 rfl
            have hq121_3 := hq121_3 b12619 e12620
            refine g_lstore (lv' := [(5, .long l121_s0), (0, .ref a0), (1, .int v17_1), (2, .int v70_2), (4, .int v17_2)]) C dX12_cutAll_121 (by decide) rfl ?_
            refine s_iinc (lv0 := [(5, .long l121_s0), (0, .ref a0), (1, .int v17_1), (4, .int v17_2)]) (m := 1) C dX12_cutAll_123 3 rfl (by decide) rfl (by decide) (by omega) (fun z12622 h12623 => ?_)
            have h12623 : z12622.toInt = v70_2.toInt + 1 := h12623
            refine g_goto C 70 dX12_cutAll_126 (by decide) ?_
            refine g_lv (lv' := [(0, .ref a0), (1, .int v17_1), (2, .int z12622), (4, .int v17_2), (5, .long l121_s0)]) [2, 3, 0, 4, 1] rfl ?_
            exact ih70 P70 z12622 l121_s0 (by omega) I70 X70 W70 (by omega) (by omega) (by omega) (by omega) (fun b9 e9 => by rw [e12620] at e9; cases e9; omega) (by show v17_1.toInt ≤ v17_2.toInt; omega) (by intro b91 e91; rw [e12617] at e91; cases e91; show v17_2.toInt < z12622.toInt ∨ (v17_2.toInt = z12622.toInt ∧ z12622.toInt < (pI P70 a0 3).toInt ∧ 97 ≤ (pI P70 b12616 (z12622.toInt.toNat)).toInt ∧ (pI P70 b12616 (z12622.toInt.toNat)).toInt ≤ 122); omega) (by show v17_2.toInt = v17_2.toInt; omega)
          refine g_iload_n C dX12_cutAll_70 rfl 2 rfl ?_
          refine g_aload_n C dX12_cutAll_71 rfl 0 rfl ?_
          refine g_getI C fi_X12_140 (by decide) (h12608).1 (h12608).2 dX12_cutAll_72 ?_
          refine b_icmp_ge C 129 dX12_cutAll_75 (by decide) (fun h12624 => ?_) (fun h12624 => ?_)
          · have h12624 : (pI P70 a0 3).toInt ≤ v70_2.toInt := h12624
            exact J129 P70 v70_2 l70_5 I70 X70 W70 (by omega) (by omega) (by omega) (by omega) (fun b9 e9 => by rw [e12610] at e9; cases e9; omega) (by show v17_1.toInt ≤ v17_2.toInt; omega) (by show v17_2.toInt < v70_2.toInt; omega) (by show v17_2.toInt < v70_2.toInt; omega)
          · have h12624 : v70_2.toInt < (pI P70 a0 3).toInt := h12624
            refine g_aload_n C dX12_cutAll_78 rfl 0 rfl ?_
            refine g_getR C fi_X12_14 rfl e12613 (h12608).1 (h12608).2 dX12_cutAll_79 ?_
            refine g_iload_n C dX12_cutAll_82 rfl 2 rfl ?_
            refine g_iald (j := (v70_2.toInt.toNat)) C h12614.1 h12614.2.1 (ix_in h12614.2.2 (by omega)) dX12_cutAll_83 ?_
            refine g_callSI (b := 0) (ci := 0) (rest := []) C ms_X12_136 [.int (pI P70 b12612 (v70_2.toInt.toNat))] (s_X12_isLetter I70.1) rfl rfl (by decide) (Nat.le_of_ble_eq_true rfl) (by decide) dX12_cutAll_84 (fun r12625 Y12626 h12627 => ?_)
            obtain ⟨rfl, h12627⟩ := h12627
            obtain ⟨h12627, hi12628, hi12629⟩ := h12627
            have hi12628 : r12625.toInt = 0 ∨ (((97 : Int) ≤ (pI P70 b12612 (v70_2.toInt.toNat)).toInt ∧ (pI P70 b12612 (v70_2.toInt.toNat)).toInt ≤ (122 : Int))) := hi12628
            have hi12629 : r12625.toInt ≠ 0 ∨ (pI P70 b12612 (v70_2.toInt.toNat)).toInt < 97 ∨ 122 < (pI P70 b12612 (v70_2.toInt.toNat)).toInt := hi12629
            have h12627 : 0 ≤ r12625.toInt ∧ r12625.toInt ≤ 1 := h12627
            refine b_if_eq C 129 dX12_cutAll_87 (by decide) (fun h12630 => ?_) (fun h12630 => ?_)
            · have h12630 : r12625.toInt = 0 := congrArg Int32.toInt h12630
              clear hi12628
              exact J129 P70 v70_2 l70_5 I70 X70 W70 (by omega) (by omega) (by omega) (by omega) (fun b9 e9 => by rw [e12610] at e9; cases e9; omega) (by show v17_1.toInt ≤ v17_2.toInt; omega) (by show v17_2.toInt < v70_2.toInt; omega) (by show v17_2.toInt < v70_2.toInt; omega)
            · have h12630 : r12625.toInt ≠ 0 := ti_ne h12630
              replace hi12628 := hi12628.resolve_left (by omega)
              refine g_iload_n C dX12_cutAll_90 rfl 2 rfl ?_
              refine g_iload C dX12_cutAll_91 3 rfl ?_
              refine s_isub C dX12_cutAll_93 (by show -2147483648 ≤ v70_2.toInt - v17_2.toInt ∧ v70_2.toInt - v17_2.toInt ≤ 2147483647; omega) (fun z12631 h12632 => ?_)
              have h12632 : z12631.toInt = v70_2.toInt - v17_2.toInt := h12632
              refine g_bipush (v := 8) C dX12_cutAll_94 (by decide) ?_
              refine b_icmp_ge C 119 dX12_cutAll_96 (by decide) (fun h12633 => ?_) (fun h12633 => ?_)
              · have h12633 : 8 ≤ z12631.toInt := h12633
                refine g_lload C dX12_cutAll_119 4 rfl ?_
                refine g_lv (lv' := [(0, .ref a0), (1, .int v17_1), (2, .int v70_2), (4, .int v17_2)]) [0, 1, 2, 3] rfl ?_
                exact J121 l70_5 (by omega) (by omega) (by omega) (by omega) (fun b9 e9 => by rw [e12613] at e9; cases e9; omega) (fun b9 e9 => by rw [e12610] at e9; cases e9; omega) (by show v17_1.toInt ≤ v17_2.toInt; omega) (by show v17_2.toInt ≤ v70_2.toInt; omega) (by show v17_2.toInt = v17_2.toInt; omega)
              · have h12633 : z12631.toInt < 8 := h12633
                refine g_ldc2 (v := 37) C kl_X12_143 dX12_cutAll_99 ?_
                refine g_topl (fun l12634 el12634 => ?_)
                have hz_l12634 : ¬ l12634 = 0 := by rw [el12634]; decide
                refine g_lload C dX12_cutAll_102 4 rfl ?_
                refine a_lmul C dX12_cutAll_104 (fun l12635 => ?_)
                refine g_aload_n C dX12_cutAll_105 rfl 0 rfl ?_
                refine g_getR C fi_X12_14 rfl e12613 (h12608).1 (h12608).2 dX12_cutAll_106 ?_
                refine g_iload_n C dX12_cutAll_109 rfl 2 rfl ?_
                refine g_iald (j := (v70_2.toInt.toNat)) C h12614.1 h12614.2.1 (ix_in h12614.2.2 (by omega)) dX12_cutAll_110 ?_
                refine g_callSI (b := 0) (ci := 0) (rest := [.long l12635]) C ms_X12_145 [.int (pI P70 b12612 (v70_2.toInt.toNat))] (s_X12_rank I70.1) rfl rfl (by decide) (Nat.le_of_ble_eq_true rfl) (by decide) dX12_cutAll_111 (fun r12636 Y12637 h12638 => ?_)
                obtain ⟨rfl, h12638⟩ := h12638
                have h12638 : True := h12638
                refine a_i2l C dX12_cutAll_114 (fun l12639 => ?_)
                refine a_ladd C dX12_cutAll_115 (fun l12640 => ?_)
                refine g_goto C 121 dX12_cutAll_116 (by decide) ?_
                refine g_lv (lv' := [(0, .ref a0), (1, .int v17_1), (2, .int v70_2), (4, .int v17_2)]) [0, 1, 2, 3] rfl ?_
                exact J121 l12640 (by omega) (by omega) (by omega) (by omega) (fun b9 e9 => by rw [e12613] at e9; cases e9; omega) (fun b9 e9 => by rw [e12610] at e9; cases e9; omega) (by show v17_1.toInt ≤ v17_2.toInt; omega) (by show v17_2.toInt ≤ v70_2.toInt; omega) (by show v17_2.toInt = v17_2.toInt; omega)
      have J44 : (0 ≤ v17_2.toInt ∧ v17_2.toInt ≤ 999) → (0 ≤ (pI P17 a0 2).toInt ∧ (pI P17 a0 2).toInt ≤ 0) → (1 ≤ (pI P17 a0 3).toInt ∧ (pI P17 a0 3).toInt ≤ 1000) → G E ({ frames := 3, cells := 0, slots := 0, locals := 192 } : Room) D cy 7 P17 0 0 44 [(0, .ref a0), (1, .int v17_1), (2, .int v17_2)] [] := by
        intro hv44_2 hq44_0 hq44_1
        have h12641 := X17.at ha0
        refine s_iinc (lv0 := [(0, .ref a0), (1, .int v17_1)]) (m := 1) C dX12_cutAll_44 2 rfl (by decide) rfl (by decide) (by omega) (fun z12642 h12643 => ?_)
        have h12643 : z12642.toInt = v17_2.toInt + 1 := h12643
        refine g_goto C 17 dX12_cutAll_47 (by decide) ?_
        refine g_lv (lv' := [(0, .ref a0), (1, .int v17_1), (2, .int z12642)]) [1, 2, 0] rfl ?_
        exact ih17 P17 v17_1 z12642 (by omega) I17 X17 W17 (by omega) (by omega) (by omega) (by show v17_1.toInt ≤ z12642.toInt; omega)
      refine g_iload_n C dX12_cutAll_17 rfl 2 rfl ?_
      refine g_aload_n C dX12_cutAll_18 rfl 0 rfl ?_
      refine g_getI C fi_X12_140 (by decide) (h12473).1 (h12473).2 dX12_cutAll_19 ?_
      have h12644 := I17.rg (h12473) 3 rfl
      refine b_icmp_ge C 279 dX12_cutAll_22 (by decide) (fun h12645 => ?_) (fun h12645 => ?_)
      · have h12645 : (pI P17 a0 3).toInt ≤ v17_2.toInt := h12645
        refine g_aload_n C dX12_cutAll_279 rfl 0 rfl ?_
        obtain ⟨b12646, e12647, h12648⟩ := I17.fld (h12473) 4 13 1002 rfl
        refine g_getR C fi_X12_24 rfl e12647 (h12473).1 (h12473).2 dX12_cutAll_280 ?_
        refine g_iload_n C dX12_cutAll_283 rfl 1 rfl ?_
        refine g_iconst (v := 0) C dX12_cutAll_284 (by decide) ?_
        refine g_iast (j := (v17_1.toInt.toNat)) C h12648.1 h12648.2.1 (ix_in h12648.2.2 (by omega)) dX12_cutAll_285 ?_
        refine gqW (ks := [4]) (I17.setA e12647 h12648 (by decide) (arOk.of rfl (by decide))) (EM.setA I17 e12647 rfl (by decide)) (fun Y12649 Iy12650 Xy12651 w12652  => ?_)
        have w12652 : (pI Y12649 b12646 (v17_1.toInt.toNat)).toInt = 0 := w12652
        have q12653 := Xy12651.keepF 2 (by decide)
        have q12654 := Xy12651.keepF 3 (by decide)
        have W12655 := W17.keep I17 Xy12651 (by decide) (by decide) (by decide)
        have Xz12656 : EM [2, 3, 4, 5, 7, 8] a0 P Y12649 := EM.tr ha0 X17 (Xy12651.mono (by decide))
        have e12657 := Xy12651.ref h12473 (by decide) e12647
        have h12658 := Xy12651.at h12473
        have h12659 := Xy12651.ar h12648
        refine g_aload_n C dX12_cutAll_286 rfl 0 rfl ?_
        obtain ⟨b12660, e12661, h12662⟩ := Iy12650.fld (h12658) 5 13 1002 rfl
        refine g_getR C fi_X12_27 rfl e12661 (h12658).1 (h12658).2 dX12_cutAll_287 ?_
        refine g_iload_n C dX12_cutAll_290 rfl 1 rfl ?_
        refine g_aload_n C dX12_cutAll_291 rfl 0 rfl ?_
        refine g_getI C fi_X12_140 (by decide) (h12658).1 (h12658).2 dX12_cutAll_292 ?_
        refine g_iast (j := (v17_1.toInt.toNat)) C h12662.1 h12662.2.1 (ix_in h12662.2.2 (by omega)) dX12_cutAll_295 ?_
        refine gqW (ks := [5]) (Iy12650.setA e12661 h12662 (by decide) (arOk.of rfl (by omega))) (EM.setA Iy12650 e12661 rfl (by decide)) (fun Y12663 Iy12664 Xy12665 w12666  => ?_)
        have w12666 : (pI Y12663 b12660 (v17_1.toInt.toNat)).toInt = (pI Y12649 a0 3).toInt := w12666
        have q12667 := Xy12665.keepF 2 (by decide)
        have q12668 := Xy12665.keepF 3 (by decide)
        have q12669 := Xy12665.keepA e12657 (by decide) rfl (v17_1.toInt.toNat)
        have W12670 := W12655.keep Iy12650 Xy12665 (by decide) (by decide) (by decide)
        have Xz12671 : EM [2, 3, 4, 5, 7, 8] a0 P Y12663 := EM.tr ha0 Xz12656 (Xy12665.mono (by decide))
        have e12672 := Xy12665.ref h12658 (by decide) e12657
        have e12673 := Xy12665.ref h12658 (by decide) e12661
        have h12674 := Xy12665.at h12658
        have h12675 := Xy12665.ar h12659
        have h12676 := Xy12665.ar h12662
        refine g_aload_n C dX12_cutAll_296 rfl 0 rfl ?_
        refine g_iconst (v := 0) C dX12_cutAll_297 (by decide) ?_
        refine g_putI C fi_X12_159 rfl (h12674).1 (h12674).2 dX12_cutAll_298 ?_
        refine gqW (ks := [7]) (Iy12664.setI (rgOk.of rfl (by decide))) (EM.setI Iy12664 (by decide)) (fun Y12677 Iy12678 Xy12679 w12680  => ?_)
        have w12680 : (pI Y12677 a0 7).toInt = 0 := w12680
        have q12681 := Xy12679.keepF 2 (by decide)
        have q12682 := Xy12679.keepF 3 (by decide)
        have q12683 := Xy12679.keepA e12672 (by decide) rfl (v17_1.toInt.toNat)
        have q12684 := Xy12679.keepA e12673 (by decide) rfl (v17_1.toInt.toNat)
        have W12685 := W12670.keep Iy12664 Xy12679 (by decide) (by decide) (by decide)
        have Xz12686 : EM [2, 3, 4, 5, 7, 8] a0 P Y12677 := EM.tr ha0 Xz12671 (Xy12679.mono (by decide))
        have e12687 := Xy12679.ref h12674 (by decide) e12672
        have e12688 := Xy12679.ref h12674 (by decide) e12673
        have h12689 := Xy12679.at h12674
        have h12690 := Xy12679.ar h12675
        have h12691 := Xy12679.ar h12676
        refine g_aload_n C dX12_cutAll_301 rfl 0 rfl ?_
        refine g_iconst (v := 0) C dX12_cutAll_302 (by decide) ?_
        refine g_putI C fi_X12_162 rfl (h12689).1 (h12689).2 dX12_cutAll_303 ?_
        refine gqW (ks := [8]) (Iy12678.setI (rgOk.of rfl (by decide))) (EM.setI Iy12678 (by decide)) (fun Y12692 Iy12693 Xy12694 w12695  => ?_)
        have w12695 : (pI Y12692 a0 8).toInt = 0 := w12695
        have q12696 := Xy12694.keepF 2 (by decide)
        have q12697 := Xy12694.keepF 3 (by decide)
        have q12698 := Xy12694.keepA e12687 (by decide) rfl (v17_1.toInt.toNat)
        have q12699 := Xy12694.keepA e12688 (by decide) rfl (v17_1.toInt.toNat)
        have q12700 := Xy12694.keepF 7 (by decide)
        have W12701 := W12685.keep Iy12678 Xy12694 (by decide) (by decide) (by decide)
        have Xz12702 : EM [2, 3, 4, 5, 7, 8] a0 P Y12692 := EM.tr ha0 Xz12686 (Xy12694.mono (by decide))
        have e12703 := Xy12694.ref h12689 (by decide) e12687
        have e12704 := Xy12694.ref h12689 (by decide) e12688
        have h12705 := Xy12694.at h12689
        have h12706 := Xy12694.ar h12690
        have h12707 := Xy12694.ar h12691
        exact ret _ _ _ _ _ dX12_cutAll_306 (by decide) (by decide) ⟨Iy12693, Xz12702, W12701⟩
      · have h12645 : v17_2.toInt < (pI P17 a0 3).toInt := h12645
        refine g_aload_n C dX12_cutAll_25 rfl 0 rfl ?_
        obtain ⟨b12708, e12709, h12710⟩ := I17.fld (h12473) 1 13 1000 rfl
        refine g_getR C fi_X12_14 rfl e12709 (h12473).1 (h12473).2 dX12_cutAll_26 ?_
        refine g_iload_n C dX12_cutAll_29 rfl 2 rfl ?_
        refine g_iald (j := (v17_2.toInt.toNat)) C h12710.1 h12710.2.1 (ix_in h12710.2.2 (by omega)) dX12_cutAll_30 ?_
        refine g_topi (fun z12711 h12712 => ?_)
        have h12712 : z12711.toInt = (pI P17 b12708 (v17_2.toInt.toNat)).toInt := congrArg Int32.toInt h12712
        refine g_istore_n (lv' := [(3, .int z12711), (0, .ref a0), (1, .int v17_1), (2, .int v17_2)]) C dX12_cutAll_31 rfl (by decide) rfl ?_
        refine g_iload_n C dX12_cutAll_32 rfl 0 rfl ?_
        refine g_bipush (v := 10) C dX12_cutAll_33 (by decide) ?_
        have u12714 := ti_rng z12711
        refine b_icmp_eq C 44 dX12_cutAll_35 (by decide) (fun h12713 => ?_) (fun h12713 => ?_)
        · have h12713 : z12711.toInt = 10 := congrArg Int32.toInt h12713
          refine g_lv (lv' := [(0, .ref a0), (1, .int v17_1), (2, .int v17_2)]) [1, 2, 3] rfl ?_
          exact J44 (by omega) (by omega) (by omega)
        · have h12713 : z12711.toInt ≠ 10 := ti_ne h12713
          refine g_iload_n C dX12_cutAll_38 rfl 0 rfl ?_
          refine g_bipush (v := 32) C dX12_cutAll_39 (by decide) ?_
          have u12716 := ti_rng z12711
          refine b_icmp_ne C 50 dX12_cutAll_41 (by decide) (fun h12715 => ?_) (fun h12715 => ?_)
          · have h12715 : z12711.toInt ≠ 32 := ti_ne h12715
            refine g_iload_n C dX12_cutAll_50 rfl 3 rfl ?_
            refine g_istore (lv' := [(4, .int v17_2), (3, .int z12711), (0, .ref a0), (1, .int v17_1), (2, .int v17_2)]) C dX12_cutAll_51 (by decide) rfl ?_
            refine g_lconst (v := 0) C dX12_cutAll_53 (by decide) ?_
            refine g_lstore (lv' := [(5, .long 0), (4, .int v17_2), (3, .int z12711), (0, .ref a0), (1, .int v17_1), (2, .int v17_2)]) C dX12_cutAll_54 (by decide) rfl ?_
            refine g_aload_n C dX12_cutAll_56 rfl 3 rfl ?_
            obtain ⟨b12717, e12718, h12719⟩ := I17.fld (h12473) 5 13 1002 rfl
            refine g_getR C fi_X12_27 rfl e12718 (h12473).1 (h12473).2 dX12_cutAll_57 ?_
            refine g_iload_n C dX12_cutAll_60 rfl 4 rfl ?_
            refine g_iload_n C dX12_cutAll_61 rfl 5 rfl ?_
            refine g_iast (j := (v17_1.toInt.toNat)) C h12719.1 h12719.2.1 (ix_in h12719.2.2 (by omega)) dX12_cutAll_62 ?_
            refine gqW (ks := [5]) (I17.setA e12718 h12719 (by decide) (arOk.of rfl (by omega))) (EM.setA I17 e12718 rfl (by decide)) (fun Y12720 Iy12721 Xy12722 w12723  => ?_)
            have w12723 : (pI Y12720 b12717 (v17_1.toInt.toNat)).toInt = v17_2.toInt := w12723
            have q12724 := Xy12722.keepF 2 (by decide)
            have q12725 := Xy12722.keepF 3 (by decide)
            have q12726 := Xy12722.keepA e12709 (by decide) rfl (v17_2.toInt.toNat)
            have W12727 := W17.keep I17 Xy12722 (by decide) (by decide) (by decide)
            have Xz12728 : EM [2, 3, 4, 5, 7, 8] a0 P Y12720 := EM.tr ha0 X17 (Xy12722.mono (by decide))
            have e12729 := Xy12722.ref h12473 (by decide) e12709
            have e12730 := Xy12722.ref h12473 (by decide) e12718
            have h12731 := Xy12722.at h12473
            have h12732 := Xy12722.ar h12710
            have h12733 := Xy12722.ar h12719
            refine g_iload_n C dX12_cutAll_63 rfl 2 rfl ?_
            refine g_callSI (b := 0) (ci := 0) (rest := []) C ms_X12_136 [.int z12711] (s_X12_isLetter Iy12721.1) rfl rfl (by decide) (Nat.le_of_ble_eq_true rfl) (by decide) dX12_cutAll_64 (fun r12734 Y12735 h12736 => ?_)
            obtain ⟨rfl, h12736⟩ := h12736
            obtain ⟨h12736, hi12737, hi12738⟩ := h12736
            have hi12737 : r12734.toInt = 0 ∨ (((97 : Int) ≤ z12711.toInt ∧ z12711.toInt ≤ (122 : Int))) := hi12737
            have hi12738 : r12734.toInt ≠ 0 ∨ z12711.toInt < 97 ∨ 122 < z12711.toInt := hi12738
            have h12736 : 0 ≤ r12734.toInt ∧ r12734.toInt ≤ 1 := h12736
            refine b_if_eq C 152 dX12_cutAll_67 (by decide) (fun h12739 => ?_) (fun h12739 => ?_)
            · have h12739 : r12734.toInt = 0 := congrArg Int32.toInt h12739
              clear hi12737
              refine g_iload_n C dX12_cutAll_152 rfl 2 rfl ?_
              refine g_callSI (b := 0) (ci := 0) (rest := []) C ms_X12_149 [.int z12711] (s_X12_isDigit Iy12721.1) rfl rfl (by decide) (Nat.le_of_ble_eq_true rfl) (by decide) dX12_cutAll_153 (fun r12740 Y12741 h12742 => ?_)
              obtain ⟨rfl, h12742⟩ := h12742
              obtain ⟨h12742, hi12743, hi12744⟩ := h12742
              have hi12743 : r12740.toInt = 0 ∨ (((48 : Int) ≤ z12711.toInt ∧ z12711.toInt ≤ (57 : Int))) := hi12743
              have hi12744 : r12740.toInt ≠ 0 ∨ z12711.toInt < 48 ∨ 57 < z12711.toInt := hi12744
              have h12742 : 0 ≤ r12740.toInt ∧ r12740.toInt ≤ 1 := h12742
              refine b_if_eq C 240 dX12_cutAll_156 (by decide) (fun h12745 => ?_) (fun h12745 => ?_)
              · have h12745 : r12740.toInt = 0 := congrArg Int32.toInt h12745
                clear hi12743
                refine g_iload_n C dX12_cutAll_240 rfl 2 rfl ?_
                refine a_i2l C dX12_cutAll_241 (fun l12746 => ?_)
                refine g_lstore (lv' := [(5, .long l12746), (4, .int v17_2), (3, .int z12711), (0, .ref a0), (1, .int v17_1), (2, .int v17_2)]) C dX12_cutAll_242 (by decide) rfl ?_
                refine g_aload_n C dX12_cutAll_244 rfl 3 rfl ?_
                obtain ⟨b12747, e12748, h12749⟩ := Iy12721.fld (h12731) 4 13 1002 rfl
                refine g_getR C fi_X12_24 rfl e12748 (h12731).1 (h12731).2 dX12_cutAll_245 ?_
                refine g_iload_n C dX12_cutAll_248 rfl 4 rfl ?_
                refine g_iload_n C dX12_cutAll_249 rfl 2 rfl ?_
                refine g_callSI (b := 0) (ci := 0) (rest := [.int v17_1, .ref b12747]) C ms_X12_156 [.int z12711] (s_X12_isSignOf Iy12721.1) rfl rfl (by decide) (Nat.le_of_ble_eq_true rfl) (by decide) dX12_cutAll_250 (fun r12750 Y12751 h12752 => ?_)
                obtain ⟨rfl, h12752⟩ := h12752
                obtain ⟨h12752, hi12753⟩ := h12752
                have hi12753 : r12750.toInt = 0 ∨ (((59 : Int) ≤ z12711.toInt ∧ z12711.toInt ≤ (59 : Int))) := hi12753
                have h12752 : 0 ≤ r12750.toInt ∧ r12750.toInt ≤ 1 := h12752
                refine b_if_eq C 260 dX12_cutAll_253 (by decide) (fun h12754 => ?_) (fun h12754 => ?_)
                · have h12754 : r12750.toInt = 0 := congrArg Int32.toInt h12754
                  clear hi12753
                  refine g_iconst (v := 4) C dX12_cutAll_260 (by decide) ?_
                  refine g_lv (lv' := [(0, .ref a0), (1, .int v17_1), (2, .int v17_2), (5, .long l12746)]) [3, 4, 5, 0] rfl ?_
                  exact J261 Y12720 l12746 4 b12747 Iy12721 Xz12728 W12727 (by omega) (by decide) h12749 e12748 (by omega) (by omega) (fun b9 e9 => by rw [e12730] at e9; cases e9; omega) (by show v17_1.toInt ≤ v17_2.toInt; omega) (by show v17_2.toInt = v17_2.toInt; omega)
                · have h12754 : r12750.toInt ≠ 0 := ti_ne h12754
                  replace hi12753 := hi12753.resolve_left (by omega)
                  refine g_iconst (v := 3) C dX12_cutAll_256 (by decide) ?_
                  refine g_goto C 261 dX12_cutAll_257 (by decide) ?_
                  refine g_lv (lv' := [(0, .ref a0), (1, .int v17_1), (2, .int v17_2), (5, .long l12746)]) [3, 4, 5, 0] rfl ?_
                  exact J261 Y12720 l12746 3 b12747 Iy12721 Xz12728 W12727 (by omega) (by decide) h12749 e12748 (by omega) (by omega) (fun b9 e9 => by rw [e12730] at e9; cases e9; omega) (by show v17_1.toInt ≤ v17_2.toInt; omega) (by show v17_2.toInt = v17_2.toInt; omega)
              · have h12745 : r12740.toInt ≠ 0 := ti_ne h12745
                replace hi12743 := hi12743.resolve_left (by omega)
                refine g_lv (lv' := [(0, .ref a0), (1, .int v17_1), (2, .int v17_2), (4, .int v17_2), (5, .long 0)]) [3, 4, 5, 1, 0] rfl ?_
                exact J159 _ Y12720 v17_2 0 (Nat.lt_succ_self _) Iy12721 Xz12728 W12727 (by omega) (by omega) (by omega) (by omega) (fun b9 e9 => by rw [e12730] at e9; cases e9; omega) (by show v17_1.toInt ≤ v17_2.toInt; omega) (by intro b91 e91; rw [e12729] at e91; cases e91; show v17_2.toInt < v17_2.toInt ∨ (v17_2.toInt = v17_2.toInt ∧ v17_2.toInt < (pI Y12720 a0 3).toInt ∧ 48 ≤ (pI Y12720 b12708 (v17_2.toInt.toNat)).toInt ∧ (pI Y12720 b12708 (v17_2.toInt.toNat)).toInt ≤ 57); omega) (by show v17_2.toInt = v17_2.toInt; omega)
            · have h12739 : r12734.toInt ≠ 0 := ti_ne h12739
              replace hi12737 := hi12737.resolve_left (by omega)
              refine g_lv (lv' := [(0, .ref a0), (1, .int v17_1), (2, .int v17_2), (4, .int v17_2), (5, .long 0)]) [3, 4, 5, 1, 0] rfl ?_
              exact J70 _ Y12720 v17_2 0 (Nat.lt_succ_self _) Iy12721 Xz12728 W12727 (by omega) (by omega) (by omega) (by omega) (fun b9 e9 => by rw [e12730] at e9; cases e9; omega) (by show v17_1.toInt ≤ v17_2.toInt; omega) (by intro b91 e91; rw [e12729] at e91; cases e91; show v17_2.toInt < v17_2.toInt ∨ (v17_2.toInt = v17_2.toInt ∧ v17_2.toInt < (pI Y12720 a0 3).toInt ∧ 97 ≤ (pI Y12720 b12708 (v17_2.toInt.toNat)).toInt ∧ (pI Y12720 b12708 (v17_2.toInt.toNat)).toInt ≤ 122); omega) (by show v17_2.toInt = v17_2.toInt; omega)
          · have h12715 : z12711.toInt = 32 := congrArg Int32.toInt h12715
            refine g_lv (lv' := [(0, .ref a0), (1, .int v17_1), (2, .int v17_2)]) [1, 2, 3] rfl ?_
            exact J44 (by omega) (by omega) (by omega)
  refine g_aload_n C dX12_cutAll_0 rfl 0 rfl ?_
  refine g_aload_n C dX12_cutAll_1 rfl 0 rfl ?_
  refine g_getI C fi_X12_11 (by decide) (ha0).1 (ha0).2 dX12_cutAll_2 ?_
  have h12755 := I.rg (ha0) 2 rfl
  refine g_putI C fi_X12_140 rfl (ha0).1 (ha0).2 dX12_cutAll_5 ?_
  refine gqW (ks := [3]) (I.setI (rgOk.of rfl (by omega))) (EM.setI I (by decide)) (fun Y12756 Iy12757 Xy12758 w12759  => ?_)
  have w12759 : (pI Y12756 a0 3).toInt = (pI P a0 2).toInt := w12759
  have q12760 := Xy12758.keepF 2 (by decide)
  have W12761 := hW.keep I Xy12758 (by decide) (by decide) (by decide)
  have Xz12762 : EM [2, 3, 4, 5, 7, 8] a0 P Y12756 := Xy12758.mono (by decide)
  have h12763 := Xy12758.at ha0
  refine g_aload_n C dX12_cutAll_8 rfl 0 rfl ?_
  refine g_iconst (v := 0) C dX12_cutAll_9 (by decide) ?_
  refine g_putI C fi_X12_11 rfl (h12763).1 (h12763).2 dX12_cutAll_10 ?_
  refine gqW (ks := [2]) (Iy12757.setI (rgOk.of rfl (by decide))) (EM.setI Iy12757 (by decide)) (fun Y12764 Iy12765 Xy12766 w12767  => ?_)
  have w12767 : (pI Y12764 a0 2).toInt = 0 := w12767
  have q12768 := Xy12766.keepF 3 (by decide)
  have W12769 := W12761.keep Iy12757 Xy12766 (by decide) (by decide) (by decide)
  have Xz12770 : EM [2, 3, 4, 5, 7, 8] a0 P Y12764 := EM.tr ha0 Xz12762 (Xy12766.mono (by decide))
  have h12771 := Xy12766.at h12763
  refine g_iconst (v := 0) C dX12_cutAll_13 (by decide) ?_
  refine g_istore_n (lv' := [(1, .int 0), (0, .ref a0)]) C dX12_cutAll_14 rfl (by decide) rfl ?_
  refine g_iconst (v := 0) C dX12_cutAll_15 (by decide) ?_
  refine g_istore_n (lv' := [(2, .int 0), (1, .int 0), (0, .ref a0)]) C dX12_cutAll_16 rfl (by decide) rfl ?_
  refine g_lv (lv' := [(0, .ref a0), (1, .int 0), (2, .int 0)]) [2, 1, 0] rfl ?_
  exact J17 _ Y12764 0 0 (Nat.lt_succ_self _) Iy12765 Xz12770 W12769 (by decide) (by decide) (by omega) (by show 0 ≤ 0; omega)
theorem dX12_draw_32 : decode cX12_draw 32 = .ok (.aload_n 0, 1) := by decide +kernel
theorem dX12_draw_33 : decode cX12_draw 33 = .ok (.iconst 2, 1) := by decide +kernel
theorem dX12_draw_34 : decode cX12_draw 34 = .ok (.invokevirtual 182, 3) := by decide +kernel
theorem dX12_forgetsDraw_0 : decode cX12_forgetsDraw 0 = .ok (.iconst 0, 1) := by decide +kernel
theorem dX12_forgetsDraw_1 : decode cX12_forgetsDraw 1 = .ok (.istore_n 2, 1) := by decide +kernel
theorem dX12_forgetsDraw_2 : decode cX12_forgetsDraw 2 = .ok (.iload_n 2, 1) := by decide +kernel
theorem dX12_forgetsDraw_3 : decode cX12_forgetsDraw 3 = .ok (.bipush 21, 2) := by decide +kernel
theorem dX12_forgetsDraw_5 : decode cX12_forgetsDraw 5 = .ok (.if_icmp .ge 21, 3) := by decide +kernel
theorem dX12_forgetsDraw_8 : decode cX12_forgetsDraw 8 = .ok (.aload_n 0, 1) := by decide +kernel
theorem dX12_forgetsDraw_9 : decode cX12_forgetsDraw 9 = .ok (.getfield 51, 3) := by decide +kernel
theorem dX12_forgetsDraw_12 : decode cX12_forgetsDraw 12 = .ok (.bipush 21, 2) := by decide +kernel
theorem dX12_forgetsDraw_14 : decode cX12_forgetsDraw 14 = .ok (.iload_n 1, 1) := by decide +kernel
theorem dX12_forgetsDraw_15 : decode cX12_forgetsDraw 15 = .ok (.imul, 1) := by decide +kernel
theorem dX12_forgetsDraw_16 : decode cX12_forgetsDraw 16 = .ok (.iload_n 2, 1) := by decide +kernel
theorem dX12_forgetsDraw_17 : decode cX12_forgetsDraw 17 = .ok (.iadd, 1) := by decide +kernel
theorem dX12_forgetsDraw_18 : decode cX12_forgetsDraw 18 = .ok (.iconst (-1), 1) := by decide +kernel
theorem dX12_forgetsDraw_19 : decode cX12_forgetsDraw 19 = .ok (.iastore, 1) := by decide +kernel
theorem dX12_forgetsDraw_20 : decode cX12_forgetsDraw 20 = .ok (.iinc 2 1, 3) := by decide +kernel
theorem dX12_forgetsDraw_23 : decode cX12_forgetsDraw 23 = .ok (.goto (-21), 3) := by decide +kernel
theorem dX12_forgetsDraw_26 : decode cX12_forgetsDraw 26 = .ok (.aload_n 0, 1) := by decide +kernel
theorem dX12_forgetsDraw_27 : decode cX12_forgetsDraw 27 = .ok (.getfield 54, 3) := by decide +kernel
theorem dX12_forgetsDraw_30 : decode cX12_forgetsDraw 30 = .ok (.iload_n 1, 1) := by decide +kernel
theorem dX12_forgetsDraw_31 : decode cX12_forgetsDraw 31 = .ok (.iconst 0, 1) := by decide +kernel
theorem dX12_forgetsDraw_32 : decode cX12_forgetsDraw 32 = .ok (.iastore, 1) := by decide +kernel
theorem dX12_forgetsDraw_33 : decode cX12_forgetsDraw 33 = .ok (.aload_n 0, 1) := by decide +kernel
theorem dX12_forgetsDraw_34 : decode cX12_forgetsDraw 34 = .ok (.getfield 57, 3) := by decide +kernel
theorem dX12_forgetsDraw_37 : decode cX12_forgetsDraw 37 = .ok (.iload_n 1, 1) := by decide +kernel
theorem dX12_forgetsDraw_38 : decode cX12_forgetsDraw 38 = .ok (.iconst 1, 1) := by decide +kernel
theorem dX12_forgetsDraw_39 : decode cX12_forgetsDraw 39 = .ok (.iastore, 1) := by decide +kernel
theorem dX12_forgetsDraw_40 : decode cX12_forgetsDraw 40 = .ok (.aload_n 0, 1) := by decide +kernel
theorem dX12_forgetsDraw_41 : decode cX12_forgetsDraw 41 = .ok (.getfield 60, 3) := by decide +kernel
theorem dX12_forgetsDraw_44 : decode cX12_forgetsDraw 44 = .ok (.iload_n 1, 1) := by decide +kernel
theorem dX12_forgetsDraw_45 : decode cX12_forgetsDraw 45 = .ok (.iconst 0, 1) := by decide +kernel
theorem dX12_forgetsDraw_46 : decode cX12_forgetsDraw 46 = .ok (.iastore, 1) := by decide +kernel
theorem dX12_forgetsDraw_47 : decode cX12_forgetsDraw 47 = .ok (.aload_n 0, 1) := by decide +kernel
theorem dX12_forgetsDraw_48 : decode cX12_forgetsDraw 48 = .ok (.getfield 66, 3) := by decide +kernel
theorem dX12_forgetsDraw_51 : decode cX12_forgetsDraw 51 = .ok (.iload_n 1, 1) := by decide +kernel
theorem dX12_forgetsDraw_52 : decode cX12_forgetsDraw 52 = .ok (.iconst 0, 1) := by decide +kernel
theorem dX12_forgetsDraw_53 : decode cX12_forgetsDraw 53 = .ok (.iastore, 1) := by decide +kernel
theorem dX12_forgetsDraw_54 : decode cX12_forgetsDraw 54 = .ok (.return_, 1) := by decide +kernel
set_option maxHeartbeats 4000000 in
set_option maxRecDepth 100000 in
theorem s_X12_forgetsDraw {P : PP} {a0 : Nat} {a1 : Int32} (I : IM P a0) (ha1 : 0 ≤ a1.toInt ∧ a1.toInt ≤ 2) (hW : MW P a0) : CtrV yX12_forgetsDraw cX12_forgetsDraw 3 none ({ frames := 1, cells := 0, slots := 0, locals := 64 } : Room) 0 0 P [.ref a0, .int a1] (fun P2 => IM P2 a0 ∧ EM [12, 13, 14, 15, 17] a0 P P2 ∧ MW P2 a0 ∧ (∀ b, pR P a0 14 = some b → (pI P2 b (a1.toInt.toNat)).toInt = 1)) := by
  refine enV (lv := [(0, .ref a0), (1, .int a1)]) (by decide) (Nat.le_of_ble_eq_true rfl) rfl (fun E D cy C Ci0 ret => ?_)
  have ha0 := I.2.1
  have J2 : ∀ (n2 : Nat) (P2 : PP) (v2_2 : Int32), (21 - v2_2.toInt).toNat < n2 → (IM P2 a0) → (EM [12, 13, 14, 15, 17] a0 P P2) → (MW P2 a0) → (0 ≤ v2_2.toInt ∧ v2_2.toInt ≤ 21) → G E ({ frames := 1, cells := 0, slots := 0, locals := 64 } : Room) D cy 3 P2 0 0 2 [(0, .ref a0), (1, .int a1), (2, .int v2_2)] [] := by
    intro n2
    induction n2 with
    | zero => intro P2 v2_2 hm2 I2 X2 W2 hv2_2; omega
    | succ n2 ih2 =>
      intro P2 v2_2 hm2 I2 X2 W2 hv2_2
      have h13150 := X2.at ha0
      refine g_iload_n C dX12_forgetsDraw_2 rfl 2 rfl ?_
      refine g_bipush (v := 21) C dX12_forgetsDraw_3 (by decide) ?_
      refine b_icmp_ge C 26 dX12_forgetsDraw_5 (by decide) (fun h13151 => ?_) (fun h13151 => ?_)
      · have h13151 : 21 ≤ v2_2.toInt := h13151
        refine g_aload_n C dX12_forgetsDraw_26 rfl 0 rfl ?_
        obtain ⟨b13152, e13153, h13154⟩ := I2.fld (h13150) 13 13 3 rfl
        refine g_getR C fi_X12_54 rfl e13153 (h13150).1 (h13150).2 dX12_forgetsDraw_27 ?_
        refine g_iload_n C dX12_forgetsDraw_30 rfl 1 rfl ?_
        refine g_iconst (v := 0) C dX12_forgetsDraw_31 (by decide) ?_
        refine g_iast (j := (a1.toInt.toNat)) C h13154.1 h13154.2.1 (ix_in h13154.2.2 (by omega)) dX12_forgetsDraw_32 ?_
        refine gqW (ks := [13]) (I2.setA e13153 h13154 (by decide) (arOk.none rfl)) (EM.setA I2 e13153 rfl (by decide)) (fun Y13155 Iy13156 Xy13157 w13158  => ?_)
        have w13158 : (pI Y13155 b13152 (a1.toInt.toNat)).toInt = 0 := w13158
        have W13159 := W2.keep I2 Xy13157 (by decide) (by decide) (by decide)
        have Xz13160 : EM [12, 13, 14, 15, 17] a0 P Y13155 := EM.tr ha0 X2 (Xy13157.mono (by decide))
        have e13161 := Xy13157.ref h13150 (by decide) e13153
        have h13162 := Xy13157.at h13150
        have h13163 := Xy13157.ar h13154
        refine g_aload_n C dX12_forgetsDraw_33 rfl 0 rfl ?_
        obtain ⟨b13164, e13165, h13166⟩ := Iy13156.fld (h13162) 14 13 3 rfl
        refine g_getR C fi_X12_57 rfl e13165 (h13162).1 (h13162).2 dX12_forgetsDraw_34 ?_
        refine g_iload_n C dX12_forgetsDraw_37 rfl 1 rfl ?_
        refine g_iconst (v := 1) C dX12_forgetsDraw_38 (by decide) ?_
        refine g_iast (j := (a1.toInt.toNat)) C h13166.1 h13166.2.1 (ix_in h13166.2.2 (by omega)) dX12_forgetsDraw_39 ?_
        refine gqX (ks := [14]) (W := (fun P => MW P a0)) (Iy13156.setA e13165 h13166 (by decide) (arOk.of rfl (by decide))) (EM.setA Iy13156 e13165 rfl (by decide)) (W13159.set14 Iy13156 e13165 (by first | exact Or.inl (by omega) | exact Or.inr (by decide))) (fun Y13167 Iy13168 Xy13169 w13170 W13171 => ?_)
        have w13170 : (pI Y13167 b13164 (a1.toInt.toNat)).toInt = 1 := w13170
        have q13172 := Xy13169.keepA e13161 (by decide) rfl (a1.toInt.toNat)
        have Xz13173 : EM [12, 13, 14, 15, 17] a0 P Y13167 := EM.tr ha0 Xz13160 (Xy13169.mono (by decide))
        have e13174 := Xy13169.ref h13162 (by decide) e13161
        have e13175 := Xy13169.ref h13162 (by decide) e13165
        have h13176 := Xy13169.at h13162
        have h13177 := Xy13169.ar h13163
        have h13178 := Xy13169.ar h13166
        refine g_aload_n C dX12_forgetsDraw_40 rfl 0 rfl ?_
        obtain ⟨b13179, e13180, h13181⟩ := Iy13168.fld (h13176) 15 13 3 rfl
        refine g_getR C fi_X12_60 rfl e13180 (h13176).1 (h13176).2 dX12_forgetsDraw_41 ?_
        refine g_iload_n C dX12_forgetsDraw_44 rfl 1 rfl ?_
        refine g_iconst (v := 0) C dX12_forgetsDraw_45 (by decide) ?_
        refine g_iast (j := (a1.toInt.toNat)) C h13181.1 h13181.2.1 (ix_in h13181.2.2 (by omega)) dX12_forgetsDraw_46 ?_
        refine gqW (ks := [15]) (Iy13168.setA e13180 h13181 (by decide) (arOk.of rfl (by decide))) (EM.setA Iy13168 e13180 rfl (by decide)) (fun Y13182 Iy13183 Xy13184 w13185  => ?_)
        have w13185 : (pI Y13182 b13179 (a1.toInt.toNat)).toInt = 0 := w13185
        have q13186 := Xy13184.keepA e13174 (by decide) rfl (a1.toInt.toNat)
        have q13187 := Xy13184.keepA e13175 (by decide) rfl (a1.toInt.toNat)
        have W13188 := W13171.keep Iy13168 Xy13184 (by decide) (by decide) (by decide)
        have Xz13189 : EM [12, 13, 14, 15, 17] a0 P Y13182 := EM.tr ha0 Xz13173 (Xy13184.mono (by decide))
        have e13190 := Xy13184.ref h13176 (by decide) e13174
        have e13191 := Xy13184.ref h13176 (by decide) e13175
        have e13192 := Xy13184.ref h13176 (by decide) e13180
        have h13193 := Xy13184.at h13176
        have h13194 := Xy13184.ar h13177
        have h13195 := Xy13184.ar h13178
        have h13196 := Xy13184.ar h13181
        refine g_aload_n C dX12_forgetsDraw_47 rfl 0 rfl ?_
        obtain ⟨b13197, e13198, h13199⟩ := Iy13183.fld (h13193) 17 13 3 rfl
        refine g_getR C fi_X12_66 rfl e13198 (h13193).1 (h13193).2 dX12_forgetsDraw_48 ?_
        refine g_iload_n C dX12_forgetsDraw_51 rfl 1 rfl ?_
        refine g_iconst (v := 0) C dX12_forgetsDraw_52 (by decide) ?_
        refine g_iast (j := (a1.toInt.toNat)) C h13199.1 h13199.2.1 (ix_in h13199.2.2 (by omega)) dX12_forgetsDraw_53 ?_
        refine gqW (ks := [17]) (Iy13183.setA e13198 h13199 (by decide) (arOk.none rfl)) (EM.setA Iy13183 e13198 rfl (by decide)) (fun Y13200 Iy13201 Xy13202 w13203  => ?_)
        have w13203 : (pI Y13200 b13197 (a1.toInt.toNat)).toInt = 0 := w13203
        have q13204 := Xy13202.keepA e13190 (by decide) rfl (a1.toInt.toNat)
        have q13205 := Xy13202.keepA e13191 (by decide) rfl (a1.toInt.toNat)
        have q13206 := Xy13202.keepA e13192 (by decide) rfl (a1.toInt.toNat)
        have W13207 := W13188.keep Iy13183 Xy13202 (by decide) (by decide) (by decide)
        have Xz13208 : EM [12, 13, 14, 15, 17] a0 P Y13200 := EM.tr ha0 Xz13189 (Xy13202.mono (by decide))
        have e13209 := Xy13202.ref h13193 (by decide) e13190
        have e13210 := Xy13202.ref h13193 (by decide) e13191
        have e13211 := Xy13202.ref h13193 (by decide) e13192
        have e13212 := Xy13202.ref h13193 (by decide) e13198
        have h13213 := Xy13202.at h13193
        have h13214 := Xy13202.ar h13194
        have h13215 := Xy13202.ar h13195
        have h13216 := Xy13202.ar h13196
        have h13217 := Xy13202.ar h13199
        exact ret _ _ _ _ _ dX12_forgetsDraw_54 (by decide) (by decide) ⟨Iy13201, Xz13208, W13207, (fun b9 e9 => by have e8 := EM.ref Xz13208 ha0 (by decide) e9; rw [e13210] at e8; cases e8; show (pI Y13200 b13164 (a1.toInt.toNat)).toInt = 1; omega)⟩
      · have h13151 : v2_2.toInt < 21 := h13151
        refine g_aload_n C dX12_forgetsDraw_8 rfl 0 rfl ?_
        obtain ⟨b13218, e13219, h13220⟩ := I2.fld (h13150) 12 13 63 rfl
        refine g_getR C fi_X12_51 rfl e13219 (h13150).1 (h13150).2 dX12_forgetsDraw_9 ?_
        refine g_bipush (v := 21) C dX12_forgetsDraw_12 (by decide) ?_
        refine g_iload_n C dX12_forgetsDraw_14 rfl 1 rfl ?_
        refine s_imul C dX12_forgetsDraw_15 (by show -2147483648 ≤ 21 * a1.toInt ∧ 21 * a1.toInt ≤ 2147483647; omega) (fun z13221 h13222 => ?_)
        have h13222 : z13221.toInt = 21 * a1.toInt := h13222
        refine g_iload_n C dX12_forgetsDraw_16 rfl 2 rfl ?_
        refine s_iadd C dX12_forgetsDraw_17 (by show -2147483648 ≤ z13221.toInt + v2_2.toInt ∧ z13221.toInt + v2_2.toInt ≤ 2147483647; omega) (fun z13223 h13224 => ?_)
        have h13224 : z13223.toInt = z13221.toInt + v2_2.toInt := h13224
        refine g_iconst (v := (-1)) C dX12_forgetsDraw_18 (by decide) ?_
        refine g_iast (j := (z13223.toInt.toNat)) C h13220.1 h13220.2.1 (ix_in h13220.2.2 (by omega)) dX12_forgetsDraw_19 ?_
        refine gqW (ks := [12]) (I2.setA e13219 h13220 (by decide) (arOk.of rfl (by decide))) (EM.setA I2 e13219 rfl (by decide)) (fun Y13225 Iy13226 Xy13227 w13228  => ?_)
        have w13228 : (pI Y13225 b13218 (z13223.toInt.toNat)).toInt = (-1) := w13228
        have W13229 := W2.keep I2 Xy13227 (by decide) (by decide) (by decide)
        have Xz13230 : EM [12, 13, 14, 15, 17] a0 P Y13225 := EM.tr ha0 X2 (Xy13227.mono (by decide))
        have e13231 := Xy13227.ref h13150 (by decide) e13219
        have h13232 := Xy13227.at h13150
        have h13233 := Xy13227.ar h13220
        refine s_iinc (lv0 := [(0, .ref a0), (1, .int a1)]) (m := 1) C dX12_forgetsDraw_20 2 rfl (by decide) rfl (by decide) (by omega) (fun z13234 h13235 => ?_)
        have h13235 : z13234.toInt = v2_2.toInt + 1 := h13235
        refine g_goto C 2 dX12_forgetsDraw_23 (by decide) ?_
        refine g_lv (lv' := [(0, .ref a0), (1, .int a1), (2, .int z13234)]) [1, 2, 0] rfl ?_
        exact ih2 Y13225 z13234 (by omega) Iy13226 Xz13230 W13229 (by omega)
  refine g_iconst (v := 0) C dX12_forgetsDraw_0 (by decide) ?_
  refine g_istore_n (lv' := [(2, .int 0), (0, .ref a0), (1, .int a1)]) C dX12_forgetsDraw_1 rfl (by decide) rfl ?_
  refine g_lv (lv' := [(0, .ref a0), (1, .int a1), (2, .int 0)]) [1, 2, 0] rfl ?_
  exact J2 _ P 0 (Nat.lt_succ_self _) I EM.rf hW (by decide)
theorem dX12_draw_21 : decode cX12_draw 21 = .ok (.aload_n 0, 1) := by decide +kernel
theorem dX12_draw_22 : decode cX12_draw 22 = .ok (.iconst 0, 1) := by decide +kernel
theorem dX12_draw_23 : decode cX12_draw 23 = .ok (.putfield 11, 3) := by decide +kernel
theorem dX12_draw_26 : decode cX12_draw 26 = .ok (.iconst (-1), 1) := by decide +kernel
theorem dX12_draw_27 : decode cX12_draw 27 = .ok (.ireturn, 1) := by decide +kernel
theorem dX12_draw_37 : decode cX12_draw 37 = .ok (.aload_n 0, 1) := by decide +kernel
theorem dX12_draw_38 : decode cX12_draw 38 = .ok (.aload_n 0, 1) := by decide +kernel
theorem dX12_draw_39 : decode cX12_draw 39 = .ok (.getfield 45, 3) := by decide +kernel
theorem dX12_draw_42 : decode cX12_draw 42 = .ok (.iload_n 1, 1) := by decide +kernel
theorem dX12_draw_43 : decode cX12_draw 43 = .ok (.iaload, 1) := by decide +kernel
theorem dX12_draw_44 : decode cX12_draw 44 = .ok (.putfield 202, 3) := by decide +kernel
theorem dX12_draw_47 : decode cX12_draw 47 = .ok (.aload_n 0, 1) := by decide +kernel
theorem dX12_draw_48 : decode cX12_draw 48 = .ok (.getfield 162, 3) := by decide +kernel
theorem dX12_draw_51 : decode cX12_draw 51 = .ok (.ifCond .ne 22, 3) := by decide +kernel
theorem dX12_draw_54 : decode cX12_draw 54 = .ok (.aload_n 0, 1) := by decide +kernel
theorem dX12_draw_55 : decode cX12_draw 55 = .ok (.getfield 24, 3) := by decide +kernel
theorem dX12_draw_58 : decode cX12_draw 58 = .ok (.aload_n 0, 1) := by decide +kernel
theorem dX12_draw_59 : decode cX12_draw 59 = .ok (.getfield 159, 3) := by decide +kernel
theorem dX12_draw_62 : decode cX12_draw 62 = .ok (.iaload, 1) := by decide +kernel
theorem dX12_draw_63 : decode cX12_draw 63 = .ok (.ifCond .eq 10, 3) := by decide +kernel
theorem dX12_draw_66 : decode cX12_draw 66 = .ok (.aload_n 0, 1) := by decide +kernel
theorem dX12_draw_67 : decode cX12_draw 67 = .ok (.invokevirtual 205, 3) := by decide +kernel
theorem dX12_readLine_0 : decode cX12_readLine 0 = .ok (.aload_n 0, 1) := by decide +kernel
theorem dX12_readLine_1 : decode cX12_readLine 1 = .ok (.iconst 1, 1) := by decide +kernel
theorem dX12_readLine_2 : decode cX12_readLine 2 = .ok (.invokevirtual 172, 3) := by decide +kernel
theorem dX12_isWord_0 : decode cX12_isWord 0 = .ok (.aload_n 0, 1) := by decide +kernel
theorem dX12_isWord_1 : decode cX12_isWord 1 = .ok (.getfield 162, 3) := by decide +kernel
theorem dX12_isWord_4 : decode cX12_isWord 4 = .ok (.ifCond .ne 39, 3) := by decide +kernel
theorem dX12_isWord_7 : decode cX12_isWord 7 = .ok (.aload_n 0, 1) := by decide +kernel
theorem dX12_isWord_8 : decode cX12_isWord 8 = .ok (.getfield 24, 3) := by decide +kernel
theorem dX12_isWord_11 : decode cX12_isWord 11 = .ok (.aload_n 0, 1) := by decide +kernel
theorem dX12_isWord_12 : decode cX12_isWord 12 = .ok (.getfield 159, 3) := by decide +kernel
theorem dX12_isWord_15 : decode cX12_isWord 15 = .ok (.iaload, 1) := by decide +kernel
theorem dX12_isWord_16 : decode cX12_isWord 16 = .ok (.iconst 1, 1) := by decide +kernel
theorem dX12_isWord_17 : decode cX12_isWord 17 = .ok (.if_icmp .ne 26, 3) := by decide +kernel
theorem dX12_isWord_20 : decode cX12_isWord 20 = .ok (.aload_n 0, 1) := by decide +kernel
theorem dX12_isWord_21 : decode cX12_isWord 21 = .ok (.getfield 30, 3) := by decide +kernel
theorem dX12_isWord_24 : decode cX12_isWord 24 = .ok (.aload_n 0, 1) := by decide +kernel
theorem dX12_isWord_25 : decode cX12_isWord 25 = .ok (.getfield 159, 3) := by decide +kernel
theorem dX12_isWord_28 : decode cX12_isWord 28 = .ok (.laload, 1) := by decide +kernel
theorem dX12_isWord_29 : decode cX12_isWord 29 = .ok (.aload_n 0, 1) := by decide +kernel
theorem dX12_isWord_30 : decode cX12_isWord 30 = .ok (.getfield 42, 3) := by decide +kernel
theorem dX12_isWord_33 : decode cX12_isWord 33 = .ok (.iload_n 1, 1) := by decide +kernel
theorem dX12_isWord_34 : decode cX12_isWord 34 = .ok (.laload, 1) := by decide +kernel
theorem dX12_isWord_35 : decode cX12_isWord 35 = .ok (.lcmp, 1) := by decide +kernel
theorem dX12_isWord_36 : decode cX12_isWord 36 = .ok (.ifCond .ne 7, 3) := by decide +kernel
theorem dX12_isWord_39 : decode cX12_isWord 39 = .ok (.iconst 1, 1) := by decide +kernel
theorem dX12_isWord_40 : decode cX12_isWord 40 = .ok (.goto 4, 3) := by decide +kernel
theorem dX12_isWord_43 : decode cX12_isWord 43 = .ok (.iconst 0, 1) := by decide +kernel
theorem dX12_isWord_44 : decode cX12_isWord 44 = .ok (.ireturn, 1) := by decide +kernel
set_option maxHeartbeats 4000000 in
set_option maxRecDepth 100000 in
theorem s_X12_isWord {P : PP} {a0 : Nat} {a1 : Int32} (I : IM P a0) (ha1 : 0 ≤ a1.toInt ∧ a1.toInt ≤ 3) (hW : MW P a0) : CtrI yX12_isWord cX12_isWord 2 (some Jvm.ClassFile.FieldType.boolean) ({ frames := 1, cells := 0, slots := 0, locals := 64 } : Room) 0 0 P [.ref a0, .int a1] (fun r P2 => P = P2 ∧ (0 ≤ r.toInt ∧ r.toInt ≤ 1) ∧ ((r.toInt = 0 ∨ ((pI P2 a0 8).toInt = 0 ∧ (pI P2 a0 7).toInt ≤ 999)) ∧ ∀ b4 b6 b9, pR P2 a0 4 = some b4 → pR P2 a0 6 = some b6 → pR P2 a0 9 = some b9 → r.toInt = iwA P2 a0 b4 b6 b9 a1.toInt.toNat)) := by
  refine enI (lv := [(0, .ref a0), (1, .int a1)]) (by decide) (Nat.le_of_ble_eq_true rfl) rfl (fun E D cy C Ci0 ret => ?_)
  have ha0 := I.2.1
  have h13358 := I.rg ha0 7 rfl
  have h13359 := I.rg ha0 8 rfl
  refine g_aload_n C dX12_isWord_0 rfl 0 rfl ?_
  refine g_getI C fi_X12_162 (by decide) (ha0).1 (ha0).2 dX12_isWord_1 ?_
  refine b_if_ne C 43 dX12_isWord_4 (by decide) (fun h13360 => ?_) (fun h13360 => ?_)
  · have h13360 : (pI P a0 8).toInt ≠ 0 := ti_ne h13360
    refine g_iconst (v := 0) C dX12_isWord_43 (by decide) ?_
    obtain ⟨b13361, e13362, h13363⟩ := I.fld (ha0) 4 13 1002 rfl
    obtain ⟨b13364, e13365, h13366⟩ := I.fld (ha0) 6 14 1002 rfl
    obtain ⟨b13367, e13368, h13369⟩ := I.fld (ha0) 9 14 4 rfl
    exact ret _ _ _ _ _ _ dX12_isWord_44 rfl (by decide) (by decide) ⟨rfl, (by decide), ⟨Or.inl rfl, fun b49 b69 b99 e49 e69 e99 => by rw [e13362] at e49; cases e49; rw [e13365] at e69; cases e69; rw [e13368] at e99; cases e99; show (0 : Int) = iwA P a0 b13361 b13364 b13367 a1.toInt.toNat; unfold iwA; split <;> rename_i h9 <;> first | rfl | (exfalso; have h7 := congrArg Int64.toInt h9.2.2; have h6 := h9.1; have h5 := h9.2.1; omega)⟩⟩
  · have h13360 : (pI P a0 8).toInt = 0 := congrArg Int32.toInt h13360
    refine g_aload_n C dX12_isWord_7 rfl 0 rfl ?_
    obtain ⟨b13370, e13371, h13372⟩ := I.fld (ha0) 4 13 1002 rfl
    refine g_getR C fi_X12_24 rfl e13371 (ha0).1 (ha0).2 dX12_isWord_8 ?_
    refine g_aload_n C dX12_isWord_11 rfl 0 rfl ?_
    refine g_getI C fi_X12_159 (by decide) (ha0).1 (ha0).2 dX12_isWord_12 ?_
    refine g_iald (j := ((pI P a0 7).toInt.toNat)) C h13372.1 h13372.2.1 (ix_in h13372.2.2 (by omega)) dX12_isWord_15 ?_
    have h13373 := I.arr e13371 rfl ((pI P a0 7).toInt.toNat)
    refine g_iconst (v := 1) C dX12_isWord_16 (by decide) ?_
    have hs13374 := I.s1000 e13371 (j := (pI P a0 7).toInt) (by omega)
    refine b_icmp_ne C 43 dX12_isWord_17 (by decide) (fun h13375 => ?_) (fun h13375 => ?_)
    · have h13375 : (pI P b13370 ((pI P a0 7).toInt.toNat)).toInt ≠ 1 := ti_ne h13375
      refine g_iconst (v := 0) C dX12_isWord_43 (by decide) ?_
      obtain ⟨b13376, e13377, h13378⟩ := I.fld (ha0) 6 14 1002 rfl
      obtain ⟨b13379, e13380, h13381⟩ := I.fld (ha0) 9 14 4 rfl
      exact ret _ _ _ _ _ _ dX12_isWord_44 rfl (by decide) (by decide) ⟨rfl, (by decide), ⟨Or.inl rfl, fun b49 b69 b99 e49 e69 e99 => by rw [e13371] at e49; cases e49; rw [e13377] at e69; cases e69; rw [e13380] at e99; cases e99; show (0 : Int) = iwA P a0 b13370 b13376 b13379 a1.toInt.toNat; unfold iwA; split <;> rename_i h9 <;> first | rfl | (exfalso; have h7 := congrArg Int64.toInt h9.2.2; have h6 := h9.1; have h5 := h9.2.1; omega)⟩⟩
    · have h13375 : (pI P b13370 ((pI P a0 7).toInt.toNat)).toInt = 1 := congrArg Int32.toInt h13375
      refine g_aload_n C dX12_isWord_20 rfl 0 rfl ?_
      obtain ⟨b13382, e13383, h13384⟩ := I.fld (ha0) 6 14 1002 rfl
      refine g_getR C fi_X12_30 rfl e13383 (ha0).1 (ha0).2 dX12_isWord_21 ?_
      refine g_aload_n C dX12_isWord_24 rfl 0 rfl ?_
      refine g_getI C fi_X12_159 (by decide) (ha0).1 (ha0).2 dX12_isWord_25 ?_
      refine g_lald (j := ((pI P a0 7).toInt.toNat)) C h13384.1 h13384.2.1 (ix_in h13384.2.2 (by omega)) dX12_isWord_28 ?_
      refine g_topl (fun l13385 h13386 => ?_)
      have hl13387 : l13385.toInt = (pJ P b13382 ((pI P a0 7).toInt.toNat)).toInt := congrArg Int64.toInt h13386
      refine g_aload_n C dX12_isWord_29 rfl 0 rfl ?_
      obtain ⟨b13388, e13389, h13390⟩ := I.fld (ha0) 9 14 4 rfl
      refine g_getR C fi_X12_42 rfl e13389 (ha0).1 (ha0).2 dX12_isWord_30 ?_
      refine g_iload_n C dX12_isWord_33 rfl 1 rfl ?_
      refine g_lald (j := (a1.toInt.toNat)) C h13390.1 h13390.2.1 (ix_in h13390.2.2 (by omega)) dX12_isWord_34 ?_
      refine g_topl (fun l13391 h13392 => ?_)
      have hl13393 : l13391.toInt = (pJ P b13388 (a1.toInt.toNat)).toInt := congrArg Int64.toInt h13392
      refine g_lcmp C dX12_isWord_35 ?_
      refine g_topi (fun z13394 h13395 => ?_)
      have hc13396 := cmp_or h13395
      have h13397 := cmp_rg h13395
      refine b_if_ne C 43 dX12_isWord_36 (by decide) (fun h13398 => ?_) (fun h13398 => ?_)
      · have h13398 : z13394.toInt ≠ 0 := ti_ne h13398
        refine g_iconst (v := 0) C dX12_isWord_43 (by decide) ?_
        exact ret _ _ _ _ _ _ dX12_isWord_44 rfl (by decide) (by decide) ⟨rfl, (by decide), ⟨Or.inl rfl, fun b49 b69 b99 e49 e69 e99 => by rw [e13371] at e49; cases e49; rw [e13383] at e69; cases e69; rw [e13389] at e99; cases e99; show (0 : Int) = iwA P a0 b13370 b13382 b13388 a1.toInt.toNat; unfold iwA; split <;> rename_i h9 <;> first | rfl | (exfalso; have h7 := congrArg Int64.toInt h9.2.2; have h6 := h9.1; have h5 := h9.2.1; omega)⟩⟩
      · have h13398 : z13394.toInt = 0 := congrArg Int32.toInt h13398
        refine g_iconst (v := 1) C dX12_isWord_39 (by decide) ?_
        refine g_goto C 44 dX12_isWord_40 (by decide) ?_
        exact ret _ _ _ _ _ _ dX12_isWord_44 rfl (by decide) (by decide) ⟨rfl, (by decide), ⟨Or.inr ⟨by omega, by omega⟩, fun b49 b69 b99 e49 e69 e99 => by rw [e13371] at e49; cases e49; rw [e13383] at e69; cases e69; rw [e13389] at e99; cases e99; show (1 : Int) = iwA P a0 b13370 b13382 b13388 a1.toInt.toNat; unfold iwA; split <;> rename_i h9 <;> first | rfl | exact absurd ⟨by omega, by omega, Int64.toInt_inj.mp (by omega)⟩ h9⟩⟩
theorem dX12_readLine_5 : decode cX12_readLine 5 = .ok (.ifCond .eq 12, 3) := by decide +kernel
theorem dX12_readLine_8 : decode cX12_readLine 8 = .ok (.aload_n 0, 1) := by decide +kernel
theorem dX12_readLine_9 : decode cX12_readLine 9 = .ok (.getfield 54, 3) := by decide +kernel
theorem dX12_readLine_12 : decode cX12_readLine 12 = .ok (.iconst 2, 1) := by decide +kernel
theorem dX12_readLine_13 : decode cX12_readLine 13 = .ok (.iaload, 1) := by decide +kernel
theorem dX12_readLine_14 : decode cX12_readLine 14 = .ok (.ifCond .gt 20, 3) := by decide +kernel
theorem dX12_readLine_17 : decode cX12_readLine 17 = .ok (.aload_n 0, 1) := by decide +kernel
theorem dX12_readLine_18 : decode cX12_readLine 18 = .ok (.iconst 3, 1) := by decide +kernel
theorem dX12_readLine_19 : decode cX12_readLine 19 = .ok (.invokevirtual 172, 3) := by decide +kernel
theorem dX12_readLine_22 : decode cX12_readLine 22 = .ok (.ifCond .eq 16, 3) := by decide +kernel
theorem dX12_readLine_25 : decode cX12_readLine 25 = .ok (.aload_n 0, 1) := by decide +kernel
theorem dX12_readLine_26 : decode cX12_readLine 26 = .ok (.getfield 66, 3) := by decide +kernel
theorem dX12_readLine_29 : decode cX12_readLine 29 = .ok (.iconst 2, 1) := by decide +kernel
theorem dX12_readLine_30 : decode cX12_readLine 30 = .ok (.iaload, 1) := by decide +kernel
theorem dX12_readLine_31 : decode cX12_readLine 31 = .ok (.ifCond .le 7, 3) := by decide +kernel
theorem dX12_readLine_34 : decode cX12_readLine 34 = .ok (.iconst 1, 1) := by decide +kernel
theorem dX12_readLine_35 : decode cX12_readLine 35 = .ok (.goto 4, 3) := by decide +kernel
theorem dX12_readLine_38 : decode cX12_readLine 38 = .ok (.iconst 0, 1) := by decide +kernel
theorem dX12_readLine_39 : decode cX12_readLine 39 = .ok (.istore_n 1, 1) := by decide +kernel
theorem dX12_readLine_40 : decode cX12_readLine 40 = .ok (.aload_n 0, 1) := by decide +kernel
theorem dX12_readLine_41 : decode cX12_readLine 41 = .ok (.iconst 0, 1) := by decide +kernel
theorem dX12_readLine_42 : decode cX12_readLine 42 = .ok (.invokevirtual 172, 3) := by decide +kernel
theorem dX12_readLine_45 : decode cX12_readLine 45 = .ok (.ifCond .ne 35, 3) := by decide +kernel
theorem dX12_readLine_48 : decode cX12_readLine 48 = .ok (.aload_n 0, 1) := by decide +kernel
theorem dX12_readLine_49 : decode cX12_readLine 49 = .ok (.iconst 1, 1) := by decide +kernel
theorem dX12_readLine_50 : decode cX12_readLine 50 = .ok (.invokevirtual 172, 3) := by decide +kernel
theorem dX12_readLine_53 : decode cX12_readLine 53 = .ok (.ifCond .ne 27, 3) := by decide +kernel
theorem dX12_readLine_56 : decode cX12_readLine 56 = .ok (.aload_n 0, 1) := by decide +kernel
theorem dX12_readLine_57 : decode cX12_readLine 57 = .ok (.iconst 2, 1) := by decide +kernel
theorem dX12_readLine_58 : decode cX12_readLine 58 = .ok (.invokevirtual 172, 3) := by decide +kernel
theorem dX12_readLine_61 : decode cX12_readLine 61 = .ok (.ifCond .ne 19, 3) := by decide +kernel
theorem dX12_readLine_64 : decode cX12_readLine 64 = .ok (.aload_n 0, 1) := by decide +kernel
theorem dX12_readLine_65 : decode cX12_readLine 65 = .ok (.iconst 3, 1) := by decide +kernel
theorem dX12_readLine_66 : decode cX12_readLine 66 = .ok (.invokevirtual 172, 3) := by decide +kernel
theorem dX12_readLine_69 : decode cX12_readLine 69 = .ok (.ifCond .ne 11, 3) := by decide +kernel
theorem dX12_readLine_72 : decode cX12_readLine 72 = .ok (.aload_n 0, 1) := by decide +kernel
theorem dX12_readLine_73 : decode cX12_readLine 73 = .ok (.iconst 1, 1) := by decide +kernel
theorem dX12_readLine_74 : decode cX12_readLine 74 = .ok (.invokevirtual 168, 3) := by decide +kernel
theorem dX12_wrong_0 : decode cX12_wrong 0 = .ok (.aload_n 0, 1) := by decide +kernel
theorem dX12_wrong_1 : decode cX12_wrong 1 = .ok (.getfield 162, 3) := by decide +kernel
theorem dX12_wrong_4 : decode cX12_wrong 4 = .ok (.ifCond .ne 21, 3) := by decide +kernel
theorem dX12_wrong_7 : decode cX12_wrong 7 = .ok (.aload_n 0, 1) := by decide +kernel
theorem dX12_wrong_8 : decode cX12_wrong 8 = .ok (.iload_n 1, 1) := by decide +kernel
theorem dX12_wrong_9 : decode cX12_wrong 9 = .ok (.bipush 16, 2) := by decide +kernel
theorem dX12_wrong_11 : decode cX12_wrong 11 = .ok (.aload_n 0, 1) := by decide +kernel
theorem dX12_wrong_12 : decode cX12_wrong 12 = .ok (.getfield 27, 3) := by decide +kernel
theorem dX12_wrong_15 : decode cX12_wrong 15 = .ok (.aload_n 0, 1) := by decide +kernel
theorem dX12_wrong_16 : decode cX12_wrong 16 = .ok (.getfield 159, 3) := by decide +kernel
theorem dX12_wrong_19 : decode cX12_wrong 19 = .ok (.iaload, 1) := by decide +kernel
theorem dX12_wrong_20 : decode cX12_wrong 20 = .ok (.imul, 1) := by decide +kernel
theorem dX12_wrong_21 : decode cX12_wrong 21 = .ok (.iadd, 1) := by decide +kernel
theorem dX12_wrong_22 : decode cX12_wrong 22 = .ok (.putfield 162, 3) := by decide +kernel
theorem dX12_wrong_25 : decode cX12_wrong 25 = .ok (.return_, 1) := by decide +kernel
set_option maxHeartbeats 4000000 in
set_option maxRecDepth 100000 in
theorem s_X12_wrong {P : PP} {a0 : Nat} {a1 : Int32} (I : IM P a0) (ha1 : 1 ≤ a1.toInt ∧ a1.toInt ≤ 5) (hW : MW P a0) : CtrV yX12_wrong cX12_wrong 2 none ({ frames := 1, cells := 0, slots := 0, locals := 64 } : Room) 0 0 P [.ref a0, .int a1] (fun P2 => IM P2 a0 ∧ EM [8] a0 P P2 ∧ MW P2 a0 ∧ (1 ≤ (pI P2 a0 8).toInt) ∧ ((pI P a0 8).toInt ≤ (pI P2 a0 8).toInt)) := by
  refine enV (lv := [(0, .ref a0), (1, .int a1)]) (by decide) (Nat.le_of_ble_eq_true rfl) rfl (fun E D cy C Ci0 ret => ?_)
  have ha0 := I.2.1
  have h13512 := I.rg ha0 7 rfl
  have h13513 := I.rg ha0 8 rfl
  refine g_aload_n C dX12_wrong_0 rfl 0 rfl ?_
  refine g_getI C fi_X12_162 (by decide) (ha0).1 (ha0).2 dX12_wrong_1 ?_
  refine b_if_ne C 25 dX12_wrong_4 (by decide) (fun h13514 => ?_) (fun h13514 => ?_)
  · have h13514 : (pI P a0 8).toInt ≠ 0 := ti_ne h13514
    exact ret _ _ _ _ _ dX12_wrong_25 (by decide) (by decide) ⟨I, EM.rf, hW, (by show 1 ≤ (pI P a0 8).toInt; omega), (by show (pI P a0 8).toInt ≤ (pI P a0 8).toInt; omega)⟩
  · have h13514 : (pI P a0 8).toInt = 0 := congrArg Int32.toInt h13514
    refine g_aload_n C dX12_wrong_7 rfl 0 rfl ?_
    refine g_iload_n C dX12_wrong_8 rfl 1 rfl ?_
    refine g_bipush (v := 16) C dX12_wrong_9 (by decide) ?_
    refine g_aload_n C dX12_wrong_11 rfl 0 rfl ?_
    obtain ⟨b13515, e13516, h13517⟩ := I.fld (ha0) 5 13 1002 rfl
    refine g_getR C fi_X12_27 rfl e13516 (ha0).1 (ha0).2 dX12_wrong_12 ?_
    refine g_aload_n C dX12_wrong_15 rfl 0 rfl ?_
    refine g_getI C fi_X12_159 (by decide) (ha0).1 (ha0).2 dX12_wrong_16 ?_
    refine g_iald (j := ((pI P a0 7).toInt.toNat)) C h13517.1 h13517.2.1 (ix_in h13517.2.2 (by omega)) dX12_wrong_19 ?_
    have h13518 := I.arr e13516 rfl ((pI P a0 7).toInt.toNat)
    refine s_imul C dX12_wrong_20 (by show -2147483648 ≤ 16 * (pI P b13515 ((pI P a0 7).toInt.toNat)).toInt ∧ 16 * (pI P b13515 ((pI P a0 7).toInt.toNat)).toInt ≤ 2147483647; omega) (fun z13519 h13520 => ?_)
    have h13520 : z13519.toInt = 16 * (pI P b13515 ((pI P a0 7).toInt.toNat)).toInt := h13520
    refine s_iadd C dX12_wrong_21 (by show -2147483648 ≤ a1.toInt + z13519.toInt ∧ a1.toInt + z13519.toInt ≤ 2147483647; omega) (fun z13521 h13522 => ?_)
    have h13522 : z13521.toInt = a1.toInt + z13519.toInt := h13522
    refine g_putI C fi_X12_162 rfl (ha0).1 (ha0).2 dX12_wrong_22 ?_
    refine gqW (ks := [8]) (I.setI (rgOk.of rfl (by omega))) (EM.setI I (by decide)) (fun Y13523 Iy13524 Xy13525 w13526  => ?_)
    have w13526 : (pI Y13523 a0 8).toInt = z13521.toInt := w13526
    have q13527 := Xy13525.keepF 7 (by decide)
    have W13528 := hW.keep I Xy13525 (by decide) (by decide) (by decide)
    have Xz13529 : EM [8] a0 P Y13523 := Xy13525.mono (by decide)
    have h13530 := Xy13525.at ha0
    exact ret _ _ _ _ _ dX12_wrong_25 (by decide) (by decide) ⟨Iy13524, Xz13529, W13528, (by show 1 ≤ (pI Y13523 a0 8).toInt; omega), (by show (pI P a0 8).toInt ≤ (pI Y13523 a0 8).toInt; omega)⟩
theorem dX12_readLine_77 : decode cX12_readLine 77 = .ok (.goto 38, 3) := by decide +kernel
theorem dX12_readLine_80 : decode cX12_readLine 80 = .ok (.iload_n 1, 1) := by decide +kernel
theorem dX12_readLine_81 : decode cX12_readLine 81 = .ok (.ifCond .eq 11, 3) := by decide +kernel
theorem dX12_readLine_84 : decode cX12_readLine 84 = .ok (.aload_n 0, 1) := by decide +kernel
theorem dX12_readLine_85 : decode cX12_readLine 85 = .ok (.iconst 3, 1) := by decide +kernel
theorem dX12_readLine_86 : decode cX12_readLine 86 = .ok (.invokevirtual 168, 3) := by decide +kernel
theorem dX12_readLine_89 : decode cX12_readLine 89 = .ok (.goto 26, 3) := by decide +kernel
theorem dX12_readLine_92 : decode cX12_readLine 92 = .ok (.aload_n 0, 1) := by decide +kernel
theorem dX12_readLine_93 : decode cX12_readLine 93 = .ok (.iconst 2, 1) := by decide +kernel
theorem dX12_readLine_94 : decode cX12_readLine 94 = .ok (.invokevirtual 172, 3) := by decide +kernel
theorem dX12_readLine_97 : decode cX12_readLine 97 = .ok (.ifCond .eq 18, 3) := by decide +kernel
theorem dX12_readLine_100 : decode cX12_readLine 100 = .ok (.aload_n 0, 1) := by decide +kernel
theorem dX12_readLine_101 : decode cX12_readLine 101 = .ok (.getfield 60, 3) := by decide +kernel
theorem dX12_readLine_104 : decode cX12_readLine 104 = .ok (.iconst 2, 1) := by decide +kernel
theorem dX12_readLine_105 : decode cX12_readLine 105 = .ok (.iaload, 1) := by decide +kernel
theorem dX12_readLine_106 : decode cX12_readLine 106 = .ok (.iconst 4, 1) := by decide +kernel
theorem dX12_readLine_107 : decode cX12_readLine 107 = .ok (.if_icmp .ne 8, 3) := by decide +kernel
theorem dX12_readLine_110 : decode cX12_readLine 110 = .ok (.aload_n 0, 1) := by decide +kernel
theorem dX12_readLine_111 : decode cX12_readLine 111 = .ok (.iconst 5, 1) := by decide +kernel
theorem dX12_readLine_112 : decode cX12_readLine 112 = .ok (.invokevirtual 168, 3) := by decide +kernel
theorem dX12_readLine_115 : decode cX12_readLine 115 = .ok (.aload_n 0, 1) := by decide +kernel
theorem dX12_readLine_116 : decode cX12_readLine 116 = .ok (.getfield 162, 3) := by decide +kernel
theorem dX12_readLine_119 : decode cX12_readLine 119 = .ok (.ifCond .le 4, 3) := by decide +kernel
theorem dX12_readLine_123 : decode cX12_readLine 123 = .ok (.aload_n 0, 1) := by decide +kernel
theorem dX12_readLine_124 : decode cX12_readLine 124 = .ok (.iconst 0, 1) := by decide +kernel
theorem dX12_readLine_125 : decode cX12_readLine 125 = .ok (.invokevirtual 175, 3) := by decide +kernel
theorem dX12_hasWord_0 : decode cX12_hasWord 0 = .ok (.aload_n 0, 1) := by decide +kernel
theorem dX12_hasWord_1 : decode cX12_hasWord 1 = .ok (.iload_n 1, 1) := by decide +kernel
theorem dX12_hasWord_2 : decode cX12_hasWord 2 = .ok (.invokevirtual 172, 3) := by decide +kernel
theorem dX12_hasWord_5 : decode cX12_hasWord 5 = .ok (.istore_n 2, 1) := by decide +kernel
theorem dX12_hasWord_6 : decode cX12_hasWord 6 = .ok (.aload_n 0, 1) := by decide +kernel
theorem dX12_hasWord_7 : decode cX12_hasWord 7 = .ok (.dup, 1) := by decide +kernel
theorem dX12_hasWord_8 : decode cX12_hasWord 8 = .ok (.getfield 159, 3) := by decide +kernel
theorem dX12_hasWord_11 : decode cX12_hasWord 11 = .ok (.iload_n 2, 1) := by decide +kernel
theorem dX12_hasWord_12 : decode cX12_hasWord 12 = .ok (.ifCond .eq 7, 3) := by decide +kernel
theorem dX12_hasWord_15 : decode cX12_hasWord 15 = .ok (.iconst 1, 1) := by decide +kernel
theorem dX12_hasWord_16 : decode cX12_hasWord 16 = .ok (.goto 4, 3) := by decide +kernel
theorem dX12_hasWord_19 : decode cX12_hasWord 19 = .ok (.iconst 0, 1) := by decide +kernel
theorem dX12_hasWord_20 : decode cX12_hasWord 20 = .ok (.iadd, 1) := by decide +kernel
theorem dX12_hasWord_21 : decode cX12_hasWord 21 = .ok (.putfield 159, 3) := by decide +kernel
theorem dX12_hasWord_24 : decode cX12_hasWord 24 = .ok (.iload_n 2, 1) := by decide +kernel
theorem dX12_hasWord_25 : decode cX12_hasWord 25 = .ok (.ireturn, 1) := by decide +kernel
set_option maxHeartbeats 4000000 in
set_option maxRecDepth 100000 in
theorem s_X12_hasWord {P : PP} {a0 : Nat} {a1 : Int32} (I : IM P a0) (ha1 : 0 ≤ a1.toInt ∧ a1.toInt ≤ 3) (hW : MW P a0) : CtrI yX12_hasWord cX12_hasWord 3 (some Jvm.ClassFile.FieldType.boolean) ({ frames := 2, cells := 0, slots := 0, locals := 128 } : Room) 0 0 P [.ref a0, .int a1] (fun r P2 => IM P2 a0 ∧ EM [7] a0 P P2 ∧ MW P2 a0 ∧ (0 ≤ r.toInt ∧ r.toInt ≤ 1) ∧ (((r.toInt = 0 ∨ ((pI P a0 8).toInt = 0 ∧ (pI P a0 7).toInt ≤ 999)) ∧ (pI P2 a0 7).toInt = (pI P a0 7).toInt + r.toInt) ∧ ∀ b4 b6 b9, pR P a0 4 = some b4 → pR P a0 6 = some b6 → pR P a0 9 = some b9 → r.toInt = iwA P a0 b4 b6 b9 a1.toInt.toNat ∧ (r.toInt = 0 → ∀ w, iwA P2 a0 b4 b6 b9 w = iwA P a0 b4 b6 b9 w))) := by
  refine enI (lv := [(0, .ref a0), (1, .int a1)]) (by decide) (Nat.le_of_ble_eq_true rfl) rfl (fun E D cy C Ci0 ret => ?_)
  have ha0 := I.2.1
  have h13770 := I.rg ha0 7 rfl
  have h13771 := I.rg ha0 8 rfl
  refine g_aload_n C dX12_hasWord_0 rfl 0 rfl ?_
  refine g_iload_n C dX12_hasWord_1 rfl 1 rfl ?_
  refine g_callVI (rest := []) C mv_X12_172 [.int a1] (s_X12_isWord I (by omega) hW) (ha0).1 (ha0).2 rfl rfl (by decide) (Nat.le_of_ble_eq_true rfl) (by decide) dX12_hasWord_2 (fun r13772 Y13773 h13774 => ?_)
  obtain ⟨rfl, h13774⟩ := h13774
  obtain ⟨h13774, hi13775⟩ := h13774
  obtain ⟨b13776, e13777, h13778⟩ := I.fld (ha0) 4 13 1002 rfl
  obtain ⟨b13779, e13780, h13781⟩ := I.fld (ha0) 6 14 1002 rfl
  obtain ⟨b13782, e13783, h13784⟩ := I.fld (ha0) 9 14 4 rfl
  obtain ⟨hi13775, hw13785⟩ := hi13775
  have hi13775 : r13772.toInt = 0 ∨ ((pI P a0 8).toInt = 0 ∧ (pI P a0 7).toInt ≤ 999) := hi13775
  have hw13785 : r13772.toInt = iwA P a0 b13776 b13779 b13782 a1.toInt.toNat := hw13785 b13776 b13779 b13782 e13777 e13780 e13783
  have h13774 : 0 ≤ r13772.toInt ∧ r13772.toInt ≤ 1 := h13774
  refine g_istore_n (lv' := [(2, .int r13772), (0, .ref a0), (1, .int a1)]) C dX12_hasWord_5 rfl (by decide) rfl ?_
  refine g_aload_n C dX12_hasWord_6 rfl 1 rfl ?_
  refine g_dup C dX12_hasWord_7 rfl ?_
  refine g_getI C fi_X12_159 (by decide) (ha0).1 (ha0).2 dX12_hasWord_8 ?_
  refine g_iload_n C dX12_hasWord_11 rfl 0 rfl ?_
  refine b_if_eq C 19 dX12_hasWord_12 (by decide) (fun h13786 => ?_) (fun h13786 => ?_)
  · have h13786 : r13772.toInt = 0 := congrArg Int32.toInt h13786
    refine g_iconst (v := 0) C dX12_hasWord_19 (by decide) ?_
    refine s_iadd C dX12_hasWord_20 (by show -2147483648 ≤ (pI P a0 7).toInt + 0 ∧ (pI P a0 7).toInt + 0 ≤ 2147483647; omega) (fun z13787 h13788 => ?_)
    have h13788 : z13787.toInt = (pI P a0 7).toInt + 0 := h13788
    refine g_putI C fi_X12_159 rfl (ha0).1 (ha0).2 dX12_hasWord_21 ?_
    refine gqWJ (ks := [7]) (I.setI (rgOk.of rfl (by omega))) (EM.setI I (by decide)) (fun Y13789 Iy13790 Xy13791 w13792 hJ13793 => ?_)
    have w13792 : (pI Y13789 a0 7).toInt = z13787.toInt := w13792
    have q13794 := Xy13791.keepF 8 (by decide)
    have W13795 := hW.keep I Xy13791 (by decide) (by decide) (by decide)
    have Xz13796 : EM [7] a0 P Y13789 := Xy13791.mono (by decide)
    have h13797 := Xy13791.at ha0
    refine g_iload_n C dX12_hasWord_24 rfl 0 rfl ?_
    exact ret _ _ _ _ _ _ dX12_hasWord_25 (nar_b (b01 (by omega))) (by decide) (by decide) ⟨Iy13790, Xz13796, W13795, (by omega), ⟨⟨by omega, by show (pI Y13789 a0 7).toInt = (pI P a0 7).toInt + r13772.toInt; omega⟩, fun b49 b69 b99 e49 e69 e99 => by rw [e13777] at e49; cases e49; rw [e13780] at e69; cases e69; rw [e13783] at e99; cases e99; refine ⟨by omega, fun h9 w => iw_keep Xy13791 (by assumption) hJ13793 (by omega) w⟩⟩⟩
  · have h13786 : r13772.toInt ≠ 0 := ti_ne h13786
    refine g_iconst (v := 1) C dX12_hasWord_15 (by decide) ?_
    refine g_goto C 20 dX12_hasWord_16 (by decide) ?_
    refine s_iadd C dX12_hasWord_20 (by show -2147483648 ≤ (pI P a0 7).toInt + 1 ∧ (pI P a0 7).toInt + 1 ≤ 2147483647; omega) (fun z13798 h13799 => ?_)
    have h13799 : z13798.toInt = (pI P a0 7).toInt + 1 := h13799
    refine g_putI C fi_X12_159 rfl (ha0).1 (ha0).2 dX12_hasWord_21 ?_
    refine gqWJ (ks := [7]) (I.setI (rgOk.of rfl (by omega))) (EM.setI I (by decide)) (fun Y13800 Iy13801 Xy13802 w13803 hJ13804 => ?_)
    have w13803 : (pI Y13800 a0 7).toInt = z13798.toInt := w13803
    have q13805 := Xy13802.keepF 8 (by decide)
    have W13806 := hW.keep I Xy13802 (by decide) (by decide) (by decide)
    have Xz13807 : EM [7] a0 P Y13800 := Xy13802.mono (by decide)
    have h13808 := Xy13802.at ha0
    refine g_iload_n C dX12_hasWord_24 rfl 0 rfl ?_
    exact ret _ _ _ _ _ _ dX12_hasWord_25 (nar_b (b01 (by omega))) (by decide) (by decide) ⟨Iy13801, Xz13807, W13806, (by omega), ⟨⟨by omega, by show (pI Y13800 a0 7).toInt = (pI P a0 7).toInt + r13772.toInt; omega⟩, fun b49 b69 b99 e49 e69 e99 => by rw [e13777] at e49; cases e49; rw [e13780] at e69; cases e69; rw [e13783] at e99; cases e99; refine ⟨by omega, fun h9 w => iw_keep Xy13802 (by assumption) hJ13804 (by omega) w⟩⟩⟩
theorem dX12_readLine_128 : decode cX12_readLine 128 = .ok (.ifCond .eq 10, 3) := by decide +kernel
theorem dX12_readLine_138 : decode cX12_readLine 138 = .ok (.aload_n 0, 1) := by decide +kernel
theorem dX12_readLine_139 : decode cX12_readLine 139 = .ok (.iconst 1, 1) := by decide +kernel
theorem dX12_readLine_140 : decode cX12_readLine 140 = .ok (.invokevirtual 175, 3) := by decide +kernel
theorem dX12_readLine_143 : decode cX12_readLine 143 = .ok (.ifCond .eq 32, 3) := by decide +kernel
theorem dX12_readLine_175 : decode cX12_readLine 175 = .ok (.aload_n 0, 1) := by decide +kernel
theorem dX12_readLine_176 : decode cX12_readLine 176 = .ok (.iconst 2, 1) := by decide +kernel
theorem dX12_readLine_177 : decode cX12_readLine 177 = .ok (.invokevirtual 175, 3) := by decide +kernel
theorem dX12_readLine_180 : decode cX12_readLine 180 = .ok (.ifCond .eq 10, 3) := by decide +kernel
theorem dX12_readLine_190 : decode cX12_readLine 190 = .ok (.aload_n 0, 1) := by decide +kernel
theorem dX12_readLine_191 : decode cX12_readLine 191 = .ok (.dup, 1) := by decide +kernel
theorem dX12_readLine_192 : decode cX12_readLine 192 = .ok (.getfield 159, 3) := by decide +kernel
theorem dX12_readLine_195 : decode cX12_readLine 195 = .ok (.iconst 1, 1) := by decide +kernel
theorem dX12_readLine_196 : decode cX12_readLine 196 = .ok (.iadd, 1) := by decide +kernel
theorem dX12_readLine_197 : decode cX12_readLine 197 = .ok (.putfield 159, 3) := by decide +kernel
theorem dX12_readLine_200 : decode cX12_readLine 200 = .ok (.aload_n 0, 1) := by decide +kernel
theorem dX12_readLine_201 : decode cX12_readLine 201 = .ok (.getfield 66, 3) := by decide +kernel
theorem dX12_readLine_204 : decode cX12_readLine 204 = .ok (.iconst 2, 1) := by decide +kernel
theorem dX12_readLine_205 : decode cX12_readLine 205 = .ok (.aload_n 0, 1) := by decide +kernel
theorem dX12_readLine_206 : decode cX12_readLine 206 = .ok (.iconst 1, 1) := by decide +kernel
theorem dX12_readLine_207 : decode cX12_readLine 207 = .ok (.sipush 996, 3) := by decide +kernel
theorem dX12_readLine_210 : decode cX12_readLine 210 = .ok (.invokevirtual 211, 3) := by decide +kernel
theorem dX12_takeNumber_0 : decode cX12_takeNumber 0 = .ok (.aload_n 0, 1) := by decide +kernel
theorem dX12_takeNumber_1 : decode cX12_takeNumber 1 = .ok (.getfield 162, 3) := by decide +kernel
theorem dX12_takeNumber_4 : decode cX12_takeNumber 4 = .ok (.ifCond .ne 24, 3) := by decide +kernel
theorem dX12_takeNumber_7 : decode cX12_takeNumber 7 = .ok (.aload_n 0, 1) := by decide +kernel
theorem dX12_takeNumber_8 : decode cX12_takeNumber 8 = .ok (.getfield 24, 3) := by decide +kernel
theorem dX12_takeNumber_11 : decode cX12_takeNumber 11 = .ok (.aload_n 0, 1) := by decide +kernel
theorem dX12_takeNumber_12 : decode cX12_takeNumber 12 = .ok (.getfield 159, 3) := by decide +kernel
theorem dX12_takeNumber_15 : decode cX12_takeNumber 15 = .ok (.iaload, 1) := by decide +kernel
theorem dX12_takeNumber_16 : decode cX12_takeNumber 16 = .ok (.iconst 2, 1) := by decide +kernel
theorem dX12_takeNumber_17 : decode cX12_takeNumber 17 = .ok (.if_icmp .eq 11, 3) := by decide +kernel
theorem dX12_takeNumber_20 : decode cX12_takeNumber 20 = .ok (.aload_n 0, 1) := by decide +kernel
theorem dX12_takeNumber_21 : decode cX12_takeNumber 21 = .ok (.iconst 1, 1) := by decide +kernel
theorem dX12_takeNumber_22 : decode cX12_takeNumber 22 = .ok (.invokevirtual 168, 3) := by decide +kernel
theorem dX12_takeNumber_25 : decode cX12_takeNumber 25 = .ok (.goto 45, 3) := by decide +kernel
theorem dX12_takeNumber_28 : decode cX12_takeNumber 28 = .ok (.aload_n 0, 1) := by decide +kernel
theorem dX12_takeNumber_29 : decode cX12_takeNumber 29 = .ok (.getfield 162, 3) := by decide +kernel
theorem dX12_takeNumber_32 : decode cX12_takeNumber 32 = .ok (.ifCond .ne 38, 3) := by decide +kernel
theorem dX12_takeNumber_35 : decode cX12_takeNumber 35 = .ok (.aload_n 0, 1) := by decide +kernel
theorem dX12_takeNumber_36 : decode cX12_takeNumber 36 = .ok (.getfield 30, 3) := by decide +kernel
theorem dX12_takeNumber_39 : decode cX12_takeNumber 39 = .ok (.aload_n 0, 1) := by decide +kernel
theorem dX12_takeNumber_40 : decode cX12_takeNumber 40 = .ok (.getfield 159, 3) := by decide +kernel
theorem dX12_takeNumber_43 : decode cX12_takeNumber 43 = .ok (.laload, 1) := by decide +kernel
theorem dX12_takeNumber_44 : decode cX12_takeNumber 44 = .ok (.iload_n 1, 1) := by decide +kernel
theorem dX12_takeNumber_45 : decode cX12_takeNumber 45 = .ok (.i2l, 1) := by decide +kernel
theorem dX12_takeNumber_46 : decode cX12_takeNumber 46 = .ok (.lcmp, 1) := by decide +kernel
theorem dX12_takeNumber_47 : decode cX12_takeNumber 47 = .ok (.ifCond .lt 18, 3) := by decide +kernel
theorem dX12_takeNumber_50 : decode cX12_takeNumber 50 = .ok (.aload_n 0, 1) := by decide +kernel
theorem dX12_takeNumber_51 : decode cX12_takeNumber 51 = .ok (.getfield 30, 3) := by decide +kernel
theorem dX12_takeNumber_54 : decode cX12_takeNumber 54 = .ok (.aload_n 0, 1) := by decide +kernel
theorem dX12_takeNumber_55 : decode cX12_takeNumber 55 = .ok (.getfield 159, 3) := by decide +kernel
theorem dX12_takeNumber_58 : decode cX12_takeNumber 58 = .ok (.laload, 1) := by decide +kernel
theorem dX12_takeNumber_59 : decode cX12_takeNumber 59 = .ok (.iload_n 2, 1) := by decide +kernel
theorem dX12_takeNumber_60 : decode cX12_takeNumber 60 = .ok (.i2l, 1) := by decide +kernel
theorem dX12_takeNumber_61 : decode cX12_takeNumber 61 = .ok (.lcmp, 1) := by decide +kernel
theorem dX12_takeNumber_62 : decode cX12_takeNumber 62 = .ok (.ifCond .le 8, 3) := by decide +kernel
theorem dX12_takeNumber_65 : decode cX12_takeNumber 65 = .ok (.aload_n 0, 1) := by decide +kernel
theorem dX12_takeNumber_66 : decode cX12_takeNumber 66 = .ok (.iconst 4, 1) := by decide +kernel
theorem dX12_takeNumber_67 : decode cX12_takeNumber 67 = .ok (.invokevirtual 168, 3) := by decide +kernel
theorem dX12_takeNumber_70 : decode cX12_takeNumber 70 = .ok (.aload_n 0, 1) := by decide +kernel
theorem dX12_takeNumber_71 : decode cX12_takeNumber 71 = .ok (.getfield 162, 3) := by decide +kernel
theorem dX12_takeNumber_74 : decode cX12_takeNumber 74 = .ok (.ifCond .le 5, 3) := by decide +kernel
theorem dX12_takeNumber_77 : decode cX12_takeNumber 77 = .ok (.iconst 0, 1) := by decide +kernel
theorem dX12_takeNumber_78 : decode cX12_takeNumber 78 = .ok (.ireturn, 1) := by decide +kernel
theorem dX12_takeNumber_79 : decode cX12_takeNumber 79 = .ok (.aload_n 0, 1) := by decide +kernel
theorem dX12_takeNumber_80 : decode cX12_takeNumber 80 = .ok (.dup, 1) := by decide +kernel
theorem dX12_takeNumber_81 : decode cX12_takeNumber 81 = .ok (.getfield 159, 3) := by decide +kernel
theorem dX12_takeNumber_84 : decode cX12_takeNumber 84 = .ok (.iconst 1, 1) := by decide +kernel
theorem dX12_takeNumber_85 : decode cX12_takeNumber 85 = .ok (.iadd, 1) := by decide +kernel
theorem dX12_takeNumber_86 : decode cX12_takeNumber 86 = .ok (.putfield 159, 3) := by decide +kernel
theorem dX12_takeNumber_89 : decode cX12_takeNumber 89 = .ok (.aload_n 0, 1) := by decide +kernel
theorem dX12_takeNumber_90 : decode cX12_takeNumber 90 = .ok (.getfield 30, 3) := by decide +kernel
theorem dX12_takeNumber_93 : decode cX12_takeNumber 93 = .ok (.aload_n 0, 1) := by decide +kernel
theorem dX12_takeNumber_94 : decode cX12_takeNumber 94 = .ok (.getfield 159, 3) := by decide +kernel
theorem dX12_takeNumber_97 : decode cX12_takeNumber 97 = .ok (.iconst 1, 1) := by decide +kernel
theorem dX12_takeNumber_98 : decode cX12_takeNumber 98 = .ok (.isub, 1) := by decide +kernel
theorem dX12_takeNumber_99 : decode cX12_takeNumber 99 = .ok (.laload, 1) := by decide +kernel
theorem dX12_takeNumber_100 : decode cX12_takeNumber 100 = .ok (.l2i, 1) := by decide +kernel
theorem dX12_takeNumber_101 : decode cX12_takeNumber 101 = .ok (.ireturn, 1) := by decide +kernel
set_option maxHeartbeats 4000000 in
set_option maxRecDepth 100000 in
theorem s_X12_takeNumber {P : PP} {a0 : Nat} {a1 : Int32} {a2 : Int32} (I : IM P a0) (ha1 : 0 ≤ a1.toInt ∧ a1.toInt ≤ 2) (ha2 : -1 ≤ a2.toInt ∧ a2.toInt ≤ 999) (hW : MW P a0) : CtrI yX12_takeNumber cX12_takeNumber 3 (some Jvm.ClassFile.FieldType.int) ({ frames := 2, cells := 0, slots := 0, locals := 128 } : Room) 0 0 P [.ref a0, .int a1, .int a2] (fun r P2 => IM P2 a0 ∧ EM [7, 8] a0 P P2 ∧ MW P2 a0 ∧ ((pI P a0 7).toInt ≤ (pI P2 a0 7).toInt) ∧ ((pI P a0 8).toInt ≤ (pI P2 a0 8).toInt) ∧ (1 ≤ (pI P2 a0 8).toInt ∨ (pI P2 a0 7).toInt = (pI P a0 7).toInt + 1) ∧ (0 ≤ r.toInt ∧ r.toInt ≤ 999) ∧ ((1 ≤ (pI P2 a0 8).toInt ∧ r.toInt = 0) ∨ (a1.toInt ≤ r.toInt ∧ r.toInt ≤ a2.toInt))) := by
  refine enI (lv := [(0, .ref a0), (1, .int a1), (2, .int a2)]) (by decide) (Nat.le_of_ble_eq_true rfl) rfl (fun E D cy C Ci0 ret => ?_)
  have ha0 := I.2.1
  have h14217 := I.rg ha0 7 rfl
  have h14218 := I.rg ha0 8 rfl
  refine g_aload_n C dX12_takeNumber_0 rfl 0 rfl ?_
  refine g_getI C fi_X12_162 (by decide) (ha0).1 (ha0).2 dX12_takeNumber_1 ?_
  refine b_if_ne C 28 dX12_takeNumber_4 (by decide) (fun h14219 => ?_) (fun h14219 => ?_)
  · have h14219 : (pI P a0 8).toInt ≠ 0 := ti_ne h14219
    refine g_aload_n C dX12_takeNumber_28 rfl 0 rfl ?_
    refine g_getI C fi_X12_162 (by decide) (ha0).1 (ha0).2 dX12_takeNumber_29 ?_
    refine b_if_ne C 70 dX12_takeNumber_32 (by decide) (fun h14220 => ?_) (fun h14220 => ?_)
    · have h14220 : (pI P a0 8).toInt ≠ 0 := ti_ne h14220
      refine g_aload_n C dX12_takeNumber_70 rfl 0 rfl ?_
      refine g_getI C fi_X12_162 (by decide) (ha0).1 (ha0).2 dX12_takeNumber_71 ?_
      refine b_if_le C 79 dX12_takeNumber_74 (by decide) (fun h14221 => ?_) (fun h14221 => ?_)
      · have h14221 : (pI P a0 8).toInt ≤ 0 := h14221
        omega
      · have h14221 : 0 < (pI P a0 8).toInt := h14221
        refine g_iconst (v := 0) C dX12_takeNumber_77 (by decide) ?_
        exact ret _ _ _ _ _ _ dX12_takeNumber_78 rfl (by decide) (by decide) ⟨I, EM.rf, hW, (by show (pI P a0 7).toInt ≤ (pI P a0 7).toInt; omega), (by show (pI P a0 8).toInt ≤ (pI P a0 8).toInt; omega), (by show 1 ≤ (pI P a0 8).toInt ∨ (pI P a0 7).toInt = (pI P a0 7).toInt + 1; omega), (by decide), (by show (1 ≤ (pI P a0 8).toInt ∧ (0 : Int) = 0) ∨ (a1.toInt ≤ 0 ∧ 0 ≤ a2.toInt); omega)⟩
    · have h14220 : (pI P a0 8).toInt = 0 := congrArg Int32.toInt h14220
      omega
  · have h14219 : (pI P a0 8).toInt = 0 := congrArg Int32.toInt h14219
    refine g_aload_n C dX12_takeNumber_7 rfl 0 rfl ?_
    obtain ⟨b14222, e14223, h14224⟩ := I.fld (ha0) 4 13 1002 rfl
    refine g_getR C fi_X12_24 rfl e14223 (ha0).1 (ha0).2 dX12_takeNumber_8 ?_
    refine g_aload_n C dX12_takeNumber_11 rfl 0 rfl ?_
    refine g_getI C fi_X12_159 (by decide) (ha0).1 (ha0).2 dX12_takeNumber_12 ?_
    refine g_iald (j := ((pI P a0 7).toInt.toNat)) C h14224.1 h14224.2.1 (ix_in h14224.2.2 (by omega)) dX12_takeNumber_15 ?_
    have h14225 := I.arr e14223 rfl ((pI P a0 7).toInt.toNat)
    refine g_iconst (v := 2) C dX12_takeNumber_16 (by decide) ?_
    have hs14226 := I.s1000 e14223 (j := (pI P a0 7).toInt) (by omega)
    refine b_icmp_eq C 28 dX12_takeNumber_17 (by decide) (fun h14227 => ?_) (fun h14227 => ?_)
    · have h14227 : (pI P b14222 ((pI P a0 7).toInt.toNat)).toInt = 2 := congrArg Int32.toInt h14227
      refine g_aload_n C dX12_takeNumber_28 rfl 0 rfl ?_
      refine g_getI C fi_X12_162 (by decide) (ha0).1 (ha0).2 dX12_takeNumber_29 ?_
      refine b_if_ne C 70 dX12_takeNumber_32 (by decide) (fun h14228 => ?_) (fun h14228 => ?_)
      · have h14228 : (pI P a0 8).toInt ≠ 0 := ti_ne h14228
        omega
      · have h14228 : (pI P a0 8).toInt = 0 := congrArg Int32.toInt h14228
        refine g_aload_n C dX12_takeNumber_35 rfl 0 rfl ?_
        obtain ⟨b14229, e14230, h14231⟩ := I.fld (ha0) 6 14 1002 rfl
        refine g_getR C fi_X12_30 rfl e14230 (ha0).1 (ha0).2 dX12_takeNumber_36 ?_
        refine g_aload_n C dX12_takeNumber_39 rfl 0 rfl ?_
        refine g_getI C fi_X12_159 (by decide) (ha0).1 (ha0).2 dX12_takeNumber_40 ?_
        refine g_lald (j := ((pI P a0 7).toInt.toNat)) C h14231.1 h14231.2.1 (ix_in h14231.2.2 (by omega)) dX12_takeNumber_43 ?_
        refine g_topl (fun l14232 h14233 => ?_)
        have hl14234 : l14232.toInt = (pJ P b14229 ((pI P a0 7).toInt.toNat)).toInt := congrArg Int64.toInt h14233
        refine g_iload_n C dX12_takeNumber_44 rfl 1 rfl ?_
        refine g_i2l C dX12_takeNumber_45 rfl ?_
        refine g_topl (fun l14235 h14236 => ?_)
        have hl14237 := i2l_val h14236
        refine g_lcmp C dX12_takeNumber_46 ?_
        refine g_topi (fun z14238 h14239 => ?_)
        have hc14240 := cmp_or h14239
        have h14241 := cmp_rg h14239
        refine b_if_lt C 65 dX12_takeNumber_47 (by decide) (fun h14242 => ?_) (fun h14242 => ?_)
        · have h14242 : z14238.toInt < 0 := h14242
          refine g_aload_n C dX12_takeNumber_65 rfl 0 rfl ?_
          refine g_iconst (v := 4) C dX12_takeNumber_66 (by decide) ?_
          refine g_callVV (rest := []) C mv_X12_168 [.int 4] (s_X12_wrong I (by decide) hW) (ha0).1 (ha0).2 rfl rfl (by decide) (Nat.le_of_ble_eq_true rfl) (by decide) dX12_takeNumber_67 (fun Y14244 h14245 => ?_)
          obtain ⟨Iy14246, Xy14247, W14248, p14249, p14250⟩ := h14245
          have p14249 : 1 ≤ (pI Y14244 a0 8).toInt := p14249
          have p14250 : (pI P a0 8).toInt ≤ (pI Y14244 a0 8).toInt := p14250
          have q14251 := Xy14247.keepF 7 (by decide)
          have Xz14252 : EM [7, 8] a0 P Y14244 := Xy14247.mono (by decide)
          have h14253 := Xy14247.at ha0
          have h14254 := Iy14246.rg h14253 8 rfl
          refine g_aload_n C dX12_takeNumber_70 rfl 0 rfl ?_
          refine g_getI C fi_X12_162 (by decide) (h14253).1 (h14253).2 dX12_takeNumber_71 ?_
          refine b_if_le C 79 dX12_takeNumber_74 (by decide) (fun h14255 => ?_) (fun h14255 => ?_)
          · have h14255 : (pI Y14244 a0 8).toInt ≤ 0 := h14255
            omega
          · have h14255 : 0 < (pI Y14244 a0 8).toInt := h14255
            refine g_iconst (v := 0) C dX12_takeNumber_77 (by decide) ?_
            exact ret _ _ _ _ _ _ dX12_takeNumber_78 rfl (by decide) (by decide) ⟨Iy14246, Xz14252, W14248, (by show (pI P a0 7).toInt ≤ (pI Y14244 a0 7).toInt; omega), (by show (pI P a0 8).toInt ≤ (pI Y14244 a0 8).toInt; omega), (by show 1 ≤ (pI Y14244 a0 8).toInt ∨ (pI Y14244 a0 7).toInt = (pI P a0 7).toInt + 1; omega), (by decide), (by show (1 ≤ (pI Y14244 a0 8).toInt ∧ (0 : Int) = 0) ∨ (a1.toInt ≤ 0 ∧ 0 ≤ a2.toInt); omega)⟩
        · have h14242 : 0 ≤ z14238.toInt := h14242
          refine g_aload_n C dX12_takeNumber_50 rfl 0 rfl ?_
          refine g_getR C fi_X12_30 rfl e14230 (ha0).1 (ha0).2 dX12_takeNumber_51 ?_
          refine g_aload_n C dX12_takeNumber_54 rfl 0 rfl ?_
          refine g_getI C fi_X12_159 (by decide) (ha0).1 (ha0).2 dX12_takeNumber_55 ?_
          refine g_lald (j := ((pI P a0 7).toInt.toNat)) C h14231.1 h14231.2.1 (ix_in h14231.2.2 (by omega)) dX12_takeNumber_58 ?_
          refine g_topl (fun l14256 h14257 => ?_)
          have hl14258 : l14256.toInt = (pJ P b14229 ((pI P a0 7).toInt.toNat)).toInt := congrArg Int64.toInt h14257
          refine g_iload_n C dX12_takeNumber_59 rfl 2 rfl ?_
          refine g_i2l C dX12_takeNumber_60 rfl ?_
          refine g_topl (fun l14259 h14260 => ?_)
          have hl14261 := i2l_val h14260
          refine g_lcmp C dX12_takeNumber_61 ?_
          refine g_topi (fun z14262 h14263 => ?_)
          have hc14264 := cmp_or h14263
          have h14265 := cmp_rg h14263
          refine b_if_le C 70 dX12_takeNumber_62 (by decide) (fun h14266 => ?_) (fun h14266 => ?_)
          · have h14266 : z14262.toInt ≤ 0 := h14266
            refine g_aload_n C dX12_takeNumber_70 rfl 0 rfl ?_
            refine g_getI C fi_X12_162 (by decide) (ha0).1 (ha0).2 dX12_takeNumber_71 ?_
            refine b_if_le C 79 dX12_takeNumber_74 (by decide) (fun h14267 => ?_) (fun h14267 => ?_)
            · have h14267 : (pI P a0 8).toInt ≤ 0 := h14267
              refine g_aload_n C dX12_takeNumber_79 rfl 0 rfl ?_
              refine g_dup C dX12_takeNumber_80 rfl ?_
              refine g_getI C fi_X12_159 (by decide) (ha0).1 (ha0).2 dX12_takeNumber_81 ?_
              refine g_iconst (v := 1) C dX12_takeNumber_84 (by decide) ?_
              refine s_iadd C dX12_takeNumber_85 (by show -2147483648 ≤ (pI P a0 7).toInt + 1 ∧ (pI P a0 7).toInt + 1 ≤ 2147483647; omega) (fun z14268 h14269 => ?_)
              have h14269 : z14268.toInt = (pI P a0 7).toInt + 1 := h14269
              refine g_putI C fi_X12_159 rfl (ha0).1 (ha0).2 dX12_takeNumber_86 ?_
              refine gqWJ (ks := [7]) (I.setI (rgOk.of rfl (by omega))) (EM.setI I (by decide)) (fun Y14270 Iy14271 Xy14272 w14273 hJ14274 => ?_)
              have w14273 : (pI Y14270 a0 7).toInt = z14268.toInt := w14273
              have q14275 := Xy14272.keepF 8 (by decide)
              have W14276 := hW.keep I Xy14272 (by decide) (by decide) (by decide)
              have Xz14277 : EM [7, 8] a0 P Y14270 := Xy14272.mono (by decide)
              have h14278 := Xy14272.at ha0
              refine g_aload_n C dX12_takeNumber_89 rfl 0 rfl ?_
              obtain ⟨b14279, e14280, h14281⟩ := Iy14271.fld (h14278) 6 14 1002 rfl
              refine g_getR C fi_X12_30 rfl e14280 (h14278).1 (h14278).2 dX12_takeNumber_90 ?_
              refine g_aload_n C dX12_takeNumber_93 rfl 0 rfl ?_
              refine g_getI C fi_X12_159 (by decide) (h14278).1 (h14278).2 dX12_takeNumber_94 ?_
              refine g_iconst (v := 1) C dX12_takeNumber_97 (by decide) ?_
              refine s_isub C dX12_takeNumber_98 (by show -2147483648 ≤ (pI Y14270 a0 7).toInt - 1 ∧ (pI Y14270 a0 7).toInt - 1 ≤ 2147483647; omega) (fun z14282 h14283 => ?_)
              have h14283 : z14282.toInt = (pI Y14270 a0 7).toInt - 1 := h14283
              refine g_lald (j := (z14282.toInt.toNat)) C h14281.1 h14281.2.1 (ix_in h14281.2.2 (by omega)) dX12_takeNumber_99 ?_
              refine g_topl (fun l14284 h14285 => ?_)
              have hb6 : b14279 = b14229 := Option.some.inj ((EM.refB Xz14277 ha0 e14280).symm.trans e14230)
              have hl14286 : l14284.toInt = (pJ P b14229 (pI P a0 7).toInt.toNat).toInt := by rw [h14285, hb6, hJ14274, show (z14282.toInt.toNat) = (pI P a0 7).toInt.toNat by omega]
              refine g_l2i C dX12_takeNumber_100 rfl ?_
              refine g_topi (fun z14287 h14288 => ?_)
              have hl14289 := l2i_val h14288 (by omega)
              exact ret _ _ _ _ _ _ dX12_takeNumber_101 rfl (by decide) (by decide) ⟨Iy14271, Xz14277, W14276, (by show (pI P a0 7).toInt ≤ (pI Y14270 a0 7).toInt; omega), (by show (pI P a0 8).toInt ≤ (pI Y14270 a0 8).toInt; omega), (by show 1 ≤ (pI Y14270 a0 8).toInt ∨ (pI Y14270 a0 7).toInt = (pI P a0 7).toInt + 1; omega), (by omega), (by show (1 ≤ (pI Y14270 a0 8).toInt ∧ z14287.toInt = 0) ∨ (a1.toInt ≤ z14287.toInt ∧ z14287.toInt ≤ a2.toInt); omega)⟩
            · have h14267 : 0 < (pI P a0 8).toInt := h14267
              omega
          · have h14266 : 0 < z14262.toInt := h14266
            refine g_aload_n C dX12_takeNumber_65 rfl 0 rfl ?_
            refine g_iconst (v := 4) C dX12_takeNumber_66 (by decide) ?_
            refine g_callVV (rest := []) C mv_X12_168 [.int 4] (s_X12_wrong I (by decide) hW) (ha0).1 (ha0).2 rfl rfl (by decide) (Nat.le_of_ble_eq_true rfl) (by decide) dX12_takeNumber_67 (fun Y14291 h14292 => ?_)
            obtain ⟨Iy14293, Xy14294, W14295, p14296, p14297⟩ := h14292
            have p14296 : 1 ≤ (pI Y14291 a0 8).toInt := p14296
            have p14297 : (pI P a0 8).toInt ≤ (pI Y14291 a0 8).toInt := p14297
            have q14298 := Xy14294.keepF 7 (by decide)
            have Xz14299 : EM [7, 8] a0 P Y14291 := Xy14294.mono (by decide)
            have h14300 := Xy14294.at ha0
            have h14301 := Iy14293.rg h14300 8 rfl
            refine g_aload_n C dX12_takeNumber_70 rfl 0 rfl ?_
            refine g_getI C fi_X12_162 (by decide) (h14300).1 (h14300).2 dX12_takeNumber_71 ?_
            refine b_if_le C 79 dX12_takeNumber_74 (by decide) (fun h14302 => ?_) (fun h14302 => ?_)
            · have h14302 : (pI Y14291 a0 8).toInt ≤ 0 := h14302
              omega
            · have h14302 : 0 < (pI Y14291 a0 8).toInt := h14302
              refine g_iconst (v := 0) C dX12_takeNumber_77 (by decide) ?_
              exact ret _ _ _ _ _ _ dX12_takeNumber_78 rfl (by decide) (by decide) ⟨Iy14293, Xz14299, W14295, (by show (pI P a0 7).toInt ≤ (pI Y14291 a0 7).toInt; omega), (by show (pI P a0 8).toInt ≤ (pI Y14291 a0 8).toInt; omega), (by show 1 ≤ (pI Y14291 a0 8).toInt ∨ (pI Y14291 a0 7).toInt = (pI P a0 7).toInt + 1; omega), (by decide), (by show (1 ≤ (pI Y14291 a0 8).toInt ∧ (0 : Int) = 0) ∨ (a1.toInt ≤ 0 ∧ 0 ≤ a2.toInt); omega)⟩
    · have h14227 : (pI P b14222 ((pI P a0 7).toInt.toNat)).toInt ≠ 2 := ti_ne h14227
      refine g_aload_n C dX12_takeNumber_20 rfl 0 rfl ?_
      refine g_iconst (v := 1) C dX12_takeNumber_21 (by decide) ?_
      refine g_callVV (rest := []) C mv_X12_168 [.int 1] (s_X12_wrong I (by decide) hW) (ha0).1 (ha0).2 rfl rfl (by decide) (Nat.le_of_ble_eq_true rfl) (by decide) dX12_takeNumber_22 (fun Y14304 h14305 => ?_)
      obtain ⟨Iy14306, Xy14307, W14308, p14309, p14310⟩ := h14305
      have p14309 : 1 ≤ (pI Y14304 a0 8).toInt := p14309
      have p14310 : (pI P a0 8).toInt ≤ (pI Y14304 a0 8).toInt := p14310
      have q14311 := Xy14307.keepF 7 (by decide)
      have Xz14312 : EM [7, 8] a0 P Y14304 := Xy14307.mono (by decide)
      have h14313 := Xy14307.at ha0
      have h14314 := Iy14306.rg h14313 8 rfl
      refine g_goto C 70 dX12_takeNumber_25 (by decide) ?_
      refine g_aload_n C dX12_takeNumber_70 rfl 0 rfl ?_
      refine g_getI C fi_X12_162 (by decide) (h14313).1 (h14313).2 dX12_takeNumber_71 ?_
      refine b_if_le C 79 dX12_takeNumber_74 (by decide) (fun h14315 => ?_) (fun h14315 => ?_)
      · have h14315 : (pI Y14304 a0 8).toInt ≤ 0 := h14315
        omega
      · have h14315 : 0 < (pI Y14304 a0 8).toInt := h14315
        refine g_iconst (v := 0) C dX12_takeNumber_77 (by decide) ?_
        exact ret _ _ _ _ _ _ dX12_takeNumber_78 rfl (by decide) (by decide) ⟨Iy14306, Xz14312, W14308, (by show (pI P a0 7).toInt ≤ (pI Y14304 a0 7).toInt; omega), (by show (pI P a0 8).toInt ≤ (pI Y14304 a0 8).toInt; omega), (by show 1 ≤ (pI Y14304 a0 8).toInt ∨ (pI Y14304 a0 7).toInt = (pI P a0 7).toInt + 1; omega), (by decide), (by show (1 ≤ (pI Y14304 a0 8).toInt ∧ (0 : Int) = 0) ∨ (a1.toInt ≤ 0 ∧ 0 ≤ a2.toInt); omega)⟩
theorem dX12_readLine_183 : decode cX12_readLine 183 = .ok (.aload_n 0, 1) := by decide +kernel
theorem dX12_readLine_184 : decode cX12_readLine 184 = .ok (.invokevirtual 215, 3) := by decide +kernel
theorem dX12_readLine_213 : decode cX12_readLine 213 = .ok (.iastore, 1) := by decide +kernel
theorem dX12_readSum_0 : decode cX12_readSum 0 = .ok (.iconst 0, 1) := by decide +kernel
theorem dX12_readSum_1 : decode cX12_readSum 1 = .ok (.istore_n 1, 1) := by decide +kernel
theorem dX12_readSum_2 : decode cX12_readSum 2 = .ok (.iconst 0, 1) := by decide +kernel
theorem dX12_readSum_3 : decode cX12_readSum 3 = .ok (.istore_n 2, 1) := by decide +kernel
theorem dX12_readSum_4 : decode cX12_readSum 4 = .ok (.aload_n 0, 1) := by decide +kernel
theorem dX12_readSum_5 : decode cX12_readSum 5 = .ok (.getfield 162, 3) := by decide +kernel
theorem dX12_readSum_8 : decode cX12_readSum 8 = .ok (.ifCond .ne 97, 3) := by decide +kernel
theorem dX12_readSum_11 : decode cX12_readSum 11 = .ok (.iload_n 2, 1) := by decide +kernel
theorem dX12_readSum_12 : decode cX12_readSum 12 = .ok (.iconst 2, 1) := by decide +kernel
theorem dX12_readSum_13 : decode cX12_readSum 13 = .ok (.if_icmp .lt 16, 3) := by decide +kernel
theorem dX12_readSum_16 : decode cX12_readSum 16 = .ok (.aload_n 0, 1) := by decide +kernel
theorem dX12_readSum_17 : decode cX12_readSum 17 = .ok (.getfield 24, 3) := by decide +kernel
theorem dX12_readSum_20 : decode cX12_readSum 20 = .ok (.aload_n 0, 1) := by decide +kernel
theorem dX12_readSum_21 : decode cX12_readSum 21 = .ok (.getfield 159, 3) := by decide +kernel
theorem dX12_readSum_24 : decode cX12_readSum 24 = .ok (.iaload, 1) := by decide +kernel
theorem dX12_readSum_25 : decode cX12_readSum 25 = .ok (.iconst 2, 1) := by decide +kernel
theorem dX12_readSum_26 : decode cX12_readSum 26 = .ok (.if_icmp .ne 79, 3) := by decide +kernel
theorem dX12_readSum_29 : decode cX12_readSum 29 = .ok (.aload_n 0, 1) := by decide +kernel
theorem dX12_readSum_30 : decode cX12_readSum 30 = .ok (.getfield 24, 3) := by decide +kernel
theorem dX12_readSum_33 : decode cX12_readSum 33 = .ok (.aload_n 0, 1) := by decide +kernel
theorem dX12_readSum_34 : decode cX12_readSum 34 = .ok (.getfield 159, 3) := by decide +kernel
theorem dX12_readSum_37 : decode cX12_readSum 37 = .ok (.iaload, 1) := by decide +kernel
theorem dX12_readSum_38 : decode cX12_readSum 38 = .ok (.iconst 2, 1) := by decide +kernel
theorem dX12_readSum_39 : decode cX12_readSum 39 = .ok (.if_icmp .ne 44, 3) := by decide +kernel
theorem dX12_readSum_42 : decode cX12_readSum 42 = .ok (.aload_n 0, 1) := by decide +kernel
theorem dX12_readSum_43 : decode cX12_readSum 43 = .ok (.getfield 30, 3) := by decide +kernel
theorem dX12_readSum_46 : decode cX12_readSum 46 = .ok (.aload_n 0, 1) := by decide +kernel
theorem dX12_readSum_47 : decode cX12_readSum 47 = .ok (.getfield 159, 3) := by decide +kernel
theorem dX12_readSum_50 : decode cX12_readSum 50 = .ok (.laload, 1) := by decide +kernel
theorem dX12_readSum_51 : decode cX12_readSum 51 = .ok (.aload_n 0, 1) := by decide +kernel
theorem dX12_readSum_52 : decode cX12_readSum 52 = .ok (.getfield 202, 3) := by decide +kernel
theorem dX12_readSum_55 : decode cX12_readSum 55 = .ok (.i2l, 1) := by decide +kernel
theorem dX12_readSum_56 : decode cX12_readSum 56 = .ok (.lcmp, 1) := by decide +kernel
theorem dX12_readSum_57 : decode cX12_readSum 57 = .ok (.ifCond .ge 26, 3) := by decide +kernel
theorem dX12_readSum_60 : decode cX12_readSum 60 = .ok (.iload_n 1, 1) := by decide +kernel
theorem dX12_readSum_61 : decode cX12_readSum 61 = .ok (.aload_n 0, 1) := by decide +kernel
theorem dX12_readSum_62 : decode cX12_readSum 62 = .ok (.getfield 30, 3) := by decide +kernel
theorem dX12_readSum_65 : decode cX12_readSum 65 = .ok (.aload_n 0, 1) := by decide +kernel
theorem dX12_readSum_66 : decode cX12_readSum 66 = .ok (.getfield 159, 3) := by decide +kernel
theorem dX12_readSum_69 : decode cX12_readSum 69 = .ok (.laload, 1) := by decide +kernel
theorem dX12_readSum_70 : decode cX12_readSum 70 = .ok (.l2i, 1) := by decide +kernel
theorem dX12_readSum_71 : decode cX12_readSum 71 = .ok (.ishr, 1) := by decide +kernel
theorem dX12_readSum_72 : decode cX12_readSum 72 = .ok (.iconst 1, 1) := by decide +kernel
theorem dX12_readSum_73 : decode cX12_readSum 73 = .ok (.iand, 1) := by decide +kernel
theorem dX12_readSum_74 : decode cX12_readSum 74 = .ok (.iconst 1, 1) := by decide +kernel
theorem dX12_readSum_75 : decode cX12_readSum 75 = .ok (.if_icmp .ne 8, 3) := by decide +kernel
theorem dX12_readSum_78 : decode cX12_readSum 78 = .ok (.aload_n 0, 1) := by decide +kernel
theorem dX12_readSum_79 : decode cX12_readSum 79 = .ok (.iconst 3, 1) := by decide +kernel
theorem dX12_readSum_80 : decode cX12_readSum 80 = .ok (.invokevirtual 168, 3) := by decide +kernel
theorem dX12_readSum_83 : decode cX12_readSum 83 = .ok (.iload_n 1, 1) := by decide +kernel
theorem dX12_readSum_84 : decode cX12_readSum 84 = .ok (.iconst 1, 1) := by decide +kernel
theorem dX12_readSum_85 : decode cX12_readSum 85 = .ok (.aload_n 0, 1) := by decide +kernel
theorem dX12_readSum_86 : decode cX12_readSum 86 = .ok (.iconst 0, 1) := by decide +kernel
theorem dX12_readSum_87 : decode cX12_readSum 87 = .ok (.aload_n 0, 1) := by decide +kernel
theorem dX12_readSum_88 : decode cX12_readSum 88 = .ok (.getfield 202, 3) := by decide +kernel
theorem dX12_readSum_91 : decode cX12_readSum 91 = .ok (.iconst 1, 1) := by decide +kernel
theorem dX12_readSum_92 : decode cX12_readSum 92 = .ok (.isub, 1) := by decide +kernel
theorem dX12_readSum_93 : decode cX12_readSum 93 = .ok (.invokevirtual 211, 3) := by decide +kernel
theorem dX12_readSum_96 : decode cX12_readSum 96 = .ok (.ishl, 1) := by decide +kernel
theorem dX12_readSum_97 : decode cX12_readSum 97 = .ok (.ior, 1) := by decide +kernel
theorem dX12_readSum_98 : decode cX12_readSum 98 = .ok (.istore_n 1, 1) := by decide +kernel
theorem dX12_readSum_99 : decode cX12_readSum 99 = .ok (.iinc 2 1, 3) := by decide +kernel
theorem dX12_readSum_102 : decode cX12_readSum 102 = .ok (.goto (-98), 3) := by decide +kernel
theorem dX12_readSum_105 : decode cX12_readSum 105 = .ok (.aload_n 0, 1) := by decide +kernel
theorem dX12_readSum_106 : decode cX12_readSum 106 = .ok (.getfield 63, 3) := by decide +kernel
theorem dX12_readSum_109 : decode cX12_readSum 109 = .ok (.bipush 8, 2) := by decide +kernel
theorem dX12_readSum_111 : decode cX12_readSum 111 = .ok (.aload_n 0, 1) := by decide +kernel
theorem dX12_readSum_112 : decode cX12_readSum 112 = .ok (.getfield 60, 3) := by decide +kernel
theorem dX12_readSum_115 : decode cX12_readSum 115 = .ok (.iconst 2, 1) := by decide +kernel
theorem dX12_readSum_116 : decode cX12_readSum 116 = .ok (.iaload, 1) := by decide +kernel
theorem dX12_readSum_117 : decode cX12_readSum 117 = .ok (.iadd, 1) := by decide +kernel
theorem dX12_readSum_118 : decode cX12_readSum 118 = .ok (.iload_n 1, 1) := by decide +kernel
theorem dX12_readSum_119 : decode cX12_readSum 119 = .ok (.iastore, 1) := by decide +kernel
theorem dX12_readSum_120 : decode cX12_readSum 120 = .ok (.aload_n 0, 1) := by decide +kernel
theorem dX12_readSum_121 : decode cX12_readSum 121 = .ok (.getfield 60, 3) := by decide +kernel
theorem dX12_readSum_124 : decode cX12_readSum 124 = .ok (.iconst 2, 1) := by decide +kernel
theorem dX12_readSum_125 : decode cX12_readSum 125 = .ok (.dup2, 1) := by decide +kernel
theorem dX12_readSum_126 : decode cX12_readSum 126 = .ok (.iaload, 1) := by decide +kernel
theorem dX12_readSum_127 : decode cX12_readSum 127 = .ok (.iconst 1, 1) := by decide +kernel
theorem dX12_readSum_128 : decode cX12_readSum 128 = .ok (.iadd, 1) := by decide +kernel
theorem dX12_readSum_129 : decode cX12_readSum 129 = .ok (.iastore, 1) := by decide +kernel
theorem dX12_readSum_130 : decode cX12_readSum 130 = .ok (.return_, 1) := by decide +kernel
set_option maxHeartbeats 4000000 in
set_option maxRecDepth 100000 in
theorem s_X12_readSum {P : PP} {a0 : Nat} (I : IM P a0) (hf0 : ∀ b, pR P a0 15 = some b → 0 ≤ (pI P b 2).toInt ∧ (pI P b 2).toInt ≤ 3) (hW : MW P a0) : CtrV yX12_readSum cX12_readSum 3 none ({ frames := 3, cells := 0, slots := 0, locals := 192 } : Room) 0 0 P [.ref a0] (fun P2 => IM P2 a0 ∧ EM [7, 8, 15, 16] a0 P P2 ∧ MW P2 a0 ∧ ((pI P a0 7).toInt ≤ (pI P2 a0 7).toInt) ∧ ((pI P a0 8).toInt ≤ (pI P2 a0 8).toInt)) := by
  refine enV (lv := [(0, .ref a0)]) (by decide) (Nat.le_of_ble_eq_true rfl) rfl (fun E D cy C Ci0 ret => ?_)
  have ha0 := I.2.1
  have J105 : ∀ (P105 : PP) (v105_1 : Int32), (IM P105 a0) → (EM [7, 8, 15, 16] a0 P P105) → (MW P105 a0) → (0 ≤ (pI P105 a0 8).toInt ∧ (pI P105 a0 8).toInt ≤ 16005) → (∀ b, pR P105 a0 15 = some b → 0 ≤ (pI P105 b 2).toInt ∧ (pI P105 b 2).toInt ≤ 3) → ((pI P a0 7).toInt ≤ (pI P105 a0 7).toInt) → ((pI P a0 8).toInt ≤ (pI P105 a0 8).toInt) → G E ({ frames := 3, cells := 0, slots := 0, locals := 192 } : Room) D cy 3 P105 0 0 105 [(0, .ref a0), (1, .int v105_1)] [] := by
    intro P105 v105_1 I105 X105 W105 hq105_0 hq105_1 rel105_0 rel105_1
    have h24079 := X105.at ha0
    obtain ⟨b24080, e24081, h24082⟩ := I105.fld (h24079) 15 13 3 rfl
    have hq105_1 := hq105_1 b24080 e24081
    have h24083 := I105.rg h24079 7 rfl
    refine g_aload_n C dX12_readSum_105 rfl 0 rfl ?_
    obtain ⟨b24084, e24085, h24086⟩ := I105.fld (h24079) 16 13 12 rfl
    refine g_getR C fi_X12_63 rfl e24085 (h24079).1 (h24079).2 dX12_readSum_106 ?_
    refine g_bipush (v := 8) C dX12_readSum_109 (by decide) ?_
    refine g_aload_n C dX12_readSum_111 rfl 0 rfl ?_
    refine g_getR C fi_X12_60 rfl e24081 (h24079).1 (h24079).2 dX12_readSum_112 ?_
    refine g_iconst (v := 2) C dX12_readSum_115 (by decide) ?_
    refine g_iald (j := 2) C h24082.1 h24082.2.1 (IX.litn (j := 2) h24082.2.2 rfl (by decide) (by decide)) dX12_readSum_116 ?_
    refine s_iadd C dX12_readSum_117 (by show -2147483648 ≤ 8 + (pI P105 b24080 2).toInt ∧ 8 + (pI P105 b24080 2).toInt ≤ 2147483647; omega) (fun z24087 h24088 => ?_)
    have h24088 : z24087.toInt = 8 + (pI P105 b24080 2).toInt := h24088
    refine g_iload_n C dX12_readSum_118 rfl 1 rfl ?_
    refine g_iast (j := (z24087.toInt.toNat)) C h24086.1 h24086.2.1 (ix_in h24086.2.2 (by omega)) dX12_readSum_119 ?_
    refine gqW (ks := [16]) (I105.setA e24085 h24086 (by decide) (arOk.none rfl)) (EM.setA I105 e24085 rfl (by decide)) (fun Y24089 Iy24090 Xy24091 w24092  => ?_)
    have w24092 : (pI Y24089 b24084 (z24087.toInt.toNat)).toInt = v105_1.toInt := w24092
    have q24093 := Xy24091.keepF 8 (by decide)
    have q24094 := Xy24091.keepA e24081 (by decide) rfl 2
    have q24095 := Xy24091.keepF 7 (by decide)
    have W24096 := W105.keep I105 Xy24091 (by decide) (by decide) (by decide)
    have Xz24097 : EM [7, 8, 15, 16] a0 P Y24089 := EM.tr ha0 X105 (Xy24091.mono (by decide))
    have e24098 := Xy24091.ref h24079 (by decide) e24081
    have e24099 := Xy24091.ref h24079 (by decide) e24085
    have h24100 := Xy24091.at h24079
    have h24101 := Xy24091.ar h24082
    have h24102 := Xy24091.ar h24086
    refine g_aload_n C dX12_readSum_120 rfl 0 rfl ?_
    refine g_getR C fi_X12_60 rfl e24098 (h24100).1 (h24100).2 dX12_readSum_121 ?_
    refine g_iconst (v := 2) C dX12_readSum_124 (by decide) ?_
    refine g_dup2_11 C dX12_readSum_125 rfl rfl ?_
    refine g_iald (j := 2) C h24101.1 h24101.2.1 (IX.litn (j := 2) h24101.2.2 rfl (by decide) (by decide)) dX12_readSum_126 ?_
    refine g_iconst (v := 1) C dX12_readSum_127 (by decide) ?_
    refine s_iadd C dX12_readSum_128 (by show -2147483648 ≤ (pI Y24089 b24080 2).toInt + 1 ∧ (pI Y24089 b24080 2).toInt + 1 ≤ 2147483647; omega) (fun z24103 h24104 => ?_)
    have h24104 : z24103.toInt = (pI Y24089 b24080 2).toInt + 1 := h24104
    refine g_iast (j := 2) C h24101.1 h24101.2.1 (IX.litn (j := 2) h24101.2.2 rfl (by decide) (by decide)) dX12_readSum_129 ?_
    refine gqW (ks := [15]) (Iy24090.setA e24098 h24101 (by decide) (arOk.of rfl (by omega))) (EM.setA Iy24090 e24098 rfl (by decide)) (fun Y24105 Iy24106 Xy24107 w24108  => ?_)
    have w24108 : (pI Y24105 b24080 2).toInt = z24103.toInt := w24108
    have q24109 := Xy24107.keepF 8 (by decide)
    have q24110 := Xy24107.keepF 7 (by decide)
    have q24111 := Xy24107.keepA e24099 (by decide) rfl (z24087.toInt.toNat)
    have W24112 := W24096.keep Iy24090 Xy24107 (by decide) (by decide) (by decide)
    have Xz24113 : EM [7, 8, 15, 16] a0 P Y24105 := EM.tr ha0 Xz24097 (Xy24107.mono (by decide))
    have e24114 := Xy24107.ref h24100 (by decide) e24098
    have e24115 := Xy24107.ref h24100 (by decide) e24099
    have h24116 := Xy24107.at h24100
    have h24117 := Xy24107.ar h24101
    have h24118 := Xy24107.ar h24102
    exact ret _ _ _ _ _ dX12_readSum_130 (by decide) (by decide) ⟨Iy24106, Xz24113, W24112, (by show (pI P a0 7).toInt ≤ (pI Y24105 a0 7).toInt; omega), (by show (pI P a0 8).toInt ≤ (pI Y24105 a0 8).toInt; omega)⟩
  have J4 : ∀ (n4 : Nat) (P4 : PP) (v4_1 : Int32) (v4_2 : Int32), (2 * (1000 - (pI P4 a0 7).toInt) + 1 - min 1 (pI P4 a0 8).toInt).toNat < n4 → (IM P4 a0) → (EM [7, 8, 15, 16] a0 P P4) → (MW P4 a0) → (∀ b, pR P4 a0 15 = some b → 0 ≤ (pI P4 b 2).toInt ∧ (pI P4 b 2).toInt ≤ 3) → ((pI P a0 7).toInt ≤ (pI P4 a0 7).toInt) → ((pI P a0 8).toInt ≤ (pI P4 a0 8).toInt) → G E ({ frames := 3, cells := 0, slots := 0, locals := 192 } : Room) D cy 3 P4 0 0 4 [(0, .ref a0), (1, .int v4_1), (2, .int v4_2)] [] := by
    intro n4
    induction n4 with
    | zero => intro P4 v4_1 v4_2 hm4 I4 X4 W4 hq4_0 rel4_0 rel4_1; omega
    | succ n4 ih4 =>
      intro P4 v4_1 v4_2 hm4 I4 X4 W4 hq4_0 rel4_0 rel4_1
      have h24119 := X4.at ha0
      obtain ⟨b24120, e24121, h24122⟩ := I4.fld (h24119) 15 13 3 rfl
      have hq4_0 := hq4_0 b24120 e24121
      have h24123 := I4.rg h24119 7 rfl
      have h24124 := I4.rg h24119 8 rfl
      refine g_aload_n C dX12_readSum_4 rfl 0 rfl ?_
      refine g_getI C fi_X12_162 (by decide) (h24119).1 (h24119).2 dX12_readSum_5 ?_
      refine b_if_ne C 105 dX12_readSum_8 (by decide) (fun h24125 => ?_) (fun h24125 => ?_)
      · have h24125 : (pI P4 a0 8).toInt ≠ 0 := ti_ne h24125
        refine g_lv (lv' := [(0, .ref a0), (1, .int v4_1)]) [0, 1] rfl ?_
        exact J105 P4 v4_1 I4 X4 W4 (by omega) (fun b9 e9 => by rw [e24121] at e9; cases e9; omega) (by show (pI P a0 7).toInt ≤ (pI P4 a0 7).toInt; omega) (by show (pI P a0 8).toInt ≤ (pI P4 a0 8).toInt; omega)
      · have h24125 : (pI P4 a0 8).toInt = 0 := congrArg Int32.toInt h24125
        refine g_iload_n C dX12_readSum_11 rfl 2 rfl ?_
        refine g_iconst (v := 2) C dX12_readSum_12 (by decide) ?_
        have u24127 := ti_rng v4_2
        refine b_icmp_lt C 29 dX12_readSum_13 (by decide) (fun h24126 => ?_) (fun h24126 => ?_)
        · have h24126 : v4_2.toInt < 2 := h24126
          refine g_aload_n C dX12_readSum_29 rfl 0 rfl ?_
          obtain ⟨b24128, e24129, h24130⟩ := I4.fld (h24119) 4 13 1002 rfl
          refine g_getR C fi_X12_24 rfl e24129 (h24119).1 (h24119).2 dX12_readSum_30 ?_
          refine g_aload_n C dX12_readSum_33 rfl 0 rfl ?_
          refine g_getI C fi_X12_159 (by decide) (h24119).1 (h24119).2 dX12_readSum_34 ?_
          refine g_iald (j := ((pI P4 a0 7).toInt.toNat)) C h24130.1 h24130.2.1 (ix_in h24130.2.2 (by omega)) dX12_readSum_37 ?_
          have h24131 := I4.arr e24129 rfl ((pI P4 a0 7).toInt.toNat)
          refine g_iconst (v := 2) C dX12_readSum_38 (by decide) ?_
          refine b_icmp_ne C 83 dX12_readSum_39 (by decide) (fun h24132 => ?_) (fun h24132 => ?_)
          · have h24132 : (pI P4 b24128 ((pI P4 a0 7).toInt.toNat)).toInt ≠ 2 := ti_ne h24132
            refine g_iload_n C dX12_readSum_83 rfl 1 rfl ?_
            refine g_iconst (v := 1) C dX12_readSum_84 (by decide) ?_
            refine g_aload_n C dX12_readSum_85 rfl 0 rfl ?_
            refine g_iconst (v := 0) C dX12_readSum_86 (by decide) ?_
            refine g_aload_n C dX12_readSum_87 rfl 0 rfl ?_
            refine g_getI C fi_X12_202 (by decide) (h24119).1 (h24119).2 dX12_readSum_88 ?_
            have h24133 := I4.rg (h24119) 18 rfl
            refine g_iconst (v := 1) C dX12_readSum_91 (by decide) ?_
            refine s_isub C dX12_readSum_92 (by show -2147483648 ≤ (pI P4 a0 18).toInt - 1 ∧ (pI P4 a0 18).toInt - 1 ≤ 2147483647; omega) (fun z24134 h24135 => ?_)
            have h24135 : z24134.toInt = (pI P4 a0 18).toInt - 1 := h24135
            refine g_callVI (rest := [.int 1, .int v4_1]) C mv_X12_211 [.int 0, .int z24134] (s_X12_takeNumber I4 (by decide) (by omega) W4) (h24119).1 (h24119).2 rfl rfl (by decide) (Nat.le_of_ble_eq_true rfl) (by decide) dX12_readSum_93 (fun r24136 Y24137 h24138 => ?_)
            obtain ⟨Iy24139, Xy24140, W24141, p24142, p24143, p24144, h24138⟩ := h24138
            have p24142 : (pI P4 a0 7).toInt ≤ (pI Y24137 a0 7).toInt := p24142
            have p24143 : (pI P4 a0 8).toInt ≤ (pI Y24137 a0 8).toInt := p24143
            have p24144 : 1 ≤ (pI Y24137 a0 8).toInt ∨ (pI Y24137 a0 7).toInt = (pI P4 a0 7).toInt + 1 := p24144
            have q24145 := Xy24140.keepA e24121 (by decide) rfl 2
            have q24146 := Xy24140.keepF 18 (by decide)
            have Xz24147 : EM [7, 8, 15, 16] a0 P Y24137 := EM.tr ha0 X4 (Xy24140.mono (by decide))
            have e24148 := Xy24140.ref h24119 (by decide) e24121
            have h24149 := Xy24140.at h24119
            have h24150 := Xy24140.ar h24122
            have h24151 := Iy24139.rg h24149 7 rfl
            have h24152 := Iy24139.rg h24149 8 rfl
            have h24153 := Iy24139.rg h24149 7 rfl
            have h24154 := Iy24139.rg h24149 8 rfl
            obtain ⟨h24138, hi24155⟩ := h24138
            have hi24155 : (1 ≤ (pI Y24137 a0 8).toInt ∧ r24136.toInt = 0) ∨ (0 ≤ r24136.toInt ∧ r24136.toInt ≤ z24134.toInt) := hi24155
            have h24138 : 0 ≤ r24136.toInt ∧ r24136.toInt ≤ 999 := h24138
            refine a_ishl C dX12_readSum_96 (fun z24156 => ?_)
            refine a_ior C dX12_readSum_97 (fun z24158 => ?_)
            refine g_istore_n (lv' := [(1, .int z24158), (0, .ref a0), (2, .int v4_2)]) C dX12_readSum_98 rfl (by decide) rfl ?_
            refine s_iinc (lv0 := [(1, .int z24158), (0, .ref a0)]) (m := 1) C dX12_readSum_99 2 rfl (by decide) rfl (by decide) (by omega) (fun z24160 h24161 => ?_)
            have h24161 : z24160.toInt = v4_2.toInt + 1 := h24161
            refine g_goto C 4 dX12_readSum_102 (by decide) ?_
            refine g_lv (lv' := [(0, .ref a0), (1, .int z24158), (2, .int z24160)]) [2, 1, 0] rfl ?_
            exact ih4 Y24137 z24158 z24160 (by omega) Iy24139 Xz24147 W24141 (fun b9 e9 => by rw [e24148] at e9; cases e9; omega) (by show (pI P a0 7).toInt ≤ (pI Y24137 a0 7).toInt; omega) (by show (pI P a0 8).toInt ≤ (pI Y24137 a0 8).toInt; omega)
          · have h24132 : (pI P4 b24128 ((pI P4 a0 7).toInt.toNat)).toInt = 2 := congrArg Int32.toInt h24132
            refine g_aload_n C dX12_readSum_42 rfl 0 rfl ?_
            obtain ⟨b24162, e24163, h24164⟩ := I4.fld (h24119) 6 14 1002 rfl
            refine g_getR C fi_X12_30 rfl e24163 (h24119).1 (h24119).2 dX12_readSum_43 ?_
            refine g_aload_n C dX12_readSum_46 rfl 0 rfl ?_
            refine g_getI C fi_X12_159 (by decide) (h24119).1 (h24119).2 dX12_readSum_47 ?_
            refine g_lald (j := ((pI P4 a0 7).toInt.toNat)) C h24164.1 h24164.2.1 (ix_in h24164.2.2 (by omega)) dX12_readSum_50 ?_
            refine g_topl (fun l24165 _ => ?_)
            refine g_aload_n C dX12_readSum_51 rfl 0 rfl ?_
            refine g_getI C fi_X12_202 (by decide) (h24119).1 (h24119).2 dX12_readSum_52 ?_
            have h24166 := I4.rg (h24119) 18 rfl
            refine a_i2l C dX12_readSum_55 (fun l24167 => ?_)
            refine a_lcmp C dX12_readSum_56 (fun z24168 => ?_)
            have u24170 := ti_rng z24168
            refine b_if_ge C 83 dX12_readSum_57 (by decide) (fun h24169 => ?_) (fun h24169 => ?_)
            · have h24169 : 0 ≤ z24168.toInt := h24169
              refine g_iload_n C dX12_readSum_83 rfl 1 rfl ?_
              refine g_iconst (v := 1) C dX12_readSum_84 (by decide) ?_
              refine g_aload_n C dX12_readSum_85 rfl 0 rfl ?_
              refine g_iconst (v := 0) C dX12_readSum_86 (by decide) ?_
              refine g_aload_n C dX12_readSum_87 rfl 0 rfl ?_
              refine g_getI C fi_X12_202 (by decide) (h24119).1 (h24119).2 dX12_readSum_88 ?_
              refine g_iconst (v := 1) C dX12_readSum_91 (by decide) ?_
              refine s_isub C dX12_readSum_92 (by show -2147483648 ≤ (pI P4 a0 18).toInt - 1 ∧ (pI P4 a0 18).toInt - 1 ≤ 2147483647; omega) (fun z24171 h24172 => ?_)
              have h24172 : z24171.toInt = (pI P4 a0 18).toInt - 1 := h24172
              refine g_callVI (rest := [.int 1, .int v4_1]) C mv_X12_211 [.int 0, .int z24171] (s_X12_takeNumber I4 (by decide) (by omega) W4) (h24119).1 (h24119).2 rfl rfl (by decide) (Nat.le_of_ble_eq_true rfl) (by decide) dX12_readSum_93 (fun r24173 Y24174 h24175 => ?_)
              obtain ⟨Iy24176, Xy24177, W24178, p24179, p24180, p24181, h24175⟩ := h24175
              have p24179 : (pI P4 a0 7).toInt ≤ (pI Y24174 a0 7).toInt := p24179
              have p24180 : (pI P4 a0 8).toInt ≤ (pI Y24174 a0 8).toInt := p24180
              have p24181 : 1 ≤ (pI Y24174 a0 8).toInt ∨ (pI Y24174 a0 7).toInt = (pI P4 a0 7).toInt + 1 := p24181
              have q24182 := Xy24177.keepA e24121 (by decide) rfl 2
              have q24183 := Xy24177.keepF 18 (by decide)
              have Xz24184 : EM [7, 8, 15, 16] a0 P Y24174 := EM.tr ha0 X4 (Xy24177.mono (by decide))
              have e24185 := Xy24177.ref h24119 (by decide) e24121
              have h24186 := Xy24177.at h24119
              have h24187 := Xy24177.ar h24122
              have h24188 := Iy24176.rg h24186 7 rfl
              have h24189 := Iy24176.rg h24186 8 rfl
              have h24190 := Iy24176.rg h24186 7 rfl
              have h24191 := Iy24176.rg h24186 8 rfl
              obtain ⟨h24175, hi24192⟩ := h24175
              have hi24192 : (1 ≤ (pI Y24174 a0 8).toInt ∧ r24173.toInt = 0) ∨ (0 ≤ r24173.toInt ∧ r24173.toInt ≤ z24171.toInt) := hi24192
              have h24175 : 0 ≤ r24173.toInt ∧ r24173.toInt ≤ 999 := h24175
              refine a_ishl C dX12_readSum_96 (fun z24193 => ?_)
              refine a_ior C dX12_readSum_97 (fun z24195 => ?_)
              refine g_istore_n (lv' := [(1, .int z24195), (0, .ref a0), (2, .int v4_2)]) C dX12_readSum_98 rfl (by decide) rfl ?_
              refine s_iinc (lv0 := [(1, .int z24195), (0, .ref a0)]) (m := 1) C dX12_readSum_99 2 rfl (by decide) rfl (by decide) (by omega) (fun z24197 h24198 => ?_)
              have h24198 : z24197.toInt = v4_2.toInt + 1 := h24198
              refine g_goto C 4 dX12_readSum_102 (by decide) ?_
              refine g_lv (lv' := [(0, .ref a0), (1, .int z24195), (2, .int z24197)]) [2, 1, 0] rfl ?_
              exact ih4 Y24174 z24195 z24197 (by omega) Iy24176 Xz24184 W24178 (fun b9 e9 => by rw [e24185] at e9; cases e9; omega) (by show (pI P a0 7).toInt ≤ (pI Y24174 a0 7).toInt; omega) (by show (pI P a0 8).toInt ≤ (pI Y24174 a0 8).toInt; omega)
            · have h24169 : z24168.toInt < 0 := h24169
              refine g_iload_n C dX12_readSum_60 rfl 1 rfl ?_
              refine g_aload_n C dX12_readSum_61 rfl 0 rfl ?_
              refine g_getR C fi_X12_30 rfl e24163 (h24119).1 (h24119).2 dX12_readSum_62 ?_
              refine g_aload_n C dX12_readSum_65 rfl 0 rfl ?_
              refine g_getI C fi_X12_159 (by decide) (h24119).1 (h24119).2 dX12_readSum_66 ?_
              refine g_lald (j := ((pI P4 a0 7).toInt.toNat)) C h24164.1 h24164.2.1 (ix_in h24164.2.2 (by omega)) dX12_readSum_69 ?_
              refine g_topl (fun l24199 _ => ?_)
              refine a_l2i C dX12_readSum_70 (fun z24200 => ?_)
              refine a_ishr C dX12_readSum_71 (fun z24201 => ?_)
              refine g_iconst (v := 1) C dX12_readSum_72 (by decide) ?_
              refine s_iand C dX12_readSum_73 (by show 0 ≤ 1; omega) (fun z24203 h24204 => ?_)
              have h24204 : 0 ≤ z24203.toInt ∧ z24203.toInt ≤ 1 := h24204
              refine g_iconst (v := 1) C dX12_readSum_74 (by decide) ?_
              refine b_icmp_ne C 83 dX12_readSum_75 (by decide) (fun h24205 => ?_) (fun h24205 => ?_)
              · have h24205 : z24203.toInt ≠ 1 := ti_ne h24205
                refine g_iload_n C dX12_readSum_83 rfl 1 rfl ?_
                refine g_iconst (v := 1) C dX12_readSum_84 (by decide) ?_
                refine g_aload_n C dX12_readSum_85 rfl 0 rfl ?_
                refine g_iconst (v := 0) C dX12_readSum_86 (by decide) ?_
                refine g_aload_n C dX12_readSum_87 rfl 0 rfl ?_
                refine g_getI C fi_X12_202 (by decide) (h24119).1 (h24119).2 dX12_readSum_88 ?_
                refine g_iconst (v := 1) C dX12_readSum_91 (by decide) ?_
                refine s_isub C dX12_readSum_92 (by show -2147483648 ≤ (pI P4 a0 18).toInt - 1 ∧ (pI P4 a0 18).toInt - 1 ≤ 2147483647; omega) (fun z24206 h24207 => ?_)
                have h24207 : z24206.toInt = (pI P4 a0 18).toInt - 1 := h24207
                refine g_callVI (rest := [.int 1, .int v4_1]) C mv_X12_211 [.int 0, .int z24206] (s_X12_takeNumber I4 (by decide) (by omega) W4) (h24119).1 (h24119).2 rfl rfl (by decide) (Nat.le_of_ble_eq_true rfl) (by decide) dX12_readSum_93 (fun r24208 Y24209 h24210 => ?_)
                obtain ⟨Iy24211, Xy24212, W24213, p24214, p24215, p24216, h24210⟩ := h24210
                have p24214 : (pI P4 a0 7).toInt ≤ (pI Y24209 a0 7).toInt := p24214
                have p24215 : (pI P4 a0 8).toInt ≤ (pI Y24209 a0 8).toInt := p24215
                have p24216 : 1 ≤ (pI Y24209 a0 8).toInt ∨ (pI Y24209 a0 7).toInt = (pI P4 a0 7).toInt + 1 := p24216
                have q24217 := Xy24212.keepA e24121 (by decide) rfl 2
                have q24218 := Xy24212.keepF 18 (by decide)
                have Xz24219 : EM [7, 8, 15, 16] a0 P Y24209 := EM.tr ha0 X4 (Xy24212.mono (by decide))
                have e24220 := Xy24212.ref h24119 (by decide) e24121
                have h24221 := Xy24212.at h24119
                have h24222 := Xy24212.ar h24122
                have h24223 := Iy24211.rg h24221 7 rfl
                have h24224 := Iy24211.rg h24221 8 rfl
                have h24225 := Iy24211.rg h24221 7 rfl
                have h24226 := Iy24211.rg h24221 8 rfl
                obtain ⟨h24210, hi24227⟩ := h24210
                have hi24227 : (1 ≤ (pI Y24209 a0 8).toInt ∧ r24208.toInt = 0) ∨ (0 ≤ r24208.toInt ∧ r24208.toInt ≤ z24206.toInt) := hi24227
                have h24210 : 0 ≤ r24208.toInt ∧ r24208.toInt ≤ 999 := h24210
                refine a_ishl C dX12_readSum_96 (fun z24228 => ?_)
                refine a_ior C dX12_readSum_97 (fun z24230 => ?_)
                refine g_istore_n (lv' := [(1, .int z24230), (0, .ref a0), (2, .int v4_2)]) C dX12_readSum_98 rfl (by decide) rfl ?_
                refine s_iinc (lv0 := [(1, .int z24230), (0, .ref a0)]) (m := 1) C dX12_readSum_99 2 rfl (by decide) rfl (by decide) (by omega) (fun z24232 h24233 => ?_)
                have h24233 : z24232.toInt = v4_2.toInt + 1 := h24233
                refine g_goto C 4 dX12_readSum_102 (by decide) ?_
                refine g_lv (lv' := [(0, .ref a0), (1, .int z24230), (2, .int z24232)]) [2, 1, 0] rfl ?_
                exact ih4 Y24209 z24230 z24232 (by omega) Iy24211 Xz24219 W24213 (fun b9 e9 => by rw [e24220] at e9; cases e9; omega) (by show (pI P a0 7).toInt ≤ (pI Y24209 a0 7).toInt; omega) (by show (pI P a0 8).toInt ≤ (pI Y24209 a0 8).toInt; omega)
              · have h24205 : z24203.toInt = 1 := congrArg Int32.toInt h24205
                refine g_aload_n C dX12_readSum_78 rfl 0 rfl ?_
                refine g_iconst (v := 3) C dX12_readSum_79 (by decide) ?_
                refine g_callVV (rest := []) C mv_X12_168 [.int 3] (s_X12_wrong I4 (by decide) W4) (h24119).1 (h24119).2 rfl rfl (by decide) (Nat.le_of_ble_eq_true rfl) (by decide) dX12_readSum_80 (fun Y24235 h24236 => ?_)
                obtain ⟨Iy24237, Xy24238, W24239, p24240, p24241⟩ := h24236
                have p24240 : 1 ≤ (pI Y24235 a0 8).toInt := p24240
                have p24241 : (pI P4 a0 8).toInt ≤ (pI Y24235 a0 8).toInt := p24241
                have q24242 := Xy24238.keepA e24121 (by decide) rfl 2
                have q24243 := Xy24238.keepF 7 (by decide)
                have q24244 := Xy24238.keepF 18 (by decide)
                have Xz24245 : EM [7, 8, 15, 16] a0 P Y24235 := EM.tr ha0 X4 (Xy24238.mono (by decide))
                have e24246 := Xy24238.ref h24119 (by decide) e24121
                have h24247 := Xy24238.at h24119
                have h24248 := Xy24238.ar h24122
                have h24249 := Iy24237.rg h24247 8 rfl
                refine g_iload_n C dX12_readSum_83 rfl 1 rfl ?_
                refine g_iconst (v := 1) C dX12_readSum_84 (by decide) ?_
                refine g_aload_n C dX12_readSum_85 rfl 0 rfl ?_
                refine g_iconst (v := 0) C dX12_readSum_86 (by decide) ?_
                refine g_aload_n C dX12_readSum_87 rfl 0 rfl ?_
                refine g_getI C fi_X12_202 (by decide) (h24247).1 (h24247).2 dX12_readSum_88 ?_
                refine g_iconst (v := 1) C dX12_readSum_91 (by decide) ?_
                refine s_isub C dX12_readSum_92 (by show -2147483648 ≤ (pI Y24235 a0 18).toInt - 1 ∧ (pI Y24235 a0 18).toInt - 1 ≤ 2147483647; omega) (fun z24250 h24251 => ?_)
                have h24251 : z24250.toInt = (pI Y24235 a0 18).toInt - 1 := h24251
                refine g_callVI (rest := [.int 1, .int v4_1]) C mv_X12_211 [.int 0, .int z24250] (s_X12_takeNumber Iy24237 (by decide) (by omega) W24239) (h24247).1 (h24247).2 rfl rfl (by decide) (Nat.le_of_ble_eq_true rfl) (by decide) dX12_readSum_93 (fun r24252 Y24253 h24254 => ?_)
                obtain ⟨Iy24255, Xy24256, W24257, p24258, p24259, p24260, h24254⟩ := h24254
                have p24258 : (pI Y24235 a0 7).toInt ≤ (pI Y24253 a0 7).toInt := p24258
                have p24259 : (pI Y24235 a0 8).toInt ≤ (pI Y24253 a0 8).toInt := p24259
                have p24260 : 1 ≤ (pI Y24253 a0 8).toInt ∨ (pI Y24253 a0 7).toInt = (pI Y24235 a0 7).toInt + 1 := p24260
                have q24261 := Xy24256.keepA e24246 (by decide) rfl 2
                have q24262 := Xy24256.keepF 18 (by decide)
                have Xz24263 : EM [7, 8, 15, 16] a0 P Y24253 := EM.tr ha0 Xz24245 (Xy24256.mono (by decide))
                have e24264 := Xy24256.ref h24247 (by decide) e24246
                have h24265 := Xy24256.at h24247
                have h24266 := Xy24256.ar h24248
                have h24267 := Iy24255.rg h24265 7 rfl
                have h24268 := Iy24255.rg h24265 8 rfl
                have h24269 := Iy24255.rg h24265 7 rfl
                have h24270 := Iy24255.rg h24265 8 rfl
                obtain ⟨h24254, hi24271⟩ := h24254
                have hi24271 : (1 ≤ (pI Y24253 a0 8).toInt ∧ r24252.toInt = 0) ∨ (0 ≤ r24252.toInt ∧ r24252.toInt ≤ z24250.toInt) := hi24271
                have h24254 : 0 ≤ r24252.toInt ∧ r24252.toInt ≤ 999 := h24254
                refine a_ishl C dX12_readSum_96 (fun z24272 => ?_)
                refine a_ior C dX12_readSum_97 (fun z24274 => ?_)
                refine g_istore_n (lv' := [(1, .int z24274), (0, .ref a0), (2, .int v4_2)]) C dX12_readSum_98 rfl (by decide) rfl ?_
                refine s_iinc (lv0 := [(1, .int z24274), (0, .ref a0)]) (m := 1) C dX12_readSum_99 2 rfl (by decide) rfl (by decide) (by omega) (fun z24276 h24277 => ?_)
                have h24277 : z24276.toInt = v4_2.toInt + 1 := h24277
                refine g_goto C 4 dX12_readSum_102 (by decide) ?_
                refine g_lv (lv' := [(0, .ref a0), (1, .int z24274), (2, .int z24276)]) [2, 1, 0] rfl ?_
                exact ih4 Y24253 z24274 z24276 (by omega) Iy24255 Xz24263 W24257 (fun b9 e9 => by rw [e24264] at e9; cases e9; omega) (by show (pI P a0 7).toInt ≤ (pI Y24253 a0 7).toInt; omega) (by show (pI P a0 8).toInt ≤ (pI Y24253 a0 8).toInt; omega)
        · have h24126 : 2 ≤ v4_2.toInt := h24126
          refine g_aload_n C dX12_readSum_16 rfl 0 rfl ?_
          obtain ⟨b24278, e24279, h24280⟩ := I4.fld (h24119) 4 13 1002 rfl
          refine g_getR C fi_X12_24 rfl e24279 (h24119).1 (h24119).2 dX12_readSum_17 ?_
          refine g_aload_n C dX12_readSum_20 rfl 0 rfl ?_
          refine g_getI C fi_X12_159 (by decide) (h24119).1 (h24119).2 dX12_readSum_21 ?_
          refine g_iald (j := ((pI P4 a0 7).toInt.toNat)) C h24280.1 h24280.2.1 (ix_in h24280.2.2 (by omega)) dX12_readSum_24 ?_
          have h24281 := I4.arr e24279 rfl ((pI P4 a0 7).toInt.toNat)
          refine g_iconst (v := 2) C dX12_readSum_25 (by decide) ?_
          refine b_icmp_ne C 105 dX12_readSum_26 (by decide) (fun h24282 => ?_) (fun h24282 => ?_)
          · have h24282 : (pI P4 b24278 ((pI P4 a0 7).toInt.toNat)).toInt ≠ 2 := ti_ne h24282
            refine g_lv (lv' := [(0, .ref a0), (1, .int v4_1)]) [0, 1] rfl ?_
            exact J105 P4 v4_1 I4 X4 W4 (by omega) (fun b9 e9 => by rw [e24121] at e9; cases e9; omega) (by show (pI P a0 7).toInt ≤ (pI P4 a0 7).toInt; omega) (by show (pI P a0 8).toInt ≤ (pI P4 a0 8).toInt; omega)
          · have h24282 : (pI P4 b24278 ((pI P4 a0 7).toInt.toNat)).toInt = 2 := congrArg Int32.toInt h24282
            refine g_aload_n C dX12_readSum_29 rfl 0 rfl ?_
            refine g_getR C fi_X12_24 rfl e24279 (h24119).1 (h24119).2 dX12_readSum_30 ?_
            refine g_aload_n C dX12_readSum_33 rfl 0 rfl ?_
            refine g_getI C fi_X12_159 (by decide) (h24119).1 (h24119).2 dX12_readSum_34 ?_
            refine g_iald (j := ((pI P4 a0 7).toInt.toNat)) C h24280.1 h24280.2.1 (ix_in h24280.2.2 (by omega)) dX12_readSum_37 ?_
            refine g_iconst (v := 2) C dX12_readSum_38 (by decide) ?_
            refine b_icmp_ne C 83 dX12_readSum_39 (by decide) (fun h24283 => ?_) (fun h24283 => ?_)
            · have h24283 : (pI P4 b24278 ((pI P4 a0 7).toInt.toNat)).toInt ≠ 2 := ti_ne h24283
              omega
            · have h24283 : (pI P4 b24278 ((pI P4 a0 7).toInt.toNat)).toInt = 2 := congrArg Int32.toInt h24283
              refine g_aload_n C dX12_readSum_42 rfl 0 rfl ?_
              obtain ⟨b24284, e24285, h24286⟩ := I4.fld (h24119) 6 14 1002 rfl
              refine g_getR C fi_X12_30 rfl e24285 (h24119).1 (h24119).2 dX12_readSum_43 ?_
              refine g_aload_n C dX12_readSum_46 rfl 0 rfl ?_
              refine g_getI C fi_X12_159 (by decide) (h24119).1 (h24119).2 dX12_readSum_47 ?_
              refine g_lald (j := ((pI P4 a0 7).toInt.toNat)) C h24286.1 h24286.2.1 (ix_in h24286.2.2 (by omega)) dX12_readSum_50 ?_
              refine g_topl (fun l24287 _ => ?_)
              refine g_aload_n C dX12_readSum_51 rfl 0 rfl ?_
              refine g_getI C fi_X12_202 (by decide) (h24119).1 (h24119).2 dX12_readSum_52 ?_
              have h24288 := I4.rg (h24119) 18 rfl
              refine a_i2l C dX12_readSum_55 (fun l24289 => ?_)
              refine a_lcmp C dX12_readSum_56 (fun z24290 => ?_)
              have u24292 := ti_rng z24290
              refine b_if_ge C 83 dX12_readSum_57 (by decide) (fun h24291 => ?_) (fun h24291 => ?_)
              · have h24291 : 0 ≤ z24290.toInt := h24291
                refine g_iload_n C dX12_readSum_83 rfl 1 rfl ?_
                refine g_iconst (v := 1) C dX12_readSum_84 (by decide) ?_
                refine g_aload_n C dX12_readSum_85 rfl 0 rfl ?_
                refine g_iconst (v := 0) C dX12_readSum_86 (by decide) ?_
                refine g_aload_n C dX12_readSum_87 rfl 0 rfl ?_
                refine g_getI C fi_X12_202 (by decide) (h24119).1 (h24119).2 dX12_readSum_88 ?_
                refine g_iconst (v := 1) C dX12_readSum_91 (by decide) ?_
                refine s_isub C dX12_readSum_92 (by show -2147483648 ≤ (pI P4 a0 18).toInt - 1 ∧ (pI P4 a0 18).toInt - 1 ≤ 2147483647; omega) (fun z24293 h24294 => ?_)
                have h24294 : z24293.toInt = (pI P4 a0 18).toInt - 1 := h24294
                refine g_callVI (rest := [.int 1, .int v4_1]) C mv_X12_211 [.int 0, .int z24293] (s_X12_takeNumber I4 (by decide) (by omega) W4) (h24119).1 (h24119).2 rfl rfl (by decide) (Nat.le_of_ble_eq_true rfl) (by decide) dX12_readSum_93 (fun r24295 Y24296 h24297 => ?_)
                obtain ⟨Iy24298, Xy24299, W24300, p24301, p24302, p24303, h24297⟩ := h24297
                have p24301 : (pI P4 a0 7).toInt ≤ (pI Y24296 a0 7).toInt := p24301
                have p24302 : (pI P4 a0 8).toInt ≤ (pI Y24296 a0 8).toInt := p24302
                have p24303 : 1 ≤ (pI Y24296 a0 8).toInt ∨ (pI Y24296 a0 7).toInt = (pI P4 a0 7).toInt + 1 := p24303
                have q24304 := Xy24299.keepA e24121 (by decide) rfl 2
                have q24305 := Xy24299.keepF 18 (by decide)
                have Xz24306 : EM [7, 8, 15, 16] a0 P Y24296 := EM.tr ha0 X4 (Xy24299.mono (by decide))
                have e24307 := Xy24299.ref h24119 (by decide) e24121
                have h24308 := Xy24299.at h24119
                have h24309 := Xy24299.ar h24122
                have h24310 := Iy24298.rg h24308 7 rfl
                have h24311 := Iy24298.rg h24308 8 rfl
                have h24312 := Iy24298.rg h24308 7 rfl
                have h24313 := Iy24298.rg h24308 8 rfl
                obtain ⟨h24297, hi24314⟩ := h24297
                have hi24314 : (1 ≤ (pI Y24296 a0 8).toInt ∧ r24295.toInt = 0) ∨ (0 ≤ r24295.toInt ∧ r24295.toInt ≤ z24293.toInt) := hi24314
                have h24297 : 0 ≤ r24295.toInt ∧ r24295.toInt ≤ 999 := h24297
                refine a_ishl C dX12_readSum_96 (fun z24315 => ?_)
                refine a_ior C dX12_readSum_97 (fun z24317 => ?_)
                refine g_istore_n (lv' := [(1, .int z24317), (0, .ref a0), (2, .int v4_2)]) C dX12_readSum_98 rfl (by decide) rfl ?_
                refine a_iinc (lv0 := [(1, .int z24317), (0, .ref a0)]) C dX12_readSum_99 2 rfl (by decide) rfl (fun z24319 => ?_)
                refine g_goto C 4 dX12_readSum_102 (by decide) ?_
                refine g_lv (lv' := [(0, .ref a0), (1, .int z24317), (2, .int z24319)]) [2, 1, 0] rfl ?_
                exact ih4 Y24296 z24317 z24319 (by omega) Iy24298 Xz24306 W24300 (fun b9 e9 => by rw [e24307] at e9; cases e9; omega) (by show (pI P a0 7).toInt ≤ (pI Y24296 a0 7).toInt; omega) (by show (pI P a0 8).toInt ≤ (pI Y24296 a0 8).toInt; omega)
              · have h24291 : z24290.toInt < 0 := h24291
                refine g_iload_n C dX12_readSum_60 rfl 1 rfl ?_
                refine g_aload_n C dX12_readSum_61 rfl 0 rfl ?_
                refine g_getR C fi_X12_30 rfl e24285 (h24119).1 (h24119).2 dX12_readSum_62 ?_
                refine g_aload_n C dX12_readSum_65 rfl 0 rfl ?_
                refine g_getI C fi_X12_159 (by decide) (h24119).1 (h24119).2 dX12_readSum_66 ?_
                refine g_lald (j := ((pI P4 a0 7).toInt.toNat)) C h24286.1 h24286.2.1 (ix_in h24286.2.2 (by omega)) dX12_readSum_69 ?_
                refine g_topl (fun l24321 _ => ?_)
                refine a_l2i C dX12_readSum_70 (fun z24322 => ?_)
                refine a_ishr C dX12_readSum_71 (fun z24323 => ?_)
                refine g_iconst (v := 1) C dX12_readSum_72 (by decide) ?_
                refine s_iand C dX12_readSum_73 (by show 0 ≤ 1; omega) (fun z24325 h24326 => ?_)
                have h24326 : 0 ≤ z24325.toInt ∧ z24325.toInt ≤ 1 := h24326
                refine g_iconst (v := 1) C dX12_readSum_74 (by decide) ?_
                refine b_icmp_ne C 83 dX12_readSum_75 (by decide) (fun h24327 => ?_) (fun h24327 => ?_)
                · have h24327 : z24325.toInt ≠ 1 := ti_ne h24327
                  refine g_iload_n C dX12_readSum_83 rfl 1 rfl ?_
                  refine g_iconst (v := 1) C dX12_readSum_84 (by decide) ?_
                  refine g_aload_n C dX12_readSum_85 rfl 0 rfl ?_
                  refine g_iconst (v := 0) C dX12_readSum_86 (by decide) ?_
                  refine g_aload_n C dX12_readSum_87 rfl 0 rfl ?_
                  refine g_getI C fi_X12_202 (by decide) (h24119).1 (h24119).2 dX12_readSum_88 ?_
                  refine g_iconst (v := 1) C dX12_readSum_91 (by decide) ?_
                  refine s_isub C dX12_readSum_92 (by show -2147483648 ≤ (pI P4 a0 18).toInt - 1 ∧ (pI P4 a0 18).toInt - 1 ≤ 2147483647; omega) (fun z24328 h24329 => ?_)
                  have h24329 : z24328.toInt = (pI P4 a0 18).toInt - 1 := h24329
                  refine g_callVI (rest := [.int 1, .int v4_1]) C mv_X12_211 [.int 0, .int z24328] (s_X12_takeNumber I4 (by decide) (by omega) W4) (h24119).1 (h24119).2 rfl rfl (by decide) (Nat.le_of_ble_eq_true rfl) (by decide) dX12_readSum_93 (fun r24330 Y24331 h24332 => ?_)
                  obtain ⟨Iy24333, Xy24334, W24335, p24336, p24337, p24338, h24332⟩ := h24332
                  have p24336 : (pI P4 a0 7).toInt ≤ (pI Y24331 a0 7).toInt := p24336
                  have p24337 : (pI P4 a0 8).toInt ≤ (pI Y24331 a0 8).toInt := p24337
                  have p24338 : 1 ≤ (pI Y24331 a0 8).toInt ∨ (pI Y24331 a0 7).toInt = (pI P4 a0 7).toInt + 1 := p24338
                  have q24339 := Xy24334.keepA e24121 (by decide) rfl 2
                  have q24340 := Xy24334.keepF 18 (by decide)
                  have Xz24341 : EM [7, 8, 15, 16] a0 P Y24331 := EM.tr ha0 X4 (Xy24334.mono (by decide))
                  have e24342 := Xy24334.ref h24119 (by decide) e24121
                  have h24343 := Xy24334.at h24119
                  have h24344 := Xy24334.ar h24122
                  have h24345 := Iy24333.rg h24343 7 rfl
                  have h24346 := Iy24333.rg h24343 8 rfl
                  have h24347 := Iy24333.rg h24343 7 rfl
                  have h24348 := Iy24333.rg h24343 8 rfl
                  obtain ⟨h24332, hi24349⟩ := h24332
                  have hi24349 : (1 ≤ (pI Y24331 a0 8).toInt ∧ r24330.toInt = 0) ∨ (0 ≤ r24330.toInt ∧ r24330.toInt ≤ z24328.toInt) := hi24349
                  have h24332 : 0 ≤ r24330.toInt ∧ r24330.toInt ≤ 999 := h24332
                  refine a_ishl C dX12_readSum_96 (fun z24350 => ?_)
                  refine a_ior C dX12_readSum_97 (fun z24352 => ?_)
                  refine g_istore_n (lv' := [(1, .int z24352), (0, .ref a0), (2, .int v4_2)]) C dX12_readSum_98 rfl (by decide) rfl ?_
                  refine a_iinc (lv0 := [(1, .int z24352), (0, .ref a0)]) C dX12_readSum_99 2 rfl (by decide) rfl (fun z24354 => ?_)
                  refine g_goto C 4 dX12_readSum_102 (by decide) ?_
                  refine g_lv (lv' := [(0, .ref a0), (1, .int z24352), (2, .int z24354)]) [2, 1, 0] rfl ?_
                  exact ih4 Y24331 z24352 z24354 (by omega) Iy24333 Xz24341 W24335 (fun b9 e9 => by rw [e24342] at e9; cases e9; omega) (by show (pI P a0 7).toInt ≤ (pI Y24331 a0 7).toInt; omega) (by show (pI P a0 8).toInt ≤ (pI Y24331 a0 8).toInt; omega)
                · have h24327 : z24325.toInt = 1 := congrArg Int32.toInt h24327
                  refine g_aload_n C dX12_readSum_78 rfl 0 rfl ?_
                  refine g_iconst (v := 3) C dX12_readSum_79 (by decide) ?_
                  refine g_callVV (rest := []) C mv_X12_168 [.int 3] (s_X12_wrong I4 (by decide) W4) (h24119).1 (h24119).2 rfl rfl (by decide) (Nat.le_of_ble_eq_true rfl) (by decide) dX12_readSum_80 (fun Y24357 h24358 => ?_)
                  obtain ⟨Iy24359, Xy24360, W24361, p24362, p24363⟩ := h24358
                  have p24362 : 1 ≤ (pI Y24357 a0 8).toInt := p24362
                  have p24363 : (pI P4 a0 8).toInt ≤ (pI Y24357 a0 8).toInt := p24363
                  have q24364 := Xy24360.keepA e24121 (by decide) rfl 2
                  have q24365 := Xy24360.keepF 7 (by decide)
                  have q24366 := Xy24360.keepF 18 (by decide)
                  have Xz24367 : EM [7, 8, 15, 16] a0 P Y24357 := EM.tr ha0 X4 (Xy24360.mono (by decide))
                  have e24368 := Xy24360.ref h24119 (by decide) e24121
                  have h24369 := Xy24360.at h24119
                  have h24370 := Xy24360.ar h24122
                  have h24371 := Iy24359.rg h24369 8 rfl
                  refine g_iload_n C dX12_readSum_83 rfl 1 rfl ?_
                  refine g_iconst (v := 1) C dX12_readSum_84 (by decide) ?_
                  refine g_aload_n C dX12_readSum_85 rfl 0 rfl ?_
                  refine g_iconst (v := 0) C dX12_readSum_86 (by decide) ?_
                  refine g_aload_n C dX12_readSum_87 rfl 0 rfl ?_
                  refine g_getI C fi_X12_202 (by decide) (h24369).1 (h24369).2 dX12_readSum_88 ?_
                  refine g_iconst (v := 1) C dX12_readSum_91 (by decide) ?_
                  refine s_isub C dX12_readSum_92 (by show -2147483648 ≤ (pI Y24357 a0 18).toInt - 1 ∧ (pI Y24357 a0 18).toInt - 1 ≤ 2147483647; omega) (fun z24372 h24373 => ?_)
                  have h24373 : z24372.toInt = (pI Y24357 a0 18).toInt - 1 := h24373
                  refine g_callVI (rest := [.int 1, .int v4_1]) C mv_X12_211 [.int 0, .int z24372] (s_X12_takeNumber Iy24359 (by decide) (by omega) W24361) (h24369).1 (h24369).2 rfl rfl (by decide) (Nat.le_of_ble_eq_true rfl) (by decide) dX12_readSum_93 (fun r24374 Y24375 h24376 => ?_)
                  obtain ⟨Iy24377, Xy24378, W24379, p24380, p24381, p24382, h24376⟩ := h24376
                  have p24380 : (pI Y24357 a0 7).toInt ≤ (pI Y24375 a0 7).toInt := p24380
                  have p24381 : (pI Y24357 a0 8).toInt ≤ (pI Y24375 a0 8).toInt := p24381
                  have p24382 : 1 ≤ (pI Y24375 a0 8).toInt ∨ (pI Y24375 a0 7).toInt = (pI Y24357 a0 7).toInt + 1 := p24382
                  have q24383 := Xy24378.keepA e24368 (by decide) rfl 2
                  have q24384 := Xy24378.keepF 18 (by decide)
                  have Xz24385 : EM [7, 8, 15, 16] a0 P Y24375 := EM.tr ha0 Xz24367 (Xy24378.mono (by decide))
                  have e24386 := Xy24378.ref h24369 (by decide) e24368
                  have h24387 := Xy24378.at h24369
                  have h24388 := Xy24378.ar h24370
                  have h24389 := Iy24377.rg h24387 7 rfl
                  have h24390 := Iy24377.rg h24387 8 rfl
                  have h24391 := Iy24377.rg h24387 7 rfl
                  have h24392 := Iy24377.rg h24387 8 rfl
                  obtain ⟨h24376, hi24393⟩ := h24376
                  have hi24393 : (1 ≤ (pI Y24375 a0 8).toInt ∧ r24374.toInt = 0) ∨ (0 ≤ r24374.toInt ∧ r24374.toInt ≤ z24372.toInt) := hi24393
                  have h24376 : 0 ≤ r24374.toInt ∧ r24374.toInt ≤ 999 := h24376
                  refine a_ishl C dX12_readSum_96 (fun z24394 => ?_)
                  refine a_ior C dX12_readSum_97 (fun z24396 => ?_)
                  refine g_istore_n (lv' := [(1, .int z24396), (0, .ref a0), (2, .int v4_2)]) C dX12_readSum_98 rfl (by decide) rfl ?_
                  refine a_iinc (lv0 := [(1, .int z24396), (0, .ref a0)]) C dX12_readSum_99 2 rfl (by decide) rfl (fun z24398 => ?_)
                  refine g_goto C 4 dX12_readSum_102 (by decide) ?_
                  refine g_lv (lv' := [(0, .ref a0), (1, .int z24396), (2, .int z24398)]) [2, 1, 0] rfl ?_
                  exact ih4 Y24375 z24396 z24398 (by omega) Iy24377 Xz24385 W24379 (fun b9 e9 => by rw [e24386] at e9; cases e9; omega) (by show (pI P a0 7).toInt ≤ (pI Y24375 a0 7).toInt; omega) (by show (pI P a0 8).toInt ≤ (pI Y24375 a0 8).toInt; omega)
  obtain ⟨b24400, e24401, h24402⟩ := I.fld (ha0) 15 13 3 rfl
  have hf0 := hf0 b24400 e24401
  have h24403 := I.rg ha0 7 rfl
  have h24404 := I.rg ha0 8 rfl
  refine g_iconst (v := 0) C dX12_readSum_0 (by decide) ?_
  refine g_istore_n (lv' := [(1, .int 0), (0, .ref a0)]) C dX12_readSum_1 rfl (by decide) rfl ?_
  refine g_iconst (v := 0) C dX12_readSum_2 (by decide) ?_
  refine g_istore_n (lv' := [(2, .int 0), (1, .int 0), (0, .ref a0)]) C dX12_readSum_3 rfl (by decide) rfl ?_
  refine g_lv (lv' := [(0, .ref a0), (1, .int 0), (2, .int 0)]) [2, 1, 0] rfl ?_
  exact J4 _ P 0 0 (Nat.lt_succ_self _) I EM.rf hW (fun b9 e9 => by rw [e24401] at e9; cases e9; omega) (by show (pI P a0 7).toInt ≤ (pI P a0 7).toInt; omega) (by show (pI P a0 8).toInt ≤ (pI P a0 8).toInt; omega)
