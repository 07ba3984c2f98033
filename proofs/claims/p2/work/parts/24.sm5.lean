theorem dX12_isOut_0 : decode cX12_isOut 0 = .ok (.iconst 0, 1) := by decide +kernel
theorem dX12_isOut_1 : decode cX12_isOut 1 = .ok (.istore_n 2, 1) := by decide +kernel
theorem dX12_isOut_2 : decode cX12_isOut 2 = .ok (.iconst 0, 1) := by decide +kernel
theorem dX12_isOut_3 : decode cX12_isOut 3 = .ok (.istore_n 3, 1) := by decide +kernel
theorem dX12_isOut_4 : decode cX12_isOut 4 = .ok (.iload_n 3, 1) := by decide +kernel
theorem dX12_isOut_5 : decode cX12_isOut 5 = .ok (.iconst 4, 1) := by decide +kernel
theorem dX12_isOut_6 : decode cX12_isOut 6 = .ok (.if_icmp .ge 70, 3) := by decide +kernel
theorem dX12_isOut_9 : decode cX12_isOut 9 = .ok (.iconst 0, 1) := by decide +kernel
theorem dX12_isOut_10 : decode cX12_isOut 10 = .ok (.istore 4, 2) := by decide +kernel
theorem dX12_isOut_12 : decode cX12_isOut 12 = .ok (.iload 4, 2) := by decide +kernel
theorem dX12_isOut_14 : decode cX12_isOut 14 = .ok (.aload_n 0, 1) := by decide +kernel
theorem dX12_isOut_15 : decode cX12_isOut 15 = .ok (.getfield 69, 3) := by decide +kernel
theorem dX12_isOut_18 : decode cX12_isOut 18 = .ok (.iload_n 3, 1) := by decide +kernel
theorem dX12_isOut_19 : decode cX12_isOut 19 = .ok (.iaload, 1) := by decide +kernel
theorem dX12_isOut_20 : decode cX12_isOut 20 = .ok (.if_icmp .ge 50, 3) := by decide +kernel
theorem dX12_isOut_23 : decode cX12_isOut 23 = .ok (.iload_n 2, 1) := by decide +kernel
theorem dX12_isOut_24 : decode cX12_isOut 24 = .ok (.ifCond .ne 34, 3) := by decide +kernel
theorem dX12_isOut_27 : decode cX12_isOut 27 = .ok (.aload_n 0, 1) := by decide +kernel
theorem dX12_isOut_28 : decode cX12_isOut 28 = .ok (.getfield 75, 3) := by decide +kernel
theorem dX12_isOut_31 : decode cX12_isOut 31 = .ok (.bipush 40, 2) := by decide +kernel
theorem dX12_isOut_33 : decode cX12_isOut 33 = .ok (.iload_n 3, 1) := by decide +kernel
theorem dX12_isOut_34 : decode cX12_isOut 34 = .ok (.imul, 1) := by decide +kernel
theorem dX12_isOut_35 : decode cX12_isOut 35 = .ok (.iload 4, 2) := by decide +kernel
theorem dX12_isOut_37 : decode cX12_isOut 37 = .ok (.iadd, 1) := by decide +kernel
theorem dX12_isOut_38 : decode cX12_isOut 38 = .ok (.iaload, 1) := by decide +kernel
theorem dX12_isOut_39 : decode cX12_isOut 39 = .ok (.iload_n 1, 1) := by decide +kernel
theorem dX12_isOut_40 : decode cX12_isOut 40 = .ok (.if_icmp .eq 18, 3) := by decide +kernel
theorem dX12_isOut_43 : decode cX12_isOut 43 = .ok (.aload_n 0, 1) := by decide +kernel
theorem dX12_isOut_44 : decode cX12_isOut 44 = .ok (.getfield 75, 3) := by decide +kernel
theorem dX12_isOut_47 : decode cX12_isOut 47 = .ok (.bipush 40, 2) := by decide +kernel
theorem dX12_isOut_49 : decode cX12_isOut 49 = .ok (.iload_n 3, 1) := by decide +kernel
theorem dX12_isOut_50 : decode cX12_isOut 50 = .ok (.imul, 1) := by decide +kernel
theorem dX12_isOut_51 : decode cX12_isOut 51 = .ok (.iload 4, 2) := by decide +kernel
theorem dX12_isOut_53 : decode cX12_isOut 53 = .ok (.iadd, 1) := by decide +kernel
theorem dX12_isOut_54 : decode cX12_isOut 54 = .ok (.iaload, 1) := by decide +kernel
theorem dX12_isOut_55 : decode cX12_isOut 55 = .ok (.ifCond .ge 7, 3) := by decide +kernel
theorem dX12_isOut_58 : decode cX12_isOut 58 = .ok (.iconst 1, 1) := by decide +kernel
theorem dX12_isOut_59 : decode cX12_isOut 59 = .ok (.goto 4, 3) := by decide +kernel
theorem dX12_isOut_62 : decode cX12_isOut 62 = .ok (.iconst 0, 1) := by decide +kernel
theorem dX12_isOut_63 : decode cX12_isOut 63 = .ok (.istore_n 2, 1) := by decide +kernel
theorem dX12_isOut_64 : decode cX12_isOut 64 = .ok (.iinc 4 1, 3) := by decide +kernel
theorem dX12_isOut_67 : decode cX12_isOut 67 = .ok (.goto (-55), 3) := by decide +kernel
theorem dX12_isOut_70 : decode cX12_isOut 70 = .ok (.iinc 3 1, 3) := by decide +kernel
theorem dX12_isOut_73 : decode cX12_isOut 73 = .ok (.goto (-69), 3) := by decide +kernel
theorem dX12_isOut_76 : decode cX12_isOut 76 = .ok (.iload_n 2, 1) := by decide +kernel
theorem dX12_isOut_77 : decode cX12_isOut 77 = .ok (.ireturn, 1) := by decide +kernel
set_option maxHeartbeats 4000000 in
set_option maxRecDepth 100000 in
theorem s_X12_isOut {P : PP} {a0 : Nat} {a1 : Int32} (I : IM P a0) (hW : MW P a0) : CtrI yX12_isOut cX12_isOut 5 (some Jvm.ClassFile.FieldType.boolean) ({ frames := 1, cells := 0, slots := 0, locals := 64 } : Room) 0 0 P [.ref a0, .int a1] (fun r P2 => P = P2 ∧ (0 ≤ r.toInt ∧ r.toInt ≤ 1)) := by
  refine enI (lv := [(0, .ref a0), (1, .int a1)]) (by decide) (Nat.le_of_ble_eq_true rfl) rfl (fun E D cy C Ci0 ret => ?_)
  have ha0 := I.2.1
  have J4 : ∀ (n4 : Nat) (v4_2 : Int32) (v4_3 : Int32), (4 - v4_3.toInt).toNat < n4 → (0 ≤ v4_2.toInt ∧ v4_2.toInt ≤ 1) → (0 ≤ v4_3.toInt ∧ v4_3.toInt ≤ 4) → G E ({ frames := 1, cells := 0, slots := 0, locals := 64 } : Room) D cy 5 P 0 0 4 [(0, .ref a0), (1, .int a1), (2, .int v4_2), (3, .int v4_3)] [] := by
    intro n4
    induction n4 with
    | zero => intro v4_2 v4_3 hm4 hv4_2 hv4_3; omega
    | succ n4 ih4 =>
      intro v4_2 v4_3 hm4 hv4_2 hv4_3
      have J12 : ∀ (n12 : Nat) (v12_2 : Int32) (v12_4 : Int32), (40 - v12_4.toInt).toNat < n12 → (0 ≤ v12_2.toInt ∧ v12_2.toInt ≤ 1) → (0 ≤ v4_3.toInt ∧ v4_3.toInt ≤ 3) → (0 ≤ v12_4.toInt ∧ v12_4.toInt ≤ 40) → G E ({ frames := 1, cells := 0, slots := 0, locals := 64 } : Room) D cy 5 P 0 0 12 [(0, .ref a0), (1, .int a1), (2, .int v12_2), (3, .int v4_3), (4, .int v12_4)] [] := by
        intro n12
        induction n12 with
        | zero => intro v12_2 v12_4 hm12 hv12_2 hv12_3 hv12_4; omega
        | succ n12 ih12 =>
          intro v12_2 v12_4 hm12 hv12_2 hv12_3 hv12_4
          have J63 : ∀ (v63_s0 : Int32), (0 ≤ v4_3.toInt ∧ v4_3.toInt ≤ 3) → (0 ≤ v12_4.toInt ∧ v12_4.toInt ≤ 39) → (0 ≤ v63_s0.toInt ∧ v63_s0.toInt ≤ 1) → (∀ b, pR P a0 20 = some b → 1 ≤ (pI P b (v4_3.toInt.toNat)).toInt ∧ (pI P b (v4_3.toInt.toNat)).toInt ≤ 40) → G E ({ frames := 1, cells := 0, slots := 0, locals := 64 } : Room) D cy 5 P 0 0 63 [(0, .ref a0), (1, .int a1), (3, .int v4_3), (4, .int v12_4)] [.int v63_s0] := by
            intro v63_s0 hv63_3 hv63_4 hv63_s0 hq63_0
            obtain ⟨b66002, e66003, h66004⟩ := I.fld (ha0) 20 13 20 rfl
            have hq63_0 := hq63_0 b66002 e66003
            refine g_istore_n (lv' := [(2, .int v63_s0), (0, .ref a0), (1, .int a1), (3, .int v4_3), (4, .int v12_4)]) C dX12_isOut_63 rfl (by decide) rfl ?_
            refine s_iinc (lv0 := [(2, .int v63_s0), (0, .ref a0), (1, .int a1), (3, .int v4_3)]) (m := 1) C dX12_isOut_64 4 rfl (by decide) rfl (by decide) (by omega) (fun z66005 h66006 => ?_)
            have h66006 : z66005.toInt = v12_4.toInt + 1 := h66006
            refine g_goto C 12 dX12_isOut_67 (by decide) ?_
            refine g_lv (lv' := [(0, .ref a0), (1, .int a1), (2, .int v63_s0), (3, .int v4_3), (4, .int z66005)]) [2, 3, 1, 4, 0] rfl ?_
            exact ih12 v63_s0 z66005 (by omega) (by omega) (by omega) (by omega)
          have J58 : (0 ≤ v4_3.toInt ∧ v4_3.toInt ≤ 3) → (0 ≤ v12_4.toInt ∧ v12_4.toInt ≤ 39) → (∀ b, pR P a0 20 = some b → 1 ≤ (pI P b (v4_3.toInt.toNat)).toInt ∧ (pI P b (v4_3.toInt.toNat)).toInt ≤ 40) → G E ({ frames := 1, cells := 0, slots := 0, locals := 64 } : Room) D cy 5 P 0 0 58 [(0, .ref a0), (1, .int a1), (3, .int v4_3), (4, .int v12_4)] [] := by
            intro hv58_3 hv58_4 hq58_0
            obtain ⟨b66007, e66008, h66009⟩ := I.fld (ha0) 20 13 20 rfl
            have hq58_0 := hq58_0 b66007 e66008
            refine g_iconst (v := 1) C dX12_isOut_58 (by decide) ?_
            refine g_goto C 63 dX12_isOut_59 (by decide) ?_
            exact J63 1 (by omega) (by omega) (by decide) (fun b9 e9 => by rw [e66008] at e9; cases e9; omega)
          refine g_iload C dX12_isOut_12 4 rfl ?_
          refine g_aload_n C dX12_isOut_14 rfl 0 rfl ?_
          obtain ⟨b66010, e66011, h66012⟩ := I.fld (ha0) 20 13 20 rfl
          refine g_getR C fi_X12_69 rfl e66011 (ha0).1 (ha0).2 dX12_isOut_15 ?_
          refine g_iload_n C dX12_isOut_18 rfl 3 rfl ?_
          refine g_iald (j := (v4_3.toInt.toNat)) C h66012.1 h66012.2.1 (ix_in h66012.2.2 (by omega)) dX12_isOut_19 ?_
          have h66013 := I.arr e66011 rfl (v4_3.toInt.toNat)
          refine b_icmp_ge C 70 dX12_isOut_20 (by decide) (fun h66014 => ?_) (fun h66014 => ?_)
          · have h66014 : (pI P b66010 (v4_3.toInt.toNat)).toInt ≤ v12_4.toInt := h66014
            refine s_iinc (lv0 := [(0, .ref a0), (1, .int a1), (2, .int v12_2), (4, .int v12_4)]) (m := 1) C dX12_isOut_70 3 rfl (by decide) rfl (by decide) (by omega) (fun z66015 h66016 => ?_)
            have h66016 : z66015.toInt = v4_3.toInt + 1 := h66016
            refine g_goto C 4 dX12_isOut_73 (by decide) ?_
            refine g_lv (lv' := [(0, .ref a0), (1, .int a1), (2, .int v12_2), (3, .int z66015)]) [1, 2, 3, 0] rfl ?_
            exact ih4 v12_2 z66015 (by omega) (by omega) (by omega)
          · have h66014 : v12_4.toInt < (pI P b66010 (v4_3.toInt.toNat)).toInt := h66014
            refine g_iload_n C dX12_isOut_23 rfl 2 rfl ?_
            refine b_if_ne C 58 dX12_isOut_24 (by decide) (fun h66017 => ?_) (fun h66017 => ?_)
            · have h66017 : v12_2.toInt ≠ 0 := ti_ne h66017
              refine g_lv (lv' := [(0, .ref a0), (1, .int a1), (3, .int v4_3), (4, .int v12_4)]) [0, 1, 3, 4] rfl ?_
              exact J58 (by omega) (by omega) (fun b9 e9 => by rw [e66011] at e9; cases e9; omega)
            · have h66017 : v12_2.toInt = 0 := congrArg Int32.toInt h66017
              refine g_aload_n C dX12_isOut_27 rfl 0 rfl ?_
              obtain ⟨b66018, e66019, h66020⟩ := I.fld (ha0) 22 13 800 rfl
              refine g_getR C fi_X12_75 rfl e66019 (ha0).1 (ha0).2 dX12_isOut_28 ?_
              refine g_bipush (v := 40) C dX12_isOut_31 (by decide) ?_
              refine g_iload_n C dX12_isOut_33 rfl 3 rfl ?_
              refine s_imul C dX12_isOut_34 (by show -2147483648 ≤ 40 * v4_3.toInt ∧ 40 * v4_3.toInt ≤ 2147483647; omega) (fun z66021 h66022 => ?_)
              have h66022 : z66021.toInt = 40 * v4_3.toInt := h66022
              refine g_iload C dX12_isOut_35 4 rfl ?_
              refine s_iadd C dX12_isOut_37 (by show -2147483648 ≤ z66021.toInt + v12_4.toInt ∧ z66021.toInt + v12_4.toInt ≤ 2147483647; omega) (fun z66023 h66024 => ?_)
              have h66024 : z66023.toInt = z66021.toInt + v12_4.toInt := h66024
              refine g_iald (j := (z66023.toInt.toNat)) C h66020.1 h66020.2.1 (ix_in h66020.2.2 (by omega)) dX12_isOut_38 ?_
              have h66025 := I.arr e66019 rfl (z66023.toInt.toNat)
              refine g_iload_n C dX12_isOut_39 rfl 1 rfl ?_
              have u66027 := ti_rng a1
              refine b_icmp_eq C 58 dX12_isOut_40 (by decide) (fun h66026 => ?_) (fun h66026 => ?_)
              · have h66026 : (pI P b66018 (z66023.toInt.toNat)).toInt = a1.toInt := congrArg Int32.toInt h66026
                refine g_lv (lv' := [(0, .ref a0), (1, .int a1), (3, .int v4_3), (4, .int v12_4)]) [0, 1, 3, 4] rfl ?_
                exact J58 (by omega) (by omega) (fun b9 e9 => by rw [e66011] at e9; cases e9; omega)
              · have h66026 : (pI P b66018 (z66023.toInt.toNat)).toInt ≠ a1.toInt := ti_ne h66026
                refine g_aload_n C dX12_isOut_43 rfl 0 rfl ?_
                refine g_getR C fi_X12_75 rfl e66019 (ha0).1 (ha0).2 dX12_isOut_44 ?_
                refine g_bipush (v := 40) C dX12_isOut_47 (by decide) ?_
                refine g_iload_n C dX12_isOut_49 rfl 3 rfl ?_
                refine s_imul C dX12_isOut_50 (by show -2147483648 ≤ 40 * v4_3.toInt ∧ 40 * v4_3.toInt ≤ 2147483647; omega) (fun z66028 h66029 => ?_)
                have h66029 : z66028.toInt = 40 * v4_3.toInt := h66029
                refine g_iload C dX12_isOut_51 4 rfl ?_
                refine s_iadd C dX12_isOut_53 (by show -2147483648 ≤ z66028.toInt + v12_4.toInt ∧ z66028.toInt + v12_4.toInt ≤ 2147483647; omega) (fun z66030 h66031 => ?_)
                have h66031 : z66030.toInt = z66028.toInt + v12_4.toInt := h66031
                refine g_iald (j := (z66030.toInt.toNat)) C h66020.1 h66020.2.1 (ix_in h66020.2.2 (by omega)) dX12_isOut_54 ?_
                have h66032 := I.arr e66019 rfl (z66030.toInt.toNat)
                refine b_if_ge C 62 dX12_isOut_55 (by decide) (fun h66033 => ?_) (fun h66033 => ?_)
                · have h66033 : 0 ≤ (pI P b66018 (z66030.toInt.toNat)).toInt := h66033
                  refine g_iconst (v := 0) C dX12_isOut_62 (by decide) ?_
                  refine g_lv (lv' := [(0, .ref a0), (1, .int a1), (3, .int v4_3), (4, .int v12_4)]) [0, 1, 3, 4] rfl ?_
                  exact J63 0 (by omega) (by omega) (by decide) (fun b9 e9 => by rw [e66011] at e9; cases e9; omega)
                · have h66033 : (pI P b66018 (z66030.toInt.toNat)).toInt < 0 := h66033
                  refine g_lv (lv' := [(0, .ref a0), (1, .int a1), (3, .int v4_3), (4, .int v12_4)]) [0, 1, 3, 4] rfl ?_
                  exact J58 (by omega) (by omega) (fun b9 e9 => by rw [e66011] at e9; cases e9; omega)
      refine g_iload_n C dX12_isOut_4 rfl 3 rfl ?_
      refine g_iconst (v := 4) C dX12_isOut_5 (by decide) ?_
      refine b_icmp_ge C 76 dX12_isOut_6 (by decide) (fun h66034 => ?_) (fun h66034 => ?_)
      · have h66034 : 4 ≤ v4_3.toInt := h66034
        refine g_iload_n C dX12_isOut_76 rfl 2 rfl ?_
        exact ret _ _ _ _ _ _ dX12_isOut_77 (nar_b (b01 (by omega))) (by decide) (by decide) ⟨rfl, (by omega)⟩
      · have h66034 : v4_3.toInt < 4 := h66034
        refine g_iconst (v := 0) C dX12_isOut_9 (by decide) ?_
        refine g_istore (lv' := [(4, .int 0), (0, .ref a0), (1, .int a1), (2, .int v4_2), (3, .int v4_3)]) C dX12_isOut_10 (by decide) rfl ?_
        refine g_lv (lv' := [(0, .ref a0), (1, .int a1), (2, .int v4_2), (3, .int v4_3), (4, .int 0)]) [1, 2, 3, 4, 0] rfl ?_
        exact J12 _ v4_2 0 (Nat.lt_succ_self _) (by omega) (by omega) (by decide)
  refine g_iconst (v := 0) C dX12_isOut_0 (by decide) ?_
  refine g_istore_n (lv' := [(2, .int 0), (0, .ref a0), (1, .int a1)]) C dX12_isOut_1 rfl (by decide) rfl ?_
  refine g_iconst (v := 0) C dX12_isOut_2 (by decide) ?_
  refine g_istore_n (lv' := [(3, .int 0), (2, .int 0), (0, .ref a0), (1, .int a1)]) C dX12_isOut_3 rfl (by decide) rfl ?_
  refine g_lv (lv' := [(0, .ref a0), (1, .int a1), (2, .int 0), (3, .int 0)]) [2, 3, 1, 0] rfl ?_
  exact J4 _ 0 0 (Nat.lt_succ_self _) (by decide) (by decide)
theorem dX12_isSign_0 : decode cX12_isSign 0 = .ok (.aload_n 0, 1) := by decide +kernel
theorem dX12_isSign_1 : decode cX12_isSign 1 = .ok (.getfield 162, 3) := by decide +kernel
theorem dX12_isSign_4 : decode cX12_isSign 4 = .ok (.ifCond .ne 35, 3) := by decide +kernel
theorem dX12_isSign_7 : decode cX12_isSign 7 = .ok (.aload_n 0, 1) := by decide +kernel
theorem dX12_isSign_8 : decode cX12_isSign 8 = .ok (.getfield 24, 3) := by decide +kernel
theorem dX12_isSign_11 : decode cX12_isSign 11 = .ok (.aload_n 0, 1) := by decide +kernel
theorem dX12_isSign_12 : decode cX12_isSign 12 = .ok (.getfield 159, 3) := by decide +kernel
theorem dX12_isSign_15 : decode cX12_isSign 15 = .ok (.iaload, 1) := by decide +kernel
theorem dX12_isSign_16 : decode cX12_isSign 16 = .ok (.iconst 3, 1) := by decide +kernel
theorem dX12_isSign_17 : decode cX12_isSign 17 = .ok (.if_icmp .ne 22, 3) := by decide +kernel
theorem dX12_isSign_20 : decode cX12_isSign 20 = .ok (.aload_n 0, 1) := by decide +kernel
theorem dX12_isSign_21 : decode cX12_isSign 21 = .ok (.getfield 30, 3) := by decide +kernel
theorem dX12_isSign_24 : decode cX12_isSign 24 = .ok (.aload_n 0, 1) := by decide +kernel
theorem dX12_isSign_25 : decode cX12_isSign 25 = .ok (.getfield 159, 3) := by decide +kernel
theorem dX12_isSign_28 : decode cX12_isSign 28 = .ok (.laload, 1) := by decide +kernel
theorem dX12_isSign_29 : decode cX12_isSign 29 = .ok (.iload_n 1, 1) := by decide +kernel
theorem dX12_isSign_30 : decode cX12_isSign 30 = .ok (.i2l, 1) := by decide +kernel
theorem dX12_isSign_31 : decode cX12_isSign 31 = .ok (.lcmp, 1) := by decide +kernel
theorem dX12_isSign_32 : decode cX12_isSign 32 = .ok (.ifCond .ne 7, 3) := by decide +kernel
theorem dX12_isSign_35 : decode cX12_isSign 35 = .ok (.iconst 1, 1) := by decide +kernel
theorem dX12_isSign_36 : decode cX12_isSign 36 = .ok (.goto 4, 3) := by decide +kernel
theorem dX12_isSign_39 : decode cX12_isSign 39 = .ok (.iconst 0, 1) := by decide +kernel
theorem dX12_isSign_40 : decode cX12_isSign 40 = .ok (.ireturn, 1) := by decide +kernel
set_option maxHeartbeats 4000000 in
set_option maxRecDepth 100000 in
theorem s_X12_isSign {P : PP} {a0 : Nat} {a1 : Int32} (I : IM P a0) (hW : MW P a0) : CtrI yX12_isSign cX12_isSign 2 (some Jvm.ClassFile.FieldType.boolean) ({ frames := 1, cells := 0, slots := 0, locals := 64 } : Room) 0 0 P [.ref a0, .int a1] (fun r P2 => P = P2 ∧ (0 ≤ r.toInt ∧ r.toInt ≤ 1)) := by
  refine enI (lv := [(0, .ref a0), (1, .int a1)]) (by decide) (Nat.le_of_ble_eq_true rfl) rfl (fun E D cy C Ci0 ret => ?_)
  have ha0 := I.2.1
  have J39 : (0 ≤ (pI P a0 8).toInt ∧ (pI P a0 8).toInt ≤ 16005) → G E ({ frames := 1, cells := 0, slots := 0, locals := 64 } : Room) D cy 2 P 0 0 39 [] [] := by
    intro hq39_0
    refine g_iconst (v := 0) C dX12_isSign_39 (by decide) ?_
    exact ret _ _ _ _ _ _ dX12_isSign_40 rfl (by decide) (by decide) ⟨rfl, (by decide)⟩
  refine g_aload_n C dX12_isSign_0 rfl 0 rfl ?_
  refine g_getI C fi_X12_162 (by decide) (ha0).1 (ha0).2 dX12_isSign_1 ?_
  have h66051 := I.rg (ha0) 8 rfl
  refine b_if_ne C 39 dX12_isSign_4 (by decide) (fun h66052 => ?_) (fun h66052 => ?_)
  · have h66052 : (pI P a0 8).toInt ≠ 0 := ti_ne h66052
    refine g_lv (lv' := []) [] rfl ?_
    exact J39 (by omega)
  · have h66052 : (pI P a0 8).toInt = 0 := congrArg Int32.toInt h66052
    refine g_aload_n C dX12_isSign_7 rfl 0 rfl ?_
    obtain ⟨b66053, e66054, h66055⟩ := I.fld (ha0) 4 13 1002 rfl
    refine g_getR C fi_X12_24 rfl e66054 (ha0).1 (ha0).2 dX12_isSign_8 ?_
    refine g_aload_n C dX12_isSign_11 rfl 0 rfl ?_
    refine g_getI C fi_X12_159 (by decide) (ha0).1 (ha0).2 dX12_isSign_12 ?_
    have h66056 := I.rg (ha0) 7 rfl
    refine g_iald (j := ((pI P a0 7).toInt.toNat)) C h66055.1 h66055.2.1 (ix_in h66055.2.2 (by omega)) dX12_isSign_15 ?_
    have h66057 := I.arr e66054 rfl ((pI P a0 7).toInt.toNat)
    refine g_iconst (v := 3) C dX12_isSign_16 (by decide) ?_
    refine b_icmp_ne C 39 dX12_isSign_17 (by decide) (fun h66058 => ?_) (fun h66058 => ?_)
    · have h66058 : (pI P b66053 ((pI P a0 7).toInt.toNat)).toInt ≠ 3 := ti_ne h66058
      refine g_lv (lv' := []) [] rfl ?_
      exact J39 (by omega)
    · have h66058 : (pI P b66053 ((pI P a0 7).toInt.toNat)).toInt = 3 := congrArg Int32.toInt h66058
      refine g_aload_n C dX12_isSign_20 rfl 0 rfl ?_
      obtain ⟨b66059, e66060, h66061⟩ := I.fld (ha0) 6 14 1002 rfl
      refine g_getR C fi_X12_30 rfl e66060 (ha0).1 (ha0).2 dX12_isSign_21 ?_
      refine g_aload_n C dX12_isSign_24 rfl 0 rfl ?_
      refine g_getI C fi_X12_159 (by decide) (ha0).1 (ha0).2 dX12_isSign_25 ?_
      refine g_lald (j := ((pI P a0 7).toInt.toNat)) C h66061.1 h66061.2.1 (ix_in h66061.2.2 (by omega)) dX12_isSign_28 ?_
      refine g_topl (fun l66062 _ => ?_)
      refine g_iload_n C dX12_isSign_29 rfl 1 rfl ?_
      refine a_i2l C dX12_isSign_30 (fun l66063 => ?_)
      refine a_lcmp C dX12_isSign_31 (fun z66064 => ?_)
      have u66066 := ti_rng z66064
      refine b_if_ne C 39 dX12_isSign_32 (by decide) (fun h66065 => ?_) (fun h66065 => ?_)
      · have h66065 : z66064.toInt ≠ 0 := ti_ne h66065
        refine g_lv (lv' := []) [] rfl ?_
        exact J39 (by omega)
      · have h66065 : z66064.toInt = 0 := congrArg Int32.toInt h66065
        refine g_iconst (v := 1) C dX12_isSign_35 (by decide) ?_
        refine g_goto C 40 dX12_isSign_36 (by decide) ?_
        exact ret _ _ _ _ _ _ dX12_isSign_40 rfl (by decide) (by decide) ⟨rfl, (by decide)⟩
theorem dX12_leaflet_0 : decode cX12_leaflet 0 = .ok (.aload_n 0, 1) := by decide +kernel
theorem dX12_leaflet_1 : decode cX12_leaflet 1 = .ok (.iconst 0, 1) := by decide +kernel
theorem dX12_leaflet_2 : decode cX12_leaflet 2 = .ok (.putfield 1, 3) := by decide +kernel
theorem dX12_leaflet_5 : decode cX12_leaflet 5 = .ok (.aload_n 0, 1) := by decide +kernel
theorem dX12_leaflet_6 : decode cX12_leaflet 6 = .ok (.iload_n 1, 1) := by decide +kernel
theorem dX12_leaflet_7 : decode cX12_leaflet 7 = .ok (.invokevirtual 192, 3) := by decide +kernel
theorem dX12_leaflet_10 : decode cX12_leaflet 10 = .ok (.ifCond .eq 19, 3) := by decide +kernel
theorem dX12_leaflet_13 : decode cX12_leaflet 13 = .ok (.iload_n 2, 1) := by decide +kernel
theorem dX12_leaflet_14 : decode cX12_leaflet 14 = .ok (.invokestatic 258, 3) := by decide +kernel
theorem dX12_leaflet_17 : decode cX12_leaflet 17 = .ok (.ifCond .eq 12, 3) := by decide +kernel
theorem dX12_leaflet_20 : decode cX12_leaflet 20 = .ok (.iload_n 3, 1) := by decide +kernel
theorem dX12_leaflet_21 : decode cX12_leaflet 21 = .ok (.iconst 0, 1) := by decide +kernel
theorem dX12_leaflet_22 : decode cX12_leaflet 22 = .ok (.iconst 3, 1) := by decide +kernel
theorem dX12_leaflet_23 : decode cX12_leaflet 23 = .ok (.invokestatic 178, 3) := by decide +kernel
theorem dX12_leaflet_26 : decode cX12_leaflet 26 = .ok (.ifCond .ne 5, 3) := by decide +kernel
theorem dX12_leaflet_29 : decode cX12_leaflet 29 = .ok (.iconst (-1), 1) := by decide +kernel
theorem dX12_leaflet_30 : decode cX12_leaflet 30 = .ok (.ireturn, 1) := by decide +kernel
theorem dX12_leaflet_31 : decode cX12_leaflet 31 = .ok (.aload_n 0, 1) := by decide +kernel
theorem dX12_leaflet_32 : decode cX12_leaflet 32 = .ok (.iload_n 1, 1) := by decide +kernel
theorem dX12_leaflet_33 : decode cX12_leaflet 33 = .ok (.iload_n 2, 1) := by decide +kernel
theorem dX12_leaflet_34 : decode cX12_leaflet 34 = .ok (.invokevirtual 261, 3) := by decide +kernel
theorem dX12_leaflet_37 : decode cX12_leaflet 37 = .ok (.istore 4, 2) := by decide +kernel
theorem dX12_leaflet_39 : decode cX12_leaflet 39 = .ok (.iload_n 3, 1) := by decide +kernel
theorem dX12_leaflet_40 : decode cX12_leaflet 40 = .ok (.ifCond .ne 8, 3) := by decide +kernel
theorem dX12_leaflet_43 : decode cX12_leaflet 43 = .ok (.iload 4, 2) := by decide +kernel
theorem dX12_leaflet_45 : decode cX12_leaflet 45 = .ok (.goto 44, 3) := by decide +kernel
theorem dX12_leaflet_48 : decode cX12_leaflet 48 = .ok (.iload_n 3, 1) := by decide +kernel
theorem dX12_leaflet_49 : decode cX12_leaflet 49 = .ok (.iconst 3, 1) := by decide +kernel
theorem dX12_leaflet_50 : decode cX12_leaflet 50 = .ok (.if_icmp .ne 11, 3) := by decide +kernel
theorem dX12_leaflet_53 : decode cX12_leaflet 53 = .ok (.iload 4, 2) := by decide +kernel
theorem dX12_leaflet_55 : decode cX12_leaflet 55 = .ok (.invokestatic 264, 3) := by decide +kernel
theorem dX12_leaflet_58 : decode cX12_leaflet 58 = .ok (.goto 31, 3) := by decide +kernel
theorem dX12_leaflet_61 : decode cX12_leaflet 61 = .ok (.iload_n 3, 1) := by decide +kernel
theorem dX12_leaflet_62 : decode cX12_leaflet 62 = .ok (.iconst 1, 1) := by decide +kernel
theorem dX12_leaflet_63 : decode cX12_leaflet 63 = .ok (.if_icmp .ne 13, 3) := by decide +kernel
theorem dX12_leaflet_66 : decode cX12_leaflet 66 = .ok (.aload_n 0, 1) := by decide +kernel
theorem dX12_leaflet_67 : decode cX12_leaflet 67 = .ok (.iload_n 1, 1) := by decide +kernel
theorem dX12_leaflet_68 : decode cX12_leaflet 68 = .ok (.iload 4, 2) := by decide +kernel
theorem dX12_leaflet_70 : decode cX12_leaflet 70 = .ok (.invokevirtual 223, 3) := by decide +kernel
theorem dX12_leaflet_73 : decode cX12_leaflet 73 = .ok (.goto 16, 3) := by decide +kernel
theorem dX12_leaflet_76 : decode cX12_leaflet 76 = .ok (.aload_n 0, 1) := by decide +kernel
theorem dX12_leaflet_77 : decode cX12_leaflet 77 = .ok (.iload_n 1, 1) := by decide +kernel
theorem dX12_leaflet_78 : decode cX12_leaflet 78 = .ok (.iload_n 2, 1) := by decide +kernel
theorem dX12_leaflet_79 : decode cX12_leaflet 79 = .ok (.aload_n 0, 1) := by decide +kernel
theorem dX12_leaflet_80 : decode cX12_leaflet 80 = .ok (.iload_n 1, 1) := by decide +kernel
theorem dX12_leaflet_81 : decode cX12_leaflet 81 = .ok (.iload 4, 2) := by decide +kernel
theorem dX12_leaflet_83 : decode cX12_leaflet 83 = .ok (.invokevirtual 223, 3) := by decide +kernel
theorem dX12_leaflet_86 : decode cX12_leaflet 86 = .ok (.invokevirtual 267, 3) := by decide +kernel
theorem dX12_leaflet_89 : decode cX12_leaflet 89 = .ok (.ireturn, 1) := by decide +kernel
set_option maxHeartbeats 4000000 in
set_option maxRecDepth 100000 in
theorem s_X12_leaflet {P : PP} {a0 : Nat} {a1 : Int32} {a2 : Int32} {a3 : Int32} (I : IM P a0) (hW : MW P a0) : CtrI yX12_leaflet cX12_leaflet 5 (some Jvm.ClassFile.FieldType.int) ({ frames := 6, cells := 0, slots := 0, locals := 384 } : Room) 0 0 P [.ref a0, .int a1, .int a2, .int a3] (fun r P2 => IM P2 a0 ∧ EM [0] a0 P P2 ∧ MW P2 a0 ∧ (True)) := by
  refine enI (lv := [(0, .ref a0), (1, .int a1), (2, .int a2), (3, .int a3)]) (by decide) (Nat.le_of_ble_eq_true rfl) rfl (fun E D cy C Ci0 ret => ?_)
  have ha0 := I.2.1
  have J29 : ∀ (P29 : PP), (IM P29 a0) → (EM [0] a0 P P29) → (MW P29 a0) → (0 ≤ (pI P29 a0 0).toInt ∧ (pI P29 a0 0).toInt ≤ 0) → G E ({ frames := 6, cells := 0, slots := 0, locals := 384 } : Room) D cy 5 P29 0 0 29 [] [] := by
    intro P29 I29 X29 W29 hq29_0
    have h66123 := X29.at ha0
    refine g_iconst (v := (-1)) C dX12_leaflet_29 (by decide) ?_
    exact ret _ _ _ _ _ _ dX12_leaflet_30 rfl (by decide) (by decide) ⟨I29, X29, W29, trivial⟩
  refine g_aload_n C dX12_leaflet_0 rfl 0 rfl ?_
  refine g_iconst (v := 0) C dX12_leaflet_1 (by decide) ?_
  refine g_putI C fi_X12_1 rfl (ha0).1 (ha0).2 dX12_leaflet_2 ?_
  refine gqW (ks := [0]) (I.setI (rgOk.of rfl (by decide))) (EM.setI I (by decide)) (fun Y66124 Iy66125 Xy66126 w66127 => ?_)
  have w66127 : (pI Y66124 a0 0).toInt = 0 := w66127
  have W66128 := hW.keep I Xy66126 (by decide) (by decide) (by decide)
  have Xz66129 : EM [0] a0 P Y66124 := Xy66126.mono (by decide)
  have h66130 := Xy66126.at ha0
  refine g_aload_n C dX12_leaflet_5 rfl 0 rfl ?_
  refine g_iload_n C dX12_leaflet_6 rfl 1 rfl ?_
  refine g_callVI (rest := []) C mv_X12_192 [.int a1] (s_X12_isBook Iy66125 W66128) (h66130).1 (h66130).2 rfl rfl (by decide) (Nat.le_of_ble_eq_true rfl) (by decide) dX12_leaflet_7 (fun r66131 Y66132 h66133 => ?_)
  obtain ⟨rfl, h66133⟩ := h66133
  obtain ⟨h66133, hi66134, hi66135⟩ := h66133
  have hi66134 : r66131.toInt = 0 ∨ (((0 : Int) ≤ a1.toInt ∧ a1.toInt ≤ (1 : Int))) := hi66134
  have h66133 : 0 ≤ r66131.toInt ∧ r66131.toInt ≤ 1 := h66133
  refine b_if_eq C 29 dX12_leaflet_10 (by decide) (fun h66136 => ?_) (fun h66136 => ?_)
  · have h66136 : r66131.toInt = 0 := congrArg Int32.toInt h66136
    clear hi66134
    refine g_lv (lv' := []) [] rfl ?_
    exact J29 Y66124 Iy66125 Xz66129 W66128 (by omega)
  · have h66136 : r66131.toInt ≠ 0 := ti_ne h66136
    replace hi66134 := hi66134.resolve_left (by omega)
    obtain ⟨b66137, e66138, h66139⟩ := Iy66125.fld (h66130) 10 13 2 rfl
    have hi66135 := (hi66135.resolve_left (by omega)) b66137 e66138
    have hi66135 : 0 < (pI Y66124 b66137 (a1.toInt.toNat)).toInt := hi66135
    have h66140 := Iy66125.arr e66138 rfl (a1.toInt.toNat)
    refine g_iload_n C dX12_leaflet_13 rfl 2 rfl ?_
    refine g_callSI (b := 0) (ci := 0) (rest := []) C ms_X12_258 [.int a2] (s_X12_isNumber Iy66125.1) rfl rfl (by decide) (Nat.le_of_ble_eq_true rfl) (by decide) dX12_leaflet_14 (fun r66141 Y66142 h66143 => ?_)
    obtain ⟨rfl, h66143⟩ := h66143
    obtain ⟨h66143, hi66144⟩ := h66143
    have hi66144 : r66141.toInt = 0 ∨ (((0 : Int) ≤ a2.toInt ∧ a2.toInt ≤ (9999 : Int))) := hi66144
    have h66143 : 0 ≤ r66141.toInt ∧ r66141.toInt ≤ 1 := h66143
    refine b_if_eq C 29 dX12_leaflet_17 (by decide) (fun h66145 => ?_) (fun h66145 => ?_)
    · have h66145 : r66141.toInt = 0 := congrArg Int32.toInt h66145
      clear hi66144
      refine g_lv (lv' := []) [] rfl ?_
      exact J29 Y66124 Iy66125 Xz66129 W66128 (by omega)
    · have h66145 : r66141.toInt ≠ 0 := ti_ne h66145
      replace hi66144 := hi66144.resolve_left (by omega)
      refine g_iload_n C dX12_leaflet_20 rfl 3 rfl ?_
      refine g_iconst (v := 0) C dX12_leaflet_21 (by decide) ?_
      refine g_iconst (v := 3) C dX12_leaflet_22 (by decide) ?_
      refine g_callSI (b := 0) (ci := 0) (rest := []) C ms_X12_178 [.int a3, .int 0, .int 3] (s_X12_within Iy66125.1) rfl rfl (by decide) (Nat.le_of_ble_eq_true rfl) (by decide) dX12_leaflet_23 (fun r66146 Y66147 h66148 => ?_)
      obtain ⟨rfl, h66148⟩ := h66148
      obtain ⟨h66148, hi66149⟩ := h66148
      have hi66149 : r66146.toInt = 0 ∨ (0 ≤ a3.toInt ∧ a3.toInt ≤ 3) := hi66149
      have h66148 : 0 ≤ r66146.toInt ∧ r66146.toInt ≤ 1 := h66148
      refine b_if_ne C 31 dX12_leaflet_26 (by decide) (fun h66150 => ?_) (fun h66150 => ?_)
      · have h66150 : r66146.toInt ≠ 0 := ti_ne h66150
        replace hi66149 := hi66149.resolve_left (by omega)
        refine g_aload_n C dX12_leaflet_31 rfl 0 rfl ?_
        refine g_iload_n C dX12_leaflet_32 rfl 1 rfl ?_
        refine g_iload_n C dX12_leaflet_33 rfl 2 rfl ?_
        refine g_callVI (rest := []) C mv_X12_261 [.int a1, .int a2] (s_X12_setOf Iy66125 (by omega) (fun b9 e9 => by rw [e66138] at e9; cases e9; show 1 ≤ (pI Y66124 b66137 (a1.toInt.toNat)).toInt ∧ (pI Y66124 b66137 (a1.toInt.toNat)).toInt ≤ 16; omega) W66128) (h66130).1 (h66130).2 rfl rfl (by decide) (Nat.le_of_ble_eq_true rfl) (by decide) dX12_leaflet_34 (fun r66151 Y66152 h66153 => ?_)
        obtain ⟨Iy66154, Xy66155, W66156, h66153⟩ := h66153
        have q66157 := Xy66155.keepF 0 (by decide)
        have q66158 := Xy66155.keepA e66138 (by decide) rfl (a1.toInt.toNat)
        have Xz66159 : EM [0] a0 P Y66152 := EM.tr ha0 Xz66129 (Xy66155.mono (by decide))
        have e66160 := Xy66155.ref h66130 (by decide) e66138
        have h66161 := Xy66155.at h66130
        have h66162 := Xy66155.ar h66139
        have h66153 : True := h66153
        refine g_istore (lv' := [(4, .int r66151), (0, .ref a0), (1, .int a1), (2, .int a2), (3, .int a3)]) C dX12_leaflet_37 (by decide) rfl ?_
        refine g_iload_n C dX12_leaflet_39 rfl 4 rfl ?_
        refine b_if_ne C 48 dX12_leaflet_40 (by decide) (fun h66163 => ?_) (fun h66163 => ?_)
        · have h66163 : a3.toInt ≠ 0 := ti_ne h66163
          refine g_iload_n C dX12_leaflet_48 rfl 4 rfl ?_
          refine g_iconst (v := 3) C dX12_leaflet_49 (by decide) ?_
          refine b_icmp_ne C 61 dX12_leaflet_50 (by decide) (fun h66164 => ?_) (fun h66164 => ?_)
          · have h66164 : a3.toInt ≠ 3 := ti_ne h66164
            refine g_iload_n C dX12_leaflet_61 rfl 4 rfl ?_
            refine g_iconst (v := 1) C dX12_leaflet_62 (by decide) ?_
            refine b_icmp_ne C 76 dX12_leaflet_63 (by decide) (fun h66165 => ?_) (fun h66165 => ?_)
            · have h66165 : a3.toInt ≠ 1 := ti_ne h66165
              refine g_aload_n C dX12_leaflet_76 rfl 1 rfl ?_
              refine g_iload_n C dX12_leaflet_77 rfl 2 rfl ?_
              refine g_iload_n C dX12_leaflet_78 rfl 3 rfl ?_
              refine g_aload_n C dX12_leaflet_79 rfl 1 rfl ?_
              refine g_iload_n C dX12_leaflet_80 rfl 2 rfl ?_
              refine g_iload C dX12_leaflet_81 0 rfl ?_
              refine g_callVI (rest := [.int a2, .int a1, .ref a0]) C mv_X12_223 [.int a1, .int r66151] (s_X12_sumOf Iy66154 (by omega) W66156) (h66161).1 (h66161).2 rfl rfl (by decide) (Nat.le_of_ble_eq_true rfl) (by decide) dX12_leaflet_83 (fun r66166 Y66167 h66168 => ?_)
              obtain ⟨rfl, h66168⟩ := h66168
              have h66168 : True := h66168
              refine g_callVI (rest := []) C mv_X12_267 [.int a1, .int a2, .int r66166] (s_X12_sealOf Iy66154 (by omega) W66156) (h66161).1 (h66161).2 rfl rfl (by decide) (Nat.le_of_ble_eq_true rfl) (by decide) dX12_leaflet_86 (fun r66169 Y66170 h66171 => ?_)
              obtain ⟨rfl, h66171⟩ := h66171
              have h66171 : True := h66171
              exact ret _ _ _ _ _ _ dX12_leaflet_89 rfl (by decide) (by decide) ⟨Iy66154, Xz66159, W66156, trivial⟩
            · have h66165 : a3.toInt = 1 := congrArg Int32.toInt h66165
              refine g_aload_n C dX12_leaflet_66 rfl 1 rfl ?_
              refine g_iload_n C dX12_leaflet_67 rfl 2 rfl ?_
              refine g_iload C dX12_leaflet_68 0 rfl ?_
              refine g_callVI (rest := []) C mv_X12_223 [.int a1, .int r66151] (s_X12_sumOf Iy66154 (by omega) W66156) (h66161).1 (h66161).2 rfl rfl (by decide) (Nat.le_of_ble_eq_true rfl) (by decide) dX12_leaflet_70 (fun r66172 Y66173 h66174 => ?_)
              obtain ⟨rfl, h66174⟩ := h66174
              have h66174 : True := h66174
              refine g_goto C 89 dX12_leaflet_73 (by decide) ?_
              exact ret _ _ _ _ _ _ dX12_leaflet_89 rfl (by decide) (by decide) ⟨Iy66154, Xz66159, W66156, trivial⟩
          · have h66164 : a3.toInt = 3 := congrArg Int32.toInt h66164
            refine g_iload C dX12_leaflet_53 0 rfl ?_
            refine g_callSI (b := 0) (ci := 0) (rest := []) C ms_X12_264 [.int r66151] (s_X12_bits Iy66154.1) rfl rfl (by decide) (Nat.le_of_ble_eq_true rfl) (by decide) dX12_leaflet_55 (fun r66175 Y66176 h66177 => ?_)
            obtain ⟨rfl, h66177⟩ := h66177
            obtain ⟨h66177, hi66178⟩ := h66177
            have hi66178 : r66175.toInt = 0 ∨ r66151.toInt ≠ 0 := hi66178
            have h66177 : 0 ≤ r66175.toInt ∧ r66175.toInt ≤ 20 := h66177
            refine g_goto C 89 dX12_leaflet_58 (by decide) ?_
            exact ret _ _ _ _ _ _ dX12_leaflet_89 rfl (by decide) (by decide) ⟨Iy66154, Xz66159, W66156, trivial⟩
        · have h66163 : a3.toInt = 0 := congrArg Int32.toInt h66163
          refine g_iload C dX12_leaflet_43 0 rfl ?_
          refine g_goto C 89 dX12_leaflet_45 (by decide) ?_
          exact ret _ _ _ _ _ _ dX12_leaflet_89 rfl (by decide) (by decide) ⟨Iy66154, Xz66159, W66156, trivial⟩
      · have h66150 : r66146.toInt = 0 := congrArg Int32.toInt h66150
        clear hi66149
        refine g_lv (lv' := []) [] rfl ?_
        exact J29 Y66124 Iy66125 Xz66129 W66128 (by omega)
theorem dX12_mark_0 : decode cX12_mark 0 = .ok (.aload_n 0, 1) := by decide +kernel
theorem dX12_mark_1 : decode cX12_mark 1 = .ok (.iconst 0, 1) := by decide +kernel
theorem dX12_mark_2 : decode cX12_mark 2 = .ok (.putfield 1, 3) := by decide +kernel
theorem dX12_mark_5 : decode cX12_mark 5 = .ok (.iload_n 1, 1) := by decide +kernel
theorem dX12_mark_6 : decode cX12_mark 6 = .ok (.iconst 0, 1) := by decide +kernel
theorem dX12_mark_7 : decode cX12_mark 7 = .ok (.iconst 3, 1) := by decide +kernel
theorem dX12_mark_8 : decode cX12_mark 8 = .ok (.invokestatic 178, 3) := by decide +kernel
theorem dX12_mark_11 : decode cX12_mark 11 = .ok (.ifCond .eq 16, 3) := by decide +kernel
theorem dX12_mark_14 : decode cX12_mark 14 = .ok (.iload_n 2, 1) := by decide +kernel
theorem dX12_mark_15 : decode cX12_mark 15 = .ok (.ifCond .eq 14, 3) := by decide +kernel
theorem dX12_mark_18 : decode cX12_mark 18 = .ok (.aload_n 0, 1) := by decide +kernel
theorem dX12_mark_19 : decode cX12_mark 19 = .ok (.getfield 87, 3) := by decide +kernel
theorem dX12_mark_22 : decode cX12_mark 22 = .ok (.iload_n 1, 1) := by decide +kernel
theorem dX12_mark_23 : decode cX12_mark 23 = .ok (.baload, 1) := by decide +kernel
theorem dX12_mark_24 : decode cX12_mark 24 = .ok (.ifCond .ne 5, 3) := by decide +kernel
theorem dX12_mark_27 : decode cX12_mark 27 = .ok (.iconst 0, 1) := by decide +kernel
theorem dX12_mark_28 : decode cX12_mark 28 = .ok (.ireturn, 1) := by decide +kernel
theorem dX12_mark_29 : decode cX12_mark 29 = .ok (.iconst 0, 1) := by decide +kernel
theorem dX12_mark_30 : decode cX12_mark 30 = .ok (.istore_n 3, 1) := by decide +kernel
theorem dX12_mark_31 : decode cX12_mark 31 = .ok (.iload_n 3, 1) := by decide +kernel
theorem dX12_mark_32 : decode cX12_mark 32 = .ok (.iconst 4, 1) := by decide +kernel
theorem dX12_mark_33 : decode cX12_mark 33 = .ok (.if_icmp .ge 43, 3) := by decide +kernel
theorem dX12_mark_36 : decode cX12_mark 36 = .ok (.aload_n 0, 1) := by decide +kernel
theorem dX12_mark_37 : decode cX12_mark 37 = .ok (.iload_n 2, 1) := by decide +kernel
theorem dX12_mark_38 : decode cX12_mark 38 = .ok (.ifCond .eq 13, 3) := by decide +kernel
theorem dX12_mark_41 : decode cX12_mark 41 = .ok (.iconst 4, 1) := by decide +kernel
theorem dX12_mark_42 : decode cX12_mark 42 = .ok (.iload_n 1, 1) := by decide +kernel
theorem dX12_mark_43 : decode cX12_mark 43 = .ok (.iconst 1, 1) := by decide +kernel
theorem dX12_mark_44 : decode cX12_mark 44 = .ok (.iadd, 1) := by decide +kernel
theorem dX12_mark_45 : decode cX12_mark 45 = .ok (.imul, 1) := by decide +kernel
theorem dX12_mark_46 : decode cX12_mark 46 = .ok (.iload_n 3, 1) := by decide +kernel
theorem dX12_mark_47 : decode cX12_mark 47 = .ok (.iadd, 1) := by decide +kernel
theorem dX12_mark_48 : decode cX12_mark 48 = .ok (.goto 4, 3) := by decide +kernel
theorem dX12_mark_51 : decode cX12_mark 51 = .ok (.iload_n 3, 1) := by decide +kernel
theorem dX12_mark_52 : decode cX12_mark 52 = .ok (.iload_n 2, 1) := by decide +kernel
theorem dX12_mark_53 : decode cX12_mark 53 = .ok (.ifCond .eq 7, 3) := by decide +kernel
theorem dX12_mark_56 : decode cX12_mark 56 = .ok (.iload_n 3, 1) := by decide +kernel
theorem dX12_mark_57 : decode cX12_mark 57 = .ok (.goto 10, 3) := by decide +kernel
theorem dX12_mark_60 : decode cX12_mark 60 = .ok (.iconst 4, 1) := by decide +kernel
theorem dX12_mark_61 : decode cX12_mark 61 = .ok (.iload_n 1, 1) := by decide +kernel
theorem dX12_mark_62 : decode cX12_mark 62 = .ok (.iconst 1, 1) := by decide +kernel
theorem dX12_mark_63 : decode cX12_mark 63 = .ok (.iadd, 1) := by decide +kernel
theorem dX12_mark_64 : decode cX12_mark 64 = .ok (.imul, 1) := by decide +kernel
theorem dX12_mark_65 : decode cX12_mark 65 = .ok (.iload_n 3, 1) := by decide +kernel
theorem dX12_mark_66 : decode cX12_mark 66 = .ok (.iadd, 1) := by decide +kernel
theorem dX12_mark_67 : decode cX12_mark 67 = .ok (.invokevirtual 302, 3) := by decide +kernel
theorem dX12_mark_70 : decode cX12_mark 70 = .ok (.iinc 3 1, 3) := by decide +kernel
theorem dX12_mark_73 : decode cX12_mark 73 = .ok (.goto (-42), 3) := by decide +kernel
theorem dX12_mark_76 : decode cX12_mark 76 = .ok (.aload_n 0, 1) := by decide +kernel
theorem dX12_mark_77 : decode cX12_mark 77 = .ok (.getfield 87, 3) := by decide +kernel
theorem dX12_mark_80 : decode cX12_mark 80 = .ok (.iload_n 1, 1) := by decide +kernel
theorem dX12_mark_81 : decode cX12_mark 81 = .ok (.iconst 1, 1) := by decide +kernel
theorem dX12_mark_82 : decode cX12_mark 82 = .ok (.bastore, 1) := by decide +kernel
theorem dX12_mark_83 : decode cX12_mark 83 = .ok (.iconst 1, 1) := by decide +kernel
theorem dX12_mark_84 : decode cX12_mark 84 = .ok (.ireturn, 1) := by decide +kernel
set_option maxHeartbeats 4000000 in
set_option maxRecDepth 100000 in
theorem s_X12_mark {P : PP} {a0 : Nat} {a1 : Int32} {a2 : Int32} (I : IM P a0) (ha2 : 0 ≤ a2.toInt ∧ a2.toInt ≤ 1) (hW : MW P a0) : CtrI yX12_mark cX12_mark 4 (some Jvm.ClassFile.FieldType.boolean) ({ frames := 3, cells := 0, slots := 0, locals := 192 } : Room) 0 0 P [.ref a0, .int a1, .int a2] (fun r P2 => IM P2 a0 ∧ EM [0, 20, 21, 22, 23, 24, 25, 26] a0 P P2 ∧ MW P2 a0 ∧ (0 ≤ r.toInt ∧ r.toInt ≤ 1) ∧ (r.toInt = 0 ∨ (((0 : Int) ≤ a1.toInt ∧ a1.toInt ≤ (3 : Int))))) := by
  refine enI (lv := [(0, .ref a0), (1, .int a1), (2, .int a2)]) (by decide) (Nat.le_of_ble_eq_true rfl) rfl (fun E D cy C Ci0 ret => ?_)
  have ha0 := I.2.1
  have J31 : ∀ (n31 : Nat) (P31 : PP) (v31_3 : Int32), (4 - v31_3.toInt).toNat < n31 → (IM P31 a0) → (EM [0, 20, 21, 22, 23, 24, 25, 26] a0 P P31) → (MW P31 a0) → (0 ≤ a1.toInt ∧ a1.toInt ≤ 3) → (0 ≤ v31_3.toInt ∧ v31_3.toInt ≤ 4) → (0 ≤ (pI P31 a0 0).toInt ∧ (pI P31 a0 0).toInt ≤ 0) → G E ({ frames := 3, cells := 0, slots := 0, locals := 192 } : Room) D cy 4 P31 0 0 31 [(0, .ref a0), (1, .int a1), (2, .int a2), (3, .int v31_3)] [] := by
    intro n31
    induction n31 with
    | zero => intro P31 v31_3 hm31 I31 X31 W31 hv31_1 hv31_3 hq31_0; omega
    | succ n31 ih31 =>
      intro P31 v31_3 hm31 I31 X31 W31 hv31_1 hv31_3 hq31_0
      have h66337 := X31.at ha0
      have J67 : ∀ (v67_s0 : Int32) (v67_s1 : Int32), (0 ≤ a1.toInt ∧ a1.toInt ≤ 3) → (0 ≤ v31_3.toInt ∧ v31_3.toInt ≤ 3) → (0 ≤ v67_s0.toInt ∧ v67_s0.toInt ≤ 19) → (0 ≤ v67_s1.toInt ∧ v67_s1.toInt ≤ 19) → (0 ≤ (pI P31 a0 0).toInt ∧ (pI P31 a0 0).toInt ≤ 0) → G E ({ frames := 3, cells := 0, slots := 0, locals := 192 } : Room) D cy 4 P31 0 0 67 [(0, .ref a0), (1, .int a1), (2, .int a2), (3, .int v31_3)] [.int v67_s0, .int v67_s1, .ref a0] := by
        intro v67_s0 v67_s1 hv67_1 hv67_3 hv67_s0 hv67_s1 hq67_0
        have h66338 := X31.at ha0
        refine g_callVV (rest := []) C mv_X12_302 [.int v67_s1, .int v67_s0] (s_X12_copies I31 (by omega) (by omega) W31) (h66338).1 (h66338).2 rfl rfl (by decide) (Nat.le_of_ble_eq_true rfl) (by decide) dX12_mark_67 (fun Y66340 h66341 => ?_)
        obtain ⟨Iy66342, Xy66343, W66344⟩ := h66341
        have q66345 := Xy66343.keepF 0 (by decide)
        have Xz66346 : EM [0, 20, 21, 22, 23, 24, 25, 26] a0 P Y66340 := EM.tr ha0 X31 (Xy66343.mono (by decide))
        have h66347 := Xy66343.at h66338
        refine s_iinc (lv0 := [(0, .ref a0), (1, .int a1), (2, .int a2)]) (m := 1) C dX12_mark_70 3 rfl (by decide) rfl (by decide) (by omega) (fun z66348 h66349 => ?_)
        have h66349 : z66348.toInt = v31_3.toInt + 1 := h66349
        refine g_goto C 31 dX12_mark_73 (by decide) ?_
        refine g_lv (lv' := [(0, .ref a0), (1, .int a1), (2, .int a2), (3, .int z66348)]) [1, 2, 3, 0] rfl ?_
        exact ih31 Y66340 z66348 (by omega) Iy66342 Xz66346 W66344 (by omega) (by omega) (by omega)
      have J52 : ∀ (v52_s0 : Int32), (0 ≤ a1.toInt ∧ a1.toInt ≤ 3) → (0 ≤ v31_3.toInt ∧ v31_3.toInt ≤ 3) → (0 ≤ v52_s0.toInt ∧ v52_s0.toInt ≤ 19) → (0 ≤ (pI P31 a0 0).toInt ∧ (pI P31 a0 0).toInt ≤ 0) → G E ({ frames := 3, cells := 0, slots := 0, locals := 192 } : Room) D cy 4 P31 0 0 52 [(0, .ref a0), (1, .int a1), (2, .int a2), (3, .int v31_3)] [.int v52_s0, .ref a0] := by
        intro v52_s0 hv52_1 hv52_3 hv52_s0 hq52_0
        have h66350 := X31.at ha0
        refine g_iload_n C dX12_mark_52 rfl 2 rfl ?_
        refine b_if_eq C 60 dX12_mark_53 (by decide) (fun h66351 => ?_) (fun h66351 => ?_)
        · have h66351 : a2.toInt = 0 := congrArg Int32.toInt h66351
          refine g_iconst (v := 4) C dX12_mark_60 (by decide) ?_
          refine g_iload_n C dX12_mark_61 rfl 1 rfl ?_
          refine g_iconst (v := 1) C dX12_mark_62 (by decide) ?_
          refine s_iadd C dX12_mark_63 (by show -2147483648 ≤ a1.toInt + 1 ∧ a1.toInt + 1 ≤ 2147483647; omega) (fun z66352 h66353 => ?_)
          have h66353 : z66352.toInt = a1.toInt + 1 := h66353
          refine s_imul C dX12_mark_64 (by show -2147483648 ≤ 4 * z66352.toInt ∧ 4 * z66352.toInt ≤ 2147483647; omega) (fun z66354 h66355 => ?_)
          have h66355 : z66354.toInt = 4 * z66352.toInt := h66355
          refine g_iload_n C dX12_mark_65 rfl 3 rfl ?_
          refine s_iadd C dX12_mark_66 (by show -2147483648 ≤ z66354.toInt + v31_3.toInt ∧ z66354.toInt + v31_3.toInt ≤ 2147483647; omega) (fun z66356 h66357 => ?_)
          have h66357 : z66356.toInt = z66354.toInt + v31_3.toInt := h66357
          exact J67 z66356 v52_s0 (by omega) (by omega) (by omega) (by omega) (by omega)
        · have h66351 : a2.toInt ≠ 0 := ti_ne h66351
          refine g_iload_n C dX12_mark_56 rfl 3 rfl ?_
          refine g_goto C 67 dX12_mark_57 (by decide) ?_
          exact J67 v31_3 v52_s0 (by omega) (by omega) (by omega) (by omega) (by omega)
      refine g_iload_n C dX12_mark_31 rfl 3 rfl ?_
      refine g_iconst (v := 4) C dX12_mark_32 (by decide) ?_
      refine b_icmp_ge C 76 dX12_mark_33 (by decide) (fun h66358 => ?_) (fun h66358 => ?_)
      · have h66358 : 4 ≤ v31_3.toInt := h66358
        refine g_aload_n C dX12_mark_76 rfl 0 rfl ?_
        obtain ⟨b66359, e66360, h66361⟩ := I31.fld (h66337) 26 15 4 rfl
        refine g_getR C fi_X12_87 rfl e66360 (h66337).1 (h66337).2 dX12_mark_77 ?_
        refine g_iload_n C dX12_mark_80 rfl 1 rfl ?_
        refine g_iconst (v := 1) C dX12_mark_81 (by decide) ?_
        refine g_zast (j := (a1.toInt.toNat)) C h66361.1 h66361.2.1 (ix_in h66361.2.2 (by omega)) (Or.inr rfl) dX12_mark_82 ?_
        refine gqW (ks := [26]) (I31.setA e66360 h66361 (by decide) (arOk.none rfl)) (EM.setA I31 e66360 rfl (by decide)) (fun Y66362 Iy66363 Xy66364 w66365 => ?_)
        have w66365 : (pI Y66362 b66359 (a1.toInt.toNat)).toInt = 1 := w66365
        have q66366 := Xy66364.keepF 0 (by decide)
        have W66367 := W31.keep I31 Xy66364 (by decide) (by decide) (by decide)
        have Xz66368 : EM [0, 20, 21, 22, 23, 24, 25, 26] a0 P Y66362 := EM.tr ha0 X31 (Xy66364.mono (by decide))
        have e66369 := Xy66364.ref h66337 (by decide) e66360
        have h66370 := Xy66364.at h66337
        have h66371 := Xy66364.ar h66361
        refine g_iconst (v := 1) C dX12_mark_83 (by decide) ?_
        exact ret _ _ _ _ _ _ dX12_mark_84 rfl (by decide) (by decide) ⟨Iy66363, Xz66368, W66367, (by decide), Or.inr (by omega)⟩
      · have h66358 : v31_3.toInt < 4 := h66358
        refine g_aload_n C dX12_mark_36 rfl 0 rfl ?_
        refine g_iload_n C dX12_mark_37 rfl 2 rfl ?_
        refine b_if_eq C 51 dX12_mark_38 (by decide) (fun h66372 => ?_) (fun h66372 => ?_)
        · have h66372 : a2.toInt = 0 := congrArg Int32.toInt h66372
          refine g_iload_n C dX12_mark_51 rfl 3 rfl ?_
          exact J52 v31_3 (by omega) (by omega) (by omega) (by omega)
        · have h66372 : a2.toInt ≠ 0 := ti_ne h66372
          refine g_iconst (v := 4) C dX12_mark_41 (by decide) ?_
          refine g_iload_n C dX12_mark_42 rfl 1 rfl ?_
          refine g_iconst (v := 1) C dX12_mark_43 (by decide) ?_
          refine s_iadd C dX12_mark_44 (by show -2147483648 ≤ a1.toInt + 1 ∧ a1.toInt + 1 ≤ 2147483647; omega) (fun z66373 h66374 => ?_)
          have h66374 : z66373.toInt = a1.toInt + 1 := h66374
          refine s_imul C dX12_mark_45 (by show -2147483648 ≤ 4 * z66373.toInt ∧ 4 * z66373.toInt ≤ 2147483647; omega) (fun z66375 h66376 => ?_)
          have h66376 : z66375.toInt = 4 * z66373.toInt := h66376
          refine g_iload_n C dX12_mark_46 rfl 3 rfl ?_
          refine s_iadd C dX12_mark_47 (by show -2147483648 ≤ z66375.toInt + v31_3.toInt ∧ z66375.toInt + v31_3.toInt ≤ 2147483647; omega) (fun z66377 h66378 => ?_)
          have h66378 : z66377.toInt = z66375.toInt + v31_3.toInt := h66378
          refine g_goto C 52 dX12_mark_48 (by decide) ?_
          exact J52 z66377 (by omega) (by omega) (by omega) (by omega)
  have J29 : ∀ (P29 : PP), (IM P29 a0) → (EM [0, 20, 21, 22, 23, 24, 25, 26] a0 P P29) → (MW P29 a0) → (0 ≤ a1.toInt ∧ a1.toInt ≤ 3) → (0 ≤ (pI P29 a0 0).toInt ∧ (pI P29 a0 0).toInt ≤ 0) → G E ({ frames := 3, cells := 0, slots := 0, locals := 192 } : Room) D cy 4 P29 0 0 29 [(0, .ref a0), (1, .int a1), (2, .int a2)] [] := by
    intro P29 I29 X29 W29 hv29_1 hq29_0
    have h66379 := X29.at ha0
    refine g_iconst (v := 0) C dX12_mark_29 (by decide) ?_
    refine g_istore_n (lv' := [(3, .int 0), (0, .ref a0), (1, .int a1), (2, .int a2)]) C dX12_mark_30 rfl (by decide) rfl ?_
    refine g_lv (lv' := [(0, .ref a0), (1, .int a1), (2, .int a2), (3, .int 0)]) [1, 2, 3, 0] rfl ?_
    exact J31 _ P29 0 (Nat.lt_succ_self _) I29 X29 W29 (by omega) (by decide) (by omega)
  have J27 : ∀ (P27 : PP), (IM P27 a0) → (EM [0, 20, 21, 22, 23, 24, 25, 26] a0 P P27) → (MW P27 a0) → (0 ≤ (pI P27 a0 0).toInt ∧ (pI P27 a0 0).toInt ≤ 0) → G E ({ frames := 3, cells := 0, slots := 0, locals := 192 } : Room) D cy 4 P27 0 0 27 [] [] := by
    intro P27 I27 X27 W27 hq27_0
    have h66380 := X27.at ha0
    refine g_iconst (v := 0) C dX12_mark_27 (by decide) ?_
    exact ret _ _ _ _ _ _ dX12_mark_28 rfl (by decide) (by decide) ⟨I27, X27, W27, (by decide), Or.inl rfl⟩
  refine g_aload_n C dX12_mark_0 rfl 0 rfl ?_
  refine g_iconst (v := 0) C dX12_mark_1 (by decide) ?_
  refine g_putI C fi_X12_1 rfl (ha0).1 (ha0).2 dX12_mark_2 ?_
  refine gqW (ks := [0]) (I.setI (rgOk.of rfl (by decide))) (EM.setI I (by decide)) (fun Y66381 Iy66382 Xy66383 w66384 => ?_)
  have w66384 : (pI Y66381 a0 0).toInt = 0 := w66384
  have W66385 := hW.keep I Xy66383 (by decide) (by decide) (by decide)
  have Xz66386 : EM [0, 20, 21, 22, 23, 24, 25, 26] a0 P Y66381 := Xy66383.mono (by decide)
  have h66387 := Xy66383.at ha0
  refine g_iload_n C dX12_mark_5 rfl 1 rfl ?_
  refine g_iconst (v := 0) C dX12_mark_6 (by decide) ?_
  refine g_iconst (v := 3) C dX12_mark_7 (by decide) ?_
  refine g_callSI (b := 0) (ci := 0) (rest := []) C ms_X12_178 [.int a1, .int 0, .int 3] (s_X12_within Iy66382.1) rfl rfl (by decide) (Nat.le_of_ble_eq_true rfl) (by decide) dX12_mark_8 (fun r66388 Y66389 h66390 => ?_)
  obtain ⟨rfl, h66390⟩ := h66390
  obtain ⟨h66390, hi66391⟩ := h66390
  have hi66391 : r66388.toInt = 0 ∨ (0 ≤ a1.toInt ∧ a1.toInt ≤ 3) := hi66391
  have h66390 : 0 ≤ r66388.toInt ∧ r66388.toInt ≤ 1 := h66390
  refine b_if_eq C 27 dX12_mark_11 (by decide) (fun h66392 => ?_) (fun h66392 => ?_)
  · have h66392 : r66388.toInt = 0 := congrArg Int32.toInt h66392
    clear hi66391
    refine g_lv (lv' := []) [] rfl ?_
    exact J27 Y66381 Iy66382 Xz66386 W66385 (by omega)
  · have h66392 : r66388.toInt ≠ 0 := ti_ne h66392
    replace hi66391 := hi66391.resolve_left (by omega)
    refine g_iload_n C dX12_mark_14 rfl 2 rfl ?_
    refine b_if_eq C 29 dX12_mark_15 (by decide) (fun h66393 => ?_) (fun h66393 => ?_)
    · have h66393 : a2.toInt = 0 := congrArg Int32.toInt h66393
      exact J29 Y66381 Iy66382 Xz66386 W66385 (by omega) (by omega)
    · have h66393 : a2.toInt ≠ 0 := ti_ne h66393
      refine g_aload_n C dX12_mark_18 rfl 0 rfl ?_
      obtain ⟨b66394, e66395, h66396⟩ := Iy66382.fld (h66387) 26 15 4 rfl
      refine g_getR C fi_X12_87 rfl e66395 (h66387).1 (h66387).2 dX12_mark_19 ?_
      refine g_iload_n C dX12_mark_22 rfl 1 rfl ?_
      refine g_zald (j := (a1.toInt.toNat)) C h66396.1 h66396.2.1 (ix_in h66396.2.2 (by omega)) dX12_mark_23 ?_
      have u66398 := ti_rng (pI Y66381 b66394 (a1.toInt.toNat))
      refine b_if_ne C 29 dX12_mark_24 (by decide) (fun h66397 => ?_) (fun h66397 => ?_)
      · have h66397 : (pI Y66381 b66394 (a1.toInt.toNat)).toInt ≠ 0 := ti_ne h66397
        exact J29 Y66381 Iy66382 Xz66386 W66385 (by omega) (by omega)
      · have h66397 : (pI Y66381 b66394 (a1.toInt.toNat)).toInt = 0 := congrArg Int32.toInt h66397
        refine g_lv (lv' := []) [] rfl ?_
        exact J27 Y66381 Iy66382 Xz66386 W66385 (by omega)
theorem dX12_nameless_0 : decode cX12_nameless 0 = .ok (.aload_n 0, 1) := by decide +kernel
theorem dX12_nameless_1 : decode cX12_nameless 1 = .ok (.iconst 0, 1) := by decide +kernel
theorem dX12_nameless_2 : decode cX12_nameless 2 = .ok (.putfield 1, 3) := by decide +kernel
theorem dX12_nameless_5 : decode cX12_nameless 5 = .ok (.iload_n 1, 1) := by decide +kernel
theorem dX12_nameless_6 : decode cX12_nameless 6 = .ok (.invokestatic 278, 3) := by decide +kernel
theorem dX12_nameless_9 : decode cX12_nameless 9 = .ok (.ifCond .eq 41, 3) := by decide +kernel
theorem dX12_nameless_12 : decode cX12_nameless 12 = .ok (.iload_n 2, 1) := by decide +kernel
theorem dX12_nameless_13 : decode cX12_nameless 13 = .ok (.invokestatic 258, 3) := by decide +kernel
theorem dX12_nameless_16 : decode cX12_nameless 16 = .ok (.ifCond .eq 34, 3) := by decide +kernel
theorem dX12_nameless_19 : decode cX12_nameless 19 = .ok (.iload_n 3, 1) := by decide +kernel
theorem dX12_nameless_20 : decode cX12_nameless 20 = .ok (.iconst 0, 1) := by decide +kernel
theorem dX12_nameless_21 : decode cX12_nameless 21 = .ok (.ldc 195, 2) := by decide +kernel
theorem dX12_nameless_23 : decode cX12_nameless 23 = .ok (.invokestatic 178, 3) := by decide +kernel
theorem dX12_nameless_26 : decode cX12_nameless 26 = .ok (.ifCond .eq 24, 3) := by decide +kernel
theorem dX12_nameless_29 : decode cX12_nameless 29 = .ok (.aload_n 0, 1) := by decide +kernel
theorem dX12_nameless_30 : decode cX12_nameless 30 = .ok (.getfield 69, 3) := by decide +kernel
theorem dX12_nameless_33 : decode cX12_nameless 33 = .ok (.iload_n 1, 1) := by decide +kernel
theorem dX12_nameless_34 : decode cX12_nameless 34 = .ok (.iaload, 1) := by decide +kernel
theorem dX12_nameless_35 : decode cX12_nameless 35 = .ok (.bipush 40, 2) := by decide +kernel
theorem dX12_nameless_37 : decode cX12_nameless 37 = .ok (.if_icmp .eq 13, 3) := by decide +kernel
theorem dX12_nameless_40 : decode cX12_nameless 40 = .ok (.aload_n 0, 1) := by decide +kernel
theorem dX12_nameless_41 : decode cX12_nameless 41 = .ok (.iload_n 1, 1) := by decide +kernel
theorem dX12_nameless_42 : decode cX12_nameless 42 = .ok (.invokevirtual 295, 3) := by decide +kernel
theorem dX12_nameless_45 : decode cX12_nameless 45 = .ok (.bipush 6, 2) := by decide +kernel
theorem dX12_nameless_47 : decode cX12_nameless 47 = .ok (.if_icmp .ne 5, 3) := by decide +kernel
theorem dX12_nameless_50 : decode cX12_nameless 50 = .ok (.iconst (-1), 1) := by decide +kernel
theorem dX12_nameless_51 : decode cX12_nameless 51 = .ok (.ireturn, 1) := by decide +kernel
theorem dX12_nameless_52 : decode cX12_nameless 52 = .ok (.aload_n 0, 1) := by decide +kernel
theorem dX12_nameless_53 : decode cX12_nameless 53 = .ok (.iload_n 1, 1) := by decide +kernel
theorem dX12_nameless_54 : decode cX12_nameless 54 = .ok (.iconst (-1), 1) := by decide +kernel
theorem dX12_nameless_55 : decode cX12_nameless 55 = .ok (.iload_n 2, 1) := by decide +kernel
theorem dX12_nameless_56 : decode cX12_nameless 56 = .ok (.iload_n 3, 1) := by decide +kernel
theorem dX12_nameless_57 : decode cX12_nameless 57 = .ok (.iconst 3, 1) := by decide +kernel
theorem dX12_nameless_58 : decode cX12_nameless 58 = .ok (.iconst 0, 1) := by decide +kernel
theorem dX12_nameless_59 : decode cX12_nameless 59 = .ok (.invokevirtual 284, 3) := by decide +kernel
theorem dX12_nameless_62 : decode cX12_nameless 62 = .ok (.ireturn, 1) := by decide +kernel
set_option maxHeartbeats 4000000 in
set_option maxRecDepth 100000 in
theorem s_X12_nameless {P : PP} {a0 : Nat} {a1 : Int32} {a2 : Int32} {a3 : Int32} (I : IM P a0) (hW : MW P a0) : CtrI yX12_nameless cX12_nameless 4 (some Jvm.ClassFile.FieldType.int) ({ frames := 3, cells := 0, slots := 0, locals := 192 } : Room) 0 0 P [.ref a0, .int a1, .int a2, .int a3] (fun r P2 => IM P2 a0 ∧ EM [0, 20, 21, 22, 23, 24, 25] a0 P P2 ∧ MW P2 a0 ∧ (-1 ≤ r.toInt ∧ r.toInt ≤ 39)) := by
  refine enI (lv := [(0, .ref a0), (1, .int a1), (2, .int a2), (3, .int a3)]) (by decide) (Nat.le_of_ble_eq_true rfl) rfl (fun E D cy C Ci0 ret => ?_)
  have ha0 := I.2.1
  have J50 : ∀ (P50 : PP), (IM P50 a0) → (EM [0, 20, 21, 22, 23, 24, 25] a0 P P50) → (MW P50 a0) → (0 ≤ (pI P50 a0 0).toInt ∧ (pI P50 a0 0).toInt ≤ 0) → G E ({ frames := 3, cells := 0, slots := 0, locals := 192 } : Room) D cy 4 P50 0 0 50 [] [] := by
    intro P50 I50 X50 W50 hq50_0
    have h66444 := X50.at ha0
    refine g_iconst (v := (-1)) C dX12_nameless_50 (by decide) ?_
    exact ret _ _ _ _ _ _ dX12_nameless_51 rfl (by decide) (by decide) ⟨I50, X50, W50, (by decide)⟩
  refine g_aload_n C dX12_nameless_0 rfl 0 rfl ?_
  refine g_iconst (v := 0) C dX12_nameless_1 (by decide) ?_
  refine g_putI C fi_X12_1 rfl (ha0).1 (ha0).2 dX12_nameless_2 ?_
  refine gqW (ks := [0]) (I.setI (rgOk.of rfl (by decide))) (EM.setI I (by decide)) (fun Y66445 Iy66446 Xy66447 w66448 => ?_)
  have w66448 : (pI Y66445 a0 0).toInt = 0 := w66448
  have W66449 := hW.keep I Xy66447 (by decide) (by decide) (by decide)
  have Xz66450 : EM [0, 20, 21, 22, 23, 24, 25] a0 P Y66445 := Xy66447.mono (by decide)
  have h66451 := Xy66447.at ha0
  refine g_iload_n C dX12_nameless_5 rfl 1 rfl ?_
  refine g_callSI (b := 0) (ci := 0) (rest := []) C ms_X12_278 [.int a1] (s_X12_isQuarter Iy66446.1) rfl rfl (by decide) (Nat.le_of_ble_eq_true rfl) (by decide) dX12_nameless_6 (fun r66452 Y66453 h66454 => ?_)
  obtain ⟨rfl, h66454⟩ := h66454
  obtain ⟨h66454, hi66455⟩ := h66454
  have hi66455 : r66452.toInt = 0 ∨ (((0 : Int) ≤ a1.toInt ∧ a1.toInt ≤ (3 : Int))) := hi66455
  have h66454 : 0 ≤ r66452.toInt ∧ r66452.toInt ≤ 1 := h66454
  refine b_if_eq C 50 dX12_nameless_9 (by decide) (fun h66456 => ?_) (fun h66456 => ?_)
  · have h66456 : r66452.toInt = 0 := congrArg Int32.toInt h66456
    clear hi66455
    refine g_lv (lv' := []) [] rfl ?_
    exact J50 Y66445 Iy66446 Xz66450 W66449 (by omega)
  · have h66456 : r66452.toInt ≠ 0 := ti_ne h66456
    replace hi66455 := hi66455.resolve_left (by omega)
    refine g_iload_n C dX12_nameless_12 rfl 2 rfl ?_
    refine g_callSI (b := 0) (ci := 0) (rest := []) C ms_X12_258 [.int a2] (s_X12_isNumber Iy66446.1) rfl rfl (by decide) (Nat.le_of_ble_eq_true rfl) (by decide) dX12_nameless_13 (fun r66457 Y66458 h66459 => ?_)
    obtain ⟨rfl, h66459⟩ := h66459
    obtain ⟨h66459, hi66460⟩ := h66459
    have hi66460 : r66457.toInt = 0 ∨ (((0 : Int) ≤ a2.toInt ∧ a2.toInt ≤ (9999 : Int))) := hi66460
    have h66459 : 0 ≤ r66457.toInt ∧ r66457.toInt ≤ 1 := h66459
    refine b_if_eq C 50 dX12_nameless_16 (by decide) (fun h66461 => ?_) (fun h66461 => ?_)
    · have h66461 : r66457.toInt = 0 := congrArg Int32.toInt h66461
      clear hi66460
      refine g_lv (lv' := []) [] rfl ?_
      exact J50 Y66445 Iy66446 Xz66450 W66449 (by omega)
    · have h66461 : r66457.toInt ≠ 0 := ti_ne h66461
      replace hi66460 := hi66460.resolve_left (by omega)
      refine g_iload_n C dX12_nameless_19 rfl 3 rfl ?_
      refine g_iconst (v := 0) C dX12_nameless_20 (by decide) ?_
      refine g_ldc (v := 65535) C kc_X12_195 dX12_nameless_21 ?_
      refine g_callSI (b := 0) (ci := 0) (rest := []) C ms_X12_178 [.int a3, .int 0, .int 65535] (s_X12_within Iy66446.1) rfl rfl (by decide) (Nat.le_of_ble_eq_true rfl) (by decide) dX12_nameless_23 (fun r66462 Y66463 h66464 => ?_)
      obtain ⟨rfl, h66464⟩ := h66464
      obtain ⟨h66464, hi66465⟩ := h66464
      have hi66465 : r66462.toInt = 0 ∨ (0 ≤ a3.toInt ∧ a3.toInt ≤ 65535) := hi66465
      have h66464 : 0 ≤ r66462.toInt ∧ r66462.toInt ≤ 1 := h66464
      refine b_if_eq C 50 dX12_nameless_26 (by decide) (fun h66466 => ?_) (fun h66466 => ?_)
      · have h66466 : r66462.toInt = 0 := congrArg Int32.toInt h66466
        clear hi66465
        refine g_lv (lv' := []) [] rfl ?_
        exact J50 Y66445 Iy66446 Xz66450 W66449 (by omega)
      · have h66466 : r66462.toInt ≠ 0 := ti_ne h66466
        replace hi66465 := hi66465.resolve_left (by omega)
        refine g_aload_n C dX12_nameless_29 rfl 0 rfl ?_
        obtain ⟨b66467, e66468, h66469⟩ := Iy66446.fld (h66451) 20 13 20 rfl
        refine g_getR C fi_X12_69 rfl e66468 (h66451).1 (h66451).2 dX12_nameless_30 ?_
        refine g_iload_n C dX12_nameless_33 rfl 1 rfl ?_
        refine g_iald (j := (a1.toInt.toNat)) C h66469.1 h66469.2.1 (ix_in h66469.2.2 (by omega)) dX12_nameless_34 ?_
        have h66470 := Iy66446.arr e66468 rfl (a1.toInt.toNat)
        refine g_bipush (v := 40) C dX12_nameless_35 (by decide) ?_
        refine b_icmp_eq C 50 dX12_nameless_37 (by decide) (fun h66471 => ?_) (fun h66471 => ?_)
        · have h66471 : (pI Y66445 b66467 (a1.toInt.toNat)).toInt = 40 := congrArg Int32.toInt h66471
          refine g_lv (lv' := []) [] rfl ?_
          exact J50 Y66445 Iy66446 Xz66450 W66449 (by omega)
        · have h66471 : (pI Y66445 b66467 (a1.toInt.toNat)).toInt ≠ 40 := ti_ne h66471
          refine g_aload_n C dX12_nameless_40 rfl 0 rfl ?_
          refine g_iload_n C dX12_nameless_41 rfl 1 rfl ?_
          refine g_callVI (rest := []) C mv_X12_295 [.int a1] (s_X12_namelessIn Iy66446 (by omega) W66449) (h66451).1 (h66451).2 rfl rfl (by decide) (Nat.le_of_ble_eq_true rfl) (by decide) dX12_nameless_42 (fun r66472 Y66473 h66474 => ?_)
          obtain ⟨rfl, h66474⟩ := h66474
          have h66474 : True := h66474
          refine g_bipush (v := 6) C dX12_nameless_45 (by decide) ?_
          have u66476 := ti_rng r66472
          refine b_icmp_ne C 52 dX12_nameless_47 (by decide) (fun h66475 => ?_) (fun h66475 => ?_)
          · have h66475 : r66472.toInt ≠ 6 := ti_ne h66475
            refine g_aload_n C dX12_nameless_52 rfl 0 rfl ?_
            refine g_iload_n C dX12_nameless_53 rfl 1 rfl ?_
            refine g_iconst (v := (-1)) C dX12_nameless_54 (by decide) ?_
            refine g_iload_n C dX12_nameless_55 rfl 2 rfl ?_
            refine g_iload_n C dX12_nameless_56 rfl 3 rfl ?_
            refine g_iconst (v := 3) C dX12_nameless_57 (by decide) ?_
            refine g_iconst (v := 0) C dX12_nameless_58 (by decide) ?_
            refine g_callVI (rest := []) C mv_X12_284 [.int a1, .int (-1), .int a2, .int a3, .int 3, .int 0] (s_X12_lays Iy66446 (by omega) (by decide) (fun b9 e9 => by rw [e66468] at e9; cases e9; show 0 ≤ (pI Y66445 b66467 (a1.toInt.toNat)).toInt ∧ (pI Y66445 b66467 (a1.toInt.toNat)).toInt ≤ 39; omega) W66449 (fun _ _ h9 => absurd h9 (by decide))) (h66451).1 (h66451).2 rfl rfl (by decide) (Nat.le_of_ble_eq_true rfl) (by decide) dX12_nameless_59 (fun r66477 Y66478 h66479 => ?_)
            obtain ⟨Iy66480, Xy66481, W66482, p66483, h66479⟩ := h66479
            have p66483 := p66483 b66467 e66468
            have p66483 : (pI Y66478 b66467 (a1.toInt.toNat)).toInt = (pI Y66445 b66467 (a1.toInt.toNat)).toInt + 1 := p66483
            have q66484 := Xy66481.keepF 0 (by decide)
            have Xz66485 : EM [0, 20, 21, 22, 23, 24, 25] a0 P Y66478 := EM.tr ha0 Xz66450 (Xy66481.mono (by decide))
            have e66486 := Xy66481.ref h66451 (by decide) e66468
            have h66487 := Xy66481.at h66451
            have h66488 := Xy66481.ar h66469
            have h66479 : 0 ≤ r66477.toInt ∧ r66477.toInt ≤ 39 := h66479
            exact ret _ _ _ _ _ _ dX12_nameless_62 rfl (by decide) (by decide) ⟨Iy66480, Xz66485, W66482, (by omega)⟩
          · have h66475 : r66472.toInt = 6 := congrArg Int32.toInt h66475
            refine g_lv (lv' := []) [] rfl ?_
            exact J50 Y66445 Iy66446 Xz66450 W66449 (by omega)
theorem dX12_needs_0 : decode cX12_needs 0 = .ok (.aload_n 0, 1) := by decide +kernel
theorem dX12_needs_1 : decode cX12_needs 1 = .ok (.iconst 0, 1) := by decide +kernel
theorem dX12_needs_2 : decode cX12_needs 2 = .ok (.putfield 1, 3) := by decide +kernel
theorem dX12_needs_5 : decode cX12_needs 5 = .ok (.iload_n 1, 1) := by decide +kernel
theorem dX12_needs_6 : decode cX12_needs 6 = .ok (.invokestatic 278, 3) := by decide +kernel
theorem dX12_needs_9 : decode cX12_needs 9 = .ok (.ifCond .eq 11, 3) := by decide +kernel
theorem dX12_needs_12 : decode cX12_needs 12 = .ok (.aload_n 0, 1) := by decide +kernel
theorem dX12_needs_13 : decode cX12_needs 13 = .ok (.iload_n 2, 1) := by decide +kernel
theorem dX12_needs_14 : decode cX12_needs 14 = .ok (.invokevirtual 192, 3) := by decide +kernel
theorem dX12_needs_17 : decode cX12_needs 17 = .ok (.ifCond .ne 5, 3) := by decide +kernel
theorem dX12_needs_22 : decode cX12_needs 22 = .ok (.aload_n 0, 1) := by decide +kernel
theorem dX12_needs_23 : decode cX12_needs 23 = .ok (.iload_n 1, 1) := by decide +kernel
theorem dX12_needs_24 : decode cX12_needs 24 = .ok (.iload_n 2, 1) := by decide +kernel
theorem dX12_needs_25 : decode cX12_needs 25 = .ok (.invokevirtual 408, 3) := by decide +kernel
theorem dX12_needsOf_0 : decode cX12_needsOf 0 = .ok (.aload_n 0, 1) := by decide +kernel
theorem dX12_needsOf_1 : decode cX12_needsOf 1 = .ok (.iload_n 2, 1) := by decide +kernel
theorem dX12_needsOf_2 : decode cX12_needsOf 2 = .ok (.invokevirtual 312, 3) := by decide +kernel
theorem dX12_needsOf_5 : decode cX12_needsOf 5 = .ok (.iconst 0, 1) := by decide +kernel
theorem dX12_needsOf_6 : decode cX12_needsOf 6 = .ok (.istore_n 3, 1) := by decide +kernel
theorem dX12_needsOf_7 : decode cX12_needsOf 7 = .ok (.iload_n 3, 1) := by decide +kernel
theorem dX12_needsOf_8 : decode cX12_needsOf 8 = .ok (.bipush 60, 2) := by decide +kernel
theorem dX12_needsOf_10 : decode cX12_needsOf 10 = .ok (.if_icmp .gt 55, 3) := by decide +kernel
theorem dX12_needsOf_13 : decode cX12_needsOf 13 = .ok (.aload_n 0, 1) := by decide +kernel
theorem dX12_needsOf_14 : decode cX12_needsOf 14 = .ok (.invokevirtual 346, 3) := by decide +kernel
theorem dX12_needsOf_17 : decode cX12_needsOf 17 = .ok (.aload_n 0, 1) := by decide +kernel
theorem dX12_needsOf_18 : decode cX12_needsOf 18 = .ok (.iload_n 2, 1) := by decide +kernel
theorem dX12_needsOf_19 : decode cX12_needsOf 19 = .ok (.aload_n 0, 1) := by decide +kernel
theorem dX12_needsOf_20 : decode cX12_needsOf 20 = .ok (.invokevirtual 349, 3) := by decide +kernel
theorem dX12_needsOf_23 : decode cX12_needsOf 23 = .ok (.invokevirtual 371, 3) := by decide +kernel
theorem dX12_needsOf_26 : decode cX12_needsOf 26 = .ok (.ifCond .eq 5, 3) := by decide +kernel
theorem dX12_needsOf_29 : decode cX12_needsOf 29 = .ok (.iload_n 3, 1) := by decide +kernel
theorem dX12_needsOf_30 : decode cX12_needsOf 30 = .ok (.ireturn, 1) := by decide +kernel
theorem dX12_needsOf_31 : decode cX12_needsOf 31 = .ok (.iload_n 3, 1) := by decide +kernel
theorem dX12_needsOf_32 : decode cX12_needsOf 32 = .ok (.bipush 60, 2) := by decide +kernel
theorem dX12_needsOf_34 : decode cX12_needsOf 34 = .ok (.if_icmp .ge 25, 3) := by decide +kernel
theorem dX12_needsOf_37 : decode cX12_needsOf 37 = .ok (.aload_n 0, 1) := by decide +kernel
theorem dX12_needsOf_38 : decode cX12_needsOf 38 = .ok (.iload_n 1, 1) := by decide +kernel
theorem dX12_needsOf_39 : decode cX12_needsOf 39 = .ok (.iload_n 2, 1) := by decide +kernel
theorem dX12_needsOf_40 : decode cX12_needsOf 40 = .ok (.iload_n 3, 1) := by decide +kernel
theorem dX12_needsOf_41 : decode cX12_needsOf 41 = .ok (.invokevirtual 402, 3) := by decide +kernel
theorem dX12_needsOf_44 : decode cX12_needsOf 44 = .ok (.ifCond .eq 15, 3) := by decide +kernel
theorem dX12_needsOf_47 : decode cX12_needsOf 47 = .ok (.aload_n 0, 1) := by decide +kernel
theorem dX12_needsOf_48 : decode cX12_needsOf 48 = .ok (.aload_n 0, 1) := by decide +kernel
theorem dX12_needsOf_49 : decode cX12_needsOf 49 = .ok (.iload_n 2, 1) := by decide +kernel
theorem dX12_needsOf_50 : decode cX12_needsOf 50 = .ok (.iload_n 3, 1) := by decide +kernel
theorem dX12_needsOf_51 : decode cX12_needsOf 51 = .ok (.invokevirtual 261, 3) := by decide +kernel
theorem dX12_needsOf_54 : decode cX12_needsOf 54 = .ok (.iconst 0, 1) := by decide +kernel
theorem dX12_needsOf_55 : decode cX12_needsOf 55 = .ok (.iconst (-1), 1) := by decide +kernel
theorem dX12_needsOf_56 : decode cX12_needsOf 56 = .ok (.invokevirtual 308, 3) := by decide +kernel
theorem dX12_needsOf_59 : decode cX12_needsOf 59 = .ok (.iinc 3 1, 3) := by decide +kernel
theorem dX12_needsOf_62 : decode cX12_needsOf 62 = .ok (.goto (-55), 3) := by decide +kernel
theorem dX12_needsOf_65 : decode cX12_needsOf 65 = .ok (.bipush 61, 2) := by decide +kernel
theorem dX12_needsOf_67 : decode cX12_needsOf 67 = .ok (.ireturn, 1) := by decide +kernel
set_option maxHeartbeats 4000000 in
set_option maxRecDepth 100000 in
theorem s_X12_needsOf {P : PP} {a0 : Nat} {a1 : Int32} {a2 : Int32} (I : IM P a0) (ha1 : 0 ≤ a1.toInt ∧ a1.toInt ≤ 3) (ha2 : 0 ≤ a2.toInt ∧ a2.toInt ≤ 1) (hf0 : ∀ b, pR P a0 10 = some b → 1 ≤ (pI P b (a2.toInt.toNat)).toInt ∧ (pI P b (a2.toInt.toNat)).toInt ≤ 16) (hW : MW P a0) : CtrI yX12_needsOf cX12_needsOf 4 (some Jvm.ClassFile.FieldType.int) ({ frames := 6, cells := 0, slots := 0, locals := 384 } : Room) 0 0 P [.ref a0, .int a1, .int a2] (fun r P2 => IM P2 a0 ∧ EM [28, 29, 30, 31, 35, 36, 37, 38] a0 P P2 ∧ MW P2 a0 ∧ (0 ≤ r.toInt ∧ r.toInt ≤ 61)) := by
  refine enI (lv := [(0, .ref a0), (1, .int a1), (2, .int a2)]) (by decide) (Nat.le_of_ble_eq_true rfl) rfl (fun E D cy C Ci0 ret => ?_)
  have ha0 := I.2.1
  have J7 : ∀ (n7 : Nat) (P7 : PP) (v7_3 : Int32), (61 - v7_3.toInt).toNat < n7 → (IM P7 a0) → (EM [28, 29, 30, 31, 35, 36, 37, 38] a0 P P7) → (MW P7 a0) → (0 ≤ v7_3.toInt ∧ v7_3.toInt ≤ 61) → (∀ b, pR P7 a0 10 = some b → 1 ≤ (pI P7 b (a2.toInt.toNat)).toInt ∧ (pI P7 b (a2.toInt.toNat)).toInt ≤ 16) → ((pI P7 a0 28).toInt ≤ 4 + v7_3.toInt) → G E ({ frames := 6, cells := 0, slots := 0, locals := 384 } : Room) D cy 4 P7 0 0 7 [(0, .ref a0), (1, .int a1), (2, .int a2), (3, .int v7_3)] [] := by
    intro n7
    induction n7 with
    | zero => intro P7 v7_3 hm7 I7 X7 W7 hv7_3 hq7_0 rel7_0; omega
    | succ n7 ih7 =>
      intro P7 v7_3 hm7 I7 X7 W7 hv7_3 hq7_0 rel7_0
      have h67787 := X7.at ha0
      obtain ⟨b67788, e67789, h67790⟩ := I7.fld (h67787) 10 13 2 rfl
      have hq7_0 := hq7_0 b67788 e67789
      have h67791 := I7.rg h67787 28 rfl
      have J59 : ∀ (P59 : PP), (IM P59 a0) → (EM [28, 29, 30, 31, 35, 36, 37, 38] a0 P P59) → (MW P59 a0) → (0 ≤ v7_3.toInt ∧ v7_3.toInt ≤ 60) → (∀ b, pR P59 a0 10 = some b → 1 ≤ (pI P59 b (a2.toInt.toNat)).toInt ∧ (pI P59 b (a2.toInt.toNat)).toInt ≤ 16) → ((pI P59 a0 28).toInt ≤ 5 + v7_3.toInt) → G E ({ frames := 6, cells := 0, slots := 0, locals := 384 } : Room) D cy 4 P59 0 0 59 [(0, .ref a0), (1, .int a1), (2, .int a2), (3, .int v7_3)] [] := by
        intro P59 I59 X59 W59 hv59_3 hq59_0 rel59_0
        have h67792 := X59.at ha0
        obtain ⟨b67793, e67794, h67795⟩ := I59.fld (h67792) 10 13 2 rfl
        have hq59_0 := hq59_0 b67793 e67794
        have h67796 := I59.rg h67792 28 rfl
        refine s_iinc (lv0 := [(0, .ref a0), (1, .int a1), (2, .int a2)]) (m := 1) C dX12_needsOf_59 3 rfl (by decide) rfl (by decide) (by omega) (fun z67797 h67798 => ?_)
        have h67798 : z67797.toInt = v7_3.toInt + 1 := h67798
        refine g_goto C 7 dX12_needsOf_62 (by decide) ?_
        refine g_lv (lv' := [(0, .ref a0), (1, .int a1), (2, .int a2), (3, .int z67797)]) [1, 2, 3, 0] rfl ?_
        exact ih7 P59 z67797 (by omega) I59 X59 W59 (by omega) (fun b9 e9 => by rw [e67794] at e9; cases e9; omega) (by show (pI P59 a0 28).toInt ≤ 4 + z67797.toInt; omega)
      refine g_iload_n C dX12_needsOf_7 rfl 3 rfl ?_
      refine g_bipush (v := 60) C dX12_needsOf_8 (by decide) ?_
      refine b_icmp_gt C 65 dX12_needsOf_10 (by decide) (fun h67799 => ?_) (fun h67799 => ?_)
      · have h67799 : 60 < v7_3.toInt := h67799
        refine g_bipush (v := 61) C dX12_needsOf_65 (by decide) ?_
        exact ret _ _ _ _ _ _ dX12_needsOf_67 rfl (by decide) (by decide) ⟨I7, X7, W7, (by decide)⟩
      · have h67799 : v7_3.toInt ≤ 60 := h67799
        refine g_aload_n C dX12_needsOf_13 rfl 0 rfl ?_
        refine g_callVV (rest := []) C mv_X12_346 [] (s_X12_findSolved I7 W7) (h67787).1 (h67787).2 rfl rfl (by decide) (Nat.le_of_ble_eq_true rfl) (by decide) dX12_needsOf_14 (fun Y67801 h67802 => ?_)
        obtain ⟨Iy67803, Xy67804, W67805⟩ := h67802
        have q67806 := Xy67804.keepA e67789 (by decide) rfl (a2.toInt.toNat)
        have q67807 := Xy67804.keepF 28 (by decide)
        have Xz67808 : EM [28, 29, 30, 31, 35, 36, 37, 38] a0 P Y67801 := EM.tr ha0 X7 (Xy67804.mono (by decide))
        have e67809 := Xy67804.ref h67787 (by decide) e67789
        have h67810 := Xy67804.at h67787
        have h67811 := Xy67804.ar h67790
        refine g_aload_n C dX12_needsOf_17 rfl 0 rfl ?_
        refine g_iload_n C dX12_needsOf_18 rfl 2 rfl ?_
        refine g_aload_n C dX12_needsOf_19 rfl 0 rfl ?_
        refine g_callVI (rest := [.int a2, .ref a0]) C mv_X12_349 [] (s_X12_fixedSet Iy67803 W67805) (h67810).1 (h67810).2 rfl rfl (by decide) (Nat.le_of_ble_eq_true rfl) (by decide) dX12_needsOf_20 (fun r67812 Y67813 h67814 => ?_)
        obtain ⟨rfl, h67814⟩ := h67814
        have h67814 : True := h67814
        refine g_callVI (rest := []) C mv_X12_371 [.int a2, .int r67812] (s_X12_givesAll Iy67803 (by omega) W67805) (h67810).1 (h67810).2 rfl rfl (by decide) (Nat.le_of_ble_eq_true rfl) (by decide) dX12_needsOf_23 (fun r67815 Y67816 h67817 => ?_)
        obtain ⟨rfl, h67817⟩ := h67817
        have h67817 : 0 ≤ r67815.toInt ∧ r67815.toInt ≤ 1 := h67817
        refine b_if_eq C 31 dX12_needsOf_26 (by decide) (fun h67818 => ?_) (fun h67818 => ?_)
        · have h67818 : r67815.toInt = 0 := congrArg Int32.toInt h67818
          refine g_iload_n C dX12_needsOf_31 rfl 3 rfl ?_
          refine g_bipush (v := 60) C dX12_needsOf_32 (by decide) ?_
          refine b_icmp_ge C 59 dX12_needsOf_34 (by decide) (fun h67819 => ?_) (fun h67819 => ?_)
          · have h67819 : 60 ≤ v7_3.toInt := h67819
            exact J59 Y67801 Iy67803 Xz67808 W67805 (by omega) (fun b9 e9 => by rw [e67809] at e9; cases e9; omega) (by show (pI Y67801 a0 28).toInt ≤ 5 + v7_3.toInt; omega)
          · have h67819 : v7_3.toInt < 60 := h67819
            refine g_aload_n C dX12_needsOf_37 rfl 0 rfl ?_
            refine g_iload_n C dX12_needsOf_38 rfl 1 rfl ?_
            refine g_iload_n C dX12_needsOf_39 rfl 2 rfl ?_
            refine g_iload_n C dX12_needsOf_40 rfl 3 rfl ?_
            refine g_callVI (rest := []) C mv_X12_402 [.int a1, .int a2, .int v7_3] (s_X12_falls Iy67803 (by omega) W67805) (h67810).1 (h67810).2 rfl rfl (by decide) (Nat.le_of_ble_eq_true rfl) (by decide) dX12_needsOf_41 (fun r67820 Y67821 h67822 => ?_)
            obtain ⟨rfl, h67822⟩ := h67822
            have h67822 : 0 ≤ r67820.toInt ∧ r67820.toInt ≤ 1 := h67822
            refine b_if_eq C 59 dX12_needsOf_44 (by decide) (fun h67823 => ?_) (fun h67823 => ?_)
            · have h67823 : r67820.toInt = 0 := congrArg Int32.toInt h67823
              exact J59 Y67801 Iy67803 Xz67808 W67805 (by omega) (fun b9 e9 => by rw [e67809] at e9; cases e9; omega) (by show (pI Y67801 a0 28).toInt ≤ 5 + v7_3.toInt; omega)
            · have h67823 : r67820.toInt ≠ 0 := ti_ne h67823
              refine g_aload_n C dX12_needsOf_47 rfl 0 rfl ?_
              refine g_aload_n C dX12_needsOf_48 rfl 0 rfl ?_
              refine g_iload_n C dX12_needsOf_49 rfl 2 rfl ?_
              refine g_iload_n C dX12_needsOf_50 rfl 3 rfl ?_
              refine g_callVI (rest := [.ref a0]) C mv_X12_261 [.int a2, .int v7_3] (s_X12_setOf Iy67803 (by omega) (fun b9 e9 => by rw [e67809] at e9; cases e9; show 1 ≤ (pI Y67801 b67788 (a2.toInt.toNat)).toInt ∧ (pI Y67801 b67788 (a2.toInt.toNat)).toInt ≤ 16; omega) W67805) (h67810).1 (h67810).2 rfl rfl (by decide) (Nat.le_of_ble_eq_true rfl) (by decide) dX12_needsOf_51 (fun r67824 Y67825 h67826 => ?_)
              obtain ⟨Iy67827, Xy67828, W67829, h67826⟩ := h67826
              have q67830 := Xy67828.keepA e67809 (by decide) rfl (a2.toInt.toNat)
              have q67831 := Xy67828.keepF 28 (by decide)
              have Xz67832 : EM [28, 29, 30, 31, 35, 36, 37, 38] a0 P Y67825 := EM.tr ha0 Xz67808 (Xy67828.mono (by decide))
              have e67833 := Xy67828.ref h67810 (by decide) e67809
              have h67834 := Xy67828.at h67810
              have h67835 := Xy67828.ar h67811
              have h67826 : True := h67826
              refine g_iconst (v := 0) C dX12_needsOf_54 (by decide) ?_
              refine g_iconst (v := (-1)) C dX12_needsOf_55 (by decide) ?_
              refine g_callVV (rest := []) C mv_X12_308 [.int r67824, .int 0, .int (-1)] (s_X12_adds Iy67827 (by omega) W67829) (h67834).1 (h67834).2 rfl rfl (by decide) (Nat.le_of_ble_eq_true rfl) (by decide) dX12_needsOf_56 (fun Y67837 h67838 => ?_)
              obtain ⟨Iy67839, Xy67840, W67841, p67842⟩ := h67838
              have p67842 : (pI Y67837 a0 28).toInt = (pI Y67825 a0 28).toInt + 1 := p67842
              have q67843 := Xy67840.keepA e67833 (by decide) rfl (a2.toInt.toNat)
              have Xz67844 : EM [28, 29, 30, 31, 35, 36, 37, 38] a0 P Y67837 := EM.tr ha0 Xz67832 (Xy67840.mono (by decide))
              have e67845 := Xy67840.ref h67834 (by decide) e67833
              have h67846 := Xy67840.at h67834
              have h67847 := Xy67840.ar h67835
              have h67848 := Iy67839.rg h67846 28 rfl
              exact J59 Y67837 Iy67839 Xz67844 W67841 (by omega) (fun b9 e9 => by rw [e67845] at e9; cases e9; omega) (by show (pI Y67837 a0 28).toInt ≤ 5 + v7_3.toInt; omega)
        · have h67818 : r67815.toInt ≠ 0 := ti_ne h67818
          refine g_iload_n C dX12_needsOf_29 rfl 3 rfl ?_
          exact ret _ _ _ _ _ _ dX12_needsOf_30 rfl (by decide) (by decide) ⟨Iy67803, Xz67808, W67805, (by omega)⟩
  obtain ⟨b67849, e67850, h67851⟩ := I.fld (ha0) 10 13 2 rfl
  have hf0 := hf0 b67849 e67850
  refine g_aload_n C dX12_needsOf_0 rfl 0 rfl ?_
  refine g_iload_n C dX12_needsOf_1 rfl 2 rfl ?_
  refine g_callVV (rest := []) C mv_X12_312 [.int a2] (s_X12_begins I (by omega) hW) (ha0).1 (ha0).2 rfl rfl (by decide) (Nat.le_of_ble_eq_true rfl) (by decide) dX12_needsOf_2 (fun Y67853 h67854 => ?_)
  obtain ⟨Iy67855, Xy67856, W67857, p67858⟩ := h67854
  have p67858 : (pI Y67853 a0 28).toInt ≤ 4 := p67858
  have q67859 := Xy67856.keepA e67850 (by decide) rfl (a2.toInt.toNat)
  have Xz67860 : EM [28, 29, 30, 31, 35, 36, 37, 38] a0 P Y67853 := Xy67856.mono (by decide)
  have e67861 := Xy67856.ref ha0 (by decide) e67850
  have h67862 := Xy67856.at ha0
  have h67863 := Xy67856.ar h67851
  have h67864 := Iy67855.rg h67862 28 rfl
  refine g_iconst (v := 0) C dX12_needsOf_5 (by decide) ?_
  refine g_istore_n (lv' := [(3, .int 0), (0, .ref a0), (1, .int a1), (2, .int a2)]) C dX12_needsOf_6 rfl (by decide) rfl ?_
  refine g_lv (lv' := [(0, .ref a0), (1, .int a1), (2, .int a2), (3, .int 0)]) [1, 2, 3, 0] rfl ?_
  exact J7 _ Y67853 0 (Nat.lt_succ_self _) Iy67855 Xz67860 W67857 (by decide) (fun b9 e9 => by rw [e67861] at e9; cases e9; omega) (by show (pI Y67853 a0 28).toInt ≤ 4 + 0; omega)
theorem dX12_needs_20 : decode cX12_needs 20 = .ok (.iconst (-1), 1) := by decide +kernel
theorem dX12_needs_21 : decode cX12_needs 21 = .ok (.ireturn, 1) := by decide +kernel
theorem dX12_needs_28 : decode cX12_needs 28 = .ok (.istore_n 3, 1) := by decide +kernel
theorem dX12_needs_29 : decode cX12_needs 29 = .ok (.iload_n 3, 1) := by decide +kernel
theorem dX12_needs_30 : decode cX12_needs 30 = .ok (.bipush 60, 2) := by decide +kernel
theorem dX12_needs_32 : decode cX12_needs 32 = .ok (.if_icmp .le 7, 3) := by decide +kernel
theorem dX12_needs_35 : decode cX12_needs 35 = .ok (.iconst (-1), 1) := by decide +kernel
theorem dX12_needs_36 : decode cX12_needs 36 = .ok (.goto 4, 3) := by decide +kernel
theorem dX12_needs_39 : decode cX12_needs 39 = .ok (.iload_n 3, 1) := by decide +kernel
theorem dX12_needs_40 : decode cX12_needs 40 = .ok (.ireturn, 1) := by decide +kernel
set_option maxHeartbeats 4000000 in
set_option maxRecDepth 100000 in
theorem s_X12_needs {P : PP} {a0 : Nat} {a1 : Int32} {a2 : Int32} (I : IM P a0) (hW : MW P a0) : CtrI yX12_needs cX12_needs 4 (some Jvm.ClassFile.FieldType.int) ({ frames := 7, cells := 0, slots := 0, locals := 448 } : Room) 0 0 P [.ref a0, .int a1, .int a2] (fun r P2 => IM P2 a0 ∧ EM [0, 28, 29, 30, 31, 35, 36, 37, 38] a0 P P2 ∧ MW P2 a0 ∧ (-1 ≤ r.toInt ∧ r.toInt ≤ 60)) := by
  refine enI (lv := [(0, .ref a0), (1, .int a1), (2, .int a2)]) (by decide) (Nat.le_of_ble_eq_true rfl) rfl (fun E D cy C Ci0 ret => ?_)
  have ha0 := I.2.1
  have J20 : ∀ (P20 : PP), (IM P20 a0) → (EM [0, 28, 29, 30, 31, 35, 36, 37, 38] a0 P P20) → (MW P20 a0) → (0 ≤ (pI P20 a0 0).toInt ∧ (pI P20 a0 0).toInt ≤ 0) → G E ({ frames := 7, cells := 0, slots := 0, locals := 448 } : Room) D cy 4 P20 0 0 20 [] [] := by
    intro P20 I20 X20 W20 hq20_0
    have h67901 := X20.at ha0
    refine g_iconst (v := (-1)) C dX12_needs_20 (by decide) ?_
    exact ret _ _ _ _ _ _ dX12_needs_21 rfl (by decide) (by decide) ⟨I20, X20, W20, (by decide)⟩
  refine g_aload_n C dX12_needs_0 rfl 0 rfl ?_
  refine g_iconst (v := 0) C dX12_needs_1 (by decide) ?_
  refine g_putI C fi_X12_1 rfl (ha0).1 (ha0).2 dX12_needs_2 ?_
  refine gqW (ks := [0]) (I.setI (rgOk.of rfl (by decide))) (EM.setI I (by decide)) (fun Y67902 Iy67903 Xy67904 w67905 => ?_)
  have w67905 : (pI Y67902 a0 0).toInt = 0 := w67905
  have W67906 := hW.keep I Xy67904 (by decide) (by decide) (by decide)
  have Xz67907 : EM [0, 28, 29, 30, 31, 35, 36, 37, 38] a0 P Y67902 := Xy67904.mono (by decide)
  have h67908 := Xy67904.at ha0
  refine g_iload_n C dX12_needs_5 rfl 1 rfl ?_
  refine g_callSI (b := 0) (ci := 0) (rest := []) C ms_X12_278 [.int a1] (s_X12_isQuarter Iy67903.1) rfl rfl (by decide) (Nat.le_of_ble_eq_true rfl) (by decide) dX12_needs_6 (fun r67909 Y67910 h67911 => ?_)
  obtain ⟨rfl, h67911⟩ := h67911
  obtain ⟨h67911, hi67912⟩ := h67911
  have hi67912 : r67909.toInt = 0 ∨ (((0 : Int) ≤ a1.toInt ∧ a1.toInt ≤ (3 : Int))) := hi67912
  have h67911 : 0 ≤ r67909.toInt ∧ r67909.toInt ≤ 1 := h67911
  refine b_if_eq C 20 dX12_needs_9 (by decide) (fun h67913 => ?_) (fun h67913 => ?_)
  · have h67913 : r67909.toInt = 0 := congrArg Int32.toInt h67913
    clear hi67912
    refine g_lv (lv' := []) [] rfl ?_
    exact J20 Y67902 Iy67903 Xz67907 W67906 (by omega)
  · have h67913 : r67909.toInt ≠ 0 := ti_ne h67913
    replace hi67912 := hi67912.resolve_left (by omega)
    refine g_aload_n C dX12_needs_12 rfl 0 rfl ?_
    refine g_iload_n C dX12_needs_13 rfl 2 rfl ?_
    refine g_callVI (rest := []) C mv_X12_192 [.int a2] (s_X12_isBook Iy67903 W67906) (h67908).1 (h67908).2 rfl rfl (by decide) (Nat.le_of_ble_eq_true rfl) (by decide) dX12_needs_14 (fun r67914 Y67915 h67916 => ?_)
    obtain ⟨rfl, h67916⟩ := h67916
    obtain ⟨h67916, hi67917, hi67918⟩ := h67916
    have hi67917 : r67914.toInt = 0 ∨ (((0 : Int) ≤ a2.toInt ∧ a2.toInt ≤ (1 : Int))) := hi67917
    have h67916 : 0 ≤ r67914.toInt ∧ r67914.toInt ≤ 1 := h67916
    refine b_if_ne C 22 dX12_needs_17 (by decide) (fun h67919 => ?_) (fun h67919 => ?_)
    · have h67919 : r67914.toInt ≠ 0 := ti_ne h67919
      replace hi67917 := hi67917.resolve_left (by omega)
      obtain ⟨b67920, e67921, h67922⟩ := Iy67903.fld (h67908) 10 13 2 rfl
      have hi67918 := (hi67918.resolve_left (by omega)) b67920 e67921
      have hi67918 : 0 < (pI Y67902 b67920 (a2.toInt.toNat)).toInt := hi67918
      have h67923 := Iy67903.arr e67921 rfl (a2.toInt.toNat)
      refine g_aload_n C dX12_needs_22 rfl 0 rfl ?_
      refine g_iload_n C dX12_needs_23 rfl 1 rfl ?_
      refine g_iload_n C dX12_needs_24 rfl 2 rfl ?_
      refine g_callVI (rest := []) C mv_X12_408 [.int a1, .int a2] (s_X12_needsOf Iy67903 (by omega) (by omega) (fun b9 e9 => by rw [e67921] at e9; cases e9; show 1 ≤ (pI Y67902 b67920 (a2.toInt.toNat)).toInt ∧ (pI Y67902 b67920 (a2.toInt.toNat)).toInt ≤ 16; omega) W67906) (h67908).1 (h67908).2 rfl rfl (by decide) (Nat.le_of_ble_eq_true rfl) (by decide) dX12_needs_25 (fun r67924 Y67925 h67926 => ?_)
      obtain ⟨Iy67927, Xy67928, W67929, h67926⟩ := h67926
      have q67930 := Xy67928.keepF 0 (by decide)
      have q67931 := Xy67928.keepA e67921 (by decide) rfl (a2.toInt.toNat)
      have Xz67932 : EM [0, 28, 29, 30, 31, 35, 36, 37, 38] a0 P Y67925 := EM.tr ha0 Xz67907 (Xy67928.mono (by decide))
      have e67933 := Xy67928.ref h67908 (by decide) e67921
      have h67934 := Xy67928.at h67908
      have h67935 := Xy67928.ar h67922
      have h67926 : 0 ≤ r67924.toInt ∧ r67924.toInt ≤ 61 := h67926
      refine g_istore_n (lv' := [(3, .int r67924), (0, .ref a0), (1, .int a1), (2, .int a2)]) C dX12_needs_28 rfl (by decide) rfl ?_
      refine g_iload_n C dX12_needs_29 rfl 0 rfl ?_
      refine g_bipush (v := 60) C dX12_needs_30 (by decide) ?_
      refine b_icmp_le C 39 dX12_needs_32 (by decide) (fun h67936 => ?_) (fun h67936 => ?_)
      · have h67936 : r67924.toInt ≤ 60 := h67936
        refine g_iload_n C dX12_needs_39 rfl 0 rfl ?_
        exact ret _ _ _ _ _ _ dX12_needs_40 rfl (by decide) (by decide) ⟨Iy67927, Xz67932, W67929, (by omega)⟩
      · have h67936 : 60 < r67924.toInt := h67936
        refine g_iconst (v := (-1)) C dX12_needs_35 (by decide) ?_
        refine g_goto C 40 dX12_needs_36 (by decide) ?_
        exact ret _ _ _ _ _ _ dX12_needs_40 rfl (by decide) (by decide) ⟨Iy67927, Xz67932, W67929, (by decide)⟩
    · have h67919 : r67914.toInt = 0 := congrArg Int32.toInt h67919
      clear hi67917
      refine g_lv (lv' := []) [] rfl ?_
      exact J20 Y67902 Iy67903 Xz67907 W67906 (by omega)
theorem dX12_page_0 : decode cX12_page 0 = .ok (.aload_n 0, 1) := by decide +kernel
theorem dX12_page_1 : decode cX12_page 1 = .ok (.iconst 0, 1) := by decide +kernel
theorem dX12_page_2 : decode cX12_page 2 = .ok (.putfield 1, 3) := by decide +kernel
theorem dX12_page_5 : decode cX12_page 5 = .ok (.aload_n 0, 1) := by decide +kernel
theorem dX12_page_6 : decode cX12_page 6 = .ok (.iload_n 1, 1) := by decide +kernel
theorem dX12_page_7 : decode cX12_page 7 = .ok (.invokevirtual 192, 3) := by decide +kernel
theorem dX12_page_10 : decode cX12_page 10 = .ok (.ifCond .eq 37, 3) := by decide +kernel
theorem dX12_page_13 : decode cX12_page 13 = .ok (.iload_n 2, 1) := by decide +kernel
theorem dX12_page_14 : decode cX12_page 14 = .ok (.iconst 0, 1) := by decide +kernel
theorem dX12_page_15 : decode cX12_page 15 = .ok (.aload_n 0, 1) := by decide +kernel
theorem dX12_page_16 : decode cX12_page 16 = .ok (.getfield 45, 3) := by decide +kernel
theorem dX12_page_19 : decode cX12_page 19 = .ok (.iload_n 1, 1) := by decide +kernel
theorem dX12_page_20 : decode cX12_page 20 = .ok (.iaload, 1) := by decide +kernel
theorem dX12_page_21 : decode cX12_page 21 = .ok (.iconst 1, 1) := by decide +kernel
theorem dX12_page_22 : decode cX12_page 22 = .ok (.isub, 1) := by decide +kernel
theorem dX12_page_23 : decode cX12_page 23 = .ok (.invokestatic 178, 3) := by decide +kernel
theorem dX12_page_26 : decode cX12_page 26 = .ok (.ifCond .eq 21, 3) := by decide +kernel
theorem dX12_page_29 : decode cX12_page 29 = .ok (.iload_n 3, 1) := by decide +kernel
theorem dX12_page_30 : decode cX12_page 30 = .ok (.iconst 0, 1) := by decide +kernel
theorem dX12_page_31 : decode cX12_page 31 = .ok (.ldc 195, 2) := by decide +kernel
theorem dX12_page_33 : decode cX12_page 33 = .ok (.invokestatic 178, 3) := by decide +kernel
theorem dX12_page_36 : decode cX12_page 36 = .ok (.ifCond .eq 11, 3) := by decide +kernel
theorem dX12_page_39 : decode cX12_page 39 = .ok (.aload_n 0, 1) := by decide +kernel
theorem dX12_page_40 : decode cX12_page 40 = .ok (.iload_n 1, 1) := by decide +kernel
theorem dX12_page_41 : decode cX12_page 41 = .ok (.invokevirtual 196, 3) := by decide +kernel
theorem dX12_page_44 : decode cX12_page 44 = .ok (.ifCond .eq 5, 3) := by decide +kernel
theorem dX12_page_47 : decode cX12_page 47 = .ok (.iconst 0, 1) := by decide +kernel
theorem dX12_page_48 : decode cX12_page 48 = .ok (.ireturn, 1) := by decide +kernel
theorem dX12_page_49 : decode cX12_page 49 = .ok (.aload_n 0, 1) := by decide +kernel
theorem dX12_page_50 : decode cX12_page 50 = .ok (.getfield 48, 3) := by decide +kernel
theorem dX12_page_53 : decode cX12_page 53 = .ok (.bipush 16, 2) := by decide +kernel
theorem dX12_page_55 : decode cX12_page 55 = .ok (.iload_n 1, 1) := by decide +kernel
theorem dX12_page_56 : decode cX12_page 56 = .ok (.imul, 1) := by decide +kernel
theorem dX12_page_57 : decode cX12_page 57 = .ok (.iload_n 2, 1) := by decide +kernel
theorem dX12_page_58 : decode cX12_page 58 = .ok (.iadd, 1) := by decide +kernel
theorem dX12_page_59 : decode cX12_page 59 = .ok (.iload_n 3, 1) := by decide +kernel
theorem dX12_page_60 : decode cX12_page 60 = .ok (.iastore, 1) := by decide +kernel
theorem dX12_page_61 : decode cX12_page 61 = .ok (.iconst 1, 1) := by decide +kernel
theorem dX12_page_62 : decode cX12_page 62 = .ok (.ireturn, 1) := by decide +kernel
set_option maxHeartbeats 4000000 in
set_option maxRecDepth 100000 in
theorem s_X12_page {P : PP} {a0 : Nat} {a1 : Int32} {a2 : Int32} {a3 : Int32} (I : IM P a0) (hW : MW P a0) : CtrI yX12_page cX12_page 4 (some Jvm.ClassFile.FieldType.boolean) ({ frames := 3, cells := 0, slots := 0, locals := 192 } : Room) 0 0 P [.ref a0, .int a1, .int a2, .int a3] (fun r P2 => IM P2 a0 ∧ EM [0, 11] a0 P P2 ∧ MW P2 a0 ∧ (0 ≤ r.toInt ∧ r.toInt ≤ 1) ∧ (r.toInt = 0 ∨ (((0 : Int) ≤ a1.toInt ∧ a1.toInt ≤ (1 : Int)) ∧ ((0 : Int) ≤ a2.toInt ∧ a2.toInt ≤ (15 : Int)) ∧ ((0 : Int) ≤ a3.toInt ∧ a3.toInt ≤ (65535 : Int))))) := by
  refine enI (lv := [(0, .ref a0), (1, .int a1), (2, .int a2), (3, .int a3)]) (by decide) (Nat.le_of_ble_eq_true rfl) rfl (fun E D cy C Ci0 ret => ?_)
  have ha0 := I.2.1
  have J47 : ∀ (P47 : PP), (IM P47 a0) → (EM [0, 11] a0 P P47) → (MW P47 a0) → (0 ≤ (pI P47 a0 0).toInt ∧ (pI P47 a0 0).toInt ≤ 0) → G E ({ frames := 3, cells := 0, slots := 0, locals := 192 } : Room) D cy 4 P47 0 0 47 [] [] := by
    intro P47 I47 X47 W47 hq47_0
    have h67991 := X47.at ha0
    refine g_iconst (v := 0) C dX12_page_47 (by decide) ?_
    exact ret _ _ _ _ _ _ dX12_page_48 rfl (by decide) (by decide) ⟨I47, X47, W47, (by decide), Or.inl rfl⟩
  refine g_aload_n C dX12_page_0 rfl 0 rfl ?_
  refine g_iconst (v := 0) C dX12_page_1 (by decide) ?_
  refine g_putI C fi_X12_1 rfl (ha0).1 (ha0).2 dX12_page_2 ?_
  refine gqW (ks := [0]) (I.setI (rgOk.of rfl (by decide))) (EM.setI I (by decide)) (fun Y67992 Iy67993 Xy67994 w67995 => ?_)
  have w67995 : (pI Y67992 a0 0).toInt = 0 := w67995
  have W67996 := hW.keep I Xy67994 (by decide) (by decide) (by decide)
  have Xz67997 : EM [0, 11] a0 P Y67992 := Xy67994.mono (by decide)
  have h67998 := Xy67994.at ha0
  refine g_aload_n C dX12_page_5 rfl 0 rfl ?_
  refine g_iload_n C dX12_page_6 rfl 1 rfl ?_
  refine g_callVI (rest := []) C mv_X12_192 [.int a1] (s_X12_isBook Iy67993 W67996) (h67998).1 (h67998).2 rfl rfl (by decide) (Nat.le_of_ble_eq_true rfl) (by decide) dX12_page_7 (fun r67999 Y68000 h68001 => ?_)
  obtain ⟨rfl, h68001⟩ := h68001
  obtain ⟨h68001, hi68002, hi68003⟩ := h68001
  have hi68002 : r67999.toInt = 0 ∨ (((0 : Int) ≤ a1.toInt ∧ a1.toInt ≤ (1 : Int))) := hi68002
  have h68001 : 0 ≤ r67999.toInt ∧ r67999.toInt ≤ 1 := h68001
  refine b_if_eq C 47 dX12_page_10 (by decide) (fun h68004 => ?_) (fun h68004 => ?_)
  · have h68004 : r67999.toInt = 0 := congrArg Int32.toInt h68004
    clear hi68002
    refine g_lv (lv' := []) [] rfl ?_
    exact J47 Y67992 Iy67993 Xz67997 W67996 (by omega)
  · have h68004 : r67999.toInt ≠ 0 := ti_ne h68004
    replace hi68002 := hi68002.resolve_left (by omega)
    obtain ⟨b68005, e68006, h68007⟩ := Iy67993.fld (h67998) 10 13 2 rfl
    have hi68003 := (hi68003.resolve_left (by omega)) b68005 e68006
    have hi68003 : 0 < (pI Y67992 b68005 (a1.toInt.toNat)).toInt := hi68003
    have h68008 := Iy67993.arr e68006 rfl (a1.toInt.toNat)
    refine g_iload_n C dX12_page_13 rfl 2 rfl ?_
    refine g_iconst (v := 0) C dX12_page_14 (by decide) ?_
    refine g_aload_n C dX12_page_15 rfl 0 rfl ?_
    refine g_getR C fi_X12_45 rfl e68006 (h67998).1 (h67998).2 dX12_page_16 ?_
    refine g_iload_n C dX12_page_19 rfl 1 rfl ?_
    refine g_iald (j := (a1.toInt.toNat)) C h68007.1 h68007.2.1 (ix_in h68007.2.2 (by omega)) dX12_page_20 ?_
    refine g_iconst (v := 1) C dX12_page_21 (by decide) ?_
    refine s_isub C dX12_page_22 (by show -2147483648 ≤ (pI Y67992 b68005 (a1.toInt.toNat)).toInt - 1 ∧ (pI Y67992 b68005 (a1.toInt.toNat)).toInt - 1 ≤ 2147483647; omega) (fun z68009 h68010 => ?_)
    have h68010 : z68009.toInt = (pI Y67992 b68005 (a1.toInt.toNat)).toInt - 1 := h68010
    refine g_callSI (b := 0) (ci := 0) (rest := []) C ms_X12_178 [.int a2, .int 0, .int z68009] (s_X12_within Iy67993.1) rfl rfl (by decide) (Nat.le_of_ble_eq_true rfl) (by decide) dX12_page_23 (fun r68011 Y68012 h68013 => ?_)
    obtain ⟨rfl, h68013⟩ := h68013
    obtain ⟨h68013, hi68014⟩ := h68013
    have hi68014 : r68011.toInt = 0 ∨ (0 ≤ a2.toInt ∧ a2.toInt ≤ z68009.toInt) := hi68014
    have h68013 : 0 ≤ r68011.toInt ∧ r68011.toInt ≤ 1 := h68013
    refine b_if_eq C 47 dX12_page_26 (by decide) (fun h68015 => ?_) (fun h68015 => ?_)
    · have h68015 : r68011.toInt = 0 := congrArg Int32.toInt h68015
      clear hi68014
      refine g_lv (lv' := []) [] rfl ?_
      exact J47 Y67992 Iy67993 Xz67997 W67996 (by omega)
    · have h68015 : r68011.toInt ≠ 0 := ti_ne h68015
      replace hi68014 := hi68014.resolve_left (by omega)
      refine g_iload_n C dX12_page_29 rfl 3 rfl ?_
      refine g_iconst (v := 0) C dX12_page_30 (by decide) ?_
      refine g_ldc (v := 65535) C kc_X12_195 dX12_page_31 ?_
      refine g_callSI (b := 0) (ci := 0) (rest := []) C ms_X12_178 [.int a3, .int 0, .int 65535] (s_X12_within Iy67993.1) rfl rfl (by decide) (Nat.le_of_ble_eq_true rfl) (by decide) dX12_page_33 (fun r68016 Y68017 h68018 => ?_)
      obtain ⟨rfl, h68018⟩ := h68018
      obtain ⟨h68018, hi68019⟩ := h68018
      have hi68019 : r68016.toInt = 0 ∨ (0 ≤ a3.toInt ∧ a3.toInt ≤ 65535) := hi68019
      have h68018 : 0 ≤ r68016.toInt ∧ r68016.toInt ≤ 1 := h68018
      refine b_if_eq C 47 dX12_page_36 (by decide) (fun h68020 => ?_) (fun h68020 => ?_)
      · have h68020 : r68016.toInt = 0 := congrArg Int32.toInt h68020
        clear hi68019
        refine g_lv (lv' := []) [] rfl ?_
        exact J47 Y67992 Iy67993 Xz67997 W67996 (by omega)
      · have h68020 : r68016.toInt ≠ 0 := ti_ne h68020
        replace hi68019 := hi68019.resolve_left (by omega)
        refine g_aload_n C dX12_page_39 rfl 0 rfl ?_
        refine g_iload_n C dX12_page_40 rfl 1 rfl ?_
        refine g_callVI (rest := []) C mv_X12_196 [.int a1] (s_X12_isOut Iy67993 W67996) (h67998).1 (h67998).2 rfl rfl (by decide) (Nat.le_of_ble_eq_true rfl) (by decide) dX12_page_41 (fun r68021 Y68022 h68023 => ?_)
        obtain ⟨rfl, h68023⟩ := h68023
        have h68023 : 0 ≤ r68021.toInt ∧ r68021.toInt ≤ 1 := h68023
        refine b_if_eq C 49 dX12_page_44 (by decide) (fun h68024 => ?_) (fun h68024 => ?_)
        · have h68024 : r68021.toInt = 0 := congrArg Int32.toInt h68024
          refine g_aload_n C dX12_page_49 rfl 0 rfl ?_
          obtain ⟨b68025, e68026, h68027⟩ := Iy67993.fld (h67998) 11 13 32 rfl
          refine g_getR C fi_X12_48 rfl e68026 (h67998).1 (h67998).2 dX12_page_50 ?_
          refine g_bipush (v := 16) C dX12_page_53 (by decide) ?_
          refine g_iload_n C dX12_page_55 rfl 1 rfl ?_
          refine s_imul C dX12_page_56 (by show -2147483648 ≤ 16 * a1.toInt ∧ 16 * a1.toInt ≤ 2147483647; omega) (fun z68028 h68029 => ?_)
          have h68029 : z68028.toInt = 16 * a1.toInt := h68029
          refine g_iload_n C dX12_page_57 rfl 2 rfl ?_
          refine s_iadd C dX12_page_58 (by show -2147483648 ≤ z68028.toInt + a2.toInt ∧ z68028.toInt + a2.toInt ≤ 2147483647; omega) (fun z68030 h68031 => ?_)
          have h68031 : z68030.toInt = z68028.toInt + a2.toInt := h68031
          refine g_iload_n C dX12_page_59 rfl 3 rfl ?_
          refine g_iast (j := (z68030.toInt.toNat)) C h68027.1 h68027.2.1 (ix_in h68027.2.2 (by omega)) dX12_page_60 ?_
          refine gqW (ks := [11]) (Iy67993.setA e68026 h68027 (by decide) (arOk.none rfl)) (EM.setA Iy67993 e68026 rfl (by decide)) (fun Y68032 Iy68033 Xy68034 w68035 => ?_)
          have w68035 : (pI Y68032 b68025 (z68030.toInt.toNat)).toInt = a3.toInt := w68035
          have q68036 := Xy68034.keepF 0 (by decide)
          have q68037 := Xy68034.keepA e68006 (by decide) rfl (a1.toInt.toNat)
          have W68038 := W67996.keep Iy67993 Xy68034 (by decide) (by decide) (by decide)
          have Xz68039 : EM [0, 11] a0 P Y68032 := EM.tr ha0 Xz67997 (Xy68034.mono (by decide))
          have e68040 := Xy68034.ref h67998 (by decide) e68006
          have e68041 := Xy68034.ref h67998 (by decide) e68026
          have h68042 := Xy68034.at h67998
          have h68043 := Xy68034.ar h68007
          have h68044 := Xy68034.ar h68027
          refine g_iconst (v := 1) C dX12_page_61 (by decide) ?_
          exact ret _ _ _ _ _ _ dX12_page_62 rfl (by decide) (by decide) ⟨Iy68033, Xz68039, W68038, (by decide), Or.inr (by omega)⟩
        · have h68024 : r68021.toInt ≠ 0 := ti_ne h68024
          refine g_lv (lv' := []) [] rfl ?_
          exact J47 Y67992 Iy67993 Xz67997 W67996 (by omega)
theorem dX12_paper_0 : decode cX12_paper 0 = .ok (.aload_n 0, 1) := by decide +kernel
theorem dX12_paper_1 : decode cX12_paper 1 = .ok (.aload_n 0, 1) := by decide +kernel
theorem dX12_paper_2 : decode cX12_paper 2 = .ok (.iload_n 1, 1) := by decide +kernel
theorem dX12_paper_3 : decode cX12_paper 3 = .ok (.iload_n 2, 1) := by decide +kernel
theorem dX12_paper_4 : decode cX12_paper 4 = .ok (.invokevirtual 298, 3) := by decide +kernel
theorem dX12_paper_7 : decode cX12_paper 7 = .ok (.ifCond .eq 16, 3) := by decide +kernel
theorem dX12_paper_10 : decode cX12_paper 10 = .ok (.iload_n 3, 1) := by decide +kernel
theorem dX12_paper_11 : decode cX12_paper 11 = .ok (.iconst 0, 1) := by decide +kernel
theorem dX12_paper_12 : decode cX12_paper 12 = .ok (.iconst 5, 1) := by decide +kernel
theorem dX12_paper_13 : decode cX12_paper 13 = .ok (.invokestatic 178, 3) := by decide +kernel
theorem dX12_paper_16 : decode cX12_paper 16 = .ok (.ifCond .eq 7, 3) := by decide +kernel
theorem dX12_paper_19 : decode cX12_paper 19 = .ok (.iconst 0, 1) := by decide +kernel
theorem dX12_paper_20 : decode cX12_paper 20 = .ok (.goto 4, 3) := by decide +kernel
theorem dX12_paper_23 : decode cX12_paper 23 = .ok (.iconst 1, 1) := by decide +kernel
theorem dX12_paper_24 : decode cX12_paper 24 = .ok (.putfield 1, 3) := by decide +kernel
theorem dX12_paper_27 : decode cX12_paper 27 = .ok (.aload_n 0, 1) := by decide +kernel
theorem dX12_paper_28 : decode cX12_paper 28 = .ok (.getfield 1, 3) := by decide +kernel
theorem dX12_paper_31 : decode cX12_paper 31 = .ok (.ifCond .le 5, 3) := by decide +kernel
theorem dX12_paper_36 : decode cX12_paper 36 = .ok (.bipush 40, 2) := by decide +kernel
theorem dX12_paper_38 : decode cX12_paper 38 = .ok (.iload_n 1, 1) := by decide +kernel
theorem dX12_paper_39 : decode cX12_paper 39 = .ok (.imul, 1) := by decide +kernel
theorem dX12_paper_40 : decode cX12_paper 40 = .ok (.iload_n 2, 1) := by decide +kernel
theorem dX12_paper_41 : decode cX12_paper 41 = .ok (.iadd, 1) := by decide +kernel
theorem dX12_paper_42 : decode cX12_paper 42 = .ok (.istore 4, 2) := by decide +kernel
theorem dX12_paper_44 : decode cX12_paper 44 = .ok (.iload_n 3, 1) := by decide +kernel
theorem dX12_paper_45 : decode cX12_paper 45 = .ok (.tableswitch 75 0 4 #[35, 43, 51, 59, 67], 35) := by decide +kernel
theorem dX12_paper_120 : decode cX12_paper 120 = .ok (.aload_n 0, 1) := by decide +kernel
theorem dX12_paper_121 : decode cX12_paper 121 = .ok (.getfield 75, 3) := by decide +kernel
theorem dX12_paper_124 : decode cX12_paper 124 = .ok (.iload 4, 2) := by decide +kernel
theorem dX12_paper_126 : decode cX12_paper 126 = .ok (.iaload, 1) := by decide +kernel
theorem dX12_paper_127 : decode cX12_paper 127 = .ok (.ifCond .ge 7, 3) := by decide +kernel
theorem dX12_paper_134 : decode cX12_paper 134 = .ok (.aload_n 0, 1) := by decide +kernel
theorem dX12_paper_135 : decode cX12_paper 135 = .ok (.iload_n 1, 1) := by decide +kernel
theorem dX12_paper_136 : decode cX12_paper 136 = .ok (.iload_n 2, 1) := by decide +kernel
theorem dX12_paper_137 : decode cX12_paper 137 = .ok (.invokevirtual 358, 3) := by decide +kernel
theorem dX12_unknownOf_0 : decode cX12_unknownOf 0 = .ok (.bipush 40, 2) := by decide +kernel
theorem dX12_unknownOf_2 : decode cX12_unknownOf 2 = .ok (.iload_n 1, 1) := by decide +kernel
theorem dX12_unknownOf_3 : decode cX12_unknownOf 3 = .ok (.imul, 1) := by decide +kernel
theorem dX12_unknownOf_4 : decode cX12_unknownOf 4 = .ok (.iload_n 2, 1) := by decide +kernel
theorem dX12_unknownOf_5 : decode cX12_unknownOf 5 = .ok (.iadd, 1) := by decide +kernel
theorem dX12_unknownOf_6 : decode cX12_unknownOf 6 = .ok (.istore_n 3, 1) := by decide +kernel
theorem dX12_unknownOf_7 : decode cX12_unknownOf 7 = .ok (.aload_n 0, 1) := by decide +kernel
theorem dX12_unknownOf_8 : decode cX12_unknownOf 8 = .ok (.getfield 75, 3) := by decide +kernel
theorem dX12_unknownOf_11 : decode cX12_unknownOf 11 = .ok (.iload_n 3, 1) := by decide +kernel
theorem dX12_unknownOf_12 : decode cX12_unknownOf 12 = .ok (.iaload, 1) := by decide +kernel
theorem dX12_unknownOf_13 : decode cX12_unknownOf 13 = .ok (.istore 4, 2) := by decide +kernel
theorem dX12_unknownOf_15 : decode cX12_unknownOf 15 = .ok (.aload_n 0, 1) := by decide +kernel
theorem dX12_unknownOf_16 : decode cX12_unknownOf 16 = .ok (.invokevirtual 336, 3) := by decide +kernel
theorem dX12_unknownOf_19 : decode cX12_unknownOf 19 = .ok (.aload_n 0, 1) := by decide +kernel
theorem dX12_unknownOf_20 : decode cX12_unknownOf 20 = .ok (.iload 4, 2) := by decide +kernel
theorem dX12_unknownOf_22 : decode cX12_unknownOf 22 = .ok (.aload_n 0, 1) := by decide +kernel
theorem dX12_unknownOf_23 : decode cX12_unknownOf 23 = .ok (.getfield 72, 3) := by decide +kernel
theorem dX12_unknownOf_26 : decode cX12_unknownOf 26 = .ok (.iload_n 3, 1) := by decide +kernel
theorem dX12_unknownOf_27 : decode cX12_unknownOf 27 = .ok (.iaload, 1) := by decide +kernel
theorem dX12_unknownOf_28 : decode cX12_unknownOf 28 = .ok (.invokevirtual 261, 3) := by decide +kernel
theorem dX12_unknownOf_31 : decode cX12_unknownOf 31 = .ok (.istore 5, 2) := by decide +kernel
theorem dX12_unknownOf_33 : decode cX12_unknownOf 33 = .ok (.iconst 0, 1) := by decide +kernel
theorem dX12_unknownOf_34 : decode cX12_unknownOf 34 = .ok (.istore 6, 2) := by decide +kernel
theorem dX12_unknownOf_36 : decode cX12_unknownOf 36 = .ok (.iconst 0, 1) := by decide +kernel
theorem dX12_unknownOf_37 : decode cX12_unknownOf 37 = .ok (.istore 7, 2) := by decide +kernel
theorem dX12_unknownOf_39 : decode cX12_unknownOf 39 = .ok (.iload 7, 2) := by decide +kernel
theorem dX12_unknownOf_41 : decode cX12_unknownOf 41 = .ok (.iconst 2, 1) := by decide +kernel
theorem dX12_unknownOf_42 : decode cX12_unknownOf 42 = .ok (.if_icmp .ge 57, 3) := by decide +kernel
theorem dX12_unknownOf_45 : decode cX12_unknownOf 45 = .ok (.aload_n 0, 1) := by decide +kernel
theorem dX12_unknownOf_46 : decode cX12_unknownOf 46 = .ok (.getfield 81, 3) := by decide +kernel
theorem dX12_unknownOf_49 : decode cX12_unknownOf 49 = .ok (.iload_n 3, 1) := by decide +kernel
theorem dX12_unknownOf_50 : decode cX12_unknownOf 50 = .ok (.iaload, 1) := by decide +kernel
theorem dX12_unknownOf_51 : decode cX12_unknownOf 51 = .ok (.iload 7, 2) := by decide +kernel
theorem dX12_unknownOf_53 : decode cX12_unknownOf 53 = .ok (.ishr, 1) := by decide +kernel
theorem dX12_unknownOf_54 : decode cX12_unknownOf 54 = .ok (.iconst 1, 1) := by decide +kernel
theorem dX12_unknownOf_55 : decode cX12_unknownOf 55 = .ok (.iand, 1) := by decide +kernel
theorem dX12_unknownOf_56 : decode cX12_unknownOf 56 = .ok (.iconst 1, 1) := by decide +kernel
theorem dX12_unknownOf_57 : decode cX12_unknownOf 57 = .ok (.if_icmp .ne 36, 3) := by decide +kernel
theorem dX12_unknownOf_60 : decode cX12_unknownOf 60 = .ok (.aload_n 0, 1) := by decide +kernel
theorem dX12_unknownOf_61 : decode cX12_unknownOf 61 = .ok (.iload_n 1, 1) := by decide +kernel
theorem dX12_unknownOf_62 : decode cX12_unknownOf 62 = .ok (.iload 4, 2) := by decide +kernel
theorem dX12_unknownOf_64 : decode cX12_unknownOf 64 = .ok (.iload 7, 2) := by decide +kernel
theorem dX12_unknownOf_66 : decode cX12_unknownOf 66 = .ok (.aload_n 0, 1) := by decide +kernel
theorem dX12_unknownOf_67 : decode cX12_unknownOf 67 = .ok (.getfield 69, 3) := by decide +kernel
theorem dX12_unknownOf_70 : decode cX12_unknownOf 70 = .ok (.iload_n 1, 1) := by decide +kernel
theorem dX12_unknownOf_71 : decode cX12_unknownOf 71 = .ok (.iaload, 1) := by decide +kernel
theorem dX12_unknownOf_72 : decode cX12_unknownOf 72 = .ok (.invokevirtual 339, 3) := by decide +kernel
theorem dX12_unknownOf_75 : decode cX12_unknownOf 75 = .ok (.aload_n 0, 1) := by decide +kernel
theorem dX12_unknownOf_76 : decode cX12_unknownOf 76 = .ok (.invokevirtual 343, 3) := by decide +kernel
theorem dX12_unknownOf_79 : decode cX12_unknownOf 79 = .ok (.iload 6, 2) := by decide +kernel
theorem dX12_unknownOf_81 : decode cX12_unknownOf 81 = .ok (.iload 5, 2) := by decide +kernel
theorem dX12_unknownOf_83 : decode cX12_unknownOf 83 = .ok (.aload_n 0, 1) := by decide +kernel
theorem dX12_unknownOf_84 : decode cX12_unknownOf 84 = .ok (.getfield 318, 3) := by decide +kernel
theorem dX12_unknownOf_87 : decode cX12_unknownOf 87 = .ok (.iconst (-1), 1) := by decide +kernel
theorem dX12_unknownOf_88 : decode cX12_unknownOf 88 = .ok (.ixor, 1) := by decide +kernel
theorem dX12_unknownOf_89 : decode cX12_unknownOf 89 = .ok (.iand, 1) := by decide +kernel
theorem dX12_unknownOf_90 : decode cX12_unknownOf 90 = .ok (.ior, 1) := by decide +kernel
theorem dX12_unknownOf_91 : decode cX12_unknownOf 91 = .ok (.istore 6, 2) := by decide +kernel
theorem dX12_unknownOf_93 : decode cX12_unknownOf 93 = .ok (.iinc 7 1, 3) := by decide +kernel
theorem dX12_unknownOf_96 : decode cX12_unknownOf 96 = .ok (.goto (-57), 3) := by decide +kernel
theorem dX12_unknownOf_99 : decode cX12_unknownOf 99 = .ok (.iload 6, 2) := by decide +kernel
theorem dX12_unknownOf_101 : decode cX12_unknownOf 101 = .ok (.invokestatic 264, 3) := by decide +kernel
theorem dX12_unknownOf_104 : decode cX12_unknownOf 104 = .ok (.ireturn, 1) := by decide +kernel
set_option maxHeartbeats 4000000 in
set_option maxRecDepth 100000 in
theorem s_X12_unknownOf {P : PP} {a0 : Nat} {a1 : Int32} {a2 : Int32} (I : IM P a0) (ha1 : 0 ≤ a1.toInt ∧ a1.toInt ≤ 3) (ha2 : 0 ≤ a2.toInt ∧ a2.toInt ≤ 39) (hW : MW P a0) (hb : ∀ b, pR P a0 22 = some b → 0 ≤ (pI P b (40 * a1.toInt + a2.toInt).toNat).toInt) : CtrI yX12_unknownOf cX12_unknownOf 8 (some Jvm.ClassFile.FieldType.int) ({ frames := 7, cells := 0, slots := 0, locals := 448 } : Room) 0 0 P [.ref a0, .int a1, .int a2] (fun r P2 => IM P2 a0 ∧ EM [28, 29, 30, 31, 32, 33, 34] a0 P P2 ∧ MW P2 a0 ∧ (0 ≤ r.toInt ∧ r.toInt ≤ 20)) := by
  refine enI (lv := [(0, .ref a0), (1, .int a1), (2, .int a2)]) (by decide) (Nat.le_of_ble_eq_true rfl) rfl (fun E D cy C Ci0 ret => ?_)
  have ha0 := I.2.1
  have J39 : ∀ (n39 : Nat) (P39 : PP) (v39_3 : Int32) (v39_4 : Int32) (v39_5 : Int32) (v39_6 : Int32) (v39_7 : Int32), (2 - v39_7.toInt).toNat < n39 → (IM P39 a0) → (EM [28, 29, 30, 31, 32, 33, 34] a0 P P39) → (MW P39 a0) → (0 ≤ v39_3.toInt ∧ v39_3.toInt ≤ 159) → (0 ≤ v39_4.toInt ∧ v39_4.toInt ≤ 1) → (0 ≤ v39_7.toInt ∧ v39_7.toInt ≤ 2) → (∀ b910, pR P39 a0 10 = some b910 → 0 < (pI P39 b910 (v39_4.toInt.toNat)).toInt) → G E ({ frames := 7, cells := 0, slots := 0, locals := 448 } : Room) D cy 8 P39 0 0 39 [(0, .ref a0), (1, .int a1), (3, .int v39_3), (4, .int v39_4), (5, .int v39_5), (6, .int v39_6), (7, .int v39_7)] [] := by
    intro n39
    induction n39 with
    | zero => intro P39 v39_3 v39_4 v39_5 v39_6 v39_7 hm39 I39 X39 W39 hv39_3 hv39_4 hv39_7 rel39_0; omega
    | succ n39 ih39 =>
      intro P39 v39_3 v39_4 v39_5 v39_6 v39_7 hm39 I39 X39 W39 hv39_3 hv39_4 hv39_7 rel39_0
      have h68307 := X39.at ha0
      obtain ⟨b68308, e68309, h68310⟩ := I39.fld (h68307) 10 13 2 rfl
      have rel39_0 := rel39_0 b68308 e68309
      have h68311 := I39.arr e68309 rfl (v39_4.toInt.toNat)
      have J93 : ∀ (P93 : PP) (v93_6 : Int32), (IM P93 a0) → (EM [28, 29, 30, 31, 32, 33, 34] a0 P P93) → (MW P93 a0) → (0 ≤ v39_7.toInt ∧ v39_7.toInt ≤ 1) → (∀ b910, pR P93 a0 10 = some b910 → 0 < (pI P93 b910 (v39_4.toInt.toNat)).toInt) → G E ({ frames := 7, cells := 0, slots := 0, locals := 448 } : Room) D cy 8 P93 0 0 93 [(0, .ref a0), (1, .int a1), (3, .int v39_3), (4, .int v39_4), (5, .int v39_5), (6, .int v93_6), (7, .int v39_7)] [] := by
        intro P93 v93_6 I93 X93 W93 hv93_7 rel93_0
        have h68312 := X93.at ha0
        obtain ⟨b68313, e68314, h68315⟩ := I93.fld (h68312) 10 13 2 rfl
        have rel93_0 := rel93_0 b68313 e68314
        have h68316 := I93.arr e68314 rfl (v39_4.toInt.toNat)
        refine s_iinc (lv0 := [(0, .ref a0), (1, .int a1), (3, .int v39_3), (4, .int v39_4), (5, .int v39_5), (6, .int v93_6)]) (m := 1) C dX12_unknownOf_93 6 rfl (by decide) rfl (by decide) (by omega) (fun z68317 h68318 => ?_)
        have h68318 : z68317.toInt = v39_7.toInt + 1 := h68318
        refine g_goto C 39 dX12_unknownOf_96 (by decide) ?_
        refine g_lv (lv' := [(0, .ref a0), (1, .int a1), (3, .int v39_3), (4, .int v39_4), (5, .int v39_5), (6, .int v93_6), (7, .int z68317)]) [1, 2, 3, 4, 5, 6, 0] rfl ?_
        exact ih39 P93 v39_3 v39_4 v39_5 v93_6 z68317 (by omega) I93 X93 W93 (by omega) (by omega) (by omega) (by intro b910 e910; rw [e68314] at e910; cases e910; show 0 < (pI P93 b68313 (v39_4.toInt.toNat)).toInt; omega)
      refine g_iload C dX12_unknownOf_39 6 rfl ?_
      refine g_iconst (v := 2) C dX12_unknownOf_41 (by decide) ?_
      refine b_icmp_ge C 99 dX12_unknownOf_42 (by decide) (fun h68319 => ?_) (fun h68319 => ?_)
      · have h68319 : 2 ≤ v39_7.toInt := h68319
        refine g_iload C dX12_unknownOf_99 5 rfl ?_
        refine g_callSI (b := 0) (ci := 0) (rest := []) C ms_X12_264 [.int v39_6] (s_X12_bits I39.1) rfl rfl (by decide) (Nat.le_of_ble_eq_true rfl) (by decide) dX12_unknownOf_101 (fun r68320 Y68321 h68322 => ?_)
        obtain ⟨rfl, h68322⟩ := h68322
        obtain ⟨h68322, hi68323⟩ := h68322
        have hi68323 : r68320.toInt = 0 ∨ v39_6.toInt ≠ 0 := hi68323
        have h68322 : 0 ≤ r68320.toInt ∧ r68320.toInt ≤ 20 := h68322
        exact ret _ _ _ _ _ _ dX12_unknownOf_104 rfl (by decide) (by decide) ⟨I39, X39, W39, (by omega)⟩
      · have h68319 : v39_7.toInt < 2 := h68319
        refine g_aload_n C dX12_unknownOf_45 rfl 0 rfl ?_
        obtain ⟨b68324, e68325, h68326⟩ := I39.fld (h68307) 24 13 800 rfl
        refine g_getR C fi_X12_81 rfl e68325 (h68307).1 (h68307).2 dX12_unknownOf_46 ?_
        refine g_iload_n C dX12_unknownOf_49 rfl 2 rfl ?_
        refine g_iald (j := (v39_3.toInt.toNat)) C h68326.1 h68326.2.1 (ix_in h68326.2.2 (by omega)) dX12_unknownOf_50 ?_
        refine g_iload C dX12_unknownOf_51 6 rfl ?_
        refine a_ishr C dX12_unknownOf_53 (fun z68327 => ?_)
        refine g_iconst (v := 1) C dX12_unknownOf_54 (by decide) ?_
        refine s_iand C dX12_unknownOf_55 (by show 0 ≤ 1; omega) (fun z68329 h68330 => ?_)
        have h68330 : 0 ≤ z68329.toInt ∧ z68329.toInt ≤ 1 := h68330
        refine g_iconst (v := 1) C dX12_unknownOf_56 (by decide) ?_
        refine b_icmp_ne C 93 dX12_unknownOf_57 (by decide) (fun h68331 => ?_) (fun h68331 => ?_)
        · have h68331 : z68329.toInt ≠ 1 := ti_ne h68331
          exact J93 P39 v39_6 I39 X39 W39 (by omega) (by intro b910 e910; rw [e68309] at e910; cases e910; show 0 < (pI P39 b68308 (v39_4.toInt.toNat)).toInt; omega)
        · have h68331 : z68329.toInt = 1 := congrArg Int32.toInt h68331
          refine g_aload_n C dX12_unknownOf_60 rfl 0 rfl ?_
          refine g_iload_n C dX12_unknownOf_61 rfl 1 rfl ?_
          refine g_iload C dX12_unknownOf_62 3 rfl ?_
          refine g_iload C dX12_unknownOf_64 6 rfl ?_
          refine g_aload_n C dX12_unknownOf_66 rfl 0 rfl ?_
          obtain ⟨b68332, e68333, h68334⟩ := I39.fld (h68307) 20 13 20 rfl
          refine g_getR C fi_X12_69 rfl e68333 (h68307).1 (h68307).2 dX12_unknownOf_67 ?_
          refine g_iload_n C dX12_unknownOf_70 rfl 1 rfl ?_
          refine g_iald (j := (a1.toInt.toNat)) C h68334.1 h68334.2.1 (ix_in h68334.2.2 (by omega)) dX12_unknownOf_71 ?_
          have h68335 := I39.arr e68333 rfl (a1.toInt.toNat)
          refine g_callVV (rest := []) C mv_X12_339 [.int a1, .int v39_4, .int v39_7, .int (pI P39 b68332 (a1.toInt.toNat))] (s_X12_gathers I39 (by omega) (by omega) (by omega) (fun b9 e9 => by rw [e68309] at e9; cases e9; show 1 ≤ (pI P39 b68308 (v39_4.toInt.toNat)).toInt ∧ (pI P39 b68308 (v39_4.toInt.toNat)).toInt ≤ 16; omega) W39) (h68307).1 (h68307).2 rfl rfl (by decide) (Nat.le_of_ble_eq_true rfl) (by decide) dX12_unknownOf_72 (fun Y68337 h68338 => ?_)
          obtain ⟨Iy68339, Xy68340, W68341, p68342⟩ := h68338
          have p68342 : (pI Y68337 a0 28).toInt ≤ 4 + (pI P39 b68332 (a1.toInt.toNat)).toInt := p68342
          have q68343 := Xy68340.keepA e68309 (by decide) rfl (v39_4.toInt.toNat)
          have q68344 := Xy68340.keepA e68333 (by decide) rfl (a1.toInt.toNat)
          have Xz68345 : EM [28, 29, 30, 31, 32, 33, 34] a0 P Y68337 := EM.tr ha0 X39 (Xy68340.mono (by decide))
          have e68346 := Xy68340.ref h68307 (by decide) e68309
          have e68347 := Xy68340.ref h68307 (by decide) e68333
          have h68348 := Xy68340.at h68307
          have h68349 := Xy68340.ar h68310
          have h68350 := Xy68340.ar h68334
          have h68351 := Iy68339.rg h68348 28 rfl
          refine g_aload_n C dX12_unknownOf_75 rfl 0 rfl ?_
          refine g_callVV (rest := []) C mv_X12_343 [] (s_X12_findPeeled Iy68339 W68341) (h68348).1 (h68348).2 rfl rfl (by decide) (Nat.le_of_ble_eq_true rfl) (by decide) dX12_unknownOf_76 (fun Y68353 h68354 => ?_)
          obtain ⟨Iy68355, Xy68356, W68357⟩ := h68354
          have q68358 := Xy68356.keepA e68346 (by decide) rfl (v39_4.toInt.toNat)
          have q68359 := Xy68356.keepA e68347 (by decide) rfl (a1.toInt.toNat)
          have q68360 := Xy68356.keepF 28 (by decide)
          have Xz68361 : EM [28, 29, 30, 31, 32, 33, 34] a0 P Y68353 := EM.tr ha0 Xz68345 (Xy68356.mono (by decide))
          have e68362 := Xy68356.ref h68348 (by decide) e68346
          have e68363 := Xy68356.ref h68348 (by decide) e68347
          have h68364 := Xy68356.at h68348
          have h68365 := Xy68356.ar h68349
          have h68366 := Xy68356.ar h68350
          refine g_iload C dX12_unknownOf_79 5 rfl ?_
          refine g_iload C dX12_unknownOf_81 4 rfl ?_
          refine g_aload_n C dX12_unknownOf_83 rfl 0 rfl ?_
          refine g_getI C fi_X12_318 (by decide) (h68364).1 (h68364).2 dX12_unknownOf_84 ?_
          refine g_iconst (v := (-1)) C dX12_unknownOf_87 (by decide) ?_
          refine a_ixor C dX12_unknownOf_88 (fun z68367 => ?_)
          refine a_iand C dX12_unknownOf_89 (fun z68369 => ?_)
          refine a_ior C dX12_unknownOf_90 (fun z68371 => ?_)
          refine g_istore (lv' := [(6, .int z68371), (0, .ref a0), (1, .int a1), (3, .int v39_3), (4, .int v39_4), (5, .int v39_5), (7, .int v39_7)]) C dX12_unknownOf_91 (by decide) rfl ?_
          refine g_lv (lv' := [(0, .ref a0), (1, .int a1), (3, .int v39_3), (4, .int v39_4), (5, .int v39_5), (6, .int z68371), (7, .int v39_7)]) [1, 2, 3, 4, 5, 0, 6] rfl ?_
          exact J93 Y68353 z68371 Iy68355 Xz68361 W68357 (by omega) (by intro b910 e910; rw [e68362] at e910; cases e910; show 0 < (pI Y68353 b68308 (v39_4.toInt.toNat)).toInt; omega)
  refine g_bipush (v := 40) C dX12_unknownOf_0 (by decide) ?_
  refine g_iload_n C dX12_unknownOf_2 rfl 1 rfl ?_
  refine s_imul C dX12_unknownOf_3 (by show -2147483648 ≤ 40 * a1.toInt ∧ 40 * a1.toInt ≤ 2147483647; omega) (fun z68373 h68374 => ?_)
  have h68374 : z68373.toInt = 40 * a1.toInt := h68374
  refine g_iload_n C dX12_unknownOf_4 rfl 2 rfl ?_
  refine s_iadd C dX12_unknownOf_5 (by show -2147483648 ≤ z68373.toInt + a2.toInt ∧ z68373.toInt + a2.toInt ≤ 2147483647; omega) (fun z68375 h68376 => ?_)
  have h68376 : z68375.toInt = z68373.toInt + a2.toInt := h68376
  refine g_istore_n (lv' := [(3, .int z68375), (0, .ref a0), (1, .int a1), (2, .int a2)]) C dX12_unknownOf_6 rfl (by decide) rfl ?_
  refine g_aload_n C dX12_unknownOf_7 rfl 1 rfl ?_
  obtain ⟨b68377, e68378, h68379⟩ := I.fld (ha0) 22 13 800 rfl
  refine g_getR C fi_X12_75 rfl e68378 (ha0).1 (ha0).2 dX12_unknownOf_8 ?_
  refine g_iload_n C dX12_unknownOf_11 rfl 0 rfl ?_
  refine g_iald (j := (z68375.toInt.toNat)) C h68379.1 h68379.2.1 (ix_in h68379.2.2 (by omega)) dX12_unknownOf_12 ?_
  have h68380 := I.arr e68378 rfl (z68375.toInt.toNat)
  have hb := hb b68377 e68378
  rw [show (40 * a1.toInt + a2.toInt).toNat = z68375.toInt.toNat by omega] at hb
  refine g_topi (fun z68381 h68382 => ?_)
  have h68382 : z68381.toInt = (pI P b68377 (z68375.toInt.toNat)).toInt := congrArg Int32.toInt h68382
  refine g_istore (lv' := [(4, .int z68381), (3, .int z68375), (0, .ref a0), (1, .int a1), (2, .int a2)]) C dX12_unknownOf_13 (by decide) rfl ?_
  obtain ⟨b68383, e68384, h68385⟩ := I.fld (ha0) 10 13 2 rfl
  have ht := hW.told e68378 e68384 hb
  rw [show (pI P b68377 (z68375.toInt.toNat)).toInt = z68381.toInt by omega] at ht
  have h68386 := I.arr e68384 rfl (z68381.toInt.toNat)
  refine g_aload_n C dX12_unknownOf_15 rfl 2 rfl ?_
  refine g_callVV (rest := []) C mv_X12_336 [] (s_X12_leavesNone I hW) (ha0).1 (ha0).2 rfl rfl (by decide) (Nat.le_of_ble_eq_true rfl) (by decide) dX12_unknownOf_16 (fun Y68388 h68389 => ?_)
  obtain ⟨Iy68390, Xy68391, W68392⟩ := h68389
  have q68393 := Xy68391.keepA e68378 (by decide) rfl (z68375.toInt.toNat)
  have q68394 := Xy68391.keepA e68384 (by decide) rfl (z68381.toInt.toNat)
  have Xz68395 : EM [28, 29, 30, 31, 32, 33, 34] a0 P Y68388 := Xy68391.mono (by decide)
  have e68396 := Xy68391.ref ha0 (by decide) e68378
  have e68397 := Xy68391.ref ha0 (by decide) e68384
  have h68398 := Xy68391.at ha0
  have h68399 := Xy68391.ar h68379
  have h68400 := Xy68391.ar h68385
  refine g_aload_n C dX12_unknownOf_19 rfl 2 rfl ?_
  refine g_iload C dX12_unknownOf_20 0 rfl ?_
  refine g_aload_n C dX12_unknownOf_22 rfl 2 rfl ?_
  obtain ⟨b68401, e68402, h68403⟩ := Iy68390.fld (h68398) 21 13 800 rfl
  refine g_getR C fi_X12_72 rfl e68402 (h68398).1 (h68398).2 dX12_unknownOf_23 ?_
  refine g_iload_n C dX12_unknownOf_26 rfl 1 rfl ?_
  refine g_iald (j := (z68375.toInt.toNat)) C h68403.1 h68403.2.1 (ix_in h68403.2.2 (by omega)) dX12_unknownOf_27 ?_
  refine g_callVI (rest := []) C mv_X12_261 [.int z68381, .int (pI Y68388 b68401 (z68375.toInt.toNat))] (s_X12_setOf Iy68390 (by omega) (fun b9 e9 => by rw [e68397] at e9; cases e9; show 1 ≤ (pI Y68388 b68383 (z68381.toInt.toNat)).toInt ∧ (pI Y68388 b68383 (z68381.toInt.toNat)).toInt ≤ 16; omega) W68392) (h68398).1 (h68398).2 rfl rfl (by decide) (Nat.le_of_ble_eq_true rfl) (by decide) dX12_unknownOf_28 (fun r68404 Y68405 h68406 => ?_)
  obtain ⟨Iy68407, Xy68408, W68409, h68406⟩ := h68406
  have q68410 := Xy68408.keepA e68396 (by decide) rfl (z68375.toInt.toNat)
  have q68411 := Xy68408.keepA e68397 (by decide) rfl (z68381.toInt.toNat)
  have Xz68412 : EM [28, 29, 30, 31, 32, 33, 34] a0 P Y68405 := EM.tr ha0 Xz68395 (Xy68408.mono (by decide))
  have e68413 := Xy68408.ref h68398 (by decide) e68396
  have e68414 := Xy68408.ref h68398 (by decide) e68397
  have h68415 := Xy68408.at h68398
  have h68416 := Xy68408.ar h68399
  have h68417 := Xy68408.ar h68400
  have h68406 : True := h68406
  refine g_istore (lv' := [(5, .int r68404), (4, .int z68381), (3, .int z68375), (0, .ref a0), (1, .int a1), (2, .int a2)]) C dX12_unknownOf_31 (by decide) rfl ?_
  refine g_iconst (v := 0) C dX12_unknownOf_33 (by decide) ?_
  refine g_istore (lv' := [(6, .int 0), (5, .int r68404), (4, .int z68381), (3, .int z68375), (0, .ref a0), (1, .int a1), (2, .int a2)]) C dX12_unknownOf_34 (by decide) rfl ?_
  refine g_iconst (v := 0) C dX12_unknownOf_36 (by decide) ?_
  refine g_istore (lv' := [(7, .int 0), (6, .int 0), (5, .int r68404), (4, .int z68381), (3, .int z68375), (0, .ref a0), (1, .int a1), (2, .int a2)]) C dX12_unknownOf_37 (by decide) rfl ?_
  refine g_lv (lv' := [(0, .ref a0), (1, .int a1), (3, .int z68375), (4, .int z68381), (5, .int r68404), (6, .int 0), (7, .int 0)]) [5, 6, 4, 3, 2, 1, 0] rfl ?_
  exact J39 _ Y68405 z68375 z68381 r68404 0 0 (Nat.lt_succ_self _) Iy68407 Xz68412 W68409 (by omega) (by omega) (by decide) (by intro b910 e910; rw [e68414] at e910; cases e910; show 0 < (pI Y68405 b68383 (z68381.toInt.toNat)).toInt; omega)
theorem dX12_paper_34 : decode cX12_paper 34 = .ok (.iconst 0, 1) := by decide +kernel
theorem dX12_paper_35 : decode cX12_paper 35 = .ok (.ireturn, 1) := by decide +kernel
theorem dX12_paper_80 : decode cX12_paper 80 = .ok (.aload_n 0, 1) := by decide +kernel
theorem dX12_paper_81 : decode cX12_paper 81 = .ok (.getfield 75, 3) := by decide +kernel
theorem dX12_paper_84 : decode cX12_paper 84 = .ok (.iload 4, 2) := by decide +kernel
theorem dX12_paper_86 : decode cX12_paper 86 = .ok (.iaload, 1) := by decide +kernel
theorem dX12_paper_87 : decode cX12_paper 87 = .ok (.ireturn, 1) := by decide +kernel
theorem dX12_paper_88 : decode cX12_paper 88 = .ok (.aload_n 0, 1) := by decide +kernel
theorem dX12_paper_89 : decode cX12_paper 89 = .ok (.getfield 72, 3) := by decide +kernel
theorem dX12_paper_92 : decode cX12_paper 92 = .ok (.iload 4, 2) := by decide +kernel
theorem dX12_paper_94 : decode cX12_paper 94 = .ok (.iaload, 1) := by decide +kernel
theorem dX12_paper_95 : decode cX12_paper 95 = .ok (.ireturn, 1) := by decide +kernel
theorem dX12_paper_96 : decode cX12_paper 96 = .ok (.aload_n 0, 1) := by decide +kernel
theorem dX12_paper_97 : decode cX12_paper 97 = .ok (.getfield 78, 3) := by decide +kernel
theorem dX12_paper_100 : decode cX12_paper 100 = .ok (.iload 4, 2) := by decide +kernel
theorem dX12_paper_102 : decode cX12_paper 102 = .ok (.iaload, 1) := by decide +kernel
theorem dX12_paper_103 : decode cX12_paper 103 = .ok (.ireturn, 1) := by decide +kernel
theorem dX12_paper_104 : decode cX12_paper 104 = .ok (.aload_n 0, 1) := by decide +kernel
theorem dX12_paper_105 : decode cX12_paper 105 = .ok (.getfield 81, 3) := by decide +kernel
theorem dX12_paper_108 : decode cX12_paper 108 = .ok (.iload 4, 2) := by decide +kernel
theorem dX12_paper_110 : decode cX12_paper 110 = .ok (.iaload, 1) := by decide +kernel
theorem dX12_paper_111 : decode cX12_paper 111 = .ok (.ireturn, 1) := by decide +kernel
theorem dX12_paper_112 : decode cX12_paper 112 = .ok (.aload_n 0, 1) := by decide +kernel
theorem dX12_paper_113 : decode cX12_paper 113 = .ok (.getfield 84, 3) := by decide +kernel
theorem dX12_paper_116 : decode cX12_paper 116 = .ok (.iload 4, 2) := by decide +kernel
theorem dX12_paper_118 : decode cX12_paper 118 = .ok (.iaload, 1) := by decide +kernel
theorem dX12_paper_119 : decode cX12_paper 119 = .ok (.ireturn, 1) := by decide +kernel
theorem dX12_paper_130 : decode cX12_paper 130 = .ok (.iconst (-1), 1) := by decide +kernel
theorem dX12_paper_131 : decode cX12_paper 131 = .ok (.goto 9, 3) := by decide +kernel
theorem dX12_paper_140 : decode cX12_paper 140 = .ok (.ireturn, 1) := by decide +kernel
set_option maxHeartbeats 4000000 in
set_option maxRecDepth 100000 in
theorem s_X12_paper {P : PP} {a0 : Nat} {a1 : Int32} {a2 : Int32} {a3 : Int32} (I : IM P a0) (hW : MW P a0) : CtrI yX12_paper cX12_paper 5 (some Jvm.ClassFile.FieldType.int) ({ frames := 8, cells := 0, slots := 0, locals := 512 } : Room) 0 0 P [.ref a0, .int a1, .int a2, .int a3] (fun r P2 => IM P2 a0 ∧ EM [0, 28, 29, 30, 31, 32, 33, 34] a0 P P2 ∧ MW P2 a0 ∧ (True)) := by
  refine enI (lv := [(0, .ref a0), (1, .int a1), (2, .int a2), (3, .int a3)]) (by decide) (Nat.le_of_ble_eq_true rfl) rfl (fun E D cy C Ci0 ret => ?_)
  have ha0 := I.2.1
  have J24 : ∀ (v24_s0 : Int32), (0 ≤ v24_s0.toInt ∧ v24_s0.toInt ≤ 1) → (v24_s0.toInt ≠ 0 ∨ (0 ≤ a1.toInt ∧ a1.toInt ≤ 3 ∧ 0 ≤ a2.toInt ∧ a2.toInt ≤ 39)) → G E ({ frames := 8, cells := 0, slots := 0, locals := 512 } : Room) D cy 5 P 0 0 24 [(0, .ref a0), (1, .int a1), (2, .int a2), (3, .int a3)] [.int v24_s0, .ref a0] := by
    intro v24_s0 hv24_s0 rel24_0
    refine g_putI C fi_X12_1 rfl (ha0).1 (ha0).2 dX12_paper_24 ?_
    refine gqW (ks := [0]) (I.setI (rgOk.of rfl (by omega))) (EM.setI I (by decide)) (fun Y68480 Iy68481 Xy68482 w68483 => ?_)
    have w68483 : (pI Y68480 a0 0).toInt = v24_s0.toInt := w68483
    have W68484 := hW.keep I Xy68482 (by decide) (by decide) (by decide)
    have Xz68485 : EM [0, 28, 29, 30, 31, 32, 33, 34] a0 P Y68480 := Xy68482.mono (by decide)
    have h68486 := Xy68482.at ha0
    refine g_aload_n C dX12_paper_27 rfl 0 rfl ?_
    refine g_getI C fi_X12_1 (by decide) (h68486).1 (h68486).2 dX12_paper_28 ?_
    refine b_if_le C 36 dX12_paper_31 (by decide) (fun h68487 => ?_) (fun h68487 => ?_)
    · have h68487 : (pI Y68480 a0 0).toInt ≤ 0 := h68487
      have hz36 : (0 ≤ a1.toInt ∧ a1.toInt ≤ 3) ∧ (0 ≤ a2.toInt ∧ a2.toInt ≤ 39) := by omega
      refine g_bipush (v := 40) C dX12_paper_36 (by decide) ?_
      refine g_iload_n C dX12_paper_38 rfl 1 rfl ?_
      refine s_imul C dX12_paper_39 (by show -2147483648 ≤ 40 * a1.toInt ∧ 40 * a1.toInt ≤ 2147483647; omega) (fun z68488 h68489 => ?_)
      have h68489 : z68488.toInt = 40 * a1.toInt := h68489
      refine g_iload_n C dX12_paper_40 rfl 2 rfl ?_
      refine s_iadd C dX12_paper_41 (by show -2147483648 ≤ z68488.toInt + a2.toInt ∧ z68488.toInt + a2.toInt ≤ 2147483647; omega) (fun z68490 h68491 => ?_)
      have h68491 : z68490.toInt = z68488.toInt + a2.toInt := h68491
      refine g_istore (lv' := [(4, .int z68490), (0, .ref a0), (1, .int a1), (2, .int a2), (3, .int a3)]) C dX12_paper_42 (by decide) rfl ?_
      refine g_iload_n C dX12_paper_44 rfl 4 rfl ?_
      by_cases h68492 : a3.toInt < 0 ∨ 4 < a3.toInt
      · refine g_tableOut C 120 dX12_paper_45 h68492 (by decide) ?_
        refine g_aload_n C dX12_paper_120 rfl 1 rfl ?_
        obtain ⟨b68494, e68495, h68496⟩ := Iy68481.fld (h68486) 22 13 800 rfl
        refine g_getR C fi_X12_75 rfl e68495 (h68486).1 (h68486).2 dX12_paper_121 ?_
        refine g_iload C dX12_paper_124 0 rfl ?_
        refine g_iald (j := (z68490.toInt.toNat)) C h68496.1 h68496.2.1 (ix_in h68496.2.2 (by omega)) dX12_paper_126 ?_
        have h68497 := Iy68481.arr e68495 rfl (z68490.toInt.toNat)
        refine b_if_ge C 134 dX12_paper_127 (by decide) (fun h68498 => ?_) (fun h68498 => ?_)
        · have h68498 : 0 ≤ (pI Y68480 b68494 (z68490.toInt.toNat)).toInt := h68498
          refine g_aload_n C dX12_paper_134 rfl 1 rfl ?_
          refine g_iload_n C dX12_paper_135 rfl 2 rfl ?_
          refine g_iload_n C dX12_paper_136 rfl 3 rfl ?_
          refine g_callVI (rest := []) C mv_X12_358 [.int a1, .int a2] (s_X12_unknownOf Iy68481 (by omega) (by omega) W68484 (fun b9 e9 => by rw [e68495] at e9; cases e9; rw [show (40 * a1.toInt + a2.toInt).toNat = z68490.toInt.toNat by omega]; omega)) (h68486).1 (h68486).2 rfl rfl (by decide) (Nat.le_of_ble_eq_true rfl) (by decide) dX12_paper_137 (fun r68499 Y68500 h68501 => ?_)
          obtain ⟨Iy68502, Xy68503, W68504, h68501⟩ := h68501
          have q68505 := Xy68503.keepF 0 (by decide)
          have q68506 := Xy68503.keepA e68495 (by decide) rfl (z68490.toInt.toNat)
          have Xz68507 : EM [0, 28, 29, 30, 31, 32, 33, 34] a0 P Y68500 := EM.tr ha0 Xz68485 (Xy68503.mono (by decide))
          have e68508 := Xy68503.ref h68486 (by decide) e68495
          have h68509 := Xy68503.at h68486
          have h68510 := Xy68503.ar h68496
          have h68501 : 0 ≤ r68499.toInt ∧ r68499.toInt ≤ 20 := h68501
          exact ret _ _ _ _ _ _ dX12_paper_140 rfl (by decide) (by decide) ⟨Iy68502, Xz68507, W68504, trivial⟩
        · have h68498 : (pI Y68480 b68494 (z68490.toInt.toNat)).toInt < 0 := h68498
          refine g_iconst (v := (-1)) C dX12_paper_130 (by decide) ?_
          refine g_goto C 140 dX12_paper_131 (by decide) ?_
          exact ret _ _ _ _ _ _ dX12_paper_140 rfl (by decide) (by decide) ⟨Iy68481, Xz68485, W68484, trivial⟩
      · rcases (show a3.toInt = 0 ∨ a3.toInt = 1 ∨ a3.toInt = 2 ∨ a3.toInt = 3 ∨ a3.toInt = 4 by omega) with h68493 | h68493 | h68493 | h68493 | h68493
        · refine g_tableIn C 80 dX12_paper_45 (by omega) (by omega) (by rw [h68493]; rfl) (by decide) ?_
          refine g_aload_n C dX12_paper_80 rfl 1 rfl ?_
          obtain ⟨b68511, e68512, h68513⟩ := Iy68481.fld (h68486) 22 13 800 rfl
          refine g_getR C fi_X12_75 rfl e68512 (h68486).1 (h68486).2 dX12_paper_81 ?_
          refine g_iload C dX12_paper_84 0 rfl ?_
          refine g_iald (j := (z68490.toInt.toNat)) C h68513.1 h68513.2.1 (ix_in h68513.2.2 (by omega)) dX12_paper_86 ?_
          have h68514 := Iy68481.arr e68512 rfl (z68490.toInt.toNat)
          exact ret _ _ _ _ _ _ dX12_paper_87 rfl (by decide) (by decide) ⟨Iy68481, Xz68485, W68484, trivial⟩
        · refine g_tableIn C 88 dX12_paper_45 (by omega) (by omega) (by rw [h68493]; rfl) (by decide) ?_
          refine g_aload_n C dX12_paper_88 rfl 1 rfl ?_
          obtain ⟨b68515, e68516, h68517⟩ := Iy68481.fld (h68486) 21 13 800 rfl
          refine g_getR C fi_X12_72 rfl e68516 (h68486).1 (h68486).2 dX12_paper_89 ?_
          refine g_iload C dX12_paper_92 0 rfl ?_
          refine g_iald (j := (z68490.toInt.toNat)) C h68517.1 h68517.2.1 (ix_in h68517.2.2 (by omega)) dX12_paper_94 ?_
          exact ret _ _ _ _ _ _ dX12_paper_95 rfl (by decide) (by decide) ⟨Iy68481, Xz68485, W68484, trivial⟩
        · refine g_tableIn C 96 dX12_paper_45 (by omega) (by omega) (by rw [h68493]; rfl) (by decide) ?_
          refine g_aload_n C dX12_paper_96 rfl 1 rfl ?_
          obtain ⟨b68518, e68519, h68520⟩ := Iy68481.fld (h68486) 23 13 800 rfl
          refine g_getR C fi_X12_78 rfl e68519 (h68486).1 (h68486).2 dX12_paper_97 ?_
          refine g_iload C dX12_paper_100 0 rfl ?_
          refine g_iald (j := (z68490.toInt.toNat)) C h68520.1 h68520.2.1 (ix_in h68520.2.2 (by omega)) dX12_paper_102 ?_
          exact ret _ _ _ _ _ _ dX12_paper_103 rfl (by decide) (by decide) ⟨Iy68481, Xz68485, W68484, trivial⟩
        · refine g_tableIn C 104 dX12_paper_45 (by omega) (by omega) (by rw [h68493]; rfl) (by decide) ?_
          refine g_aload_n C dX12_paper_104 rfl 1 rfl ?_
          obtain ⟨b68521, e68522, h68523⟩ := Iy68481.fld (h68486) 24 13 800 rfl
          refine g_getR C fi_X12_81 rfl e68522 (h68486).1 (h68486).2 dX12_paper_105 ?_
          refine g_iload C dX12_paper_108 0 rfl ?_
          refine g_iald (j := (z68490.toInt.toNat)) C h68523.1 h68523.2.1 (ix_in h68523.2.2 (by omega)) dX12_paper_110 ?_
          exact ret _ _ _ _ _ _ dX12_paper_111 rfl (by decide) (by decide) ⟨Iy68481, Xz68485, W68484, trivial⟩
        · refine g_tableIn C 112 dX12_paper_45 (by omega) (by omega) (by rw [h68493]; rfl) (by decide) ?_
          refine g_aload_n C dX12_paper_112 rfl 1 rfl ?_
          obtain ⟨b68524, e68525, h68526⟩ := Iy68481.fld (h68486) 25 13 800 rfl
          refine g_getR C fi_X12_84 rfl e68525 (h68486).1 (h68486).2 dX12_paper_113 ?_
          refine g_iload C dX12_paper_116 0 rfl ?_
          refine g_iald (j := (z68490.toInt.toNat)) C h68526.1 h68526.2.1 (ix_in h68526.2.2 (by omega)) dX12_paper_118 ?_
          exact ret _ _ _ _ _ _ dX12_paper_119 rfl (by decide) (by decide) ⟨Iy68481, Xz68485, W68484, trivial⟩
    · have h68487 : 0 < (pI Y68480 a0 0).toInt := h68487
      refine g_iconst (v := 0) C dX12_paper_34 (by decide) ?_
      exact ret _ _ _ _ _ _ dX12_paper_35 rfl (by decide) (by decide) ⟨Iy68481, Xz68485, W68484, trivial⟩
  have J23 : G E ({ frames := 8, cells := 0, slots := 0, locals := 512 } : Room) D cy 5 P 0 0 23 [(0, .ref a0), (1, .int a1), (2, .int a2), (3, .int a3)] [.ref a0] := by
    refine g_iconst (v := 1) C dX12_paper_23 (by decide) ?_
    exact J24 1 (by decide) (by show 1 ≠ 0 ∨ (0 ≤ a1.toInt ∧ a1.toInt ≤ 3 ∧ 0 ≤ a2.toInt ∧ a2.toInt ≤ 39); omega)
  refine g_aload_n C dX12_paper_0 rfl 0 rfl ?_
  refine g_aload_n C dX12_paper_1 rfl 0 rfl ?_
  refine g_iload_n C dX12_paper_2 rfl 1 rfl ?_
  refine g_iload_n C dX12_paper_3 rfl 2 rfl ?_
  refine g_callVI (rest := [.ref a0]) C mv_X12_298 [.int a1, .int a2] (s_X12_isPaper I hW) (ha0).1 (ha0).2 rfl rfl (by decide) (Nat.le_of_ble_eq_true rfl) (by decide) dX12_paper_4 (fun r68527 Y68528 h68529 => ?_)
  obtain ⟨rfl, h68529⟩ := h68529
  obtain ⟨h68529, hi68530, hi68531⟩ := h68529
  have hi68530 : r68527.toInt = 0 ∨ (((0 : Int) ≤ a1.toInt ∧ a1.toInt ≤ (3 : Int)) ∧ ((0 : Int) ≤ a2.toInt ∧ a2.toInt ≤ (39 : Int))) := hi68530
  have h68529 : 0 ≤ r68527.toInt ∧ r68527.toInt ≤ 1 := h68529
  refine b_if_eq C 23 dX12_paper_7 (by decide) (fun h68532 => ?_) (fun h68532 => ?_)
  · have h68532 : r68527.toInt = 0 := congrArg Int32.toInt h68532
    clear hi68530
    exact J23 
  · have h68532 : r68527.toInt ≠ 0 := ti_ne h68532
    replace hi68530 := hi68530.resolve_left (by omega)
    obtain ⟨b68533, e68534, h68535⟩ := I.fld (ha0) 20 13 20 rfl
    have hi68531 := (hi68531.resolve_left (by omega)) b68533 e68534
    have hi68531 : a2.toInt < (pI P b68533 (a1.toInt.toNat)).toInt ∧ 0 ≤ a2.toInt := hi68531
    have h68536 := I.arr e68534 rfl (a1.toInt.toNat)
    refine g_iload_n C dX12_paper_10 rfl 3 rfl ?_
    refine g_iconst (v := 0) C dX12_paper_11 (by decide) ?_
    refine g_iconst (v := 5) C dX12_paper_12 (by decide) ?_
    refine g_callSI (b := 0) (ci := 0) (rest := [.ref a0]) C ms_X12_178 [.int a3, .int 0, .int 5] (s_X12_within I.1) rfl rfl (by decide) (Nat.le_of_ble_eq_true rfl) (by decide) dX12_paper_13 (fun r68537 Y68538 h68539 => ?_)
    obtain ⟨rfl, h68539⟩ := h68539
    obtain ⟨h68539, hi68540⟩ := h68539
    have hi68540 : r68537.toInt = 0 ∨ (0 ≤ a3.toInt ∧ a3.toInt ≤ 5) := hi68540
    have h68539 : 0 ≤ r68537.toInt ∧ r68537.toInt ≤ 1 := h68539
    refine b_if_eq C 23 dX12_paper_16 (by decide) (fun h68541 => ?_) (fun h68541 => ?_)
    · have h68541 : r68537.toInt = 0 := congrArg Int32.toInt h68541
      clear hi68540
      exact J23 
    · have h68541 : r68537.toInt ≠ 0 := ti_ne h68541
      replace hi68540 := hi68540.resolve_left (by omega)
      refine g_iconst (v := 0) C dX12_paper_19 (by decide) ?_
      refine g_goto C 24 dX12_paper_20 (by decide) ?_
      exact J24 0 (by decide) (by show 0 ≠ 0 ∨ (0 ≤ a1.toInt ∧ a1.toInt ≤ 3 ∧ 0 ≤ a2.toInt ∧ a2.toInt ≤ 39); omega)
theorem dX12_peels_0 : decode cX12_peels 0 = .ok (.aload_n 0, 1) := by decide +kernel
theorem dX12_peels_1 : decode cX12_peels 1 = .ok (.iconst 0, 1) := by decide +kernel
theorem dX12_peels_2 : decode cX12_peels 2 = .ok (.putfield 1, 3) := by decide +kernel
theorem dX12_peels_5 : decode cX12_peels 5 = .ok (.aload_n 0, 1) := by decide +kernel
theorem dX12_peels_6 : decode cX12_peels 6 = .ok (.iload_n 1, 1) := by decide +kernel
theorem dX12_peels_7 : decode cX12_peels 7 = .ok (.iload_n 2, 1) := by decide +kernel
theorem dX12_peels_8 : decode cX12_peels 8 = .ok (.iload_n 3, 1) := by decide +kernel
theorem dX12_peels_9 : decode cX12_peels 9 = .ok (.invokevirtual 333, 3) := by decide +kernel
theorem dX12_peels_12 : decode cX12_peels 12 = .ok (.ifCond .eq 13, 3) := by decide +kernel
theorem dX12_peels_15 : decode cX12_peels 15 = .ok (.iload 4, 2) := by decide +kernel
theorem dX12_peels_17 : decode cX12_peels 17 = .ok (.iconst 0, 1) := by decide +kernel
theorem dX12_peels_18 : decode cX12_peels 18 = .ok (.iconst 3, 1) := by decide +kernel
theorem dX12_peels_19 : decode cX12_peels 19 = .ok (.invokestatic 178, 3) := by decide +kernel
theorem dX12_peels_22 : decode cX12_peels 22 = .ok (.ifCond .ne 5, 3) := by decide +kernel
theorem dX12_peels_25 : decode cX12_peels 25 = .ok (.iconst (-1), 1) := by decide +kernel
theorem dX12_peels_26 : decode cX12_peels 26 = .ok (.ireturn, 1) := by decide +kernel
theorem dX12_peels_27 : decode cX12_peels 27 = .ok (.aload_n 0, 1) := by decide +kernel
theorem dX12_peels_28 : decode cX12_peels 28 = .ok (.invokevirtual 336, 3) := by decide +kernel
theorem dX12_peels_31 : decode cX12_peels 31 = .ok (.aload_n 0, 1) := by decide +kernel
theorem dX12_peels_32 : decode cX12_peels 32 = .ok (.iload_n 1, 1) := by decide +kernel
theorem dX12_peels_33 : decode cX12_peels 33 = .ok (.iload_n 2, 1) := by decide +kernel
theorem dX12_peels_34 : decode cX12_peels 34 = .ok (.iload_n 3, 1) := by decide +kernel
theorem dX12_peels_35 : decode cX12_peels 35 = .ok (.aload_n 0, 1) := by decide +kernel
theorem dX12_peels_36 : decode cX12_peels 36 = .ok (.getfield 69, 3) := by decide +kernel
theorem dX12_peels_39 : decode cX12_peels 39 = .ok (.iload_n 1, 1) := by decide +kernel
theorem dX12_peels_40 : decode cX12_peels 40 = .ok (.iaload, 1) := by decide +kernel
theorem dX12_peels_41 : decode cX12_peels 41 = .ok (.invokevirtual 339, 3) := by decide +kernel
theorem dX12_peels_44 : decode cX12_peels 44 = .ok (.aload_n 0, 1) := by decide +kernel
theorem dX12_peels_45 : decode cX12_peels 45 = .ok (.invokevirtual 343, 3) := by decide +kernel
theorem dX12_peels_48 : decode cX12_peels 48 = .ok (.iload 4, 2) := by decide +kernel
theorem dX12_peels_50 : decode cX12_peels 50 = .ok (.ifCond .ne 8, 3) := by decide +kernel
theorem dX12_peels_53 : decode cX12_peels 53 = .ok (.aload_n 0, 1) := by decide +kernel
theorem dX12_peels_54 : decode cX12_peels 54 = .ok (.getfield 318, 3) := by decide +kernel
theorem dX12_peels_57 : decode cX12_peels 57 = .ok (.ireturn, 1) := by decide +kernel
theorem dX12_peels_58 : decode cX12_peels 58 = .ok (.iconst 0, 1) := by decide +kernel
theorem dX12_peels_59 : decode cX12_peels 59 = .ok (.istore 5, 2) := by decide +kernel
theorem dX12_peels_61 : decode cX12_peels 61 = .ok (.iconst 0, 1) := by decide +kernel
theorem dX12_peels_62 : decode cX12_peels 62 = .ok (.istore 6, 2) := by decide +kernel
theorem dX12_peels_64 : decode cX12_peels 64 = .ok (.iload 6, 2) := by decide +kernel
theorem dX12_peels_66 : decode cX12_peels 66 = .ok (.aload_n 0, 1) := by decide +kernel
theorem dX12_peels_67 : decode cX12_peels 67 = .ok (.getfield 305, 3) := by decide +kernel
theorem dX12_peels_70 : decode cX12_peels 70 = .ok (.if_icmp .ge 96, 3) := by decide +kernel
theorem dX12_peels_73 : decode cX12_peels 73 = .ok (.aload_n 0, 1) := by decide +kernel
theorem dX12_peels_74 : decode cX12_peels 74 = .ok (.getfield 91, 3) := by decide +kernel
theorem dX12_peels_77 : decode cX12_peels 77 = .ok (.iload 6, 2) := by decide +kernel
theorem dX12_peels_79 : decode cX12_peels 79 = .ok (.iaload, 1) := by decide +kernel
theorem dX12_peels_80 : decode cX12_peels 80 = .ok (.aload_n 0, 1) := by decide +kernel
theorem dX12_peels_81 : decode cX12_peels 81 = .ok (.getfield 318, 3) := by decide +kernel
theorem dX12_peels_84 : decode cX12_peels 84 = .ok (.iconst (-1), 1) := by decide +kernel
theorem dX12_peels_85 : decode cX12_peels 85 = .ok (.ixor, 1) := by decide +kernel
theorem dX12_peels_86 : decode cX12_peels 86 = .ok (.iand, 1) := by decide +kernel
theorem dX12_peels_87 : decode cX12_peels 87 = .ok (.invokestatic 264, 3) := by decide +kernel
theorem dX12_peels_90 : decode cX12_peels 90 = .ok (.istore 7, 2) := by decide +kernel
theorem dX12_peels_92 : decode cX12_peels 92 = .ok (.iload 5, 2) := by decide +kernel
theorem dX12_peels_94 : decode cX12_peels 94 = .ok (.iload 4, 2) := by decide +kernel
theorem dX12_peels_96 : decode cX12_peels 96 = .ok (.iconst 1, 1) := by decide +kernel
theorem dX12_peels_97 : decode cX12_peels 97 = .ok (.if_icmp .ne 25, 3) := by decide +kernel
theorem dX12_peels_100 : decode cX12_peels 100 = .ok (.iload 7, 2) := by decide +kernel
theorem dX12_peels_102 : decode cX12_peels 102 = .ok (.ifCond .ne 16, 3) := by decide +kernel
theorem dX12_peels_105 : decode cX12_peels 105 = .ok (.aload_n 0, 1) := by decide +kernel
theorem dX12_peels_106 : decode cX12_peels 106 = .ok (.iload 6, 2) := by decide +kernel
theorem dX12_peels_108 : decode cX12_peels 108 = .ok (.invokevirtual 321, 3) := by decide +kernel
theorem dX12_peels_111 : decode cX12_peels 111 = .ok (.ifCond .eq 7, 3) := by decide +kernel
theorem dX12_peels_114 : decode cX12_peels 114 = .ok (.iconst 1, 1) := by decide +kernel
theorem dX12_peels_115 : decode cX12_peels 115 = .ok (.goto 42, 3) := by decide +kernel
theorem dX12_peels_118 : decode cX12_peels 118 = .ok (.iconst 0, 1) := by decide +kernel
theorem dX12_peels_119 : decode cX12_peels 119 = .ok (.goto 38, 3) := by decide +kernel
theorem dX12_peels_122 : decode cX12_peels 122 = .ok (.iload 4, 2) := by decide +kernel
theorem dX12_peels_124 : decode cX12_peels 124 = .ok (.iconst 2, 1) := by decide +kernel
theorem dX12_peels_125 : decode cX12_peels 125 = .ok (.if_icmp .ne 21, 3) := by decide +kernel
theorem dX12_peels_128 : decode cX12_peels 128 = .ok (.aload_n 0, 1) := by decide +kernel
theorem dX12_peels_129 : decode cX12_peels 129 = .ok (.getfield 91, 3) := by decide +kernel
theorem dX12_peels_132 : decode cX12_peels 132 = .ok (.iload 6, 2) := by decide +kernel
theorem dX12_peels_134 : decode cX12_peels 134 = .ok (.iaload, 1) := by decide +kernel
theorem dX12_peels_135 : decode cX12_peels 135 = .ok (.aload_n 0, 1) := by decide +kernel
theorem dX12_peels_136 : decode cX12_peels 136 = .ok (.getfield 318, 3) := by decide +kernel
theorem dX12_peels_139 : decode cX12_peels 139 = .ok (.iand, 1) := by decide +kernel
theorem dX12_peels_140 : decode cX12_peels 140 = .ok (.invokestatic 264, 3) := by decide +kernel
theorem dX12_peels_143 : decode cX12_peels 143 = .ok (.goto 14, 3) := by decide +kernel
theorem dX12_peels_146 : decode cX12_peels 146 = .ok (.iload 7, 2) := by decide +kernel
theorem dX12_peels_148 : decode cX12_peels 148 = .ok (.iconst 1, 1) := by decide +kernel
theorem dX12_peels_149 : decode cX12_peels 149 = .ok (.if_icmp .le 7, 3) := by decide +kernel
theorem dX12_peels_152 : decode cX12_peels 152 = .ok (.iconst 1, 1) := by decide +kernel
theorem dX12_peels_153 : decode cX12_peels 153 = .ok (.goto 4, 3) := by decide +kernel
theorem dX12_peels_156 : decode cX12_peels 156 = .ok (.iconst 0, 1) := by decide +kernel
theorem dX12_peels_157 : decode cX12_peels 157 = .ok (.iadd, 1) := by decide +kernel
theorem dX12_peels_158 : decode cX12_peels 158 = .ok (.istore 5, 2) := by decide +kernel
theorem dX12_peels_160 : decode cX12_peels 160 = .ok (.iinc 6 1, 3) := by decide +kernel
theorem dX12_peels_163 : decode cX12_peels 163 = .ok (.goto (-99), 3) := by decide +kernel
theorem dX12_peels_166 : decode cX12_peels 166 = .ok (.iload 4, 2) := by decide +kernel
theorem dX12_peels_168 : decode cX12_peels 168 = .ok (.iconst 2, 1) := by decide +kernel
theorem dX12_peels_169 : decode cX12_peels 169 = .ok (.if_icmp .ne 16, 3) := by decide +kernel
theorem dX12_peels_172 : decode cX12_peels 172 = .ok (.iload 5, 2) := by decide +kernel
theorem dX12_peels_174 : decode cX12_peels 174 = .ok (.aload_n 0, 1) := by decide +kernel
theorem dX12_peels_175 : decode cX12_peels 175 = .ok (.getfield 318, 3) := by decide +kernel
theorem dX12_peels_178 : decode cX12_peels 178 = .ok (.invokestatic 264, 3) := by decide +kernel
theorem dX12_peels_181 : decode cX12_peels 181 = .ok (.isub, 1) := by decide +kernel
theorem dX12_peels_182 : decode cX12_peels 182 = .ok (.goto 5, 3) := by decide +kernel
theorem dX12_peels_185 : decode cX12_peels 185 = .ok (.iload 5, 2) := by decide +kernel
theorem dX12_peels_187 : decode cX12_peels 187 = .ok (.ireturn, 1) := by decide +kernel
set_option maxHeartbeats 4000000 in
set_option maxRecDepth 100000 in
theorem s_X12_peels {P : PP} {a0 : Nat} {a1 : Int32} {a2 : Int32} {a3 : Int32} {a4 : Int32} (I : IM P a0) (hW : MW P a0) : CtrI yX12_peels cX12_peels 8 (some Jvm.ClassFile.FieldType.int) ({ frames := 7, cells := 0, slots := 0, locals := 448 } : Room) 0 0 P [.ref a0, .int a1, .int a2, .int a3, .int a4] (fun r P2 => IM P2 a0 ∧ EM [0, 28, 29, 30, 31, 32, 33, 34] a0 P P2 ∧ MW P2 a0 ∧ (True)) := by
  refine enI (lv := [(0, .ref a0), (1, .int a1), (2, .int a2), (3, .int a3), (4, .int a4)]) (by decide) (Nat.le_of_ble_eq_true rfl) rfl (fun E D cy C Ci0 ret => ?_)
  have ha0 := I.2.1
  have J64 : ∀ (n64 : Nat) (P64 : PP) (v64_5 : Int32) (v64_6 : Int32), (44 - v64_6.toInt).toNat < n64 → (IM P64 a0) → (EM [0, 28, 29, 30, 31, 32, 33, 34] a0 P P64) → (MW P64 a0) → (1 ≤ a4.toInt ∧ a4.toInt ≤ 3) → (0 ≤ v64_6.toInt ∧ v64_6.toInt ≤ 44) → (0 ≤ (pI P64 a0 0).toInt ∧ (pI P64 a0 0).toInt ≤ 0) → (0 ≤ (pI P64 a0 28).toInt ∧ (pI P64 a0 28).toInt ≤ 44) → (∀ b, pR P64 a0 10 = some b → 1 ≤ (pI P64 b (a2.toInt.toNat)).toInt ∧ (pI P64 b (a2.toInt.toNat)).toInt ≤ 16) → G E ({ frames := 7, cells := 0, slots := 0, locals := 448 } : Room) D cy 8 P64 0 0 64 [(0, .ref a0), (4, .int a4), (5, .int v64_5), (6, .int v64_6)] [] := by
    intro n64
    induction n64 with
    | zero => intro P64 v64_5 v64_6 hm64 I64 X64 W64 hv64_4 hv64_6 hq64_0 hq64_1 hq64_2; omega
    | succ n64 ih64 =>
      intro P64 v64_5 v64_6 hm64 I64 X64 W64 hv64_4 hv64_6 hq64_0 hq64_1 hq64_2
      have h69465 := X64.at ha0
      obtain ⟨b69466, e69467, h69468⟩ := I64.fld (h69465) 10 13 2 rfl
      have hq64_2 := hq64_2 b69466 e69467
      have J157 : ∀ (v157_s0 : Int32), (1 ≤ a4.toInt ∧ a4.toInt ≤ 3) → (0 ≤ v64_6.toInt ∧ v64_6.toInt ≤ 43) → (0 ≤ v157_s0.toInt ∧ v157_s0.toInt ≤ 20) → (0 ≤ (pI P64 a0 0).toInt ∧ (pI P64 a0 0).toInt ≤ 0) → (1 ≤ (pI P64 a0 28).toInt ∧ (pI P64 a0 28).toInt ≤ 44) → (∀ b, pR P64 a0 10 = some b → 1 ≤ (pI P64 b (a2.toInt.toNat)).toInt ∧ (pI P64 b (a2.toInt.toNat)).toInt ≤ 16) → G E ({ frames := 7, cells := 0, slots := 0, locals := 448 } : Room) D cy 8 P64 0 0 157 [(0, .ref a0), (4, .int a4), (6, .int v64_6)] [.int v157_s0, .int v64_5] := by
        intro v157_s0 hv157_4 hv157_6 hv157_s0 hq157_0 hq157_1 hq157_2
        have h69469 := X64.at ha0
        obtain ⟨b69470, e69471, h69472⟩ := I64.fld (h69469) 10 13 2 rfl
        have hq157_2 := hq157_2 b69470 e69471
        refine a_iadd C dX12_peels_157 (fun z69473 => ?_)
        refine g_istore (lv' := [(5, .int z69473), (0, .ref a0), (4, .int a4), (6, .int v64_6)]) C dX12_peels_158 (by decide) rfl ?_
        refine s_iinc (lv0 := [(5, .int z69473), (0, .ref a0), (4, .int a4)]) (m := 1) C dX12_peels_160 3 rfl (by decide) rfl (by decide) (by omega) (fun z69475 h69476 => ?_)
        have h69476 : z69475.toInt = v64_6.toInt + 1 := h69476
        refine g_goto C 64 dX12_peels_163 (by decide) ?_
        refine g_lv (lv' := [(0, .ref a0), (4, .int a4), (5, .int z69473), (6, .int z69475)]) [2, 3, 1, 0] rfl ?_
        exact ih64 P64 z69473 z69475 (by omega) I64 X64 W64 (by omega) (by omega) (by omega) (by omega) (fun b9 e9 => by rw [e69471] at e9; cases e9; omega)
      have J118 : (1 ≤ a4.toInt ∧ a4.toInt ≤ 1) → (0 ≤ v64_6.toInt ∧ v64_6.toInt ≤ 43) → (0 ≤ (pI P64 a0 0).toInt ∧ (pI P64 a0 0).toInt ≤ 0) → (1 ≤ (pI P64 a0 28).toInt ∧ (pI P64 a0 28).toInt ≤ 44) → (∀ b, pR P64 a0 10 = some b → 1 ≤ (pI P64 b (a2.toInt.toNat)).toInt ∧ (pI P64 b (a2.toInt.toNat)).toInt ≤ 16) → G E ({ frames := 7, cells := 0, slots := 0, locals := 448 } : Room) D cy 8 P64 0 0 118 [(0, .ref a0), (4, .int a4), (6, .int v64_6)] [.int v64_5] := by
        intro hv118_4 hv118_6 hq118_0 hq118_1 hq118_2
        have h69477 := X64.at ha0
        obtain ⟨b69478, e69479, h69480⟩ := I64.fld (h69477) 10 13 2 rfl
        have hq118_2 := hq118_2 b69478 e69479
        refine g_iconst (v := 0) C dX12_peels_118 (by decide) ?_
        refine g_goto C 157 dX12_peels_119 (by decide) ?_
        exact J157 0 (by omega) (by omega) (by decide) (by omega) (by omega) (fun b9 e9 => by rw [e69479] at e9; cases e9; omega)
      refine g_iload C dX12_peels_64 3 rfl ?_
      refine g_aload_n C dX12_peels_66 rfl 0 rfl ?_
      refine g_getI C fi_X12_305 (by decide) (h69465).1 (h69465).2 dX12_peels_67 ?_
      refine b_icmp_ge C 166 dX12_peels_70 (by decide) (fun h69481 => ?_) (fun h69481 => ?_)
      · have h69481 : (pI P64 a0 28).toInt ≤ v64_6.toInt := h69481
        refine g_iload C dX12_peels_166 1 rfl ?_
        refine g_iconst (v := 2) C dX12_peels_168 (by decide) ?_
        refine b_icmp_ne C 185 dX12_peels_169 (by decide) (fun h69482 => ?_) (fun h69482 => ?_)
        · have h69482 : a4.toInt ≠ 2 := ti_ne h69482
          refine g_iload C dX12_peels_185 2 rfl ?_
          exact ret _ _ _ _ _ _ dX12_peels_187 rfl (by decide) (by decide) ⟨I64, X64, W64, trivial⟩
        · have h69482 : a4.toInt = 2 := congrArg Int32.toInt h69482
          refine g_iload C dX12_peels_172 2 rfl ?_
          refine g_aload_n C dX12_peels_174 rfl 0 rfl ?_
          refine g_getI C fi_X12_318 (by decide) (h69465).1 (h69465).2 dX12_peels_175 ?_
          refine g_callSI (b := 0) (ci := 0) (rest := [.int v64_5]) C ms_X12_264 [.int (pI P64 a0 33)] (s_X12_bits I64.1) rfl rfl (by decide) (Nat.le_of_ble_eq_true rfl) (by decide) dX12_peels_178 (fun r69483 Y69484 h69485 => ?_)
          obtain ⟨rfl, h69485⟩ := h69485
          obtain ⟨h69485, hi69486⟩ := h69485
          have hi69486 : r69483.toInt = 0 ∨ (pI P64 a0 33).toInt ≠ 0 := hi69486
          have h69485 : 0 ≤ r69483.toInt ∧ r69483.toInt ≤ 20 := h69485
          refine a_isub C dX12_peels_181 (fun z69487 => ?_)
          refine g_goto C 187 dX12_peels_182 (by decide) ?_
          exact ret _ _ _ _ _ _ dX12_peels_187 rfl (by decide) (by decide) ⟨I64, X64, W64, trivial⟩
      · have h69481 : v64_6.toInt < (pI P64 a0 28).toInt := h69481
        refine g_aload_n C dX12_peels_73 rfl 0 rfl ?_
        obtain ⟨b69489, e69490, h69491⟩ := I64.fld (h69465) 29 13 64 rfl
        refine g_getR C fi_X12_91 rfl e69490 (h69465).1 (h69465).2 dX12_peels_74 ?_
        refine g_iload C dX12_peels_77 3 rfl ?_
        refine g_iald (j := (v64_6.toInt.toNat)) C h69491.1 h69491.2.1 (ix_in h69491.2.2 (by omega)) dX12_peels_79 ?_
        refine g_aload_n C dX12_peels_80 rfl 0 rfl ?_
        refine g_getI C fi_X12_318 (by decide) (h69465).1 (h69465).2 dX12_peels_81 ?_
        refine g_iconst (v := (-1)) C dX12_peels_84 (by decide) ?_
        refine a_ixor C dX12_peels_85 (fun z69492 => ?_)
        refine a_iand C dX12_peels_86 (fun z69494 => ?_)
        refine g_callSI (b := 0) (ci := 0) (rest := []) C ms_X12_264 [.int z69494] (s_X12_bits I64.1) rfl rfl (by decide) (Nat.le_of_ble_eq_true rfl) (by decide) dX12_peels_87 (fun r69496 Y69497 h69498 => ?_)
        obtain ⟨rfl, h69498⟩ := h69498
        obtain ⟨h69498, hi69499⟩ := h69498
        have hi69499 : r69496.toInt = 0 ∨ z69494.toInt ≠ 0 := hi69499
        have h69498 : 0 ≤ r69496.toInt ∧ r69496.toInt ≤ 20 := h69498
        refine g_istore (lv' := [(7, .int r69496), (0, .ref a0), (4, .int a4), (5, .int v64_5), (6, .int v64_6)]) C dX12_peels_90 (by decide) rfl ?_
        refine g_iload C dX12_peels_92 3 rfl ?_
        refine g_iload C dX12_peels_94 2 rfl ?_
        refine g_iconst (v := 1) C dX12_peels_96 (by decide) ?_
        refine b_icmp_ne C 122 dX12_peels_97 (by decide) (fun h69500 => ?_) (fun h69500 => ?_)
        · have h69500 : a4.toInt ≠ 1 := ti_ne h69500
          refine g_iload C dX12_peels_122 2 rfl ?_
          refine g_iconst (v := 2) C dX12_peels_124 (by decide) ?_
          refine b_icmp_ne C 146 dX12_peels_125 (by decide) (fun h69501 => ?_) (fun h69501 => ?_)
          · have h69501 : a4.toInt ≠ 2 := ti_ne h69501
            refine g_iload C dX12_peels_146 0 rfl ?_
            refine g_iconst (v := 1) C dX12_peels_148 (by decide) ?_
            refine b_icmp_le C 156 dX12_peels_149 (by decide) (fun h69502 => ?_) (fun h69502 => ?_)
            · have h69502 : r69496.toInt ≤ 1 := h69502
              refine g_iconst (v := 0) C dX12_peels_156 (by decide) ?_
              refine g_lv (lv' := [(0, .ref a0), (4, .int a4), (6, .int v64_6)]) [1, 2, 4] rfl ?_
              exact J157 0 (by omega) (by omega) (by decide) (by omega) (by omega) (fun b9 e9 => by rw [e69467] at e9; cases e9; omega)
            · have h69502 : 1 < r69496.toInt := h69502
              refine g_iconst (v := 1) C dX12_peels_152 (by decide) ?_
              refine g_goto C 157 dX12_peels_153 (by decide) ?_
              refine g_lv (lv' := [(0, .ref a0), (4, .int a4), (6, .int v64_6)]) [1, 2, 4] rfl ?_
              exact J157 1 (by omega) (by omega) (by decide) (by omega) (by omega) (fun b9 e9 => by rw [e69467] at e9; cases e9; omega)
          · have h69501 : a4.toInt = 2 := congrArg Int32.toInt h69501
            refine g_aload_n C dX12_peels_128 rfl 1 rfl ?_
            refine g_getR C fi_X12_91 rfl e69490 (h69465).1 (h69465).2 dX12_peels_129 ?_
            refine g_iload C dX12_peels_132 4 rfl ?_
            refine g_iald (j := (v64_6.toInt.toNat)) C h69491.1 h69491.2.1 (ix_in h69491.2.2 (by omega)) dX12_peels_134 ?_
            refine g_aload_n C dX12_peels_135 rfl 1 rfl ?_
            refine g_getI C fi_X12_318 (by decide) (h69465).1 (h69465).2 dX12_peels_136 ?_
            refine a_iand C dX12_peels_139 (fun z69503 => ?_)
            refine g_callSI (b := 0) (ci := 0) (rest := [.int v64_5]) C ms_X12_264 [.int z69503] (s_X12_bits I64.1) rfl rfl (by decide) (Nat.le_of_ble_eq_true rfl) (by decide) dX12_peels_140 (fun r69505 Y69506 h69507 => ?_)
            obtain ⟨rfl, h69507⟩ := h69507
            obtain ⟨h69507, hi69508⟩ := h69507
            have hi69508 : r69505.toInt = 0 ∨ z69503.toInt ≠ 0 := hi69508
            have h69507 : 0 ≤ r69505.toInt ∧ r69505.toInt ≤ 20 := h69507
            refine g_goto C 157 dX12_peels_143 (by decide) ?_
            refine g_lv (lv' := [(0, .ref a0), (4, .int a4), (6, .int v64_6)]) [1, 2, 4] rfl ?_
            exact J157 r69505 (by omega) (by omega) (by omega) (by omega) (by omega) (fun b9 e9 => by rw [e69467] at e9; cases e9; omega)
        · have h69500 : a4.toInt = 1 := congrArg Int32.toInt h69500
          refine g_iload C dX12_peels_100 0 rfl ?_
          refine b_if_ne C 118 dX12_peels_102 (by decide) (fun h69509 => ?_) (fun h69509 => ?_)
          · have h69509 : r69496.toInt ≠ 0 := ti_ne h69509
            refine g_lv (lv' := [(0, .ref a0), (4, .int a4), (6, .int v64_6)]) [1, 2, 4] rfl ?_
            exact J118 (by omega) (by omega) (by omega) (by omega) (fun b9 e9 => by rw [e69467] at e9; cases e9; omega)
          · have h69509 : r69496.toInt = 0 := congrArg Int32.toInt h69509
            refine g_aload_n C dX12_peels_105 rfl 1 rfl ?_
            refine g_iload C dX12_peels_106 4 rfl ?_
            refine g_callVI (rest := [.int v64_5]) C mv_X12_321 [.int v64_6] (s_X12_comesTo I64 (by omega) W64) (h69465).1 (h69465).2 rfl rfl (by decide) (Nat.le_of_ble_eq_true rfl) (by decide) dX12_peels_108 (fun r69510 Y69511 h69512 => ?_)
            obtain ⟨rfl, h69512⟩ := h69512
            have h69512 : True := h69512
            have u69514 := ti_rng r69510
            refine b_if_eq C 118 dX12_peels_111 (by decide) (fun h69513 => ?_) (fun h69513 => ?_)
            · have h69513 : r69510.toInt = 0 := congrArg Int32.toInt h69513
              refine g_lv (lv' := [(0, .ref a0), (4, .int a4), (6, .int v64_6)]) [1, 2, 4] rfl ?_
              exact J118 (by omega) (by omega) (by omega) (by omega) (fun b9 e9 => by rw [e69467] at e9; cases e9; omega)
            · have h69513 : r69510.toInt ≠ 0 := ti_ne h69513
              refine g_iconst (v := 1) C dX12_peels_114 (by decide) ?_
              refine g_goto C 157 dX12_peels_115 (by decide) ?_
              refine g_lv (lv' := [(0, .ref a0), (4, .int a4), (6, .int v64_6)]) [1, 2, 4] rfl ?_
              exact J157 1 (by omega) (by omega) (by decide) (by omega) (by omega) (fun b9 e9 => by rw [e69467] at e9; cases e9; omega)
  have J25 : ∀ (P25 : PP), (IM P25 a0) → (EM [0, 28, 29, 30, 31, 32, 33, 34] a0 P P25) → (MW P25 a0) → (0 ≤ (pI P25 a0 0).toInt ∧ (pI P25 a0 0).toInt ≤ 0) → G E ({ frames := 7, cells := 0, slots := 0, locals := 448 } : Room) D cy 8 P25 0 0 25 [] [] := by
    intro P25 I25 X25 W25 hq25_0
    have h69515 := X25.at ha0
    refine g_iconst (v := (-1)) C dX12_peels_25 (by decide) ?_
    exact ret _ _ _ _ _ _ dX12_peels_26 rfl (by decide) (by decide) ⟨I25, X25, W25, trivial⟩
  refine g_aload_n C dX12_peels_0 rfl 0 rfl ?_
  refine g_iconst (v := 0) C dX12_peels_1 (by decide) ?_
  refine g_putI C fi_X12_1 rfl (ha0).1 (ha0).2 dX12_peels_2 ?_
  refine gqW (ks := [0]) (I.setI (rgOk.of rfl (by decide))) (EM.setI I (by decide)) (fun Y69516 Iy69517 Xy69518 w69519 => ?_)
  have w69519 : (pI Y69516 a0 0).toInt = 0 := w69519
  have W69520 := hW.keep I Xy69518 (by decide) (by decide) (by decide)
  have Xz69521 : EM [0, 28, 29, 30, 31, 32, 33, 34] a0 P Y69516 := Xy69518.mono (by decide)
  have h69522 := Xy69518.at ha0
  refine g_aload_n C dX12_peels_5 rfl 0 rfl ?_
  refine g_iload_n C dX12_peels_6 rfl 1 rfl ?_
  refine g_iload_n C dX12_peels_7 rfl 2 rfl ?_
  refine g_iload_n C dX12_peels_8 rfl 3 rfl ?_
  refine g_callVI (rest := []) C mv_X12_333 [.int a1, .int a2, .int a3] (s_X12_isAsked Iy69517 W69520) (h69522).1 (h69522).2 rfl rfl (by decide) (Nat.le_of_ble_eq_true rfl) (by decide) dX12_peels_9 (fun r69523 Y69524 h69525 => ?_)
  obtain ⟨rfl, h69525⟩ := h69525
  obtain ⟨h69525, hi69526, hi69527⟩ := h69525
  have hi69526 : r69523.toInt = 0 ∨ (((0 : Int) ≤ a1.toInt ∧ a1.toInt ≤ (3 : Int)) ∧ ((0 : Int) ≤ a2.toInt ∧ a2.toInt ≤ (1 : Int)) ∧ ((0 : Int) ≤ a3.toInt ∧ a3.toInt ≤ (1 : Int))) := hi69526
  have h69525 : 0 ≤ r69523.toInt ∧ r69523.toInt ≤ 1 := h69525
  refine b_if_eq C 25 dX12_peels_12 (by decide) (fun h69528 => ?_) (fun h69528 => ?_)
  · have h69528 : r69523.toInt = 0 := congrArg Int32.toInt h69528
    clear hi69526
    refine g_lv (lv' := []) [] rfl ?_
    exact J25 Y69516 Iy69517 Xz69521 W69520 (by omega)
  · have h69528 : r69523.toInt ≠ 0 := ti_ne h69528
    replace hi69526 := hi69526.resolve_left (by omega)
    obtain ⟨b69529, e69530, h69531⟩ := Iy69517.fld (h69522) 10 13 2 rfl
    have hi69527 := (hi69527.resolve_left (by omega)) b69529 e69530
    have hi69527 : 0 < (pI Y69516 b69529 (a2.toInt.toNat)).toInt := hi69527
    have h69532 := Iy69517.arr e69530 rfl (a2.toInt.toNat)
    refine g_iload C dX12_peels_15 4 rfl ?_
    refine g_iconst (v := 0) C dX12_peels_17 (by decide) ?_
    refine g_iconst (v := 3) C dX12_peels_18 (by decide) ?_
    refine g_callSI (b := 0) (ci := 0) (rest := []) C ms_X12_178 [.int a4, .int 0, .int 3] (s_X12_within Iy69517.1) rfl rfl (by decide) (Nat.le_of_ble_eq_true rfl) (by decide) dX12_peels_19 (fun r69533 Y69534 h69535 => ?_)
    obtain ⟨rfl, h69535⟩ := h69535
    obtain ⟨h69535, hi69536⟩ := h69535
    have hi69536 : r69533.toInt = 0 ∨ (0 ≤ a4.toInt ∧ a4.toInt ≤ 3) := hi69536
    have h69535 : 0 ≤ r69533.toInt ∧ r69533.toInt ≤ 1 := h69535
    refine b_if_ne C 27 dX12_peels_22 (by decide) (fun h69537 => ?_) (fun h69537 => ?_)
    · have h69537 : r69533.toInt ≠ 0 := ti_ne h69537
      replace hi69536 := hi69536.resolve_left (by omega)
      refine g_aload_n C dX12_peels_27 rfl 0 rfl ?_
      refine g_callVV (rest := []) C mv_X12_336 [] (s_X12_leavesNone Iy69517 W69520) (h69522).1 (h69522).2 rfl rfl (by decide) (Nat.le_of_ble_eq_true rfl) (by decide) dX12_peels_28 (fun Y69539 h69540 => ?_)
      obtain ⟨Iy69541, Xy69542, W69543⟩ := h69540
      have q69544 := Xy69542.keepF 0 (by decide)
      have q69545 := Xy69542.keepA e69530 (by decide) rfl (a2.toInt.toNat)
      have Xz69546 : EM [0, 28, 29, 30, 31, 32, 33, 34] a0 P Y69539 := EM.tr ha0 Xz69521 (Xy69542.mono (by decide))
      have e69547 := Xy69542.ref h69522 (by decide) e69530
      have h69548 := Xy69542.at h69522
      have h69549 := Xy69542.ar h69531
      refine g_aload_n C dX12_peels_31 rfl 0 rfl ?_
      refine g_iload_n C dX12_peels_32 rfl 1 rfl ?_
      refine g_iload_n C dX12_peels_33 rfl 2 rfl ?_
      refine g_iload_n C dX12_peels_34 rfl 3 rfl ?_
      refine g_aload_n C dX12_peels_35 rfl 0 rfl ?_
      obtain ⟨b69550, e69551, h69552⟩ := Iy69541.fld (h69548) 20 13 20 rfl
      refine g_getR C fi_X12_69 rfl e69551 (h69548).1 (h69548).2 dX12_peels_36 ?_
      refine g_iload_n C dX12_peels_39 rfl 1 rfl ?_
      refine g_iald (j := (a1.toInt.toNat)) C h69552.1 h69552.2.1 (ix_in h69552.2.2 (by omega)) dX12_peels_40 ?_
      have h69553 := Iy69541.arr e69551 rfl (a1.toInt.toNat)
      refine g_callVV (rest := []) C mv_X12_339 [.int a1, .int a2, .int a3, .int (pI Y69539 b69550 (a1.toInt.toNat))] (s_X12_gathers Iy69541 (by omega) (by omega) (by omega) (fun b9 e9 => by rw [e69547] at e9; cases e9; show 1 ≤ (pI Y69539 b69529 (a2.toInt.toNat)).toInt ∧ (pI Y69539 b69529 (a2.toInt.toNat)).toInt ≤ 16; omega) W69543) (h69548).1 (h69548).2 rfl rfl (by decide) (Nat.le_of_ble_eq_true rfl) (by decide) dX12_peels_41 (fun Y69555 h69556 => ?_)
      obtain ⟨Iy69557, Xy69558, W69559, p69560⟩ := h69556
      have p69560 : (pI Y69555 a0 28).toInt ≤ 4 + (pI Y69539 b69550 (a1.toInt.toNat)).toInt := p69560
      have q69561 := Xy69558.keepF 0 (by decide)
      have q69562 := Xy69558.keepA e69547 (by decide) rfl (a2.toInt.toNat)
      have q69563 := Xy69558.keepA e69551 (by decide) rfl (a1.toInt.toNat)
      have Xz69564 : EM [0, 28, 29, 30, 31, 32, 33, 34] a0 P Y69555 := EM.tr ha0 Xz69546 (Xy69558.mono (by decide))
      have e69565 := Xy69558.ref h69548 (by decide) e69547
      have e69566 := Xy69558.ref h69548 (by decide) e69551
      have h69567 := Xy69558.at h69548
      have h69568 := Xy69558.ar h69549
      have h69569 := Xy69558.ar h69552
      have h69570 := Iy69557.rg h69567 28 rfl
      refine g_aload_n C dX12_peels_44 rfl 0 rfl ?_
      refine g_callVV (rest := []) C mv_X12_343 [] (s_X12_findPeeled Iy69557 W69559) (h69567).1 (h69567).2 rfl rfl (by decide) (Nat.le_of_ble_eq_true rfl) (by decide) dX12_peels_45 (fun Y69572 h69573 => ?_)
      obtain ⟨Iy69574, Xy69575, W69576⟩ := h69573
      have q69577 := Xy69575.keepF 0 (by decide)
      have q69578 := Xy69575.keepA e69565 (by decide) rfl (a2.toInt.toNat)
      have q69579 := Xy69575.keepA e69566 (by decide) rfl (a1.toInt.toNat)
      have q69580 := Xy69575.keepF 28 (by decide)
      have Xz69581 : EM [0, 28, 29, 30, 31, 32, 33, 34] a0 P Y69572 := EM.tr ha0 Xz69564 (Xy69575.mono (by decide))
      have e69582 := Xy69575.ref h69567 (by decide) e69565
      have e69583 := Xy69575.ref h69567 (by decide) e69566
      have h69584 := Xy69575.at h69567
      have h69585 := Xy69575.ar h69568
      have h69586 := Xy69575.ar h69569
      refine g_iload C dX12_peels_48 4 rfl ?_
      refine b_if_ne C 58 dX12_peels_50 (by decide) (fun h69587 => ?_) (fun h69587 => ?_)
      · have h69587 : a4.toInt ≠ 0 := ti_ne h69587
        refine g_iconst (v := 0) C dX12_peels_58 (by decide) ?_
        refine g_istore (lv' := [(5, .int 0), (0, .ref a0), (1, .int a1), (2, .int a2), (3, .int a3), (4, .int a4)]) C dX12_peels_59 (by decide) rfl ?_
        refine g_iconst (v := 0) C dX12_peels_61 (by decide) ?_
        refine g_istore (lv' := [(6, .int 0), (5, .int 0), (0, .ref a0), (1, .int a1), (2, .int a2), (3, .int a3), (4, .int a4)]) C dX12_peels_62 (by decide) rfl ?_
        refine g_lv (lv' := [(0, .ref a0), (4, .int a4), (5, .int 0), (6, .int 0)]) [2, 6, 1, 0] rfl ?_
        exact J64 _ Y69572 0 0 (Nat.lt_succ_self _) Iy69574 Xz69581 W69576 (by omega) (by decide) (by omega) (by omega) (fun b9 e9 => by rw [e69582] at e9; cases e9; omega)
      · have h69587 : a4.toInt = 0 := congrArg Int32.toInt h69587
        refine g_aload_n C dX12_peels_53 rfl 0 rfl ?_
        refine g_getI C fi_X12_318 (by decide) (h69584).1 (h69584).2 dX12_peels_54 ?_
        exact ret _ _ _ _ _ _ dX12_peels_57 rfl (by decide) (by decide) ⟨Iy69574, Xz69581, W69576, trivial⟩
    · have h69537 : r69533.toInt = 0 := congrArg Int32.toInt h69537
      clear hi69536
      refine g_lv (lv' := []) [] rfl ?_
      exact J25 Y69516 Iy69517 Xz69521 W69520 (by omega)
theorem dX12_quarter_0 : decode cX12_quarter 0 = .ok (.aload_n 0, 1) := by decide +kernel
theorem dX12_quarter_1 : decode cX12_quarter 1 = .ok (.iconst 0, 1) := by decide +kernel
theorem dX12_quarter_2 : decode cX12_quarter 2 = .ok (.putfield 1, 3) := by decide +kernel
theorem dX12_quarter_5 : decode cX12_quarter 5 = .ok (.iload_n 1, 1) := by decide +kernel
theorem dX12_quarter_6 : decode cX12_quarter 6 = .ok (.invokestatic 278, 3) := by decide +kernel
theorem dX12_quarter_9 : decode cX12_quarter 9 = .ok (.ifCond .eq 24, 3) := by decide +kernel
theorem dX12_quarter_12 : decode cX12_quarter 12 = .ok (.iload_n 2, 1) := by decide +kernel
theorem dX12_quarter_13 : decode cX12_quarter 13 = .ok (.iconst 0, 1) := by decide +kernel
theorem dX12_quarter_14 : decode cX12_quarter 14 = .ok (.bipush 100, 2) := by decide +kernel
theorem dX12_quarter_16 : decode cX12_quarter 16 = .ok (.invokestatic 178, 3) := by decide +kernel
theorem dX12_quarter_19 : decode cX12_quarter 19 = .ok (.ifCond .eq 14, 3) := by decide +kernel
theorem dX12_quarter_22 : decode cX12_quarter 22 = .ok (.iload_n 3, 1) := by decide +kernel
theorem dX12_quarter_23 : decode cX12_quarter 23 = .ok (.iconst 0, 1) := by decide +kernel
theorem dX12_quarter_24 : decode cX12_quarter 24 = .ok (.sipush 999, 3) := by decide +kernel
theorem dX12_quarter_27 : decode cX12_quarter 27 = .ok (.invokestatic 178, 3) := by decide +kernel
theorem dX12_quarter_30 : decode cX12_quarter 30 = .ok (.ifCond .ne 5, 3) := by decide +kernel
theorem dX12_quarter_33 : decode cX12_quarter 33 = .ok (.iconst 0, 1) := by decide +kernel
theorem dX12_quarter_34 : decode cX12_quarter 34 = .ok (.ireturn, 1) := by decide +kernel
theorem dX12_quarter_35 : decode cX12_quarter 35 = .ok (.aload_n 0, 1) := by decide +kernel
theorem dX12_quarter_36 : decode cX12_quarter 36 = .ok (.getfield 127, 3) := by decide +kernel
theorem dX12_quarter_39 : decode cX12_quarter 39 = .ok (.iload_n 1, 1) := by decide +kernel
theorem dX12_quarter_40 : decode cX12_quarter 40 = .ok (.iload_n 2, 1) := by decide +kernel
theorem dX12_quarter_41 : decode cX12_quarter 41 = .ok (.iastore, 1) := by decide +kernel
theorem dX12_quarter_42 : decode cX12_quarter 42 = .ok (.aload_n 0, 1) := by decide +kernel
theorem dX12_quarter_43 : decode cX12_quarter 43 = .ok (.getfield 130, 3) := by decide +kernel
theorem dX12_quarter_46 : decode cX12_quarter 46 = .ok (.iload_n 1, 1) := by decide +kernel
theorem dX12_quarter_47 : decode cX12_quarter 47 = .ok (.iload_n 3, 1) := by decide +kernel
theorem dX12_quarter_48 : decode cX12_quarter 48 = .ok (.iastore, 1) := by decide +kernel
theorem dX12_quarter_49 : decode cX12_quarter 49 = .ok (.iconst 1, 1) := by decide +kernel
theorem dX12_quarter_50 : decode cX12_quarter 50 = .ok (.ireturn, 1) := by decide +kernel
set_option maxHeartbeats 4000000 in
set_option maxRecDepth 100000 in
theorem s_X12_quarter {P : PP} {a0 : Nat} {a1 : Int32} {a2 : Int32} {a3 : Int32} (I : IM P a0) (hW : MW P a0) : CtrI yX12_quarter cX12_quarter 4 (some Jvm.ClassFile.FieldType.boolean) ({ frames := 3, cells := 0, slots := 0, locals := 192 } : Room) 0 0 P [.ref a0, .int a1, .int a2, .int a3] (fun r P2 => IM P2 a0 ∧ EM [0, 45, 46] a0 P P2 ∧ MW P2 a0 ∧ (0 ≤ r.toInt ∧ r.toInt ≤ 1) ∧ (r.toInt = 0 ∨ (((0 : Int) ≤ a1.toInt ∧ a1.toInt ≤ (3 : Int)) ∧ ((0 : Int) ≤ a2.toInt ∧ a2.toInt ≤ (100 : Int)) ∧ ((0 : Int) ≤ a3.toInt ∧ a3.toInt ≤ (999 : Int))))) := by
  refine enI (lv := [(0, .ref a0), (1, .int a1), (2, .int a2), (3, .int a3)]) (by decide) (Nat.le_of_ble_eq_true rfl) rfl (fun E D cy C Ci0 ret => ?_)
  have ha0 := I.2.1
  have J33 : ∀ (P33 : PP), (IM P33 a0) → (EM [0, 45, 46] a0 P P33) → (MW P33 a0) → (0 ≤ (pI P33 a0 0).toInt ∧ (pI P33 a0 0).toInt ≤ 0) → G E ({ frames := 3, cells := 0, slots := 0, locals := 192 } : Room) D cy 4 P33 0 0 33 [] [] := by
    intro P33 I33 X33 W33 hq33_0
    have h69640 := X33.at ha0
    refine g_iconst (v := 0) C dX12_quarter_33 (by decide) ?_
    exact ret _ _ _ _ _ _ dX12_quarter_34 rfl (by decide) (by decide) ⟨I33, X33, W33, (by decide), Or.inl rfl⟩
  refine g_aload_n C dX12_quarter_0 rfl 0 rfl ?_
  refine g_iconst (v := 0) C dX12_quarter_1 (by decide) ?_
  refine g_putI C fi_X12_1 rfl (ha0).1 (ha0).2 dX12_quarter_2 ?_
  refine gqW (ks := [0]) (I.setI (rgOk.of rfl (by decide))) (EM.setI I (by decide)) (fun Y69641 Iy69642 Xy69643 w69644 => ?_)
  have w69644 : (pI Y69641 a0 0).toInt = 0 := w69644
  have W69645 := hW.keep I Xy69643 (by decide) (by decide) (by decide)
  have Xz69646 : EM [0, 45, 46] a0 P Y69641 := Xy69643.mono (by decide)
  have h69647 := Xy69643.at ha0
  refine g_iload_n C dX12_quarter_5 rfl 1 rfl ?_
  refine g_callSI (b := 0) (ci := 0) (rest := []) C ms_X12_278 [.int a1] (s_X12_isQuarter Iy69642.1) rfl rfl (by decide) (Nat.le_of_ble_eq_true rfl) (by decide) dX12_quarter_6 (fun r69648 Y69649 h69650 => ?_)
  obtain ⟨rfl, h69650⟩ := h69650
  obtain ⟨h69650, hi69651⟩ := h69650
  have hi69651 : r69648.toInt = 0 ∨ (((0 : Int) ≤ a1.toInt ∧ a1.toInt ≤ (3 : Int))) := hi69651
  have h69650 : 0 ≤ r69648.toInt ∧ r69648.toInt ≤ 1 := h69650
  refine b_if_eq C 33 dX12_quarter_9 (by decide) (fun h69652 => ?_) (fun h69652 => ?_)
  · have h69652 : r69648.toInt = 0 := congrArg Int32.toInt h69652
    clear hi69651
    refine g_lv (lv' := []) [] rfl ?_
    exact J33 Y69641 Iy69642 Xz69646 W69645 (by omega)
  · have h69652 : r69648.toInt ≠ 0 := ti_ne h69652
    replace hi69651 := hi69651.resolve_left (by omega)
    refine g_iload_n C dX12_quarter_12 rfl 2 rfl ?_
    refine g_iconst (v := 0) C dX12_quarter_13 (by decide) ?_
    refine g_bipush (v := 100) C dX12_quarter_14 (by decide) ?_
    refine g_callSI (b := 0) (ci := 0) (rest := []) C ms_X12_178 [.int a2, .int 0, .int 100] (s_X12_within Iy69642.1) rfl rfl (by decide) (Nat.le_of_ble_eq_true rfl) (by decide) dX12_quarter_16 (fun r69653 Y69654 h69655 => ?_)
    obtain ⟨rfl, h69655⟩ := h69655
    obtain ⟨h69655, hi69656⟩ := h69655
    have hi69656 : r69653.toInt = 0 ∨ (0 ≤ a2.toInt ∧ a2.toInt ≤ 100) := hi69656
    have h69655 : 0 ≤ r69653.toInt ∧ r69653.toInt ≤ 1 := h69655
    refine b_if_eq C 33 dX12_quarter_19 (by decide) (fun h69657 => ?_) (fun h69657 => ?_)
    · have h69657 : r69653.toInt = 0 := congrArg Int32.toInt h69657
      clear hi69656
      refine g_lv (lv' := []) [] rfl ?_
      exact J33 Y69641 Iy69642 Xz69646 W69645 (by omega)
    · have h69657 : r69653.toInt ≠ 0 := ti_ne h69657
      replace hi69656 := hi69656.resolve_left (by omega)
      refine g_iload_n C dX12_quarter_22 rfl 3 rfl ?_
      refine g_iconst (v := 0) C dX12_quarter_23 (by decide) ?_
      refine g_sipush (v := 999) C dX12_quarter_24 (by decide) ?_
      refine g_callSI (b := 0) (ci := 0) (rest := []) C ms_X12_178 [.int a3, .int 0, .int 999] (s_X12_within Iy69642.1) rfl rfl (by decide) (Nat.le_of_ble_eq_true rfl) (by decide) dX12_quarter_27 (fun r69658 Y69659 h69660 => ?_)
      obtain ⟨rfl, h69660⟩ := h69660
      obtain ⟨h69660, hi69661⟩ := h69660
      have hi69661 : r69658.toInt = 0 ∨ (0 ≤ a3.toInt ∧ a3.toInt ≤ 999) := hi69661
      have h69660 : 0 ≤ r69658.toInt ∧ r69658.toInt ≤ 1 := h69660
      refine b_if_ne C 35 dX12_quarter_30 (by decide) (fun h69662 => ?_) (fun h69662 => ?_)
      · have h69662 : r69658.toInt ≠ 0 := ti_ne h69662
        replace hi69661 := hi69661.resolve_left (by omega)
        refine g_aload_n C dX12_quarter_35 rfl 0 rfl ?_
        obtain ⟨b69663, e69664, h69665⟩ := Iy69642.fld (h69647) 45 13 4 rfl
        refine g_getR C fi_X12_127 rfl e69664 (h69647).1 (h69647).2 dX12_quarter_36 ?_
        refine g_iload_n C dX12_quarter_39 rfl 1 rfl ?_
        refine g_iload_n C dX12_quarter_40 rfl 2 rfl ?_
        refine g_iast (j := (a1.toInt.toNat)) C h69665.1 h69665.2.1 (ix_in h69665.2.2 (by omega)) dX12_quarter_41 ?_
        refine gqW (ks := [45]) (Iy69642.setA e69664 h69665 (by decide) (arOk.none rfl)) (EM.setA Iy69642 e69664 rfl (by decide)) (fun Y69666 Iy69667 Xy69668 w69669 => ?_)
        have w69669 : (pI Y69666 b69663 (a1.toInt.toNat)).toInt = a2.toInt := w69669
        have q69670 := Xy69668.keepF 0 (by decide)
        have W69671 := W69645.keep Iy69642 Xy69668 (by decide) (by decide) (by decide)
        have Xz69672 : EM [0, 45, 46] a0 P Y69666 := EM.tr ha0 Xz69646 (Xy69668.mono (by decide))
        have e69673 := Xy69668.ref h69647 (by decide) e69664
        have h69674 := Xy69668.at h69647
        have h69675 := Xy69668.ar h69665
        refine g_aload_n C dX12_quarter_42 rfl 0 rfl ?_
        obtain ⟨b69676, e69677, h69678⟩ := Iy69667.fld (h69674) 46 13 4 rfl
        refine g_getR C fi_X12_130 rfl e69677 (h69674).1 (h69674).2 dX12_quarter_43 ?_
        refine g_iload_n C dX12_quarter_46 rfl 1 rfl ?_
        refine g_iload_n C dX12_quarter_47 rfl 3 rfl ?_
        refine g_iast (j := (a1.toInt.toNat)) C h69678.1 h69678.2.1 (ix_in h69678.2.2 (by omega)) dX12_quarter_48 ?_
        refine gqW (ks := [46]) (Iy69667.setA e69677 h69678 (by decide) (arOk.none rfl)) (EM.setA Iy69667 e69677 rfl (by decide)) (fun Y69679 Iy69680 Xy69681 w69682 => ?_)
        have w69682 : (pI Y69679 b69676 (a1.toInt.toNat)).toInt = a3.toInt := w69682
        have q69683 := Xy69681.keepF 0 (by decide)
        have q69684 := Xy69681.keepA e69673 (by decide) rfl (a1.toInt.toNat)
        have W69685 := W69671.keep Iy69667 Xy69681 (by decide) (by decide) (by decide)
        have Xz69686 : EM [0, 45, 46] a0 P Y69679 := EM.tr ha0 Xz69672 (Xy69681.mono (by decide))
        have e69687 := Xy69681.ref h69674 (by decide) e69673
        have e69688 := Xy69681.ref h69674 (by decide) e69677
        have h69689 := Xy69681.at h69674
        have h69690 := Xy69681.ar h69675
        have h69691 := Xy69681.ar h69678
        refine g_iconst (v := 1) C dX12_quarter_49 (by decide) ?_
        exact ret _ _ _ _ _ _ dX12_quarter_50 rfl (by decide) (by decide) ⟨Iy69680, Xz69686, W69685, (by decide), Or.inr (by omega)⟩
      · have h69662 : r69658.toInt = 0 := congrArg Int32.toInt h69662
        clear hi69661
        refine g_lv (lv' := []) [] rfl ?_
        exact J33 Y69641 Iy69642 Xz69646 W69645 (by omega)
theorem dX12_read_0 : decode cX12_read 0 = .ok (.aload_n 0, 1) := by decide +kernel
theorem dX12_read_1 : decode cX12_read 1 = .ok (.iconst 0, 1) := by decide +kernel
theorem dX12_read_2 : decode cX12_read 2 = .ok (.putfield 1, 3) := by decide +kernel
theorem dX12_read_5 : decode cX12_read 5 = .ok (.iload_n 1, 1) := by decide +kernel
theorem dX12_read_6 : decode cX12_read 6 = .ok (.invokestatic 278, 3) := by decide +kernel
theorem dX12_read_9 : decode cX12_read 9 = .ok (.ifCond .eq 30, 3) := by decide +kernel
theorem dX12_read_12 : decode cX12_read 12 = .ok (.aload_n 0, 1) := by decide +kernel
theorem dX12_read_13 : decode cX12_read 13 = .ok (.iload_n 2, 1) := by decide +kernel
theorem dX12_read_14 : decode cX12_read 14 = .ok (.invokevirtual 192, 3) := by decide +kernel
theorem dX12_read_17 : decode cX12_read 17 = .ok (.ifCond .eq 22, 3) := by decide +kernel
theorem dX12_read_20 : decode cX12_read 20 = .ok (.aload_n 0, 1) := by decide +kernel
theorem dX12_read_21 : decode cX12_read 21 = .ok (.iload_n 2, 1) := by decide +kernel
theorem dX12_read_22 : decode cX12_read 22 = .ok (.iload_n 3, 1) := by decide +kernel
theorem dX12_read_23 : decode cX12_read 23 = .ok (.invokevirtual 352, 3) := by decide +kernel
theorem dX12_read_26 : decode cX12_read 26 = .ok (.ifCond .eq 13, 3) := by decide +kernel
theorem dX12_read_29 : decode cX12_read 29 = .ok (.iload 4, 2) := by decide +kernel
theorem dX12_read_31 : decode cX12_read 31 = .ok (.iconst 0, 1) := by decide +kernel
theorem dX12_read_32 : decode cX12_read 32 = .ok (.iconst 1, 1) := by decide +kernel
theorem dX12_read_33 : decode cX12_read 33 = .ok (.invokestatic 178, 3) := by decide +kernel
theorem dX12_read_36 : decode cX12_read 36 = .ok (.ifCond .ne 5, 3) := by decide +kernel
theorem dX12_read_41 : decode cX12_read 41 = .ok (.aload_n 0, 1) := by decide +kernel
theorem dX12_read_42 : decode cX12_read 42 = .ok (.invokevirtual 336, 3) := by decide +kernel
theorem dX12_read_45 : decode cX12_read 45 = .ok (.aload_n 0, 1) := by decide +kernel
theorem dX12_read_46 : decode cX12_read 46 = .ok (.iload_n 1, 1) := by decide +kernel
theorem dX12_read_47 : decode cX12_read 47 = .ok (.iload_n 2, 1) := by decide +kernel
theorem dX12_read_48 : decode cX12_read 48 = .ok (.iload_n 3, 1) := by decide +kernel
theorem dX12_read_49 : decode cX12_read 49 = .ok (.iload 4, 2) := by decide +kernel
theorem dX12_read_51 : decode cX12_read 51 = .ok (.aload_n 0, 1) := by decide +kernel
theorem dX12_read_52 : decode cX12_read 52 = .ok (.getfield 69, 3) := by decide +kernel
theorem dX12_read_55 : decode cX12_read 55 = .ok (.iload_n 1, 1) := by decide +kernel
theorem dX12_read_56 : decode cX12_read 56 = .ok (.iaload, 1) := by decide +kernel
theorem dX12_read_57 : decode cX12_read 57 = .ok (.invokevirtual 355, 3) := by decide +kernel
theorem dX12_readBy_0 : decode cX12_readBy 0 = .ok (.iconst 0, 1) := by decide +kernel
theorem dX12_readBy_1 : decode cX12_readBy 1 = .ok (.istore 6, 2) := by decide +kernel
theorem dX12_readBy_3 : decode cX12_readBy 3 = .ok (.iconst 0, 1) := by decide +kernel
theorem dX12_readBy_4 : decode cX12_readBy 4 = .ok (.istore 7, 2) := by decide +kernel
theorem dX12_readBy_6 : decode cX12_readBy 6 = .ok (.iload 7, 2) := by decide +kernel
theorem dX12_readBy_8 : decode cX12_readBy 8 = .ok (.iconst 2, 1) := by decide +kernel
theorem dX12_readBy_9 : decode cX12_readBy 9 = .ok (.if_icmp .ge 105, 3) := by decide +kernel
theorem dX12_readBy_12 : decode cX12_readBy 12 = .ok (.aload_n 0, 1) := by decide +kernel
theorem dX12_readBy_13 : decode cX12_readBy 13 = .ok (.iload_n 1, 1) := by decide +kernel
theorem dX12_readBy_14 : decode cX12_readBy 14 = .ok (.iload_n 2, 1) := by decide +kernel
theorem dX12_readBy_15 : decode cX12_readBy 15 = .ok (.iload 7, 2) := by decide +kernel
theorem dX12_readBy_17 : decode cX12_readBy 17 = .ok (.iload 5, 2) := by decide +kernel
theorem dX12_readBy_19 : decode cX12_readBy 19 = .ok (.invokevirtual 339, 3) := by decide +kernel
theorem dX12_readBy_22 : decode cX12_readBy 22 = .ok (.iload 4, 2) := by decide +kernel
theorem dX12_readBy_24 : decode cX12_readBy 24 = .ok (.ifCond .ne 10, 3) := by decide +kernel
theorem dX12_readBy_27 : decode cX12_readBy 27 = .ok (.aload_n 0, 1) := by decide +kernel
theorem dX12_readBy_28 : decode cX12_readBy 28 = .ok (.invokevirtual 343, 3) := by decide +kernel
theorem dX12_readBy_31 : decode cX12_readBy 31 = .ok (.goto 7, 3) := by decide +kernel
theorem dX12_readBy_34 : decode cX12_readBy 34 = .ok (.aload_n 0, 1) := by decide +kernel
theorem dX12_readBy_35 : decode cX12_readBy 35 = .ok (.invokevirtual 346, 3) := by decide +kernel
theorem dX12_readBy_38 : decode cX12_readBy 38 = .ok (.iload 4, 2) := by decide +kernel
theorem dX12_readBy_40 : decode cX12_readBy 40 = .ok (.ifCond .ne 23, 3) := by decide +kernel
theorem dX12_readBy_43 : decode cX12_readBy 43 = .ok (.aload_n 0, 1) := by decide +kernel
theorem dX12_readBy_44 : decode cX12_readBy 44 = .ok (.getfield 318, 3) := by decide +kernel
theorem dX12_readBy_47 : decode cX12_readBy 47 = .ok (.iload_n 3, 1) := by decide +kernel
theorem dX12_readBy_48 : decode cX12_readBy 48 = .ok (.ishr, 1) := by decide +kernel
theorem dX12_readBy_49 : decode cX12_readBy 49 = .ok (.iconst 1, 1) := by decide +kernel
theorem dX12_readBy_50 : decode cX12_readBy 50 = .ok (.iand, 1) := by decide +kernel
theorem dX12_readBy_51 : decode cX12_readBy 51 = .ok (.iconst 1, 1) := by decide +kernel
theorem dX12_readBy_52 : decode cX12_readBy 52 = .ok (.if_icmp .ne 7, 3) := by decide +kernel
theorem dX12_readBy_55 : decode cX12_readBy 55 = .ok (.iconst 1, 1) := by decide +kernel
theorem dX12_readBy_56 : decode cX12_readBy 56 = .ok (.goto 12, 3) := by decide +kernel
theorem dX12_readBy_59 : decode cX12_readBy 59 = .ok (.iconst 0, 1) := by decide +kernel
theorem dX12_readBy_60 : decode cX12_readBy 60 = .ok (.goto 8, 3) := by decide +kernel
theorem dX12_readBy_63 : decode cX12_readBy 63 = .ok (.aload_n 0, 1) := by decide +kernel
theorem dX12_readBy_64 : decode cX12_readBy 64 = .ok (.iload_n 3, 1) := by decide +kernel
theorem dX12_readBy_65 : decode cX12_readBy 65 = .ok (.invokevirtual 330, 3) := by decide +kernel
theorem dX12_readBy_68 : decode cX12_readBy 68 = .ok (.istore 8, 2) := by decide +kernel
theorem dX12_readBy_70 : decode cX12_readBy 70 = .ok (.iload 8, 2) := by decide +kernel
theorem dX12_readBy_72 : decode cX12_readBy 72 = .ok (.ifCond .ne 5, 3) := by decide +kernel
theorem dX12_readBy_75 : decode cX12_readBy 75 = .ok (.iconst (-1), 1) := by decide +kernel
theorem dX12_readBy_76 : decode cX12_readBy 76 = .ok (.ireturn, 1) := by decide +kernel
theorem dX12_readBy_77 : decode cX12_readBy 77 = .ok (.iload 6, 2) := by decide +kernel
theorem dX12_readBy_79 : decode cX12_readBy 79 = .ok (.iload 4, 2) := by decide +kernel
theorem dX12_readBy_81 : decode cX12_readBy 81 = .ok (.ifCond .ne 12, 3) := by decide +kernel
theorem dX12_readBy_84 : decode cX12_readBy 84 = .ok (.aload_n 0, 1) := by decide +kernel
theorem dX12_readBy_85 : decode cX12_readBy 85 = .ok (.getfield 103, 3) := by decide +kernel
theorem dX12_readBy_88 : decode cX12_readBy 88 = .ok (.iload_n 3, 1) := by decide +kernel
theorem dX12_readBy_89 : decode cX12_readBy 89 = .ok (.iaload, 1) := by decide +kernel
theorem dX12_readBy_90 : decode cX12_readBy 90 = .ok (.goto 9, 3) := by decide +kernel
theorem dX12_readBy_93 : decode cX12_readBy 93 = .ok (.aload_n 0, 1) := by decide +kernel
theorem dX12_readBy_94 : decode cX12_readBy 94 = .ok (.getfield 109, 3) := by decide +kernel
theorem dX12_readBy_97 : decode cX12_readBy 97 = .ok (.iload_n 3, 1) := by decide +kernel
theorem dX12_readBy_98 : decode cX12_readBy 98 = .ok (.iaload, 1) := by decide +kernel
theorem dX12_readBy_99 : decode cX12_readBy 99 = .ok (.bipush 8, 2) := by decide +kernel
theorem dX12_readBy_101 : decode cX12_readBy 101 = .ok (.iload 7, 2) := by decide +kernel
theorem dX12_readBy_103 : decode cX12_readBy 103 = .ok (.imul, 1) := by decide +kernel
theorem dX12_readBy_104 : decode cX12_readBy 104 = .ok (.ishl, 1) := by decide +kernel
theorem dX12_readBy_105 : decode cX12_readBy 105 = .ok (.iadd, 1) := by decide +kernel
theorem dX12_readBy_106 : decode cX12_readBy 106 = .ok (.istore 6, 2) := by decide +kernel
theorem dX12_readBy_108 : decode cX12_readBy 108 = .ok (.iinc 7 1, 3) := by decide +kernel
theorem dX12_readBy_111 : decode cX12_readBy 111 = .ok (.goto (-105), 3) := by decide +kernel
theorem dX12_readBy_114 : decode cX12_readBy 114 = .ok (.iload 6, 2) := by decide +kernel
theorem dX12_readBy_116 : decode cX12_readBy 116 = .ok (.ireturn, 1) := by decide +kernel
set_option maxHeartbeats 4000000 in
set_option maxRecDepth 100000 in
theorem s_X12_readBy {P : PP} {a0 : Nat} {a1 : Int32} {a2 : Int32} {a3 : Int32} {a4 : Int32} {a5 : Int32} (I : IM P a0) (ha1 : 0 ≤ a1.toInt ∧ a1.toInt ≤ 3) (ha2 : 0 ≤ a2.toInt ∧ a2.toInt ≤ 1) (ha3 : 0 ≤ a3.toInt ∧ a3.toInt ≤ 19) (ha5 : 0 ≤ a5.toInt ∧ a5.toInt ≤ 40) (hf0 : ∀ b, pR P a0 10 = some b → 1 ≤ (pI P b (a2.toInt.toNat)).toInt ∧ (pI P b (a2.toInt.toNat)).toInt ≤ 16) (hW : MW P a0) : CtrI yX12_readBy cX12_readBy 9 (some Jvm.ClassFile.FieldType.int) ({ frames := 7, cells := 0, slots := 0, locals := 448 } : Room) 0 0 P [.ref a0, .int a1, .int a2, .int a3, .int a4, .int a5] (fun r P2 => IM P2 a0 ∧ EM [28, 29, 30, 31, 33, 34, 35, 36, 37, 38] a0 P P2 ∧ MW P2 a0 ∧ (True)) := by
  refine enI (lv := [(0, .ref a0), (1, .int a1), (2, .int a2), (3, .int a3), (4, .int a4), (5, .int a5)]) (by decide) (Nat.le_of_ble_eq_true rfl) rfl (fun E D cy C Ci0 ret => ?_)
  have ha0 := I.2.1
  have J6 : ∀ (n6 : Nat) (P6 : PP) (v6_6 : Int32) (v6_7 : Int32), (2 - v6_7.toInt).toNat < n6 → (IM P6 a0) → (EM [28, 29, 30, 31, 33, 34, 35, 36, 37, 38] a0 P P6) → (MW P6 a0) → (0 ≤ v6_7.toInt ∧ v6_7.toInt ≤ 2) → (∀ b, pR P6 a0 10 = some b → 1 ≤ (pI P6 b (a2.toInt.toNat)).toInt ∧ (pI P6 b (a2.toInt.toNat)).toInt ≤ 16) → G E ({ frames := 7, cells := 0, slots := 0, locals := 448 } : Room) D cy 9 P6 0 0 6 [(0, .ref a0), (1, .int a1), (2, .int a2), (3, .int a3), (4, .int a4), (5, .int a5), (6, .int v6_6), (7, .int v6_7)] [] := by
    intro n6
    induction n6 with
    | zero => intro P6 v6_6 v6_7 hm6 I6 X6 W6 hv6_7 hq6_0; omega
    | succ n6 ih6 =>
      intro P6 v6_6 v6_7 hm6 I6 X6 W6 hv6_7 hq6_0
      have h69952 := X6.at ha0
      obtain ⟨b69953, e69954, h69955⟩ := I6.fld (h69952) 10 13 2 rfl
      have hq6_0 := hq6_0 b69953 e69954
      have J99 : ∀ (P99 : PP) (v99_s0 : Int32), (IM P99 a0) → (EM [28, 29, 30, 31, 33, 34, 35, 36, 37, 38] a0 P P99) → (MW P99 a0) → (0 ≤ v6_7.toInt ∧ v6_7.toInt ≤ 1) → (0 ≤ (pI P99 a0 28).toInt ∧ (pI P99 a0 28).toInt ≤ 44) → (∀ b, pR P99 a0 10 = some b → 1 ≤ (pI P99 b (a2.toInt.toNat)).toInt ∧ (pI P99 b (a2.toInt.toNat)).toInt ≤ 16) → G E ({ frames := 7, cells := 0, slots := 0, locals := 448 } : Room) D cy 9 P99 0 0 99 [(0, .ref a0), (1, .int a1), (2, .int a2), (3, .int a3), (4, .int a4), (5, .int a5), (7, .int v6_7)] [.int v99_s0, .int v6_6] := by
        intro P99 v99_s0 I99 X99 W99 hv99_7 hq99_0 hq99_1
        have h69956 := X99.at ha0
        obtain ⟨b69957, e69958, h69959⟩ := I99.fld (h69956) 10 13 2 rfl
        have hq99_1 := hq99_1 b69957 e69958
        refine g_bipush (v := 8) C dX12_readBy_99 (by decide) ?_
        refine g_iload C dX12_readBy_101 6 rfl ?_
        refine s_imul C dX12_readBy_103 (by show -2147483648 ≤ 8 * v6_7.toInt ∧ 8 * v6_7.toInt ≤ 2147483647; omega) (fun z69960 h69961 => ?_)
        have h69961 : z69960.toInt = 8 * v6_7.toInt := h69961
        refine a_ishl C dX12_readBy_104 (fun z69962 => ?_)
        refine a_iadd C dX12_readBy_105 (fun z69964 => ?_)
        refine g_istore (lv' := [(6, .int z69964), (0, .ref a0), (1, .int a1), (2, .int a2), (3, .int a3), (4, .int a4), (5, .int a5), (7, .int v6_7)]) C dX12_readBy_106 (by decide) rfl ?_
        refine s_iinc (lv0 := [(6, .int z69964), (0, .ref a0), (1, .int a1), (2, .int a2), (3, .int a3), (4, .int a4), (5, .int a5)]) (m := 1) C dX12_readBy_108 7 rfl (by decide) rfl (by decide) (by omega) (fun z69966 h69967 => ?_)
        have h69967 : z69966.toInt = v6_7.toInt + 1 := h69967
        refine g_goto C 6 dX12_readBy_111 (by decide) ?_
        refine g_lv (lv' := [(0, .ref a0), (1, .int a1), (2, .int a2), (3, .int a3), (4, .int a4), (5, .int a5), (6, .int z69964), (7, .int z69966)]) [2, 3, 4, 5, 6, 7, 1, 0] rfl ?_
        exact ih6 P99 z69964 z69966 (by omega) I99 X99 W99 (by omega) (fun b9 e9 => by rw [e69958] at e9; cases e9; omega)
      have J68 : ∀ (P68 : PP) (v68_s0 : Int32), (IM P68 a0) → (EM [28, 29, 30, 31, 33, 34, 35, 36, 37, 38] a0 P P68) → (MW P68 a0) → (0 ≤ v6_7.toInt ∧ v6_7.toInt ≤ 1) → (0 ≤ v68_s0.toInt ∧ v68_s0.toInt ≤ 1) → (0 ≤ (pI P68 a0 28).toInt ∧ (pI P68 a0 28).toInt ≤ 44) → (∀ b, pR P68 a0 10 = some b → 1 ≤ (pI P68 b (a2.toInt.toNat)).toInt ∧ (pI P68 b (a2.toInt.toNat)).toInt ≤ 16) → G E ({ frames := 7, cells := 0, slots := 0, locals := 448 } : Room) D cy 9 P68 0 0 68 [(0, .ref a0), (1, .int a1), (2, .int a2), (3, .int a3), (4, .int a4), (5, .int a5), (6, .int v6_6), (7, .int v6_7)] [.int v68_s0] := by
        intro P68 v68_s0 I68 X68 W68 hv68_7 hv68_s0 hq68_0 hq68_1
        have h69968 := X68.at ha0
        obtain ⟨b69969, e69970, h69971⟩ := I68.fld (h69968) 10 13 2 rfl
        have hq68_1 := hq68_1 b69969 e69970
        refine g_istore (lv' := [(8, .int v68_s0), (0, .ref a0), (1, .int a1), (2, .int a2), (3, .int a3), (4, .int a4), (5, .int a5), (6, .int v6_6), (7, .int v6_7)]) C dX12_readBy_68 (by decide) rfl ?_
        refine g_iload C dX12_readBy_70 0 rfl ?_
        refine b_if_ne C 77 dX12_readBy_72 (by decide) (fun h69972 => ?_) (fun h69972 => ?_)
        · have h69972 : v68_s0.toInt ≠ 0 := ti_ne h69972
          refine g_iload C dX12_readBy_77 7 rfl ?_
          refine g_iload C dX12_readBy_79 5 rfl ?_
          have u69974 := ti_rng a4
          refine b_if_ne C 93 dX12_readBy_81 (by decide) (fun h69973 => ?_) (fun h69973 => ?_)
          · have h69973 : a4.toInt ≠ 0 := ti_ne h69973
            refine g_aload_n C dX12_readBy_93 rfl 1 rfl ?_
            obtain ⟨b69975, e69976, h69977⟩ := I68.fld (h69968) 38 13 20 rfl
            refine g_getR C fi_X12_109 rfl e69976 (h69968).1 (h69968).2 dX12_readBy_94 ?_
            refine g_iload_n C dX12_readBy_97 rfl 4 rfl ?_
            refine g_iald (j := (a3.toInt.toNat)) C h69977.1 h69977.2.1 (ix_in h69977.2.2 (by omega)) dX12_readBy_98 ?_
            refine g_lv (lv' := [(0, .ref a0), (1, .int a1), (2, .int a2), (3, .int a3), (4, .int a4), (5, .int a5), (7, .int v6_7)]) [1, 2, 3, 4, 5, 6, 8] rfl ?_
            exact J99 P68 (pI P68 b69975 (a3.toInt.toNat)) I68 X68 W68 (by omega) (by omega) (fun b9 e9 => by rw [e69970] at e9; cases e9; omega)
          · have h69973 : a4.toInt = 0 := congrArg Int32.toInt h69973
            refine g_aload_n C dX12_readBy_84 rfl 1 rfl ?_
            obtain ⟨b69978, e69979, h69980⟩ := I68.fld (h69968) 34 13 20 rfl
            refine g_getR C fi_X12_103 rfl e69979 (h69968).1 (h69968).2 dX12_readBy_85 ?_
            refine g_iload_n C dX12_readBy_88 rfl 4 rfl ?_
            refine g_iald (j := (a3.toInt.toNat)) C h69980.1 h69980.2.1 (ix_in h69980.2.2 (by omega)) dX12_readBy_89 ?_
            refine g_goto C 99 dX12_readBy_90 (by decide) ?_
            refine g_lv (lv' := [(0, .ref a0), (1, .int a1), (2, .int a2), (3, .int a3), (4, .int a4), (5, .int a5), (7, .int v6_7)]) [1, 2, 3, 4, 5, 6, 8] rfl ?_
            exact J99 P68 (pI P68 b69978 (a3.toInt.toNat)) I68 X68 W68 (by omega) (by omega) (fun b9 e9 => by rw [e69970] at e9; cases e9; omega)
        · have h69972 : v68_s0.toInt = 0 := congrArg Int32.toInt h69972
          refine g_iconst (v := (-1)) C dX12_readBy_75 (by decide) ?_
          exact ret _ _ _ _ _ _ dX12_readBy_76 rfl (by decide) (by decide) ⟨I68, X68, W68, trivial⟩
      have J38 : ∀ (P38 : PP), (IM P38 a0) → (EM [28, 29, 30, 31, 33, 34, 35, 36, 37, 38] a0 P P38) → (MW P38 a0) → (0 ≤ v6_7.toInt ∧ v6_7.toInt ≤ 1) → (0 ≤ (pI P38 a0 28).toInt ∧ (pI P38 a0 28).toInt ≤ 44) → (∀ b, pR P38 a0 10 = some b → 1 ≤ (pI P38 b (a2.toInt.toNat)).toInt ∧ (pI P38 b (a2.toInt.toNat)).toInt ≤ 16) → G E ({ frames := 7, cells := 0, slots := 0, locals := 448 } : Room) D cy 9 P38 0 0 38 [(0, .ref a0), (1, .int a1), (2, .int a2), (3, .int a3), (4, .int a4), (5, .int a5), (6, .int v6_6), (7, .int v6_7)] [] := by
        intro P38 I38 X38 W38 hv38_7 hq38_0 hq38_1
        have h69981 := X38.at ha0
        obtain ⟨b69982, e69983, h69984⟩ := I38.fld (h69981) 10 13 2 rfl
        have hq38_1 := hq38_1 b69982 e69983
        refine g_iload C dX12_readBy_38 4 rfl ?_
        have u69986 := ti_rng a4
        refine b_if_ne C 63 dX12_readBy_40 (by decide) (fun h69985 => ?_) (fun h69985 => ?_)
        · have h69985 : a4.toInt ≠ 0 := ti_ne h69985
          refine g_aload_n C dX12_readBy_63 rfl 0 rfl ?_
          refine g_iload_n C dX12_readBy_64 rfl 3 rfl ?_
          refine g_callVI (rest := []) C mv_X12_330 [.int a3] (s_X12_isFixed I38 (by omega) W38) (h69981).1 (h69981).2 rfl rfl (by decide) (Nat.le_of_ble_eq_true rfl) (by decide) dX12_readBy_65 (fun r69987 Y69988 h69989 => ?_)
          obtain ⟨rfl, h69989⟩ := h69989
          have h69989 : 0 ≤ r69987.toInt ∧ r69987.toInt ≤ 1 := h69989
          exact J68 P38 r69987 I38 X38 W38 (by omega) (by omega) (by omega) (fun b9 e9 => by rw [e69983] at e9; cases e9; omega)
        · have h69985 : a4.toInt = 0 := congrArg Int32.toInt h69985
          refine g_aload_n C dX12_readBy_43 rfl 0 rfl ?_
          refine g_getI C fi_X12_318 (by decide) (h69981).1 (h69981).2 dX12_readBy_44 ?_
          refine g_iload_n C dX12_readBy_47 rfl 3 rfl ?_
          refine a_ishr C dX12_readBy_48 (fun z69990 => ?_)
          refine g_iconst (v := 1) C dX12_readBy_49 (by decide) ?_
          refine s_iand C dX12_readBy_50 (by show 0 ≤ 1; omega) (fun z69992 h69993 => ?_)
          have h69993 : 0 ≤ z69992.toInt ∧ z69992.toInt ≤ 1 := h69993
          refine g_iconst (v := 1) C dX12_readBy_51 (by decide) ?_
          refine b_icmp_ne C 59 dX12_readBy_52 (by decide) (fun h69994 => ?_) (fun h69994 => ?_)
          · have h69994 : z69992.toInt ≠ 1 := ti_ne h69994
            refine g_iconst (v := 0) C dX12_readBy_59 (by decide) ?_
            refine g_goto C 68 dX12_readBy_60 (by decide) ?_
            exact J68 P38 0 I38 X38 W38 (by omega) (by decide) (by omega) (fun b9 e9 => by rw [e69983] at e9; cases e9; omega)
          · have h69994 : z69992.toInt = 1 := congrArg Int32.toInt h69994
            refine g_iconst (v := 1) C dX12_readBy_55 (by decide) ?_
            refine g_goto C 68 dX12_readBy_56 (by decide) ?_
            exact J68 P38 1 I38 X38 W38 (by omega) (by decide) (by omega) (fun b9 e9 => by rw [e69983] at e9; cases e9; omega)
      refine g_iload C dX12_readBy_6 7 rfl ?_
      refine g_iconst (v := 2) C dX12_readBy_8 (by decide) ?_
      refine b_icmp_ge C 114 dX12_readBy_9 (by decide) (fun h69995 => ?_) (fun h69995 => ?_)
      · have h69995 : 2 ≤ v6_7.toInt := h69995
        refine g_iload C dX12_readBy_114 6 rfl ?_
        exact ret _ _ _ _ _ _ dX12_readBy_116 rfl (by decide) (by decide) ⟨I6, X6, W6, trivial⟩
      · have h69995 : v6_7.toInt < 2 := h69995
        refine g_aload_n C dX12_readBy_12 rfl 0 rfl ?_
        refine g_iload_n C dX12_readBy_13 rfl 1 rfl ?_
        refine g_iload_n C dX12_readBy_14 rfl 2 rfl ?_
        refine g_iload C dX12_readBy_15 7 rfl ?_
        refine g_iload C dX12_readBy_17 5 rfl ?_
        refine g_callVV (rest := []) C mv_X12_339 [.int a1, .int a2, .int v6_7, .int a5] (s_X12_gathers I6 (by omega) (by omega) (by omega) (fun b9 e9 => by rw [e69954] at e9; cases e9; show 1 ≤ (pI P6 b69953 (a2.toInt.toNat)).toInt ∧ (pI P6 b69953 (a2.toInt.toNat)).toInt ≤ 16; omega) W6) (h69952).1 (h69952).2 rfl rfl (by decide) (Nat.le_of_ble_eq_true rfl) (by decide) dX12_readBy_19 (fun Y69997 h69998 => ?_)
        obtain ⟨Iy69999, Xy70000, W70001, p70002⟩ := h69998
        have p70002 : (pI Y69997 a0 28).toInt ≤ 4 + a5.toInt := p70002
        have q70003 := Xy70000.keepA e69954 (by decide) rfl (a2.toInt.toNat)
        have Xz70004 : EM [28, 29, 30, 31, 33, 34, 35, 36, 37, 38] a0 P Y69997 := EM.tr ha0 X6 (Xy70000.mono (by decide))
        have e70005 := Xy70000.ref h69952 (by decide) e69954
        have h70006 := Xy70000.at h69952
        have h70007 := Xy70000.ar h69955
        have h70008 := Iy69999.rg h70006 28 rfl
        refine g_iload C dX12_readBy_22 4 rfl ?_
        have u70010 := ti_rng a4
        refine b_if_ne C 34 dX12_readBy_24 (by decide) (fun h70009 => ?_) (fun h70009 => ?_)
        · have h70009 : a4.toInt ≠ 0 := ti_ne h70009
          refine g_aload_n C dX12_readBy_34 rfl 0 rfl ?_
          refine g_callVV (rest := []) C mv_X12_346 [] (s_X12_findSolved Iy69999 W70001) (h70006).1 (h70006).2 rfl rfl (by decide) (Nat.le_of_ble_eq_true rfl) (by decide) dX12_readBy_35 (fun Y70012 h70013 => ?_)
          obtain ⟨Iy70014, Xy70015, W70016⟩ := h70013
          have q70017 := Xy70015.keepA e70005 (by decide) rfl (a2.toInt.toNat)
          have q70018 := Xy70015.keepF 28 (by decide)
          have Xz70019 : EM [28, 29, 30, 31, 33, 34, 35, 36, 37, 38] a0 P Y70012 := EM.tr ha0 Xz70004 (Xy70015.mono (by decide))
          have e70020 := Xy70015.ref h70006 (by decide) e70005
          have h70021 := Xy70015.at h70006
          have h70022 := Xy70015.ar h70007
          exact J38 Y70012 Iy70014 Xz70019 W70016 (by omega) (by omega) (fun b9 e9 => by rw [e70020] at e9; cases e9; omega)
        · have h70009 : a4.toInt = 0 := congrArg Int32.toInt h70009
          refine g_aload_n C dX12_readBy_27 rfl 0 rfl ?_
          refine g_callVV (rest := []) C mv_X12_343 [] (s_X12_findPeeled Iy69999 W70001) (h70006).1 (h70006).2 rfl rfl (by decide) (Nat.le_of_ble_eq_true rfl) (by decide) dX12_readBy_28 (fun Y70024 h70025 => ?_)
          obtain ⟨Iy70026, Xy70027, W70028⟩ := h70025
          have q70029 := Xy70027.keepA e70005 (by decide) rfl (a2.toInt.toNat)
          have q70030 := Xy70027.keepF 28 (by decide)
          have Xz70031 : EM [28, 29, 30, 31, 33, 34, 35, 36, 37, 38] a0 P Y70024 := EM.tr ha0 Xz70004 (Xy70027.mono (by decide))
          have e70032 := Xy70027.ref h70006 (by decide) e70005
          have h70033 := Xy70027.at h70006
          have h70034 := Xy70027.ar h70007
          refine g_goto C 38 dX12_readBy_31 (by decide) ?_
          exact J38 Y70024 Iy70026 Xz70031 W70028 (by omega) (by omega) (fun b9 e9 => by rw [e70032] at e9; cases e9; omega)
  obtain ⟨b70035, e70036, h70037⟩ := I.fld (ha0) 10 13 2 rfl
  have hf0 := hf0 b70035 e70036
  refine g_iconst (v := 0) C dX12_readBy_0 (by decide) ?_
  refine g_istore (lv' := [(6, .int 0), (0, .ref a0), (1, .int a1), (2, .int a2), (3, .int a3), (4, .int a4), (5, .int a5)]) C dX12_readBy_1 (by decide) rfl ?_
  refine g_iconst (v := 0) C dX12_readBy_3 (by decide) ?_
  refine g_istore (lv' := [(7, .int 0), (6, .int 0), (0, .ref a0), (1, .int a1), (2, .int a2), (3, .int a3), (4, .int a4), (5, .int a5)]) C dX12_readBy_4 (by decide) rfl ?_
  refine g_lv (lv' := [(0, .ref a0), (1, .int a1), (2, .int a2), (3, .int a3), (4, .int a4), (5, .int a5), (6, .int 0), (7, .int 0)]) [2, 3, 4, 5, 6, 7, 1, 0] rfl ?_
  exact J6 _ P 0 0 (Nat.lt_succ_self _) I EM.rf hW (by decide) (fun b9 e9 => by rw [e70036] at e9; cases e9; omega)
theorem dX12_read_39 : decode cX12_read 39 = .ok (.iconst (-1), 1) := by decide +kernel
theorem dX12_read_40 : decode cX12_read 40 = .ok (.ireturn, 1) := by decide +kernel
theorem dX12_read_60 : decode cX12_read 60 = .ok (.ireturn, 1) := by decide +kernel
set_option maxHeartbeats 4000000 in
set_option maxRecDepth 100000 in
theorem s_X12_read {P : PP} {a0 : Nat} {a1 : Int32} {a2 : Int32} {a3 : Int32} {a4 : Int32} (I : IM P a0) (hW : MW P a0) : CtrI yX12_read cX12_read 5 (some Jvm.ClassFile.FieldType.int) ({ frames := 8, cells := 0, slots := 0, locals := 512 } : Room) 0 0 P [.ref a0, .int a1, .int a2, .int a3, .int a4] (fun r P2 => IM P2 a0 ∧ EM [0, 28, 29, 30, 31, 32, 33, 34, 35, 36, 37, 38] a0 P P2 ∧ MW P2 a0 ∧ (True)) := by
  refine enI (lv := [(0, .ref a0), (1, .int a1), (2, .int a2), (3, .int a3), (4, .int a4)]) (by decide) (Nat.le_of_ble_eq_true rfl) rfl (fun E D cy C Ci0 ret => ?_)
  have ha0 := I.2.1
  have J39 : ∀ (P39 : PP), (IM P39 a0) → (EM [0, 28, 29, 30, 31, 32, 33, 34, 35, 36, 37, 38] a0 P P39) → (MW P39 a0) → (0 ≤ (pI P39 a0 0).toInt ∧ (pI P39 a0 0).toInt ≤ 0) → G E ({ frames := 8, cells := 0, slots := 0, locals := 512 } : Room) D cy 5 P39 0 0 39 [] [] := by
    intro P39 I39 X39 W39 hq39_0
    have h70102 := X39.at ha0
    refine g_iconst (v := (-1)) C dX12_read_39 (by decide) ?_
    exact ret _ _ _ _ _ _ dX12_read_40 rfl (by decide) (by decide) ⟨I39, X39, W39, trivial⟩
  refine g_aload_n C dX12_read_0 rfl 0 rfl ?_
  refine g_iconst (v := 0) C dX12_read_1 (by decide) ?_
  refine g_putI C fi_X12_1 rfl (ha0).1 (ha0).2 dX12_read_2 ?_
  refine gqW (ks := [0]) (I.setI (rgOk.of rfl (by decide))) (EM.setI I (by decide)) (fun Y70103 Iy70104 Xy70105 w70106 => ?_)
  have w70106 : (pI Y70103 a0 0).toInt = 0 := w70106
  have W70107 := hW.keep I Xy70105 (by decide) (by decide) (by decide)
  have Xz70108 : EM [0, 28, 29, 30, 31, 32, 33, 34, 35, 36, 37, 38] a0 P Y70103 := Xy70105.mono (by decide)
  have h70109 := Xy70105.at ha0
  refine g_iload_n C dX12_read_5 rfl 1 rfl ?_
  refine g_callSI (b := 0) (ci := 0) (rest := []) C ms_X12_278 [.int a1] (s_X12_isQuarter Iy70104.1) rfl rfl (by decide) (Nat.le_of_ble_eq_true rfl) (by decide) dX12_read_6 (fun r70110 Y70111 h70112 => ?_)
  obtain ⟨rfl, h70112⟩ := h70112
  obtain ⟨h70112, hi70113⟩ := h70112
  have hi70113 : r70110.toInt = 0 ∨ (((0 : Int) ≤ a1.toInt ∧ a1.toInt ≤ (3 : Int))) := hi70113
  have h70112 : 0 ≤ r70110.toInt ∧ r70110.toInt ≤ 1 := h70112
  refine b_if_eq C 39 dX12_read_9 (by decide) (fun h70114 => ?_) (fun h70114 => ?_)
  · have h70114 : r70110.toInt = 0 := congrArg Int32.toInt h70114
    clear hi70113
    refine g_lv (lv' := []) [] rfl ?_
    exact J39 Y70103 Iy70104 Xz70108 W70107 (by omega)
  · have h70114 : r70110.toInt ≠ 0 := ti_ne h70114
    replace hi70113 := hi70113.resolve_left (by omega)
    refine g_aload_n C dX12_read_12 rfl 0 rfl ?_
    refine g_iload_n C dX12_read_13 rfl 2 rfl ?_
    refine g_callVI (rest := []) C mv_X12_192 [.int a2] (s_X12_isBook Iy70104 W70107) (h70109).1 (h70109).2 rfl rfl (by decide) (Nat.le_of_ble_eq_true rfl) (by decide) dX12_read_14 (fun r70115 Y70116 h70117 => ?_)
    obtain ⟨rfl, h70117⟩ := h70117
    obtain ⟨h70117, hi70118, hi70119⟩ := h70117
    have hi70118 : r70115.toInt = 0 ∨ (((0 : Int) ≤ a2.toInt ∧ a2.toInt ≤ (1 : Int))) := hi70118
    have h70117 : 0 ≤ r70115.toInt ∧ r70115.toInt ≤ 1 := h70117
    refine b_if_eq C 39 dX12_read_17 (by decide) (fun h70120 => ?_) (fun h70120 => ?_)
    · have h70120 : r70115.toInt = 0 := congrArg Int32.toInt h70120
      clear hi70118
      refine g_lv (lv' := []) [] rfl ?_
      exact J39 Y70103 Iy70104 Xz70108 W70107 (by omega)
    · have h70120 : r70115.toInt ≠ 0 := ti_ne h70120
      replace hi70118 := hi70118.resolve_left (by omega)
      obtain ⟨b70121, e70122, h70123⟩ := Iy70104.fld (h70109) 10 13 2 rfl
      have hi70119 := (hi70119.resolve_left (by omega)) b70121 e70122
      have hi70119 : 0 < (pI Y70103 b70121 (a2.toInt.toNat)).toInt := hi70119
      have h70124 := Iy70104.arr e70122 rfl (a2.toInt.toNat)
      refine g_aload_n C dX12_read_20 rfl 0 rfl ?_
      refine g_iload_n C dX12_read_21 rfl 2 rfl ?_
      refine g_iload_n C dX12_read_22 rfl 3 rfl ?_
      refine g_callVI (rest := []) C mv_X12_352 [.int a2, .int a3] (s_X12_isPage Iy70104 (by omega) W70107) (h70109).1 (h70109).2 rfl rfl (by decide) (Nat.le_of_ble_eq_true rfl) (by decide) dX12_read_23 (fun r70125 Y70126 h70127 => ?_)
      obtain ⟨rfl, h70127⟩ := h70127
      obtain ⟨h70127, hi70128⟩ := h70127
      have hi70128 : r70125.toInt = 0 ∨ (((0 : Int) ≤ a3.toInt ∧ a3.toInt ≤ (19 : Int))) := hi70128
      have h70127 : 0 ≤ r70125.toInt ∧ r70125.toInt ≤ 1 := h70127
      refine b_if_eq C 39 dX12_read_26 (by decide) (fun h70129 => ?_) (fun h70129 => ?_)
      · have h70129 : r70125.toInt = 0 := congrArg Int32.toInt h70129
        clear hi70128
        refine g_lv (lv' := []) [] rfl ?_
        exact J39 Y70103 Iy70104 Xz70108 W70107 (by omega)
      · have h70129 : r70125.toInt ≠ 0 := ti_ne h70129
        replace hi70128 := hi70128.resolve_left (by omega)
        refine g_iload C dX12_read_29 4 rfl ?_
        refine g_iconst (v := 0) C dX12_read_31 (by decide) ?_
        refine g_iconst (v := 1) C dX12_read_32 (by decide) ?_
        refine g_callSI (b := 0) (ci := 0) (rest := []) C ms_X12_178 [.int a4, .int 0, .int 1] (s_X12_within Iy70104.1) rfl rfl (by decide) (Nat.le_of_ble_eq_true rfl) (by decide) dX12_read_33 (fun r70130 Y70131 h70132 => ?_)
        obtain ⟨rfl, h70132⟩ := h70132
        obtain ⟨h70132, hi70133⟩ := h70132
        have hi70133 : r70130.toInt = 0 ∨ (0 ≤ a4.toInt ∧ a4.toInt ≤ 1) := hi70133
        have h70132 : 0 ≤ r70130.toInt ∧ r70130.toInt ≤ 1 := h70132
        refine b_if_ne C 41 dX12_read_36 (by decide) (fun h70134 => ?_) (fun h70134 => ?_)
        · have h70134 : r70130.toInt ≠ 0 := ti_ne h70134
          replace hi70133 := hi70133.resolve_left (by omega)
          refine g_aload_n C dX12_read_41 rfl 0 rfl ?_
          refine g_callVV (rest := []) C mv_X12_336 [] (s_X12_leavesNone Iy70104 W70107) (h70109).1 (h70109).2 rfl rfl (by decide) (Nat.le_of_ble_eq_true rfl) (by decide) dX12_read_42 (fun Y70136 h70137 => ?_)
          obtain ⟨Iy70138, Xy70139, W70140⟩ := h70137
          have q70141 := Xy70139.keepF 0 (by decide)
          have q70142 := Xy70139.keepA e70122 (by decide) rfl (a2.toInt.toNat)
          have Xz70143 : EM [0, 28, 29, 30, 31, 32, 33, 34, 35, 36, 37, 38] a0 P Y70136 := EM.tr ha0 Xz70108 (Xy70139.mono (by decide))
          have e70144 := Xy70139.ref h70109 (by decide) e70122
          have h70145 := Xy70139.at h70109
          have h70146 := Xy70139.ar h70123
          refine g_aload_n C dX12_read_45 rfl 0 rfl ?_
          refine g_iload_n C dX12_read_46 rfl 1 rfl ?_
          refine g_iload_n C dX12_read_47 rfl 2 rfl ?_
          refine g_iload_n C dX12_read_48 rfl 3 rfl ?_
          refine g_iload C dX12_read_49 4 rfl ?_
          refine g_aload_n C dX12_read_51 rfl 0 rfl ?_
          obtain ⟨b70147, e70148, h70149⟩ := Iy70138.fld (h70145) 20 13 20 rfl
          refine g_getR C fi_X12_69 rfl e70148 (h70145).1 (h70145).2 dX12_read_52 ?_
          refine g_iload_n C dX12_read_55 rfl 1 rfl ?_
          refine g_iald (j := (a1.toInt.toNat)) C h70149.1 h70149.2.1 (ix_in h70149.2.2 (by omega)) dX12_read_56 ?_
          have h70150 := Iy70138.arr e70148 rfl (a1.toInt.toNat)
          refine g_callVI (rest := []) C mv_X12_355 [.int a1, .int a2, .int a3, .int a4, .int (pI Y70136 b70147 (a1.toInt.toNat))] (s_X12_readBy Iy70138 (by omega) (by omega) (by omega) (by omega) (fun b9 e9 => by rw [e70144] at e9; cases e9; show 1 ≤ (pI Y70136 b70121 (a2.toInt.toNat)).toInt ∧ (pI Y70136 b70121 (a2.toInt.toNat)).toInt ≤ 16; omega) W70140) (h70145).1 (h70145).2 rfl rfl (by decide) (Nat.le_of_ble_eq_true rfl) (by decide) dX12_read_57 (fun r70151 Y70152 h70153 => ?_)
          obtain ⟨Iy70154, Xy70155, W70156, h70153⟩ := h70153
          have q70157 := Xy70155.keepF 0 (by decide)
          have q70158 := Xy70155.keepA e70144 (by decide) rfl (a2.toInt.toNat)
          have q70159 := Xy70155.keepA e70148 (by decide) rfl (a1.toInt.toNat)
          have Xz70160 : EM [0, 28, 29, 30, 31, 32, 33, 34, 35, 36, 37, 38] a0 P Y70152 := EM.tr ha0 Xz70143 (Xy70155.mono (by decide))
          have e70161 := Xy70155.ref h70145 (by decide) e70144
          have e70162 := Xy70155.ref h70145 (by decide) e70148
          have h70163 := Xy70155.at h70145
          have h70164 := Xy70155.ar h70146
          have h70165 := Xy70155.ar h70149
          have h70153 : True := h70153
          exact ret _ _ _ _ _ _ dX12_read_60 rfl (by decide) (by decide) ⟨Iy70154, Xz70160, W70156, trivial⟩
        · have h70134 : r70130.toInt = 0 := congrArg Int32.toInt h70134
          clear hi70133
          refine g_lv (lv' := []) [] rfl ?_
          exact J39 Y70103 Iy70104 Xz70108 W70107 (by omega)
theorem dX12_readLine_0 : decode cX12_readLine 0 = .ok (.aload_n 0, 1) := by decide +kernel
theorem dX12_readLine_1 : decode cX12_readLine 1 = .ok (.iconst 1, 1) := by decide +kernel
theorem dX12_readLine_2 : decode cX12_readLine 2 = .ok (.invokevirtual 172, 3) := by decide +kernel
theorem dX12_readLine_5 : decode cX12_readLine 5 = .ok (.ifCond .eq 12, 3) := by decide +kernel
theorem dX12_readLine_8 : decode cX12_readLine 8 = .ok (.aload_n 0, 1) := by decide +kernel
theorem dX12_readLine_9 : decode cX12_readLine 9 = .ok (.getfield 54, 3) := by decide +kernel
theorem dX12_readLine_12 : decode cX12_readLine 12 = .ok (.iconst 2, 1) := by decide +kernel
theorem dX12_readLine_13 : decode cX12_readLine 13 = .ok (.iaload, 1) := by decide +kernel
theorem dX12_readLine_14 : decode cX12_readLine 14 = .ok (.ifCond .gt 20, 3) := by decide +kernel
theorem dX12_readLine_17 : decode cX12_readLine 17 = .ok (.aload_n 0, 1) := by decide +kernel
theorem dX12_readLine_18 : decode cX12_readLine 18 = .ok (.iconst 3, 1) := by decide +kernel
theorem dX12_readLine_19 : decode cX12_readLine 19 = .ok (.invokevirtual 172, 3) := by decide +kernel
theorem dX12_readLine_22 : decode cX12_readLine 22 = .ok (.ifCond .eq 16, 3) := by decide +kernel
theorem dX12_readLine_25 : decode cX12_readLine 25 = .ok (.aload_n 0, 1) := by decide +kernel
theorem dX12_readLine_26 : decode cX12_readLine 26 = .ok (.getfield 66, 3) := by decide +kernel
theorem dX12_readLine_29 : decode cX12_readLine 29 = .ok (.iconst 2, 1) := by decide +kernel
theorem dX12_readLine_30 : decode cX12_readLine 30 = .ok (.iaload, 1) := by decide +kernel
theorem dX12_readLine_31 : decode cX12_readLine 31 = .ok (.ifCond .le 7, 3) := by decide +kernel
theorem dX12_readLine_34 : decode cX12_readLine 34 = .ok (.iconst 1, 1) := by decide +kernel
theorem dX12_readLine_35 : decode cX12_readLine 35 = .ok (.goto 4, 3) := by decide +kernel
theorem dX12_readLine_38 : decode cX12_readLine 38 = .ok (.iconst 0, 1) := by decide +kernel
theorem dX12_readLine_39 : decode cX12_readLine 39 = .ok (.istore_n 1, 1) := by decide +kernel
theorem dX12_readLine_40 : decode cX12_readLine 40 = .ok (.aload_n 0, 1) := by decide +kernel
theorem dX12_readLine_41 : decode cX12_readLine 41 = .ok (.iconst 0, 1) := by decide +kernel
theorem dX12_readLine_42 : decode cX12_readLine 42 = .ok (.invokevirtual 172, 3) := by decide +kernel
theorem dX12_readLine_45 : decode cX12_readLine 45 = .ok (.ifCond .ne 35, 3) := by decide +kernel
theorem dX12_readLine_48 : decode cX12_readLine 48 = .ok (.aload_n 0, 1) := by decide +kernel
theorem dX12_readLine_49 : decode cX12_readLine 49 = .ok (.iconst 1, 1) := by decide +kernel
theorem dX12_readLine_50 : decode cX12_readLine 50 = .ok (.invokevirtual 172, 3) := by decide +kernel
theorem dX12_readLine_53 : decode cX12_readLine 53 = .ok (.ifCond .ne 27, 3) := by decide +kernel
theorem dX12_readLine_56 : decode cX12_readLine 56 = .ok (.aload_n 0, 1) := by decide +kernel
theorem dX12_readLine_57 : decode cX12_readLine 57 = .ok (.iconst 2, 1) := by decide +kernel
theorem dX12_readLine_58 : decode cX12_readLine 58 = .ok (.invokevirtual 172, 3) := by decide +kernel
theorem dX12_readLine_61 : decode cX12_readLine 61 = .ok (.ifCond .ne 19, 3) := by decide +kernel
theorem dX12_readLine_64 : decode cX12_readLine 64 = .ok (.aload_n 0, 1) := by decide +kernel
theorem dX12_readLine_65 : decode cX12_readLine 65 = .ok (.iconst 3, 1) := by decide +kernel
theorem dX12_readLine_66 : decode cX12_readLine 66 = .ok (.invokevirtual 172, 3) := by decide +kernel
theorem dX12_readLine_69 : decode cX12_readLine 69 = .ok (.ifCond .ne 11, 3) := by decide +kernel
theorem dX12_readLine_72 : decode cX12_readLine 72 = .ok (.aload_n 0, 1) := by decide +kernel
theorem dX12_readLine_73 : decode cX12_readLine 73 = .ok (.iconst 1, 1) := by decide +kernel
theorem dX12_readLine_74 : decode cX12_readLine 74 = .ok (.invokevirtual 168, 3) := by decide +kernel
theorem dX12_wrong_0 : decode cX12_wrong 0 = .ok (.aload_n 0, 1) := by decide +kernel
theorem dX12_wrong_1 : decode cX12_wrong 1 = .ok (.getfield 162, 3) := by decide +kernel
theorem dX12_wrong_4 : decode cX12_wrong 4 = .ok (.ifCond .ne 21, 3) := by decide +kernel
theorem dX12_wrong_7 : decode cX12_wrong 7 = .ok (.aload_n 0, 1) := by decide +kernel
theorem dX12_wrong_8 : decode cX12_wrong 8 = .ok (.iload_n 1, 1) := by decide +kernel
theorem dX12_wrong_9 : decode cX12_wrong 9 = .ok (.bipush 16, 2) := by decide +kernel
theorem dX12_wrong_11 : decode cX12_wrong 11 = .ok (.aload_n 0, 1) := by decide +kernel
theorem dX12_wrong_12 : decode cX12_wrong 12 = .ok (.getfield 27, 3) := by decide +kernel
theorem dX12_wrong_15 : decode cX12_wrong 15 = .ok (.aload_n 0, 1) := by decide +kernel
theorem dX12_wrong_16 : decode cX12_wrong 16 = .ok (.getfield 159, 3) := by decide +kernel
theorem dX12_wrong_19 : decode cX12_wrong 19 = .ok (.iaload, 1) := by decide +kernel
theorem dX12_wrong_20 : decode cX12_wrong 20 = .ok (.imul, 1) := by decide +kernel
theorem dX12_wrong_21 : decode cX12_wrong 21 = .ok (.iadd, 1) := by decide +kernel
theorem dX12_wrong_22 : decode cX12_wrong 22 = .ok (.putfield 162, 3) := by decide +kernel
theorem dX12_wrong_25 : decode cX12_wrong 25 = .ok (.return_, 1) := by decide +kernel
set_option maxHeartbeats 4000000 in
set_option maxRecDepth 100000 in
theorem s_X12_wrong {P : PP} {a0 : Nat} {a1 : Int32} (I : IM P a0) (ha1 : 1 ≤ a1.toInt ∧ a1.toInt ≤ 5) (hW : MW P a0) : CtrV yX12_wrong cX12_wrong 2 none ({ frames := 1, cells := 0, slots := 0, locals := 64 } : Room) 0 0 P [.ref a0, .int a1] (fun P2 => IM P2 a0 ∧ EM [8] a0 P P2 ∧ MW P2 a0) := by
  refine enV (lv := [(0, .ref a0), (1, .int a1)]) (by decide) (Nat.le_of_ble_eq_true rfl) rfl (fun E D cy C Ci0 ret => ?_)
  have ha0 := I.2.1
  refine g_aload_n C dX12_wrong_0 rfl 0 rfl ?_
  refine g_getI C fi_X12_162 (by decide) (ha0).1 (ha0).2 dX12_wrong_1 ?_
  have h70219 := I.rg (ha0) 8 rfl
  refine b_if_ne C 25 dX12_wrong_4 (by decide) (fun h70220 => ?_) (fun h70220 => ?_)
  · have h70220 : (pI P a0 8).toInt ≠ 0 := ti_ne h70220
    exact ret _ _ _ _ _ dX12_wrong_25 (by decide) (by decide) ⟨I, EM.rf, hW⟩
  · have h70220 : (pI P a0 8).toInt = 0 := congrArg Int32.toInt h70220
    refine g_aload_n C dX12_wrong_7 rfl 0 rfl ?_
    refine g_iload_n C dX12_wrong_8 rfl 1 rfl ?_
    refine g_bipush (v := 16) C dX12_wrong_9 (by decide) ?_
    refine g_aload_n C dX12_wrong_11 rfl 0 rfl ?_
    obtain ⟨b70221, e70222, h70223⟩ := I.fld (ha0) 5 13 1002 rfl
    refine g_getR C fi_X12_27 rfl e70222 (ha0).1 (ha0).2 dX12_wrong_12 ?_
    refine g_aload_n C dX12_wrong_15 rfl 0 rfl ?_
    refine g_getI C fi_X12_159 (by decide) (ha0).1 (ha0).2 dX12_wrong_16 ?_
    have h70224 := I.rg (ha0) 7 rfl
    refine g_iald (j := ((pI P a0 7).toInt.toNat)) C h70223.1 h70223.2.1 (ix_in h70223.2.2 (by omega)) dX12_wrong_19 ?_
    have h70225 := I.arr e70222 rfl ((pI P a0 7).toInt.toNat)
    refine s_imul C dX12_wrong_20 (by show -2147483648 ≤ 16 * (pI P b70221 ((pI P a0 7).toInt.toNat)).toInt ∧ 16 * (pI P b70221 ((pI P a0 7).toInt.toNat)).toInt ≤ 2147483647; omega) (fun z70226 h70227 => ?_)
    have h70227 : z70226.toInt = 16 * (pI P b70221 ((pI P a0 7).toInt.toNat)).toInt := h70227
    refine s_iadd C dX12_wrong_21 (by show -2147483648 ≤ a1.toInt + z70226.toInt ∧ a1.toInt + z70226.toInt ≤ 2147483647; omega) (fun z70228 h70229 => ?_)
    have h70229 : z70228.toInt = a1.toInt + z70226.toInt := h70229
    refine g_putI C fi_X12_162 rfl (ha0).1 (ha0).2 dX12_wrong_22 ?_
    refine gqW (ks := [8]) (I.setI (rgOk.of rfl (by omega))) (EM.setI I (by decide)) (fun Y70230 Iy70231 Xy70232 w70233 => ?_)
    have w70233 : (pI Y70230 a0 8).toInt = z70228.toInt := w70233
    have q70234 := Xy70232.keepF 7 (by decide)
    have W70235 := hW.keep I Xy70232 (by decide) (by decide) (by decide)
    have Xz70236 : EM [8] a0 P Y70230 := Xy70232.mono (by decide)
    have h70237 := Xy70232.at ha0
    exact ret _ _ _ _ _ dX12_wrong_25 (by decide) (by decide) ⟨Iy70231, Xz70236, W70235⟩
