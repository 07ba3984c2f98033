theorem dX12_isOut_0 : decode cX12_isOut 0 = .ok (.iconst 0, 1) := by decide +kernel
theorem dX12_isOut_1 : decode cX12_isOut 1 = .ok (.istore_n 2, 1) := by decide +kernel
theorem dX12_isOut_2 : decode cX12_isOut 2 = .ok (.iconst 0, 1) := by decide +kernel
theorem dX12_isOut_3 : decode cX12_isOut 3 = .ok (.istore_n 3, 1) := by decide +kernel
theorem dX12_isOut_4 : decode cX12_isOut 4 = .ok (.iload_n 3, 1) := by decide +kernel
theorem dX12_isOut_5 : decode cX12_isOut 5 = .ok (.iconst 4, 1) := by decide +kernel
theorem dX12_isOut_6 : decode cX12_isOut 6 = .ok (.if_icmp .ge 70, 3) := by decide +kernel
theorem dX12_isOut_9 : decode cX12_isOut 9 = .ok (.iconst 0, 1) := by decide +kernel
theorem dX12_isOut_10 : decode cX12_isOut 10 = .ok (.istore 4, 2) := by decide +kernel
theorem dX12_isOut_12 : decode cX12_isOut 12 = .ok (.iload 4, 2) := by decide +kernel
theorem dX12_isOut_14 : decode cX12_isOut 14 = .ok (.aload_n 0, 1) := by decide +kernel
theorem dX12_isOut_15 : decode cX12_isOut 15 = .ok (.getfield 69, 3) := by decide +kernel
theorem dX12_isOut_18 : decode cX12_isOut 18 = .ok (.iload_n 3, 1) := by decide +kernel
theorem dX12_isOut_19 : decode cX12_isOut 19 = .ok (.iaload, 1) := by decide +kernel
theorem dX12_isOut_20 : decode cX12_isOut 20 = .ok (.if_icmp .ge 50, 3) := by decide +kernel
theorem dX12_isOut_23 : decode cX12_isOut 23 = .ok (.iload_n 2, 1) := by decide +kernel
theorem dX12_isOut_24 : decode cX12_isOut 24 = .ok (.ifCond .ne 34, 3) := by decide +kernel
theorem dX12_isOut_27 : decode cX12_isOut 27 = .ok (.aload_n 0, 1) := by decide +kernel
theorem dX12_isOut_28 : decode cX12_isOut 28 = .ok (.getfield 75, 3) := by decide +kernel
theorem dX12_isOut_31 : decode cX12_isOut 31 = .ok (.bipush 40, 2) := by decide +kernel
theorem dX12_isOut_33 : decode cX12_isOut 33 = .ok (.iload_n 3, 1) := by decide +kernel
theorem dX12_isOut_34 : decode cX12_isOut 34 = .ok (.imul, 1) := by decide +kernel
theorem dX12_isOut_35 : decode cX12_isOut 35 = .ok (.iload 4, 2) := by decide +kernel
theorem dX12_isOut_37 : decode cX12_isOut 37 = .ok (.iadd, 1) := by decide +kernel
theorem dX12_isOut_38 : decode cX12_isOut 38 = .ok (.iaload, 1) := by decide +kernel
theorem dX12_isOut_39 : decode cX12_isOut 39 = .ok (.iload_n 1, 1) := by decide +kernel
theorem dX12_isOut_40 : decode cX12_isOut 40 = .ok (.if_icmp .eq 18, 3) := by decide +kernel
theorem dX12_isOut_43 : decode cX12_isOut 43 = .ok (.aload_n 0, 1) := by decide +kernel
theorem dX12_isOut_44 : decode cX12_isOut 44 = .ok (.getfield 75, 3) := by decide +kernel
theorem dX12_isOut_47 : decode cX12_isOut 47 = .ok (.bipush 40, 2) := by decide +kernel
theorem dX12_isOut_49 : decode cX12_isOut 49 = .ok (.iload_n 3, 1) := by decide +kernel
theorem dX12_isOut_50 : decode cX12_isOut 50 = .ok (.imul, 1) := by decide +kernel
theorem dX12_isOut_51 : decode cX12_isOut 51 = .ok (.iload 4, 2) := by decide +kernel
theorem dX12_isOut_53 : decode cX12_isOut 53 = .ok (.iadd, 1) := by decide +kernel
theorem dX12_isOut_54 : decode cX12_isOut 54 = .ok (.iaload, 1) := by decide +kernel
theorem dX12_isOut_55 : decode cX12_isOut 55 = .ok (.ifCond .ge 7, 3) := by decide +kernel
theorem dX12_isOut_58 : decode cX12_isOut 58 = .ok (.iconst 1, 1) := by decide +kernel
theorem dX12_isOut_59 : decode cX12_isOut 59 = .ok (.goto 4, 3) := by decide +kernel
theorem dX12_isOut_62 : decode cX12_isOut 62 = .ok (.iconst 0, 1) := by decide +kernel
theorem dX12_isOut_63 : decode cX12_isOut 63 = .ok (.istore_n 2, 1) := by decide +kernel
theorem dX12_isOut_64 : decode cX12_isOut 64 = .ok (.iinc 4 1, 3) := by decide +kernel
theorem dX12_isOut_67 : decode cX12_isOut 67 = .ok (.goto (-55), 3) := by decide +kernel
theorem dX12_isOut_70 : decode cX12_isOut 70 = .ok (.iinc 3 1, 3) := by decide +kernel
theorem dX12_isOut_73 : decode cX12_isOut 73 = .ok (.goto (-69), 3) := by decide +kernel
theorem dX12_isOut_76 : decode cX12_isOut 76 = .ok (.iload_n 2, 1) := by decide +kernel
theorem dX12_isOut_77 : decode cX12_isOut 77 = .ok (.ireturn, 1) := by decide +kernel
set_option maxHeartbeats 4000000 in
set_option maxRecDepth 100000 in
theorem s_X12_isOut {P : PP} {a0 : Nat} {a1 : Int32} (I : IM P a0) (hW : MW P a0) : CtrI yX12_isOut cX12_isOut 5 (some Jvm.ClassFile.FieldType.boolean) ({ frames := 1, cells := 0, slots := 0, locals := 64 } : Room) 0 0 P [.ref a0, .int a1] (fun r P2 => P = P2 ∧ (0 ≤ r.toInt ∧ r.toInt ≤ 1)) := by
  refine enI (lv := [(0, .ref a0), (1, .int a1)]) (by decide) (Nat.le_of_ble_eq_true rfl) rfl (fun E D cy C Ci0 ret => ?_)
  have ha0 := I.2.1
  have J4 : ∀ (n4 : Nat) (v4_2 : Int32) (v4_3 : Int32), (4 - v4_3.toInt).toNat < n4 → (0 ≤ v4_2.toInt ∧ v4_2.toInt ≤ 1) → (0 ≤ v4_3.toInt ∧ v4_3.toInt ≤ 4) → G E ({ frames := 1, cells := 0, slots := 0, locals := 64 } : Room) D cy 5 P 0 0 4 [(0, .ref a0), (1, .int a1), (2, .int v4_2), (3, .int v4_3)] [] := by
    intro n4
    induction n4 with
    | zero => intro v4_2 v4_3 hm4 hv4_2 hv4_3; omega
    | succ n4 ih4 =>
      intro v4_2 v4_3 hm4 hv4_2 hv4_3
      have J12 : ∀ (n12 : Nat) (v12_2 : Int32) (v12_4 : Int32), (40 - v12_4.toInt).toNat < n12 → (0 ≤ v12_2.toInt ∧ v12_2.toInt ≤ 1) → (0 ≤ v4_3.toInt ∧ v4_3.toInt ≤ 3) → (0 ≤ v12_4.toInt ∧ v12_4.toInt ≤ 40) → G E ({ frames := 1, cells := 0, slots := 0, locals := 64 } : Room) D cy 5 P 0 0 12 [(0, .ref a0), (1, .int a1), (2, .int v12_2), (3, .int v4_3), (4, .int v12_4)] [] := by
        intro n12
        induction n12 with
        | zero => intro v12_2 v12_4 hm12 hv12_2 hv12_3 hv12_4; omega
        | succ n12 ih12 =>
          intro v12_2 v12_4 hm12 hv12_2 hv12_3 hv12_4
          have J63 : ∀ (v63_s0 : Int32), (0 ≤ v4_3.toInt ∧ v4_3.toInt ≤ 3) → (0 ≤ v12_4.toInt ∧ v12_4.toInt ≤ 39) → (0 ≤ v63_s0.toInt ∧ v63_s0.toInt ≤ 1) → (∀ b, pR P a0 20 = some b → 1 ≤ (pI P b (v4_3.toInt.toNat)).toInt ∧ (pI P b (v4_3.toInt.toNat)).toInt ≤ 40) → G E ({ frames := 1, cells := 0, slots := 0, locals := 64 } : Room) D cy 5 P 0 0 63 [(0, .ref a0), (1, .int a1), (3, .int v4_3), (4, .int v12_4)] [.int v63_s0] := by
            intro v63_s0 hv63_3 hv63_4 hv63_s0 hq63_0
            obtain ⟨b64885, e64886, h64887⟩ := I.fld (ha0) 20 13 20 rfl
            have hq63_0 := hq63_0 b64885 e64886
            refine g_istore_n (lv' := [(2, .int v63_s0), (0, .ref a0), (1, .int a1), (3, .int v4_3), (4, .int v12_4)]) C dX12_isOut_63 rfl (by decide) rfl ?_
            refine s_iinc (lv0 := [(2, .int v63_s0), (0, .ref a0), (1, .int a1), (3, .int v4_3)]) (m := 1) C dX12_isOut_64 4 rfl (by decide) rfl (by decide) (by omega) (fun z64888 h64889 => ?_)
            have h64889 : z64888.toInt = v12_4.toInt + 1 := h64889
            refine g_goto C 12 dX12_isOut_67 (by decide) ?_
            refine g_lv (lv' := [(0, .ref a0), (1, .int a1), (2, .int v63_s0), (3, .int v4_3), (4, .int z64888)]) [2, 3, 1, 4, 0] rfl ?_
            exact ih12 v63_s0 z64888 (by omega) (by omega) (by omega) (by omega)
          have J58 : (0 ≤ v4_3.toInt ∧ v4_3.toInt ≤ 3) → (0 ≤ v12_4.toInt ∧ v12_4.toInt ≤ 39) → (∀ b, pR P a0 20 = some b → 1 ≤ (pI P b (v4_3.toInt.toNat)).toInt ∧ (pI P b (v4_3.toInt.toNat)).toInt ≤ 40) → G E ({ frames := 1, cells := 0, slots := 0, locals := 64 } : Room) D cy 5 P 0 0 58 [(0, .ref a0), (1, .int a1), (3, .int v4_3), (4, .int v12_4)] [] := by
            intro hv58_3 hv58_4 hq58_0
            obtain ⟨b64890, e64891, h64892⟩ := I.fld (ha0) 20 13 20 rfl
            have hq58_0 := hq58_0 b64890 e64891
            refine g_iconst (v := 1) C dX12_isOut_58 (by decide) ?_
            refine g_goto C 63 dX12_isOut_59 (by decide) ?_
            exact J63 1 (by omega) (by omega) (by decide) (fun b9 e9 => by rw [e64891] at e9; cases e9; omega)
          refine g_iload C dX12_isOut_12 4 rfl ?_
          refine g_aload_n C dX12_isOut_14 rfl 0 rfl ?_
          obtain ⟨b64893, e64894, h64895⟩ := I.fld (ha0) 20 13 20 rfl
          refine g_getR C fi_X12_69 rfl e64894 (ha0).1 (ha0).2 dX12_isOut_15 ?_
          refine g_iload_n C dX12_isOut_18 rfl 3 rfl ?_
          refine g_iald (j := (v4_3.toInt.toNat)) C h64895.1 h64895.2.1 (ix_in h64895.2.2 (by omega)) dX12_isOut_19 ?_
          have h64896 := I.arr e64894 rfl (v4_3.toInt.toNat)
          refine b_icmp_ge C 70 dX12_isOut_20 (by decide) (fun h64897 => ?_) (fun h64897 => ?_)
          · have h64897 : (pI P b64893 (v4_3.toInt.toNat)).toInt ≤ v12_4.toInt := h64897
            refine s_iinc (lv0 := [(0, .ref a0), (1, .int a1), (2, .int v12_2), (4, .int v12_4)]) (m := 1) C dX12_isOut_70 3 rfl (by decide) rfl (by decide) (by omega) (fun z64898 h64899 => ?_)
            have h64899 : z64898.toInt = v4_3.toInt + 1 := h64899
            refine g_goto C 4 dX12_isOut_73 (by decide) ?_
            refine g_lv (lv' := [(0, .ref a0), (1, .int a1), (2, .int v12_2), (3, .int z64898)]) [1, 2, 3, 0] rfl ?_
            exact ih4 v12_2 z64898 (by omega) (by omega) (by omega)
          · have h64897 : v12_4.toInt < (pI P b64893 (v4_3.toInt.toNat)).toInt := h64897
            refine g_iload_n C dX12_isOut_23 rfl 2 rfl ?_
            refine b_if_ne C 58 dX12_isOut_24 (by decide) (fun h64900 => ?_) (fun h64900 => ?_)
            · have h64900 : v12_2.toInt ≠ 0 := ti_ne h64900
              refine g_lv (lv' := [(0, .ref a0), (1, .int a1), (3, .int v4_3), (4, .int v12_4)]) [0, 1, 3, 4] rfl ?_
              exact J58 (by omega) (by omega) (fun b9 e9 => by rw [e64894] at e9; cases e9; omega)
            · have h64900 : v12_2.toInt = 0 := congrArg Int32.toInt h64900
              refine g_aload_n C dX12_isOut_27 rfl 0 rfl ?_
              obtain ⟨b64901, e64902, h64903⟩ := I.fld (ha0) 22 13 800 rfl
              refine g_getR C fi_X12_75 rfl e64902 (ha0).1 (ha0).2 dX12_isOut_28 ?_
              refine g_bipush (v := 40) C dX12_isOut_31 (by decide) ?_
              refine g_iload_n C dX12_isOut_33 rfl 3 rfl ?_
              refine s_imul C dX12_isOut_34 (by show -2147483648 ≤ 40 * v4_3.toInt ∧ 40 * v4_3.toInt ≤ 2147483647; omega) (fun z64904 h64905 => ?_)
              have h64905 : z64904.toInt = 40 * v4_3.toInt := h64905
              refine g_iload C dX12_isOut_35 4 rfl ?_
              refine s_iadd C dX12_isOut_37 (by show -2147483648 ≤ z64904.toInt + v12_4.toInt ∧ z64904.toInt + v12_4.toInt ≤ 2147483647; omega) (fun z64906 h64907 => ?_)
              have h64907 : z64906.toInt = z64904.toInt + v12_4.toInt := h64907
              refine g_iald (j := (z64906.toInt.toNat)) C h64903.1 h64903.2.1 (ix_in h64903.2.2 (by omega)) dX12_isOut_38 ?_
              have h64908 := I.arr e64902 rfl (z64906.toInt.toNat)
              refine g_iload_n C dX12_isOut_39 rfl 1 rfl ?_
              have u64910 := ti_rng a1
              refine b_icmp_eq C 58 dX12_isOut_40 (by decide) (fun h64909 => ?_) (fun h64909 => ?_)
              · have h64909 : (pI P b64901 (z64906.toInt.toNat)).toInt = a1.toInt := congrArg Int32.toInt h64909
                refine g_lv (lv' := [(0, .ref a0), (1, .int a1), (3, .int v4_3), (4, .int v12_4)]) [0, 1, 3, 4] rfl ?_
                exact J58 (by omega) (by omega) (fun b9 e9 => by rw [e64894] at e9; cases e9; omega)
              · have h64909 : (pI P b64901 (z64906.toInt.toNat)).toInt ≠ a1.toInt := ti_ne h64909
                refine g_aload_n C dX12_isOut_43 rfl 0 rfl ?_
                refine g_getR C fi_X12_75 rfl e64902 (ha0).1 (ha0).2 dX12_isOut_44 ?_
                refine g_bipush (v := 40) C dX12_isOut_47 (by decide) ?_
                refine g_iload_n C dX12_isOut_49 rfl 3 rfl ?_
                refine s_imul C dX12_isOut_50 (by show -2147483648 ≤ 40 * v4_3.toInt ∧ 40 * v4_3.toInt ≤ 2147483647; omega) (fun z64911 h64912 => ?_)
                have h64912 : z64911.toInt = 40 * v4_3.toInt := h64912
                refine g_iload C dX12_isOut_51 4 rfl ?_
                refine s_iadd C dX12_isOut_53 (by show -2147483648 ≤ z64911.toInt + v12_4.toInt ∧ z64911.toInt + v12_4.toInt ≤ 2147483647; omega) (fun z64913 h64914 => ?_)
                have h64914 : z64913.toInt = z64911.toInt + v12_4.toInt := h64914
                refine g_iald (j := (z64913.toInt.toNat)) C h64903.1 h64903.2.1 (ix_in h64903.2.2 (by omega)) dX12_isOut_54 ?_
                have h64915 := I.arr e64902 rfl (z64913.toInt.toNat)
                refine b_if_ge C 62 dX12_isOut_55 (by decide) (fun h64916 => ?_) (fun h64916 => ?_)
                · have h64916 : 0 ≤ (pI P b64901 (z64913.toInt.toNat)).toInt := h64916
                  refine g_iconst (v := 0) C dX12_isOut_62 (by decide) ?_
                  refine g_lv (lv' := [(0, .ref a0), (1, .int a1), (3, .int v4_3), (4, .int v12_4)]) [0, 1, 3, 4] rfl ?_
                  exact J63 0 (by omega) (by omega) (by decide) (fun b9 e9 => by rw [e64894] at e9; cases e9; omega)
                · have h64916 : (pI P b64901 (z64913.toInt.toNat)).toInt < 0 := h64916
                  refine g_lv (lv' := [(0, .ref a0), (1, .int a1), (3, .int v4_3), (4, .int v12_4)]) [0, 1, 3, 4] rfl ?_
                  exact J58 (by omega) (by omega) (fun b9 e9 => by rw [e64894] at e9; cases e9; omega)
      refine g_iload_n C dX12_isOut_4 rfl 3 rfl ?_
      refine g_iconst (v := 4) C dX12_isOut_5 (by decide) ?_
      refine b_icmp_ge C 76 dX12_isOut_6 (by decide) (fun h64917 => ?_) (fun h64917 => ?_)
      · have h64917 : 4 ≤ v4_3.toInt := h64917
        refine g_iload_n C dX12_isOut_76 rfl 2 rfl ?_
        exact ret _ _ _ _ _ _ dX12_isOut_77 (nar_b (b01 (by omega))) (by decide) (by decide) ⟨rfl, (by omega)⟩
      · have h64917 : v4_3.toInt < 4 := h64917
        refine g_iconst (v := 0) C dX12_isOut_9 (by decide) ?_
        refine g_istore (lv' := [(4, .int 0), (0, .ref a0), (1, .int a1), (2, .int v4_2), (3, .int v4_3)]) C dX12_isOut_10 (by decide) rfl ?_
        refine g_lv (lv' := [(0, .ref a0), (1, .int a1), (2, .int v4_2), (3, .int v4_3), (4, .int 0)]) [1, 2, 3, 4, 0] rfl ?_
        exact J12 _ v4_2 0 (Nat.lt_succ_self _) (by omega) (by omega) (by decide)
  refine g_iconst (v := 0) C dX12_isOut_0 (by decide) ?_
  refine g_istore_n (lv' := [(2, .int 0), (0, .ref a0), (1, .int a1)]) C dX12_isOut_1 rfl (by decide) rfl ?_
  refine g_iconst (v := 0) C dX12_isOut_2 (by decide) ?_
  refine g_istore_n (lv' := [(3, .int 0), (2, .int 0), (0, .ref a0), (1, .int a1)]) C dX12_isOut_3 rfl (by decide) rfl ?_
  refine g_lv (lv' := [(0, .ref a0), (1, .int a1), (2, .int 0), (3, .int 0)]) [2, 3, 1, 0] rfl ?_
  exact J4 _ 0 0 (Nat.lt_succ_self _) (by decide) (by decide)
theorem dX12_isSign_0 : decode cX12_isSign 0 = .ok (.aload_n 0, 1) := by decide +kernel
theorem dX12_isSign_1 : decode cX12_isSign 1 = .ok (.getfield 162, 3) := by decide +kernel
theorem dX12_isSign_4 : decode cX12_isSign 4 = .ok (.ifCond .ne 35, 3) := by decide +kernel
theorem dX12_isSign_7 : decode cX12_isSign 7 = .ok (.aload_n 0, 1) := by decide +kernel
theorem dX12_isSign_8 : decode cX12_isSign 8 = .ok (.getfield 24, 3) := by decide +kernel
theorem dX12_isSign_11 : decode cX12_isSign 11 = .ok (.aload_n 0, 1) := by decide +kernel
theorem dX12_isSign_12 : decode cX12_isSign 12 = .ok (.getfield 159, 3) := by decide +kernel
theorem dX12_isSign_15 : decode cX12_isSign 15 = .ok (.iaload, 1) := by decide +kernel
theorem dX12_isSign_16 : decode cX12_isSign 16 = .ok (.iconst 3, 1) := by decide +kernel
theorem dX12_isSign_17 : decode cX12_isSign 17 = .ok (.if_icmp .ne 22, 3) := by decide +kernel
theorem dX12_isSign_20 : decode cX12_isSign 20 = .ok (.aload_n 0, 1) := by decide +kernel
theorem dX12_isSign_21 : decode cX12_isSign 21 = .ok (.getfield 30, 3) := by decide +kernel
theorem dX12_isSign_24 : decode cX12_isSign 24 = .ok (.aload_n 0, 1) := by decide +kernel
theorem dX12_isSign_25 : decode cX12_isSign 25 = .ok (.getfield 159, 3) := by decide +kernel
theorem dX12_isSign_28 : decode cX12_isSign 28 = .ok (.laload, 1) := by decide +kernel
theorem dX12_isSign_29 : decode cX12_isSign 29 = .ok (.iload_n 1, 1) := by decide +kernel
theorem dX12_isSign_30 : decode cX12_isSign 30 = .ok (.i2l, 1) := by decide +kernel
theorem dX12_isSign_31 : decode cX12_isSign 31 = .ok (.lcmp, 1) := by decide +kernel
theorem dX12_isSign_32 : decode cX12_isSign 32 = .ok (.ifCond .ne 7, 3) := by decide +kernel
theorem dX12_isSign_35 : decode cX12_isSign 35 = .ok (.iconst 1, 1) := by decide +kernel
theorem dX12_isSign_36 : decode cX12_isSign 36 = .ok (.goto 4, 3) := by decide +kernel
theorem dX12_isSign_39 : decode cX12_isSign 39 = .ok (.iconst 0, 1) := by decide +kernel
theorem dX12_isSign_40 : decode cX12_isSign 40 = .ok (.ireturn, 1) := by decide +kernel
set_option maxHeartbeats 4000000 in
set_option maxRecDepth 100000 in
theorem s_X12_isSign {P : PP} {a0 : Nat} {a1 : Int32} (I : IM P a0) (hW : MW P a0) : CtrI yX12_isSign cX12_isSign 2 (some Jvm.ClassFile.FieldType.boolean) ({ frames := 1, cells := 0, slots := 0, locals := 64 } : Room) 0 0 P [.ref a0, .int a1] (fun r P2 => P = P2 ∧ (0 ≤ r.toInt ∧ r.toInt ≤ 1)) := by
  refine enI (lv := [(0, .ref a0), (1, .int a1)]) (by decide) (Nat.le_of_ble_eq_true rfl) rfl (fun E D cy C Ci0 ret => ?_)
  have ha0 := I.2.1
  have J39 : (0 ≤ (pI P a0 8).toInt ∧ (pI P a0 8).toInt ≤ 16005) → G E ({ frames := 1, cells := 0, slots := 0, locals := 64 } : Room) D cy 2 P 0 0 39 [] [] := by
    intro hq39_0
    refine g_iconst (v := 0) C dX12_isSign_39 (by decide) ?_
    exact ret _ _ _ _ _ _ dX12_isSign_40 rfl (by decide) (by decide) ⟨rfl, (by decide)⟩
  refine g_aload_n C dX12_isSign_0 rfl 0 rfl ?_
  refine g_getI C fi_X12_162 (by decide) (ha0).1 (ha0).2 dX12_isSign_1 ?_
  have h64934 := I.rg (ha0) 8 rfl
  refine b_if_ne C 39 dX12_isSign_4 (by decide) (fun h64935 => ?_) (fun h64935 => ?_)
  · have h64935 : (pI P a0 8).toInt ≠ 0 := ti_ne h64935
    refine g_lv (lv' := []) [] rfl ?_
    exact J39 (by omega)
  · have h64935 : (pI P a0 8).toInt = 0 := congrArg Int32.toInt h64935
    refine g_aload_n C dX12_isSign_7 rfl 0 rfl ?_
    obtain ⟨b64936, e64937, h64938⟩ := I.fld (ha0) 4 13 1002 rfl
    refine g_getR C fi_X12_24 rfl e64937 (ha0).1 (ha0).2 dX12_isSign_8 ?_
    refine g_aload_n C dX12_isSign_11 rfl 0 rfl ?_
    refine g_getI C fi_X12_159 (by decide) (ha0).1 (ha0).2 dX12_isSign_12 ?_
    have h64939 := I.rg (ha0) 7 rfl
    refine g_iald (j := ((pI P a0 7).toInt.toNat)) C h64938.1 h64938.2.1 (ix_in h64938.2.2 (by omega)) dX12_isSign_15 ?_
    have h64940 := I.arr e64937 rfl ((pI P a0 7).toInt.toNat)
    refine g_iconst (v := 3) C dX12_isSign_16 (by decide) ?_
    refine b_icmp_ne C 39 dX12_isSign_17 (by decide) (fun h64941 => ?_) (fun h64941 => ?_)
    · have h64941 : (pI P b64936 ((pI P a0 7).toInt.toNat)).toInt ≠ 3 := ti_ne h64941
      refine g_lv (lv' := []) [] rfl ?_
      exact J39 (by omega)
    · have h64941 : (pI P b64936 ((pI P a0 7).toInt.toNat)).toInt = 3 := congrArg Int32.toInt h64941
      refine g_aload_n C dX12_isSign_20 rfl 0 rfl ?_
      obtain ⟨b64942, e64943, h64944⟩ := I.fld (ha0) 6 14 1002 rfl
      refine g_getR C fi_X12_30 rfl e64943 (ha0).1 (ha0).2 dX12_isSign_21 ?_
      refine g_aload_n C dX12_isSign_24 rfl 0 rfl ?_
      refine g_getI C fi_X12_159 (by decide) (ha0).1 (ha0).2 dX12_isSign_25 ?_
      refine g_lald (j := ((pI P a0 7).toInt.toNat)) C h64944.1 h64944.2.1 (ix_in h64944.2.2 (by omega)) dX12_isSign_28 ?_
      refine g_topl (fun l64945 _ => ?_)
      refine g_iload_n C dX12_isSign_29 rfl 1 rfl ?_
      refine a_i2l C dX12_isSign_30 (fun l64946 => ?_)
      refine a_lcmp C dX12_isSign_31 (fun z64947 => ?_)
      have u64949 := ti_rng z64947
      refine b_if_ne C 39 dX12_isSign_32 (by decide) (fun h64948 => ?_) (fun h64948 => ?_)
      · have h64948 : z64947.toInt ≠ 0 := ti_ne h64948
        refine g_lv (lv' := []) [] rfl ?_
        exact J39 (by omega)
      · have h64948 : z64947.toInt = 0 := congrArg Int32.toInt h64948
        refine g_iconst (v := 1) C dX12_isSign_35 (by decide) ?_
        refine g_goto C 40 dX12_isSign_36 (by decide) ?_
        exact ret _ _ _ _ _ _ dX12_isSign_40 rfl (by decide) (by decide) ⟨rfl, (by decide)⟩
theorem dX12_leaflet_0 : decode cX12_leaflet 0 = .ok (.aload_n 0, 1) := by decide +kernel
theorem dX12_leaflet_1 : decode cX12_leaflet 1 = .ok (.iconst 0, 1) := by decide +kernel
theorem dX12_leaflet_2 : decode cX12_leaflet 2 = .ok (.putfield 1, 3) := by decide +kernel
theorem dX12_leaflet_5 : decode cX12_leaflet 5 = .ok (.aload_n 0, 1) := by decide +kernel
theorem dX12_leaflet_6 : decode cX12_leaflet 6 = .ok (.iload_n 1, 1) := by decide +kernel
theorem dX12_leaflet_7 : decode cX12_leaflet 7 = .ok (.invokevirtual 192, 3) := by decide +kernel
theorem dX12_leaflet_10 : decode cX12_leaflet 10 = .ok (.ifCond .eq 19, 3) := by decide +kernel
theorem dX12_leaflet_13 : decode cX12_leaflet 13 = .ok (.iload_n 2, 1) := by decide +kernel
theorem dX12_leaflet_14 : decode cX12_leaflet 14 = .ok (.invokestatic 258, 3) := by decide +kernel
theorem dX12_leaflet_17 : decode cX12_leaflet 17 = .ok (.ifCond .eq 12, 3) := by decide +kernel
theorem dX12_leaflet_20 : decode cX12_leaflet 20 = .ok (.iload_n 3, 1) := by decide +kernel
theorem dX12_leaflet_21 : decode cX12_leaflet 21 = .ok (.iconst 0, 1) := by decide +kernel
theorem dX12_leaflet_22 : decode cX12_leaflet 22 = .ok (.iconst 3, 1) := by decide +kernel
theorem dX12_leaflet_23 : decode cX12_leaflet 23 = .ok (.invokestatic 178, 3) := by decide +kernel
theorem dX12_leaflet_26 : decode cX12_leaflet 26 = .ok (.ifCond .ne 5, 3) := by decide +kernel
theorem dX12_leaflet_29 : decode cX12_leaflet 29 = .ok (.iconst (-1), 1) := by decide +kernel
theorem dX12_leaflet_30 : decode cX12_leaflet 30 = .ok (.ireturn, 1) := by decide +kernel
theorem dX12_leaflet_31 : decode cX12_leaflet 31 = .ok (.aload_n 0, 1) := by decide +kernel
theorem dX12_leaflet_32 : decode cX12_leaflet 32 = .ok (.iload_n 1, 1) := by decide +kernel
theorem dX12_leaflet_33 : decode cX12_leaflet 33 = .ok (.iload_n 2, 1) := by decide +kernel
theorem dX12_leaflet_34 : decode cX12_leaflet 34 = .ok (.invokevirtual 261, 3) := by decide +kernel
theorem dX12_leaflet_37 : decode cX12_leaflet 37 = .ok (.istore 4, 2) := by decide +kernel
theorem dX12_leaflet_39 : decode cX12_leaflet 39 = .ok (.iload_n 3, 1) := by decide +kernel
theorem dX12_leaflet_40 : decode cX12_leaflet 40 = .ok (.ifCond .ne 8, 3) := by decide +kernel
theorem dX12_leaflet_43 : decode cX12_leaflet 43 = .ok (.iload 4, 2) := by decide +kernel
theorem dX12_leaflet_45 : decode cX12_leaflet 45 = .ok (.goto 44, 3) := by decide +kernel
theorem dX12_leaflet_48 : decode cX12_leaflet 48 = .ok (.iload_n 3, 1) := by decide +kernel
theorem dX12_leaflet_49 : decode cX12_leaflet 49 = .ok (.iconst 3, 1) := by decide +kernel
theorem dX12_leaflet_50 : decode cX12_leaflet 50 = .ok (.if_icmp .ne 11, 3) := by decide +kernel
theorem dX12_leaflet_53 : decode cX12_leaflet 53 = .ok (.iload 4, 2) := by decide +kernel
theorem dX12_leaflet_55 : decode cX12_leaflet 55 = .ok (.invokestatic 264, 3) := by decide +kernel
theorem dX12_leaflet_58 : decode cX12_leaflet 58 = .ok (.goto 31, 3) := by decide +kernel
theorem dX12_leaflet_61 : decode cX12_leaflet 61 = .ok (.iload_n 3, 1) := by decide +kernel
theorem dX12_leaflet_62 : decode cX12_leaflet 62 = .ok (.iconst 1, 1) := by decide +kernel
theorem dX12_leaflet_63 : decode cX12_leaflet 63 = .ok (.if_icmp .ne 13, 3) := by decide +kernel
theorem dX12_leaflet_66 : decode cX12_leaflet 66 = .ok (.aload_n 0, 1) := by decide +kernel
theorem dX12_leaflet_67 : decode cX12_leaflet 67 = .ok (.iload_n 1, 1) := by decide +kernel
theorem dX12_leaflet_68 : decode cX12_leaflet 68 = .ok (.iload 4, 2) := by decide +kernel
theorem dX12_leaflet_70 : decode cX12_leaflet 70 = .ok (.invokevirtual 223, 3) := by decide +kernel
theorem dX12_leaflet_73 : decode cX12_leaflet 73 = .ok (.goto 16, 3) := by decide +kernel
theorem dX12_leaflet_76 : decode cX12_leaflet 76 = .ok (.aload_n 0, 1) := by decide +kernel
theorem dX12_leaflet_77 : decode cX12_leaflet 77 = .ok (.iload_n 1, 1) := by decide +kernel
theorem dX12_leaflet_78 : decode cX12_leaflet 78 = .ok (.iload_n 2, 1) := by decide +kernel
theorem dX12_leaflet_79 : decode cX12_leaflet 79 = .ok (.aload_n 0, 1) := by decide +kernel
theorem dX12_leaflet_80 : decode cX12_leaflet 80 = .ok (.iload_n 1, 1) := by decide +kernel
theorem dX12_leaflet_81 : decode cX12_leaflet 81 = .ok (.iload 4, 2) := by decide +kernel
theorem dX12_leaflet_83 : decode cX12_leaflet 83 = .ok (.invokevirtual 223, 3) := by decide +kernel
theorem dX12_leaflet_86 : decode cX12_leaflet 86 = .ok (.invokevirtual 267, 3) := by decide +kernel
theorem dX12_leaflet_89 : decode cX12_leaflet 89 = .ok (.ireturn, 1) := by decide +kernel
set_option maxHeartbeats 4000000 in
set_option maxRecDepth 100000 in
theorem s_X12_leaflet {P : PP} {a0 : Nat} {a1 : Int32} {a2 : Int32} {a3 : Int32} (I : IM P a0) (hW : MW P a0) : CtrI yX12_leaflet cX12_leaflet 5 (some Jvm.ClassFile.FieldType.int) ({ frames := 6, cells := 0, slots := 0, locals := 384 } : Room) 0 0 P [.ref a0, .int a1, .int a2, .int a3] (fun r P2 => IM P2 a0 ∧ EM [0] a0 P P2 ∧ MW P2 a0 ∧ (True)) := by
  refine enI (lv := [(0, .ref a0), (1, .int a1), (2, .int a2), (3, .int a3)]) (by decide) (Nat.le_of_ble_eq_true rfl) rfl (fun E D cy C Ci0 ret => ?_)
  have ha0 := I.2.1
  have J29 : ∀ (P29 : PP), (IM P29 a0) → (EM [0] a0 P P29) → (MW P29 a0) → (0 ≤ (pI P29 a0 0).toInt ∧ (pI P29 a0 0).toInt ≤ 0) → G E ({ frames := 6, cells := 0, slots := 0, locals := 384 } : Room) D cy 5 P29 0 0 29 [] [] := by
    intro P29 I29 X29 W29 hq29_0
    have h65005 := X29.at ha0
    refine g_iconst (v := (-1)) C dX12_leaflet_29 (by decide) ?_
    exact ret _ _ _ _ _ _ dX12_leaflet_30 rfl (by decide) (by decide) ⟨I29, X29, W29, trivial⟩
  refine g_aload_n C dX12_leaflet_0 rfl 0 rfl ?_
  refine g_iconst (v := 0) C dX12_leaflet_1 (by decide) ?_
  refine g_putI C fi_X12_1 rfl (ha0).1 (ha0).2 dX12_leaflet_2 ?_
  refine gqW (ks := [0]) (I.setI (rgOk.of rfl (by decide))) (EM.setI I (by decide)) (fun Y65006 Iy65007 Xy65008 w65009 => ?_)
  have w65009 : (pI Y65006 a0 0).toInt = 0 := w65009
  have W65010 := hW.keep I Xy65008 (by decide) (by decide) (by decide)
  have Xz65011 : EM [0] a0 P Y65006 := Xy65008.mono (by decide)
  have h65012 := Xy65008.at ha0
  refine g_aload_n C dX12_leaflet_5 rfl 0 rfl ?_
  refine g_iload_n C dX12_leaflet_6 rfl 1 rfl ?_
  refine g_callVI (rest := []) C mv_X12_192 [.int a1] (s_X12_isBook Iy65007 W65010) (h65012).1 (h65012).2 rfl rfl (by decide) (Nat.le_of_ble_eq_true rfl) (by decide) dX12_leaflet_7 (fun r65013 Y65014 h65015 => ?_)
  obtain ⟨rfl, h65015⟩ := h65015
  obtain ⟨h65015, hi65016, hi65017⟩ := h65015
  have hi65016 : r65013.toInt = 0 ∨ (((0 : Int) ≤ a1.toInt ∧ a1.toInt ≤ (1 : Int))) := hi65016
  have h65015 : 0 ≤ r65013.toInt ∧ r65013.toInt ≤ 1 := h65015
  refine b_if_eq C 29 dX12_leaflet_10 (by decide) (fun h65018 => ?_) (fun h65018 => ?_)
  · have h65018 : r65013.toInt = 0 := congrArg Int32.toInt h65018
    clear hi65016
    refine g_lv (lv' := []) [] rfl ?_
    exact J29 Y65006 Iy65007 Xz65011 W65010 (by omega)
  · have h65018 : r65013.toInt ≠ 0 := ti_ne h65018
    replace hi65016 := hi65016.resolve_left (by omega)
    obtain ⟨b65019, e65020, h65021⟩ := Iy65007.fld (h65012) 10 13 2 rfl
    have hi65017 := (hi65017.resolve_left (by omega)) b65019 e65020
    have hi65017 : 0 < (pI Y65006 b65019 (a1.toInt.toNat)).toInt := hi65017
    have h65022 := Iy65007.arr e65020 rfl (a1.toInt.toNat)
    refine g_iload_n C dX12_leaflet_13 rfl 2 rfl ?_
    refine g_callSI (b := 0) (ci := 0) (rest := []) C ms_X12_258 [.int a2] (s_X12_isNumber Iy65007.1) rfl rfl (by decide) (Nat.le_of_ble_eq_true rfl) (by decide) dX12_leaflet_14 (fun r65023 Y65024 h65025 => ?_)
    obtain ⟨rfl, h65025⟩ := h65025
    obtain ⟨h65025, hi65026⟩ := h65025
    have hi65026 : r65023.toInt = 0 ∨ (((0 : Int) ≤ a2.toInt ∧ a2.toInt ≤ (9999 : Int))) := hi65026
    have h65025 : 0 ≤ r65023.toInt ∧ r65023.toInt ≤ 1 := h65025
    refine b_if_eq C 29 dX12_leaflet_17 (by decide) (fun h65027 => ?_) (fun h65027 => ?_)
    · have h65027 : r65023.toInt = 0 := congrArg Int32.toInt h65027
      clear hi65026
      refine g_lv (lv' := []) [] rfl ?_
      exact J29 Y65006 Iy65007 Xz65011 W65010 (by omega)
    · have h65027 : r65023.toInt ≠ 0 := ti_ne h65027
      replace hi65026 := hi65026.resolve_left (by omega)
      refine g_iload_n C dX12_leaflet_20 rfl 3 rfl ?_
      refine g_iconst (v := 0) C dX12_leaflet_21 (by decide) ?_
      refine g_iconst (v := 3) C dX12_leaflet_22 (by decide) ?_
      refine g_callSI (b := 0) (ci := 0) (rest := []) C ms_X12_178 [.int a3, .int 0, .int 3] (s_X12_within Iy65007.1) rfl rfl (by decide) (Nat.le_of_ble_eq_true rfl) (by decide) dX12_leaflet_23 (fun r65028 Y65029 h65030 => ?_)
      obtain ⟨rfl, h65030⟩ := h65030
      obtain ⟨h65030, hi65031⟩ := h65030
      have hi65031 : r65028.toInt = 0 ∨ (0 ≤ a3.toInt ∧ a3.toInt ≤ 3) := hi65031
      have h65030 : 0 ≤ r65028.toInt ∧ r65028.toInt ≤ 1 := h65030
      refine b_if_ne C 31 dX12_leaflet_26 (by decide) (fun h65032 => ?_) (fun h65032 => ?_)
      · have h65032 : r65028.toInt ≠ 0 := ti_ne h65032
        replace hi65031 := hi65031.resolve_left (by omega)
        refine g_aload_n C dX12_leaflet_31 rfl 0 rfl ?_
        refine g_iload_n C dX12_leaflet_32 rfl 1 rfl ?_
        refine g_iload_n C dX12_leaflet_33 rfl 2 rfl ?_
        refine g_callVI (rest := []) C mv_X12_261 [.int a1, .int a2] (s_X12_setOf Iy65007 (by omega) (fun b9 e9 => by rw [e65020] at e9; cases e9; show 1 ≤ (pI Y65006 b65019 (a1.toInt.toNat)).toInt ∧ (pI Y65006 b65019 (a1.toInt.toNat)).toInt ≤ 16; omega) W65010) (h65012).1 (h65012).2 rfl rfl (by decide) (Nat.le_of_ble_eq_true rfl) (by decide) dX12_leaflet_34 (fun r65033 Y65034 h65035 => ?_)
        obtain ⟨Iy65036, Xy65037, W65038, h65035⟩ := h65035
        have q65039 := Xy65037.keepF 0 (by decide)
        have q65040 := Xy65037.keepA e65020 (by decide) rfl (a1.toInt.toNat)
        have Xz65041 : EM [0] a0 P Y65034 := EM.tr ha0 Xz65011 (Xy65037.mono (by decide))
        have e65042 := Xy65037.ref h65012 (by decide) e65020
        have h65043 := Xy65037.at h65012
        have h65044 := Xy65037.ar h65021
        have h65035 : True := h65035
        refine g_istore (lv' := [(4, .int r65033), (0, .ref a0), (1, .int a1), (2, .int a2), (3, .int a3)]) C dX12_leaflet_37 (by decide) rfl ?_
        refine g_iload_n C dX12_leaflet_39 rfl 4 rfl ?_
        refine b_if_ne C 48 dX12_leaflet_40 (by decide) (fun h65045 => ?_) (fun h65045 => ?_)
        · have h65045 : a3.toInt ≠ 0 := ti_ne h65045
          refine g_iload_n C dX12_leaflet_48 rfl 4 rfl ?_
          refine g_iconst (v := 3) C dX12_leaflet_49 (by decide) ?_
          refine b_icmp_ne C 61 dX12_leaflet_50 (by decide) (fun h65046 => ?_) (fun h65046 => ?_)
          · have h65046 : a3.toInt ≠ 3 := ti_ne h65046
            refine g_iload_n C dX12_leaflet_61 rfl 4 rfl ?_
            refine g_iconst (v := 1) C dX12_leaflet_62 (by decide) ?_
            refine b_icmp_ne C 76 dX12_leaflet_63 (by decide) (fun h65047 => ?_) (fun h65047 => ?_)
            · have h65047 : a3.toInt ≠ 1 := ti_ne h65047
              refine g_aload_n C dX12_leaflet_76 rfl 1 rfl ?_
              refine g_iload_n C dX12_leaflet_77 rfl 2 rfl ?_
              refine g_iload_n C dX12_leaflet_78 rfl 3 rfl ?_
              refine g_aload_n C dX12_leaflet_79 rfl 1 rfl ?_
              refine g_iload_n C dX12_leaflet_80 rfl 2 rfl ?_
              refine g_iload C dX12_leaflet_81 0 rfl ?_
              refine g_callVI (rest := [.int a2, .int a1, .ref a0]) C mv_X12_223 [.int a1, .int r65033] (s_X12_sumOf Iy65036 (by omega) W65038) (h65043).1 (h65043).2 rfl rfl (by decide) (Nat.le_of_ble_eq_true rfl) (by decide) dX12_leaflet_83 (fun r65048 Y65049 h65050 => ?_)
              obtain ⟨rfl, h65050⟩ := h65050
              have h65050 : True := h65050
              refine g_callVI (rest := []) C mv_X12_267 [.int a1, .int a2, .int r65048] (s_X12_sealOf Iy65036 (by omega) W65038) (h65043).1 (h65043).2 rfl rfl (by decide) (Nat.le_of_ble_eq_true rfl) (by decide) dX12_leaflet_86 (fun r65051 Y65052 h65053 => ?_)
              obtain ⟨rfl, h65053⟩ := h65053
              have h65053 : True := h65053
              exact ret _ _ _ _ _ _ dX12_leaflet_89 rfl (by decide) (by decide) ⟨Iy65036, Xz65041, W65038, trivial⟩
            · have h65047 : a3.toInt = 1 := congrArg Int32.toInt h65047
              refine g_aload_n C dX12_leaflet_66 rfl 1 rfl ?_
              refine g_iload_n C dX12_leaflet_67 rfl 2 rfl ?_
              refine g_iload C dX12_leaflet_68 0 rfl ?_
              refine g_callVI (rest := []) C mv_X12_223 [.int a1, .int r65033] (s_X12_sumOf Iy65036 (by omega) W65038) (h65043).1 (h65043).2 rfl rfl (by decide) (Nat.le_of_ble_eq_true rfl) (by decide) dX12_leaflet_70 (fun r65054 Y65055 h65056 => ?_)
              obtain ⟨rfl, h65056⟩ := h65056
              have h65056 : True := h65056
              refine g_goto C 89 dX12_leaflet_73 (by decide) ?_
              exact ret _ _ _ _ _ _ dX12_leaflet_89 rfl (by decide) (by decide) ⟨Iy65036, Xz65041, W65038, trivial⟩
          · have h65046 : a3.toInt = 3 := congrArg Int32.toInt h65046
            refine g_iload C dX12_leaflet_53 0 rfl ?_
            refine g_callSI (b := 0) (ci := 0) (rest := []) C ms_X12_264 [.int r65033] (s_X12_bits Iy65036.1) rfl rfl (by decide) (Nat.le_of_ble_eq_true rfl) (by decide) dX12_leaflet_55 (fun r65057 Y65058 h65059 => ?_)
            obtain ⟨rfl, h65059⟩ := h65059
            have h65059 : True := h65059
            refine g_goto C 89 dX12_leaflet_58 (by decide) ?_
            exact ret _ _ _ _ _ _ dX12_leaflet_89 rfl (by decide) (by decide) ⟨Iy65036, Xz65041, W65038, trivial⟩
        · have h65045 : a3.toInt = 0 := congrArg Int32.toInt h65045
          refine g_iload C dX12_leaflet_43 0 rfl ?_
          refine g_goto C 89 dX12_leaflet_45 (by decide) ?_
          exact ret _ _ _ _ _ _ dX12_leaflet_89 rfl (by decide) (by decide) ⟨Iy65036, Xz65041, W65038, trivial⟩
      · have h65032 : r65028.toInt = 0 := congrArg Int32.toInt h65032
        clear hi65031
        refine g_lv (lv' := []) [] rfl ?_
        exact J29 Y65006 Iy65007 Xz65011 W65010 (by omega)
theorem dX12_mark_0 : decode cX12_mark 0 = .ok (.aload_n 0, 1) := by decide +kernel
theorem dX12_mark_1 : decode cX12_mark 1 = .ok (.iconst 0, 1) := by decide +kernel
theorem dX12_mark_2 : decode cX12_mark 2 = .ok (.putfield 1, 3) := by decide +kernel
theorem dX12_mark_5 : decode cX12_mark 5 = .ok (.iload_n 1, 1) := by decide +kernel
theorem dX12_mark_6 : decode cX12_mark 6 = .ok (.iconst 0, 1) := by decide +kernel
theorem dX12_mark_7 : decode cX12_mark 7 = .ok (.iconst 3, 1) := by decide +kernel
theorem dX12_mark_8 : decode cX12_mark 8 = .ok (.invokestatic 178, 3) := by decide +kernel
theorem dX12_mark_11 : decode cX12_mark 11 = .ok (.ifCond .eq 16, 3) := by decide +kernel
theorem dX12_mark_14 : decode cX12_mark 14 = .ok (.iload_n 2, 1) := by decide +kernel
theorem dX12_mark_15 : decode cX12_mark 15 = .ok (.ifCond .eq 14, 3) := by decide +kernel
theorem dX12_mark_18 : decode cX12_mark 18 = .ok (.aload_n 0, 1) := by decide +kernel
theorem dX12_mark_19 : decode cX12_mark 19 = .ok (.getfield 87, 3) := by decide +kernel
theorem dX12_mark_22 : decode cX12_mark 22 = .ok (.iload_n 1, 1) := by decide +kernel
theorem dX12_mark_23 : decode cX12_mark 23 = .ok (.baload, 1) := by decide +kernel
theorem dX12_mark_24 : decode cX12_mark 24 = .ok (.ifCond .ne 5, 3) := by decide +kernel
theorem dX12_mark_27 : decode cX12_mark 27 = .ok (.iconst 0, 1) := by decide +kernel
theorem dX12_mark_28 : decode cX12_mark 28 = .ok (.ireturn, 1) := by decide +kernel
theorem dX12_mark_29 : decode cX12_mark 29 = .ok (.iconst 0, 1) := by decide +kernel
theorem dX12_mark_30 : decode cX12_mark 30 = .ok (.istore_n 3, 1) := by decide +kernel
theorem dX12_mark_31 : decode cX12_mark 31 = .ok (.iload_n 3, 1) := by decide +kernel
theorem dX12_mark_32 : decode cX12_mark 32 = .ok (.iconst 4, 1) := by decide +kernel
theorem dX12_mark_33 : decode cX12_mark 33 = .ok (.if_icmp .ge 43, 3) := by decide +kernel
theorem dX12_mark_36 : decode cX12_mark 36 = .ok (.aload_n 0, 1) := by decide +kernel
theorem dX12_mark_37 : decode cX12_mark 37 = .ok (.iload_n 2, 1) := by decide +kernel
theorem dX12_mark_38 : decode cX12_mark 38 = .ok (.ifCond .eq 13, 3) := by decide +kernel
theorem dX12_mark_41 : decode cX12_mark 41 = .ok (.iconst 4, 1) := by decide +kernel
theorem dX12_mark_42 : decode cX12_mark 42 = .ok (.iload_n 1, 1) := by decide +kernel
theorem dX12_mark_43 : decode cX12_mark 43 = .ok (.iconst 1, 1) := by decide +kernel
theorem dX12_mark_44 : decode cX12_mark 44 = .ok (.iadd, 1) := by decide +kernel
theorem dX12_mark_45 : decode cX12_mark 45 = .ok (.imul, 1) := by decide +kernel
theorem dX12_mark_46 : decode cX12_mark 46 = .ok (.iload_n 3, 1) := by decide +kernel
theorem dX12_mark_47 : decode cX12_mark 47 = .ok (.iadd, 1) := by decide +kernel
theorem dX12_mark_48 : decode cX12_mark 48 = .ok (.goto 4, 3) := by decide +kernel
theorem dX12_mark_51 : decode cX12_mark 51 = .ok (.iload_n 3, 1) := by decide +kernel
theorem dX12_mark_52 : decode cX12_mark 52 = .ok (.iload_n 2, 1) := by decide +kernel
theorem dX12_mark_53 : decode cX12_mark 53 = .ok (.ifCond .eq 7, 3) := by decide +kernel
theorem dX12_mark_56 : decode cX12_mark 56 = .ok (.iload_n 3, 1) := by decide +kernel
theorem dX12_mark_57 : decode cX12_mark 57 = .ok (.goto 10, 3) := by decide +kernel
theorem dX12_mark_60 : decode cX12_mark 60 = .ok (.iconst 4, 1) := by decide +kernel
theorem dX12_mark_61 : decode cX12_mark 61 = .ok (.iload_n 1, 1) := by decide +kernel
theorem dX12_mark_62 : decode cX12_mark 62 = .ok (.iconst 1, 1) := by decide +kernel
theorem dX12_mark_63 : decode cX12_mark 63 = .ok (.iadd, 1) := by decide +kernel
theorem dX12_mark_64 : decode cX12_mark 64 = .ok (.imul, 1) := by decide +kernel
theorem dX12_mark_65 : decode cX12_mark 65 = .ok (.iload_n 3, 1) := by decide +kernel
theorem dX12_mark_66 : decode cX12_mark 66 = .ok (.iadd, 1) := by decide +kernel
theorem dX12_mark_67 : decode cX12_mark 67 = .ok (.invokevirtual 302, 3) := by decide +kernel
theorem dX12_mark_70 : decode cX12_mark 70 = .ok (.iinc 3 1, 3) := by decide +kernel
theorem dX12_mark_73 : decode cX12_mark 73 = .ok (.goto (-42), 3) := by decide +kernel
theorem dX12_mark_76 : decode cX12_mark 76 = .ok (.aload_n 0, 1) := by decide +kernel
theorem dX12_mark_77 : decode cX12_mark 77 = .ok (.getfield 87, 3) := by decide +kernel
theorem dX12_mark_80 : decode cX12_mark 80 = .ok (.iload_n 1, 1) := by decide +kernel
theorem dX12_mark_81 : decode cX12_mark 81 = .ok (.iconst 1, 1) := by decide +kernel
theorem dX12_mark_82 : decode cX12_mark 82 = .ok (.bastore, 1) := by decide +kernel
theorem dX12_mark_83 : decode cX12_mark 83 = .ok (.iconst 1, 1) := by decide +kernel
theorem dX12_mark_84 : decode cX12_mark 84 = .ok (.ireturn, 1) := by decide +kernel
set_option maxHeartbeats 4000000 in
set_option maxRecDepth 100000 in
theorem s_X12_mark {P : PP} {a0 : Nat} {a1 : Int32} {a2 : Int32} (I : IM P a0) (ha2 : 0 ≤ a2.toInt ∧ a2.toInt ≤ 1) (hW : MW P a0) : CtrI yX12_mark cX12_mark 4 (some Jvm.ClassFile.FieldType.boolean) ({ frames := 3, cells := 0, slots := 0, locals := 192 } : Room) 0 0 P [.ref a0, .int a1, .int a2] (fun r P2 => IM P2 a0 ∧ EM [0, 20, 21, 22, 23, 24, 25, 26] a0 P P2 ∧ MW P2 a0 ∧ (0 ≤ r.toInt ∧ r.toInt ≤ 1) ∧ (r.toInt = 0 ∨ (((0 : Int) ≤ a1.toInt ∧ a1.toInt ≤ (3 : Int))))) := by
  refine enI (lv := [(0, .ref a0), (1, .int a1), (2, .int a2)]) (by decide) (Nat.le_of_ble_eq_true rfl) rfl (fun E D cy C Ci0 ret => ?_)
  have ha0 := I.2.1
  have J31 : ∀ (n31 : Nat) (P31 : PP) (v31_3 : Int32), (4 - v31_3.toInt).toNat < n31 → (IM P31 a0) → (EM [0, 20, 21, 22, 23, 24, 25, 26] a0 P P31) → (MW P31 a0) → (0 ≤ a1.toInt ∧ a1.toInt ≤ 3) → (0 ≤ v31_3.toInt ∧ v31_3.toInt ≤ 4) → (0 ≤ (pI P31 a0 0).toInt ∧ (pI P31 a0 0).toInt ≤ 0) → G E ({ frames := 3, cells := 0, slots := 0, locals := 192 } : Room) D cy 4 P31 0 0 31 [(0, .ref a0), (1, .int a1), (2, .int a2), (3, .int v31_3)] [] := by
    intro n31
    induction n31 with
    | zero => intro P31 v31_3 hm31 I31 X31 W31 hv31_1 hv31_3 hq31_0; omega
    | succ n31 ih31 =>
      intro P31 v31_3 hm31 I31 X31 W31 hv31_1 hv31_3 hq31_0
      have h65218 := X31.at ha0
      have J67 : ∀ (v67_s0 : Int32) (v67_s1 : Int32), (0 ≤ a1.toInt ∧ a1.toInt ≤ 3) → (0 ≤ v31_3.toInt ∧ v31_3.toInt ≤ 3) → (0 ≤ v67_s0.toInt ∧ v67_s0.toInt ≤ 19) → (0 ≤ v67_s1.toInt ∧ v67_s1.toInt ≤ 19) → (0 ≤ (pI P31 a0 0).toInt ∧ (pI P31 a0 0).toInt ≤ 0) → G E ({ frames := 3, cells := 0, slots := 0, locals := 192 } : Room) D cy 4 P31 0 0 67 [(0, .ref a0), (1, .int a1), (2, .int a2), (3, .int v31_3)] [.int v67_s0, .int v67_s1, .ref a0] := by
        intro v67_s0 v67_s1 hv67_1 hv67_3 hv67_s0 hv67_s1 hq67_0
        have h65219 := X31.at ha0
        refine g_callVV (rest := []) C mv_X12_302 [.int v67_s1, .int v67_s0] (s_X12_copies I31 (by omega) (by omega) W31) (h65219).1 (h65219).2 rfl rfl (by decide) (Nat.le_of_ble_eq_true rfl) (by decide) dX12_mark_67 (fun Y65221 h65222 => ?_)
        obtain ⟨Iy65223, Xy65224, W65225⟩ := h65222
        have q65226 := Xy65224.keepF 0 (by decide)
        have Xz65227 : EM [0, 20, 21, 22, 23, 24, 25, 26] a0 P Y65221 := EM.tr ha0 X31 (Xy65224.mono (by decide))
        have h65228 := Xy65224.at h65219
        refine s_iinc (lv0 := [(0, .ref a0), (1, .int a1), (2, .int a2)]) (m := 1) C dX12_mark_70 3 rfl (by decide) rfl (by decide) (by omega) (fun z65229 h65230 => ?_)
        have h65230 : z65229.toInt = v31_3.toInt + 1 := h65230
        refine g_goto C 31 dX12_mark_73 (by decide) ?_
        refine g_lv (lv' := [(0, .ref a0), (1, .int a1), (2, .int a2), (3, .int z65229)]) [1, 2, 3, 0] rfl ?_
        exact ih31 Y65221 z65229 (by omega) Iy65223 Xz65227 W65225 (by omega) (by omega) (by omega)
      have J52 : ∀ (v52_s0 : Int32), (0 ≤ a1.toInt ∧ a1.toInt ≤ 3) → (0 ≤ v31_3.toInt ∧ v31_3.toInt ≤ 3) → (0 ≤ v52_s0.toInt ∧ v52_s0.toInt ≤ 19) → (0 ≤ (pI P31 a0 0).toInt ∧ (pI P31 a0 0).toInt ≤ 0) → G E ({ frames := 3, cells := 0, slots := 0, locals := 192 } : Room) D cy 4 P31 0 0 52 [(0, .ref a0), (1, .int a1), (2, .int a2), (3, .int v31_3)] [.int v52_s0, .ref a0] := by
        intro v52_s0 hv52_1 hv52_3 hv52_s0 hq52_0
        have h65231 := X31.at ha0
        refine g_iload_n C dX12_mark_52 rfl 2 rfl ?_
        refine b_if_eq C 60 dX12_mark_53 (by decide) (fun h65232 => ?_) (fun h65232 => ?_)
        · have h65232 : a2.toInt = 0 := congrArg Int32.toInt h65232
          refine g_iconst (v := 4) C dX12_mark_60 (by decide) ?_
          refine g_iload_n C dX12_mark_61 rfl 1 rfl ?_
          refine g_iconst (v := 1) C dX12_mark_62 (by decide) ?_
          refine s_iadd C dX12_mark_63 (by show -2147483648 ≤ a1.toInt + 1 ∧ a1.toInt + 1 ≤ 2147483647; omega) (fun z65233 h65234 => ?_)
          have h65234 : z65233.toInt = a1.toInt + 1 := h65234
          refine s_imul C dX12_mark_64 (by show -2147483648 ≤ 4 * z65233.toInt ∧ 4 * z65233.toInt ≤ 2147483647; omega) (fun z65235 h65236 => ?_)
          have h65236 : z65235.toInt = 4 * z65233.toInt := h65236
          refine g_iload_n C dX12_mark_65 rfl 3 rfl ?_
          refine s_iadd C dX12_mark_66 (by show -2147483648 ≤ z65235.toInt + v31_3.toInt ∧ z65235.toInt + v31_3.toInt ≤ 2147483647; omega) (fun z65237 h65238 => ?_)
          have h65238 : z65237.toInt = z65235.toInt + v31_3.toInt := h65238
          exact J67 z65237 v52_s0 (by omega) (by omega) (by omega) (by omega) (by omega)
        · have h65232 : a2.toInt ≠ 0 := ti_ne h65232
          refine g_iload_n C dX12_mark_56 rfl 3 rfl ?_
          refine g_goto C 67 dX12_mark_57 (by decide) ?_
          exact J67 v31_3 v52_s0 (by omega) (by omega) (by omega) (by omega) (by omega)
      refine g_iload_n C dX12_mark_31 rfl 3 rfl ?_
      refine g_iconst (v := 4) C dX12_mark_32 (by decide) ?_
      refine b_icmp_ge C 76 dX12_mark_33 (by decide) (fun h65239 => ?_) (fun h65239 => ?_)
      · have h65239 : 4 ≤ v31_3.toInt := h65239
        refine g_aload_n C dX12_mark_76 rfl 0 rfl ?_
        obtain ⟨b65240, e65241, h65242⟩ := I31.fld (h65218) 26 15 4 rfl
        refine g_getR C fi_X12_87 rfl e65241 (h65218).1 (h65218).2 dX12_mark_77 ?_
        refine g_iload_n C dX12_mark_80 rfl 1 rfl ?_
        refine g_iconst (v := 1) C dX12_mark_81 (by decide) ?_
        refine g_zast (j := (a1.toInt.toNat)) C h65242.1 h65242.2.1 (ix_in h65242.2.2 (by omega)) (Or.inr rfl) dX12_mark_82 ?_
        refine gqW (ks := [26]) (I31.setA e65241 h65242 (by decide) (arOk.none rfl)) (EM.setA I31 e65241 rfl (by decide)) (fun Y65243 Iy65244 Xy65245 w65246 => ?_)
        have w65246 : (pI Y65243 b65240 (a1.toInt.toNat)).toInt = 1 := w65246
        have q65247 := Xy65245.keepF 0 (by decide)
        have W65248 := W31.keep I31 Xy65245 (by decide) (by decide) (by decide)
        have Xz65249 : EM [0, 20, 21, 22, 23, 24, 25, 26] a0 P Y65243 := EM.tr ha0 X31 (Xy65245.mono (by decide))
        have e65250 := Xy65245.ref h65218 (by decide) e65241
        have h65251 := Xy65245.at h65218
        have h65252 := Xy65245.ar h65242
        refine g_iconst (v := 1) C dX12_mark_83 (by decide) ?_
        exact ret _ _ _ _ _ _ dX12_mark_84 rfl (by decide) (by decide) ⟨Iy65244, Xz65249, W65248, (by decide), Or.inr (by omega)⟩
      · have h65239 : v31_3.toInt < 4 := h65239
        refine g_aload_n C dX12_mark_36 rfl 0 rfl ?_
        refine g_iload_n C dX12_mark_37 rfl 2 rfl ?_
        refine b_if_eq C 51 dX12_mark_38 (by decide) (fun h65253 => ?_) (fun h65253 => ?_)
        · have h65253 : a2.toInt = 0 := congrArg Int32.toInt h65253
          refine g_iload_n C dX12_mark_51 rfl 3 rfl ?_
          exact J52 v31_3 (by omega) (by omega) (by omega) (by omega)
        · have h65253 : a2.toInt ≠ 0 := ti_ne h65253
          refine g_iconst (v := 4) C dX12_mark_41 (by decide) ?_
          refine g_iload_n C dX12_mark_42 rfl 1 rfl ?_
          refine g_iconst (v := 1) C dX12_mark_43 (by decide) ?_
          refine s_iadd C dX12_mark_44 (by show -2147483648 ≤ a1.toInt + 1 ∧ a1.toInt + 1 ≤ 2147483647; omega) (fun z65254 h65255 => ?_)
          have h65255 : z65254.toInt = a1.toInt + 1 := h65255
          refine s_imul C dX12_mark_45 (by show -2147483648 ≤ 4 * z65254.toInt ∧ 4 * z65254.toInt ≤ 2147483647; omega) (fun z65256 h65257 => ?_)
          have h65257 : z65256.toInt = 4 * z65254.toInt := h65257
          refine g_iload_n C dX12_mark_46 rfl 3 rfl ?_
          refine s_iadd C dX12_mark_47 (by show -2147483648 ≤ z65256.toInt + v31_3.toInt ∧ z65256.toInt + v31_3.toInt ≤ 2147483647; omega) (fun z65258 h65259 => ?_)
          have h65259 : z65258.toInt = z65256.toInt + v31_3.toInt := h65259
          refine g_goto C 52 dX12_mark_48 (by decide) ?_
          exact J52 z65258 (by omega) (by omega) (by omega) (by omega)
  have J29 : ∀ (P29 : PP), (IM P29 a0) → (EM [0, 20, 21, 22, 23, 24, 25, 26] a0 P P29) → (MW P29 a0) → (0 ≤ a1.toInt ∧ a1.toInt ≤ 3) → (0 ≤ (pI P29 a0 0).toInt ∧ (pI P29 a0 0).toInt ≤ 0) → G E ({ frames := 3, cells := 0, slots := 0, locals := 192 } : Room) D cy 4 P29 0 0 29 [(0, .ref a0), (1, .int a1), (2, .int a2)] [] := by
    intro P29 I29 X29 W29 hv29_1 hq29_0
    have h65260 := X29.at ha0
    refine g_iconst (v := 0) C dX12_mark_29 (by decide) ?_
    refine g_istore_n (lv' := [(3, .int 0), (0, .ref a0), (1, .int a1), (2, .int a2)]) C dX12_mark_30 rfl (by decide) rfl ?_
    refine g_lv (lv' := [(0, .ref a0), (1, .int a1), (2, .int a2), (3, .int 0)]) [1, 2, 3, 0] rfl ?_
    exact J31 _ P29 0 (Nat.lt_succ_self _) I29 X29 W29 (by omega) (by decide) (by omega)
  have J27 : ∀ (P27 : PP), (IM P27 a0) → (EM [0, 20, 21, 22, 23, 24, 25, 26] a0 P P27) → (MW P27 a0) → (0 ≤ (pI P27 a0 0).toInt ∧ (pI P27 a0 0).toInt ≤ 0) → G E ({ frames := 3, cells := 0, slots := 0, locals := 192 } : Room) D cy 4 P27 0 0 27 [] [] := by
    intro P27 I27 X27 W27 hq27_0
    have h65261 := X27.at ha0
    refine g_iconst (v := 0) C dX12_mark_27 (by decide) ?_
    exact ret _ _ _ _ _ _ dX12_mark_28 rfl (by decide) (by decide) ⟨I27, X27, W27, (by decide), Or.inl rfl⟩
  refine g_aload_n C dX12_mark_0 rfl 0 rfl ?_
  refine g_iconst (v := 0) C dX12_mark_1 (by decide) ?_
  refine g_putI C fi_X12_1 rfl (ha0).1 (ha0).2 dX12_mark_2 ?_
  refine gqW (ks := [0]) (I.setI (rgOk.of rfl (by decide))) (EM.setI I (by decide)) (fun Y65262 Iy65263 Xy65264 w65265 => ?_)
  have w65265 : (pI Y65262 a0 0).toInt = 0 := w65265
  have W65266 := hW.keep I Xy65264 (by decide) (by decide) (by decide)
  have Xz65267 : EM [0, 20, 21, 22, 23, 24, 25, 26] a0 P Y65262 := Xy65264.mono (by decide)
  have h65268 := Xy65264.at ha0
  refine g_iload_n C dX12_mark_5 rfl 1 rfl ?_
  refine g_iconst (v := 0) C dX12_mark_6 (by decide) ?_
  refine g_iconst (v := 3) C dX12_mark_7 (by decide) ?_
  refine g_callSI (b := 0) (ci := 0) (rest := []) C ms_X12_178 [.int a1, .int 0, .int 3] (s_X12_within Iy65263.1) rfl rfl (by decide) (Nat.le_of_ble_eq_true rfl) (by decide) dX12_mark_8 (fun r65269 Y65270 h65271 => ?_)
  obtain ⟨rfl, h65271⟩ := h65271
  obtain ⟨h65271, hi65272⟩ := h65271
  have hi65272 : r65269.toInt = 0 ∨ (0 ≤ a1.toInt ∧ a1.toInt ≤ 3) := hi65272
  have h65271 : 0 ≤ r65269.toInt ∧ r65269.toInt ≤ 1 := h65271
  refine b_if_eq C 27 dX12_mark_11 (by decide) (fun h65273 => ?_) (fun h65273 => ?_)
  · have h65273 : r65269.toInt = 0 := congrArg Int32.toInt h65273
    clear hi65272
    refine g_lv (lv' := []) [] rfl ?_
    exact J27 Y65262 Iy65263 Xz65267 W65266 (by omega)
  · have h65273 : r65269.toInt ≠ 0 := ti_ne h65273
    replace hi65272 := hi65272.resolve_left (by omega)
    refine g_iload_n C dX12_mark_14 rfl 2 rfl ?_
    refine b_if_eq C 29 dX12_mark_15 (by decide) (fun h65274 => ?_) (fun h65274 => ?_)
    · have h65274 : a2.toInt = 0 := congrArg Int32.toInt h65274
      exact J29 Y65262 Iy65263 Xz65267 W65266 (by omega) (by omega)
    · have h65274 : a2.toInt ≠ 0 := ti_ne h65274
      refine g_aload_n C dX12_mark_18 rfl 0 rfl ?_
      obtain ⟨b65275, e65276, h65277⟩ := Iy65263.fld (h65268) 26 15 4 rfl
      refine g_getR C fi_X12_87 rfl e65276 (h65268).1 (h65268).2 dX12_mark_19 ?_
      refine g_iload_n C dX12_mark_22 rfl 1 rfl ?_
      refine g_zald (j := (a1.toInt.toNat)) C h65277.1 h65277.2.1 (ix_in h65277.2.2 (by omega)) dX12_mark_23 ?_
      have u65279 := ti_rng (pI Y65262 b65275 (a1.toInt.toNat))
      refine b_if_ne C 29 dX12_mark_24 (by decide) (fun h65278 => ?_) (fun h65278 => ?_)
      · have h65278 : (pI Y65262 b65275 (a1.toInt.toNat)).toInt ≠ 0 := ti_ne h65278
        exact J29 Y65262 Iy65263 Xz65267 W65266 (by omega) (by omega)
      · have h65278 : (pI Y65262 b65275 (a1.toInt.toNat)).toInt = 0 := congrArg Int32.toInt h65278
        refine g_lv (lv' := []) [] rfl ?_
        exact J27 Y65262 Iy65263 Xz65267 W65266 (by omega)
theorem dX12_nameless_0 : decode cX12_nameless 0 = .ok (.aload_n 0, 1) := by decide +kernel
theorem dX12_nameless_1 : decode cX12_nameless 1 = .ok (.iconst 0, 1) := by decide +kernel
theorem dX12_nameless_2 : decode cX12_nameless 2 = .ok (.putfield 1, 3) := by decide +kernel
theorem dX12_nameless_5 : decode cX12_nameless 5 = .ok (.iload_n 1, 1) := by decide +kernel
theorem dX12_nameless_6 : decode cX12_nameless 6 = .ok (.invokestatic 278, 3) := by decide +kernel
theorem dX12_nameless_9 : decode cX12_nameless 9 = .ok (.ifCond .eq 41, 3) := by decide +kernel
theorem dX12_nameless_12 : decode cX12_nameless 12 = .ok (.iload_n 2, 1) := by decide +kernel
theorem dX12_nameless_13 : decode cX12_nameless 13 = .ok (.invokestatic 258, 3) := by decide +kernel
theorem dX12_nameless_16 : decode cX12_nameless 16 = .ok (.ifCond .eq 34, 3) := by decide +kernel
theorem dX12_nameless_19 : decode cX12_nameless 19 = .ok (.iload_n 3, 1) := by decide +kernel
theorem dX12_nameless_20 : decode cX12_nameless 20 = .ok (.iconst 0, 1) := by decide +kernel
theorem dX12_nameless_21 : decode cX12_nameless 21 = .ok (.ldc 195, 2) := by decide +kernel
theorem dX12_nameless_23 : decode cX12_nameless 23 = .ok (.invokestatic 178, 3) := by decide +kernel
theorem dX12_nameless_26 : decode cX12_nameless 26 = .ok (.ifCond .eq 24, 3) := by decide +kernel
theorem dX12_nameless_29 : decode cX12_nameless 29 = .ok (.aload_n 0, 1) := by decide +kernel
theorem dX12_nameless_30 : decode cX12_nameless 30 = .ok (.getfield 69, 3) := by decide +kernel
theorem dX12_nameless_33 : decode cX12_nameless 33 = .ok (.iload_n 1, 1) := by decide +kernel
theorem dX12_nameless_34 : decode cX12_nameless 34 = .ok (.iaload, 1) := by decide +kernel
theorem dX12_nameless_35 : decode cX12_nameless 35 = .ok (.bipush 40, 2) := by decide +kernel
theorem dX12_nameless_37 : decode cX12_nameless 37 = .ok (.if_icmp .eq 13, 3) := by decide +kernel
theorem dX12_nameless_40 : decode cX12_nameless 40 = .ok (.aload_n 0, 1) := by decide +kernel
theorem dX12_nameless_41 : decode cX12_nameless 41 = .ok (.iload_n 1, 1) := by decide +kernel
theorem dX12_nameless_42 : decode cX12_nameless 42 = .ok (.invokevirtual 295, 3) := by decide +kernel
theorem dX12_nameless_45 : decode cX12_nameless 45 = .ok (.bipush 6, 2) := by decide +kernel
theorem dX12_nameless_47 : decode cX12_nameless 47 = .ok (.if_icmp .ne 5, 3) := by decide +kernel
theorem dX12_nameless_50 : decode cX12_nameless 50 = .ok (.iconst (-1), 1) := by decide +kernel
theorem dX12_nameless_51 : decode cX12_nameless 51 = .ok (.ireturn, 1) := by decide +kernel
theorem dX12_nameless_52 : decode cX12_nameless 52 = .ok (.aload_n 0, 1) := by decide +kernel
theorem dX12_nameless_53 : decode cX12_nameless 53 = .ok (.iload_n 1, 1) := by decide +kernel
theorem dX12_nameless_54 : decode cX12_nameless 54 = .ok (.iconst (-1), 1) := by decide +kernel
theorem dX12_nameless_55 : decode cX12_nameless 55 = .ok (.iload_n 2, 1) := by decide +kernel
theorem dX12_nameless_56 : decode cX12_nameless 56 = .ok (.iload_n 3, 1) := by decide +kernel
theorem dX12_nameless_57 : decode cX12_nameless 57 = .ok (.iconst 3, 1) := by decide +kernel
theorem dX12_nameless_58 : decode cX12_nameless 58 = .ok (.iconst 0, 1) := by decide +kernel
theorem dX12_nameless_59 : decode cX12_nameless 59 = .ok (.invokevirtual 284, 3) := by decide +kernel
theorem dX12_nameless_62 : decode cX12_nameless 62 = .ok (.ireturn, 1) := by decide +kernel
set_option maxHeartbeats 4000000 in
set_option maxRecDepth 100000 in
theorem s_X12_nameless {P : PP} {a0 : Nat} {a1 : Int32} {a2 : Int32} {a3 : Int32} (I : IM P a0) (hW : MW P a0) : CtrI yX12_nameless cX12_nameless 4 (some Jvm.ClassFile.FieldType.int) ({ frames := 3, cells := 0, slots := 0, locals := 192 } : Room) 0 0 P [.ref a0, .int a1, .int a2, .int a3] (fun r P2 => IM P2 a0 ∧ EM [0, 20, 21, 22, 23, 24, 25] a0 P P2 ∧ MW P2 a0 ∧ (-1 ≤ r.toInt ∧ r.toInt ≤ 39)) := by
  refine enI (lv := [(0, .ref a0), (1, .int a1), (2, .int a2), (3, .int a3)]) (by decide) (Nat.le_of_ble_eq_true rfl) rfl (fun E D cy C Ci0 ret => ?_)
  have ha0 := I.2.1
  have J50 : ∀ (P50 : PP), (IM P50 a0) → (EM [0, 20, 21, 22, 23, 24, 25] a0 P P50) → (MW P50 a0) → (0 ≤ (pI P50 a0 0).toInt ∧ (pI P50 a0 0).toInt ≤ 0) → G E ({ frames := 3, cells := 0, slots := 0, locals := 192 } : Room) D cy 4 P50 0 0 50 [] [] := by
    intro P50 I50 X50 W50 hq50_0
    have h65325 := X50.at ha0
    refine g_iconst (v := (-1)) C dX12_nameless_50 (by decide) ?_
    exact ret _ _ _ _ _ _ dX12_nameless_51 rfl (by decide) (by decide) ⟨I50, X50, W50, (by decide)⟩
  refine g_aload_n C dX12_nameless_0 rfl 0 rfl ?_
  refine g_iconst (v := 0) C dX12_nameless_1 (by decide) ?_
  refine g_putI C fi_X12_1 rfl (ha0).1 (ha0).2 dX12_nameless_2 ?_
  refine gqW (ks := [0]) (I.setI (rgOk.of rfl (by decide))) (EM.setI I (by decide)) (fun Y65326 Iy65327 Xy65328 w65329 => ?_)
  have w65329 : (pI Y65326 a0 0).toInt = 0 := w65329
  have W65330 := hW.keep I Xy65328 (by decide) (by decide) (by decide)
  have Xz65331 : EM [0, 20, 21, 22, 23, 24, 25] a0 P Y65326 := Xy65328.mono (by decide)
  have h65332 := Xy65328.at ha0
  refine g_iload_n C dX12_nameless_5 rfl 1 rfl ?_
  refine g_callSI (b := 0) (ci := 0) (rest := []) C ms_X12_278 [.int a1] (s_X12_isQuarter Iy65327.1) rfl rfl (by decide) (Nat.le_of_ble_eq_true rfl) (by decide) dX12_nameless_6 (fun r65333 Y65334 h65335 => ?_)
  obtain ⟨rfl, h65335⟩ := h65335
  obtain ⟨h65335, hi65336⟩ := h65335
  have hi65336 : r65333.toInt = 0 ∨ (((0 : Int) ≤ a1.toInt ∧ a1.toInt ≤ (3 : Int))) := hi65336
  have h65335 : 0 ≤ r65333.toInt ∧ r65333.toInt ≤ 1 := h65335
  refine b_if_eq C 50 dX12_nameless_9 (by decide) (fun h65337 => ?_) (fun h65337 => ?_)
  · have h65337 : r65333.toInt = 0 := congrArg Int32.toInt h65337
    clear hi65336
    refine g_lv (lv' := []) [] rfl ?_
    exact J50 Y65326 Iy65327 Xz65331 W65330 (by omega)
  · have h65337 : r65333.toInt ≠ 0 := ti_ne h65337
    replace hi65336 := hi65336.resolve_left (by omega)
    refine g_iload_n C dX12_nameless_12 rfl 2 rfl ?_
    refine g_callSI (b := 0) (ci := 0) (rest := []) C ms_X12_258 [.int a2] (s_X12_isNumber Iy65327.1) rfl rfl (by decide) (Nat.le_of_ble_eq_true rfl) (by decide) dX12_nameless_13 (fun r65338 Y65339 h65340 => ?_)
    obtain ⟨rfl, h65340⟩ := h65340
    obtain ⟨h65340, hi65341⟩ := h65340
    have hi65341 : r65338.toInt = 0 ∨ (((0 : Int) ≤ a2.toInt ∧ a2.toInt ≤ (9999 : Int))) := hi65341
    have h65340 : 0 ≤ r65338.toInt ∧ r65338.toInt ≤ 1 := h65340
    refine b_if_eq C 50 dX12_nameless_16 (by decide) (fun h65342 => ?_) (fun h65342 => ?_)
    · have h65342 : r65338.toInt = 0 := congrArg Int32.toInt h65342
      clear hi65341
      refine g_lv (lv' := []) [] rfl ?_
      exact J50 Y65326 Iy65327 Xz65331 W65330 (by omega)
    · have h65342 : r65338.toInt ≠ 0 := ti_ne h65342
      replace hi65341 := hi65341.resolve_left (by omega)
      refine g_iload_n C dX12_nameless_19 rfl 3 rfl ?_
      refine g_iconst (v := 0) C dX12_nameless_20 (by decide) ?_
      refine g_ldc (v := 65535) C kc_X12_195 dX12_nameless_21 ?_
      refine g_callSI (b := 0) (ci := 0) (rest := []) C ms_X12_178 [.int a3, .int 0, .int 65535] (s_X12_within Iy65327.1) rfl rfl (by decide) (Nat.le_of_ble_eq_true rfl) (by decide) dX12_nameless_23 (fun r65343 Y65344 h65345 => ?_)
      obtain ⟨rfl, h65345⟩ := h65345
      obtain ⟨h65345, hi65346⟩ := h65345
      have hi65346 : r65343.toInt = 0 ∨ (0 ≤ a3.toInt ∧ a3.toInt ≤ 65535) := hi65346
      have h65345 : 0 ≤ r65343.toInt ∧ r65343.toInt ≤ 1 := h65345
      refine b_if_eq C 50 dX12_nameless_26 (by decide) (fun h65347 => ?_) (fun h65347 => ?_)
      · have h65347 : r65343.toInt = 0 := congrArg Int32.toInt h65347
        clear hi65346
        refine g_lv (lv' := []) [] rfl ?_
        exact J50 Y65326 Iy65327 Xz65331 W65330 (by omega)
      · have h65347 : r65343.toInt ≠ 0 := ti_ne h65347
        replace hi65346 := hi65346.resolve_left (by omega)
        refine g_aload_n C dX12_nameless_29 rfl 0 rfl ?_
        obtain ⟨b65348, e65349, h65350⟩ := Iy65327.fld (h65332) 20 13 20 rfl
        refine g_getR C fi_X12_69 rfl e65349 (h65332).1 (h65332).2 dX12_nameless_30 ?_
        refine g_iload_n C dX12_nameless_33 rfl 1 rfl ?_
        refine g_iald (j := (a1.toInt.toNat)) C h65350.1 h65350.2.1 (ix_in h65350.2.2 (by omega)) dX12_nameless_34 ?_
        have h65351 := Iy65327.arr e65349 rfl (a1.toInt.toNat)
        refine g_bipush (v := 40) C dX12_nameless_35 (by decide) ?_
        refine b_icmp_eq C 50 dX12_nameless_37 (by decide) (fun h65352 => ?_) (fun h65352 => ?_)
        · have h65352 : (pI Y65326 b65348 (a1.toInt.toNat)).toInt = 40 := congrArg Int32.toInt h65352
          refine g_lv (lv' := []) [] rfl ?_
          exact J50 Y65326 Iy65327 Xz65331 W65330 (by omega)
        · have h65352 : (pI Y65326 b65348 (a1.toInt.toNat)).toInt ≠ 40 := ti_ne h65352
          refine g_aload_n C dX12_nameless_40 rfl 0 rfl ?_
          refine g_iload_n C dX12_nameless_41 rfl 1 rfl ?_
          refine g_callVI (rest := []) C mv_X12_295 [.int a1] (s_X12_namelessIn Iy65327 (by omega) W65330) (h65332).1 (h65332).2 rfl rfl (by decide) (Nat.le_of_ble_eq_true rfl) (by decide) dX12_nameless_42 (fun r65353 Y65354 h65355 => ?_)
          obtain ⟨rfl, h65355⟩ := h65355
          have h65355 : True := h65355
          refine g_bipush (v := 6) C dX12_nameless_45 (by decide) ?_
          have u65357 := ti_rng r65353
          refine b_icmp_ne C 52 dX12_nameless_47 (by decide) (fun h65356 => ?_) (fun h65356 => ?_)
          · have h65356 : r65353.toInt ≠ 6 := ti_ne h65356
            refine g_aload_n C dX12_nameless_52 rfl 0 rfl ?_
            refine g_iload_n C dX12_nameless_53 rfl 1 rfl ?_
            refine g_iconst (v := (-1)) C dX12_nameless_54 (by decide) ?_
            refine g_iload_n C dX12_nameless_55 rfl 2 rfl ?_
            refine g_iload_n C dX12_nameless_56 rfl 3 rfl ?_
            refine g_iconst (v := 3) C dX12_nameless_57 (by decide) ?_
            refine g_iconst (v := 0) C dX12_nameless_58 (by decide) ?_
            refine g_callVI (rest := []) C mv_X12_284 [.int a1, .int (-1), .int a2, .int a3, .int 3, .int 0] (s_X12_lays Iy65327 (by omega) (by decide) (fun b9 e9 => by rw [e65349] at e9; cases e9; show 0 ≤ (pI Y65326 b65348 (a1.toInt.toNat)).toInt ∧ (pI Y65326 b65348 (a1.toInt.toNat)).toInt ≤ 39; omega) W65330 (fun _ _ h9 => absurd h9 (by decide))) (h65332).1 (h65332).2 rfl rfl (by decide) (Nat.le_of_ble_eq_true rfl) (by decide) dX12_nameless_59 (fun r65358 Y65359 h65360 => ?_)
            obtain ⟨Iy65361, Xy65362, W65363, p65364, h65360⟩ := h65360
            have p65364 := p65364 b65348 e65349
            have p65364 : (pI Y65359 b65348 (a1.toInt.toNat)).toInt = (pI Y65326 b65348 (a1.toInt.toNat)).toInt + 1 := p65364
            have q65365 := Xy65362.keepF 0 (by decide)
            have Xz65366 : EM [0, 20, 21, 22, 23, 24, 25] a0 P Y65359 := EM.tr ha0 Xz65331 (Xy65362.mono (by decide))
            have e65367 := Xy65362.ref h65332 (by decide) e65349
            have h65368 := Xy65362.at h65332
            have h65369 := Xy65362.ar h65350
            have h65360 : 0 ≤ r65358.toInt ∧ r65358.toInt ≤ 39 := h65360
            exact ret _ _ _ _ _ _ dX12_nameless_62 rfl (by decide) (by decide) ⟨Iy65361, Xz65366, W65363, (by omega)⟩
          · have h65356 : r65353.toInt = 6 := congrArg Int32.toInt h65356
            refine g_lv (lv' := []) [] rfl ?_
            exact J50 Y65326 Iy65327 Xz65331 W65330 (by omega)
theorem dX12_needs_0 : decode cX12_needs 0 = .ok (.aload_n 0, 1) := by decide +kernel
theorem dX12_needs_1 : decode cX12_needs 1 = .ok (.iconst 0, 1) := by decide +kernel
theorem dX12_needs_2 : decode cX12_needs 2 = .ok (.putfield 1, 3) := by decide +kernel
theorem dX12_needs_5 : decode cX12_needs 5 = .ok (.iload_n 1, 1) := by decide +kernel
theorem dX12_needs_6 : decode cX12_needs 6 = .ok (.invokestatic 278, 3) := by decide +kernel
theorem dX12_needs_9 : decode cX12_needs 9 = .ok (.ifCond .eq 11, 3) := by decide +kernel
theorem dX12_needs_12 : decode cX12_needs 12 = .ok (.aload_n 0, 1) := by decide +kernel
theorem dX12_needs_13 : decode cX12_needs 13 = .ok (.iload_n 2, 1) := by decide +kernel
theorem dX12_needs_14 : decode cX12_needs 14 = .ok (.invokevirtual 192, 3) := by decide +kernel
theorem dX12_needs_17 : decode cX12_needs 17 = .ok (.ifCond .ne 5, 3) := by decide +kernel
theorem dX12_needs_22 : decode cX12_needs 22 = .ok (.aload_n 0, 1) := by decide +kernel
theorem dX12_needs_23 : decode cX12_needs 23 = .ok (.iload_n 1, 1) := by decide +kernel
theorem dX12_needs_24 : decode cX12_needs 24 = .ok (.iload_n 2, 1) := by decide +kernel
theorem dX12_needs_25 : decode cX12_needs 25 = .ok (.invokevirtual 408, 3) := by decide +kernel
theorem dX12_needsOf_0 : decode cX12_needsOf 0 = .ok (.aload_n 0, 1) := by decide +kernel
theorem dX12_needsOf_1 : decode cX12_needsOf 1 = .ok (.iload_n 2, 1) := by decide +kernel
theorem dX12_needsOf_2 : decode cX12_needsOf 2 = .ok (.invokevirtual 312, 3) := by decide +kernel
theorem dX12_needsOf_5 : decode cX12_needsOf 5 = .ok (.iconst 0, 1) := by decide +kernel
theorem dX12_needsOf_6 : decode cX12_needsOf 6 = .ok (.istore_n 3, 1) := by decide +kernel
theorem dX12_needsOf_7 : decode cX12_needsOf 7 = .ok (.iload_n 3, 1) := by decide +kernel
theorem dX12_needsOf_8 : decode cX12_needsOf 8 = .ok (.bipush 60, 2) := by decide +kernel
theorem dX12_needsOf_10 : decode cX12_needsOf 10 = .ok (.if_icmp .gt 55, 3) := by decide +kernel
theorem dX12_needsOf_13 : decode cX12_needsOf 13 = .ok (.aload_n 0, 1) := by decide +kernel
theorem dX12_needsOf_14 : decode cX12_needsOf 14 = .ok (.invokevirtual 346, 3) := by decide +kernel
theorem dX12_needsOf_17 : decode cX12_needsOf 17 = .ok (.aload_n 0, 1) := by decide +kernel
theorem dX12_needsOf_18 : decode cX12_needsOf 18 = .ok (.iload_n 2, 1) := by decide +kernel
theorem dX12_needsOf_19 : decode cX12_needsOf 19 = .ok (.aload_n 0, 1) := by decide +kernel
theorem dX12_needsOf_20 : decode cX12_needsOf 20 = .ok (.invokevirtual 349, 3) := by decide +kernel
theorem dX12_needsOf_23 : decode cX12_needsOf 23 = .ok (.invokevirtual 371, 3) := by decide +kernel
theorem dX12_needsOf_26 : decode cX12_needsOf 26 = .ok (.ifCond .eq 5, 3) := by decide +kernel
theorem dX12_needsOf_29 : decode cX12_needsOf 29 = .ok (.iload_n 3, 1) := by decide +kernel
theorem dX12_needsOf_30 : decode cX12_needsOf 30 = .ok (.ireturn, 1) := by decide +kernel
theorem dX12_needsOf_31 : decode cX12_needsOf 31 = .ok (.iload_n 3, 1) := by decide +kernel
theorem dX12_needsOf_32 : decode cX12_needsOf 32 = .ok (.bipush 60, 2) := by decide +kernel
theorem dX12_needsOf_34 : decode cX12_needsOf 34 = .ok (.if_icmp .ge 25, 3) := by decide +kernel
theorem dX12_needsOf_37 : decode cX12_needsOf 37 = .ok (.aload_n 0, 1) := by decide +kernel
theorem dX12_needsOf_38 : decode cX12_needsOf 38 = .ok (.iload_n 1, 1) := by decide +kernel
theorem dX12_needsOf_39 : decode cX12_needsOf 39 = .ok (.iload_n 2, 1) := by decide +kernel
theorem dX12_needsOf_40 : decode cX12_needsOf 40 = .ok (.iload_n 3, 1) := by decide +kernel
theorem dX12_needsOf_41 : decode cX12_needsOf 41 = .ok (.invokevirtual 402, 3) := by decide +kernel
theorem dX12_needsOf_44 : decode cX12_needsOf 44 = .ok (.ifCond .eq 15, 3) := by decide +kernel
theorem dX12_needsOf_47 : decode cX12_needsOf 47 = .ok (.aload_n 0, 1) := by decide +kernel
theorem dX12_needsOf_48 : decode cX12_needsOf 48 = .ok (.aload_n 0, 1) := by decide +kernel
theorem dX12_needsOf_49 : decode cX12_needsOf 49 = .ok (.iload_n 2, 1) := by decide +kernel
theorem dX12_needsOf_50 : decode cX12_needsOf 50 = .ok (.iload_n 3, 1) := by decide +kernel
theorem dX12_needsOf_51 : decode cX12_needsOf 51 = .ok (.invokevirtual 261, 3) := by decide +kernel
theorem dX12_needsOf_54 : decode cX12_needsOf 54 = .ok (.iconst 0, 1) := by decide +kernel
theorem dX12_needsOf_55 : decode cX12_needsOf 55 = .ok (.iconst (-1), 1) := by decide +kernel
theorem dX12_needsOf_56 : decode cX12_needsOf 56 = .ok (.invokevirtual 308, 3) := by decide +kernel
theorem dX12_needsOf_59 : decode cX12_needsOf 59 = .ok (.iinc 3 1, 3) := by decide +kernel
theorem dX12_needsOf_62 : decode cX12_needsOf 62 = .ok (.goto (-55), 3) := by decide +kernel
theorem dX12_needsOf_65 : decode cX12_needsOf 65 = .ok (.bipush 61, 2) := by decide +kernel
theorem dX12_needsOf_67 : decode cX12_needsOf 67 = .ok (.ireturn, 1) := by decide +kernel
set_option maxHeartbeats 4000000 in
set_option maxRecDepth 100000 in
theorem s_X12_needsOf {P : PP} {a0 : Nat} {a1 : Int32} {a2 : Int32} (I : IM P a0) (ha1 : 0 ≤ a1.toInt ∧ a1.toInt ≤ 3) (ha2 : 0 ≤ a2.toInt ∧ a2.toInt ≤ 1) (hf0 : ∀ b, pR P a0 10 = some b → 1 ≤ (pI P b (a2.toInt.toNat)).toInt ∧ (pI P b (a2.toInt.toNat)).toInt ≤ 16) (hW : MW P a0) : CtrI yX12_needsOf cX12_needsOf 4 (some Jvm.ClassFile.FieldType.int) ({ frames := 6, cells := 0, slots := 0, locals := 384 } : Room) 0 0 P [.ref a0, .int a1, .int a2] (fun r P2 => IM P2 a0 ∧ EM [28, 29, 30, 31, 35, 36, 37, 38] a0 P P2 ∧ MW P2 a0 ∧ (0 ≤ r.toInt ∧ r.toInt ≤ 61)) := by
  refine enI (lv := [(0, .ref a0), (1, .int a1), (2, .int a2)]) (by decide) (Nat.le_of_ble_eq_true rfl) rfl (fun E D cy C Ci0 ret => ?_)
  have ha0 := I.2.1
  have J7 : ∀ (n7 : Nat) (P7 : PP) (v7_3 : Int32), (61 - v7_3.toInt).toNat < n7 → (IM P7 a0) → (EM [28, 29, 30, 31, 35, 36, 37, 38] a0 P P7) → (MW P7 a0) → (0 ≤ v7_3.toInt ∧ v7_3.toInt ≤ 61) → (∀ b, pR P7 a0 10 = some b → 1 ≤ (pI P7 b (a2.toInt.toNat)).toInt ∧ (pI P7 b (a2.toInt.toNat)).toInt ≤ 16) → ((pI P7 a0 28).toInt ≤ 4 + v7_3.toInt) → G E ({ frames := 6, cells := 0, slots := 0, locals := 384 } : Room) D cy 4 P7 0 0 7 [(0, .ref a0), (1, .int a1), (2, .int a2), (3, .int v7_3)] [] := by
    intro n7
    induction n7 with
    | zero => intro P7 v7_3 hm7 I7 X7 W7 hv7_3 hq7_0 rel7_0; omega
    | succ n7 ih7 =>
      intro P7 v7_3 hm7 I7 X7 W7 hv7_3 hq7_0 rel7_0
      have h66668 := X7.at ha0
      obtain ⟨b66669, e66670, h66671⟩ := I7.fld (h66668) 10 13 2 rfl
      have hq7_0 := hq7_0 b66669 e66670
      have h66672 := I7.rg h66668 28 rfl
      have J59 : ∀ (P59 : PP), (IM P59 a0) → (EM [28, 29, 30, 31, 35, 36, 37, 38] a0 P P59) → (MW P59 a0) → (0 ≤ v7_3.toInt ∧ v7_3.toInt ≤ 60) → (∀ b, pR P59 a0 10 = some b → 1 ≤ (pI P59 b (a2.toInt.toNat)).toInt ∧ (pI P59 b (a2.toInt.toNat)).toInt ≤ 16) → ((pI P59 a0 28).toInt ≤ 5 + v7_3.toInt) → G E ({ frames := 6, cells := 0, slots := 0, locals := 384 } : Room) D cy 4 P59 0 0 59 [(0, .ref a0), (1, .int a1), (2, .int a2), (3, .int v7_3)] [] := by
        intro P59 I59 X59 W59 hv59_3 hq59_0 rel59_0
        have h66673 := X59.at ha0
        obtain ⟨b66674, e66675, h66676⟩ := I59.fld (h66673) 10 13 2 rfl
        have hq59_0 := hq59_0 b66674 e66675
        have h66677 := I59.rg h66673 28 rfl
        refine s_iinc (lv0 := [(0, .ref a0), (1, .int a1), (2, .int a2)]) (m := 1) C dX12_needsOf_59 3 rfl (by decide) rfl (by decide) (by omega) (fun z66678 h66679 => ?_)
        have h66679 : z66678.toInt = v7_3.toInt + 1 := h66679
        refine g_goto C 7 dX12_needsOf_62 (by decide) ?_
        refine g_lv (lv' := [(0, .ref a0), (1, .int a1), (2, .int a2), (3, .int z66678)]) [1, 2, 3, 0] rfl ?_
        exact ih7 P59 z66678 (by omega) I59 X59 W59 (by omega) (fun b9 e9 => by rw [e66675] at e9; cases e9; omega) (by show (pI P59 a0 28).toInt ≤ 4 + z66678.toInt; omega)
      refine g_iload_n C dX12_needsOf_7 rfl 3 rfl ?_
      refine g_bipush (v := 60) C dX12_needsOf_8 (by decide) ?_
      refine b_icmp_gt C 65 dX12_needsOf_10 (by decide) (fun h66680 => ?_) (fun h66680 => ?_)
      · have h66680 : 60 < v7_3.toInt := h66680
        refine g_bipush (v := 61) C dX12_needsOf_65 (by decide) ?_
        exact ret _ _ _ _ _ _ dX12_needsOf_67 rfl (by decide) (by decide) ⟨I7, X7, W7, (by decide)⟩
      · have h66680 : v7_3.toInt ≤ 60 := h66680
        refine g_aload_n C dX12_needsOf_13 rfl 0 rfl ?_
        refine g_callVV (rest := []) C mv_X12_346 [] (s_X12_findSolved I7 W7) (h66668).1 (h66668).2 rfl rfl (by decide) (Nat.le_of_ble_eq_true rfl) (by decide) dX12_needsOf_14 (fun Y66682 h66683 => ?_)
        obtain ⟨Iy66684, Xy66685, W66686⟩ := h66683
        have q66687 := Xy66685.keepA e66670 (by decide) rfl (a2.toInt.toNat)
        have q66688 := Xy66685.keepF 28 (by decide)
        have Xz66689 : EM [28, 29, 30, 31, 35, 36, 37, 38] a0 P Y66682 := EM.tr ha0 X7 (Xy66685.mono (by decide))
        have e66690 := Xy66685.ref h66668 (by decide) e66670
        have h66691 := Xy66685.at h66668
        have h66692 := Xy66685.ar h66671
        refine g_aload_n C dX12_needsOf_17 rfl 0 rfl ?_
        refine g_iload_n C dX12_needsOf_18 rfl 2 rfl ?_
        refine g_aload_n C dX12_needsOf_19 rfl 0 rfl ?_
        refine g_callVI (rest := [.int a2, .ref a0]) C mv_X12_349 [] (s_X12_fixedSet Iy66684 W66686) (h66691).1 (h66691).2 rfl rfl (by decide) (Nat.le_of_ble_eq_true rfl) (by decide) dX12_needsOf_20 (fun r66693 Y66694 h66695 => ?_)
        obtain ⟨rfl, h66695⟩ := h66695
        have h66695 : True := h66695
        refine g_callVI (rest := []) C mv_X12_371 [.int a2, .int r66693] (s_X12_givesAll Iy66684 (by omega) W66686) (h66691).1 (h66691).2 rfl rfl (by decide) (Nat.le_of_ble_eq_true rfl) (by decide) dX12_needsOf_23 (fun r66696 Y66697 h66698 => ?_)
        obtain ⟨rfl, h66698⟩ := h66698
        have h66698 : 0 ≤ r66696.toInt ∧ r66696.toInt ≤ 1 := h66698
        refine b_if_eq C 31 dX12_needsOf_26 (by decide) (fun h66699 => ?_) (fun h66699 => ?_)
        · have h66699 : r66696.toInt = 0 := congrArg Int32.toInt h66699
          refine g_iload_n C dX12_needsOf_31 rfl 3 rfl ?_
          refine g_bipush (v := 60) C dX12_needsOf_32 (by decide) ?_
          refine b_icmp_ge C 59 dX12_needsOf_34 (by decide) (fun h66700 => ?_) (fun h66700 => ?_)
          · have h66700 : 60 ≤ v7_3.toInt := h66700
            exact J59 Y66682 Iy66684 Xz66689 W66686 (by omega) (fun b9 e9 => by rw [e66690] at e9; cases e9; omega) (by show (pI Y66682 a0 28).toInt ≤ 5 + v7_3.toInt; omega)
          · have h66700 : v7_3.toInt < 60 := h66700
            refine g_aload_n C dX12_needsOf_37 rfl 0 rfl ?_
            refine g_iload_n C dX12_needsOf_38 rfl 1 rfl ?_
            refine g_iload_n C dX12_needsOf_39 rfl 2 rfl ?_
            refine g_iload_n C dX12_needsOf_40 rfl 3 rfl ?_
            refine g_callVI (rest := []) C mv_X12_402 [.int a1, .int a2, .int v7_3] (s_X12_falls Iy66684 (by omega) W66686) (h66691).1 (h66691).2 rfl rfl (by decide) (Nat.le_of_ble_eq_true rfl) (by decide) dX12_needsOf_41 (fun r66701 Y66702 h66703 => ?_)
            obtain ⟨rfl, h66703⟩ := h66703
            have h66703 : 0 ≤ r66701.toInt ∧ r66701.toInt ≤ 1 := h66703
            refine b_if_eq C 59 dX12_needsOf_44 (by decide) (fun h66704 => ?_) (fun h66704 => ?_)
            · have h66704 : r66701.toInt = 0 := congrArg Int32.toInt h66704
              exact J59 Y66682 Iy66684 Xz66689 W66686 (by omega) (fun b9 e9 => by rw [e66690] at e9; cases e9; omega) (by show (pI Y66682 a0 28).toInt ≤ 5 + v7_3.toInt; omega)
            · have h66704 : r66701.toInt ≠ 0 := ti_ne h66704
              refine g_aload_n C dX12_needsOf_47 rfl 0 rfl ?_
              refine g_aload_n C dX12_needsOf_48 rfl 0 rfl ?_
              refine g_iload_n C dX12_needsOf_49 rfl 2 rfl ?_
              refine g_iload_n C dX12_needsOf_50 rfl 3 rfl ?_
              refine g_callVI (rest := [.ref a0]) C mv_X12_261 [.int a2, .int v7_3] (s_X12_setOf Iy66684 (by omega) (fun b9 e9 => by rw [e66690] at e9; cases e9; show 1 ≤ (pI Y66682 b66669 (a2.toInt.toNat)).toInt ∧ (pI Y66682 b66669 (a2.toInt.toNat)).toInt ≤ 16; omega) W66686) (h66691).1 (h66691).2 rfl rfl (by decide) (Nat.le_of_ble_eq_true rfl) (by decide) dX12_needsOf_51 (fun r66705 Y66706 h66707 => ?_)
              obtain ⟨Iy66708, Xy66709, W66710, h66707⟩ := h66707
              have q66711 := Xy66709.keepA e66690 (by decide) rfl (a2.toInt.toNat)
              have q66712 := Xy66709.keepF 28 (by decide)
              have Xz66713 : EM [28, 29, 30, 31, 35, 36, 37, 38] a0 P Y66706 := EM.tr ha0 Xz66689 (Xy66709.mono (by decide))
              have e66714 := Xy66709.ref h66691 (by decide) e66690
              have h66715 := Xy66709.at h66691
              have h66716 := Xy66709.ar h66692
              have h66707 : True := h66707
              refine g_iconst (v := 0) C dX12_needsOf_54 (by decide) ?_
              refine g_iconst (v := (-1)) C dX12_needsOf_55 (by decide) ?_
              refine g_callVV (rest := []) C mv_X12_308 [.int r66705, .int 0, .int (-1)] (s_X12_adds Iy66708 (by omega) W66710) (h66715).1 (h66715).2 rfl rfl (by decide) (Nat.le_of_ble_eq_true rfl) (by decide) dX12_needsOf_56 (fun Y66718 h66719 => ?_)
              obtain ⟨Iy66720, Xy66721, W66722, p66723⟩ := h66719
              have p66723 : (pI Y66718 a0 28).toInt = (pI Y66706 a0 28).toInt + 1 := p66723
              have q66724 := Xy66721.keepA e66714 (by decide) rfl (a2.toInt.toNat)
              have Xz66725 : EM [28, 29, 30, 31, 35, 36, 37, 38] a0 P Y66718 := EM.tr ha0 Xz66713 (Xy66721.mono (by decide))
              have e66726 := Xy66721.ref h66715 (by decide) e66714
              have h66727 := Xy66721.at h66715
              have h66728 := Xy66721.ar h66716
              have h66729 := Iy66720.rg h66727 28 rfl
              exact J59 Y66718 Iy66720 Xz66725 W66722 (by omega) (fun b9 e9 => by rw [e66726] at e9; cases e9; omega) (by show (pI Y66718 a0 28).toInt ≤ 5 + v7_3.toInt; omega)
        · have h66699 : r66696.toInt ≠ 0 := ti_ne h66699
          refine g_iload_n C dX12_needsOf_29 rfl 3 rfl ?_
          exact ret _ _ _ _ _ _ dX12_needsOf_30 rfl (by decide) (by decide) ⟨Iy66684, Xz66689, W66686, (by omega)⟩
  obtain ⟨b66730, e66731, h66732⟩ := I.fld (ha0) 10 13 2 rfl
  have hf0 := hf0 b66730 e66731
  refine g_aload_n C dX12_needsOf_0 rfl 0 rfl ?_
  refine g_iload_n C dX12_needsOf_1 rfl 2 rfl ?_
  refine g_callVV (rest := []) C mv_X12_312 [.int a2] (s_X12_begins I (by omega) hW) (ha0).1 (ha0).2 rfl rfl (by decide) (Nat.le_of_ble_eq_true rfl) (by decide) dX12_needsOf_2 (fun Y66734 h66735 => ?_)
  obtain ⟨Iy66736, Xy66737, W66738, p66739⟩ := h66735
  have p66739 : (pI Y66734 a0 28).toInt ≤ 4 := p66739
  have q66740 := Xy66737.keepA e66731 (by decide) rfl (a2.toInt.toNat)
  have Xz66741 : EM [28, 29, 30, 31, 35, 36, 37, 38] a0 P Y66734 := Xy66737.mono (by decide)
  have e66742 := Xy66737.ref ha0 (by decide) e66731
  have h66743 := Xy66737.at ha0
  have h66744 := Xy66737.ar h66732
  have h66745 := Iy66736.rg h66743 28 rfl
  refine g_iconst (v := 0) C dX12_needsOf_5 (by decide) ?_
  refine g_istore_n (lv' := [(3, .int 0), (0, .ref a0), (1, .int a1), (2, .int a2)]) C dX12_needsOf_6 rfl (by decide) rfl ?_
  refine g_lv (lv' := [(0, .ref a0), (1, .int a1), (2, .int a2), (3, .int 0)]) [1, 2, 3, 0] rfl ?_
  exact J7 _ Y66734 0 (Nat.lt_succ_self _) Iy66736 Xz66741 W66738 (by decide) (fun b9 e9 => by rw [e66742] at e9; cases e9; omega) (by show (pI Y66734 a0 28).toInt ≤ 4 + 0; omega)
theorem dX12_needs_20 : decode cX12_needs 20 = .ok (.iconst (-1), 1) := by decide +kernel
theorem dX12_needs_21 : decode cX12_needs 21 = .ok (.ireturn, 1) := by decide +kernel
theorem dX12_needs_28 : decode cX12_needs 28 = .ok (.istore_n 3, 1) := by decide +kernel
theorem dX12_needs_29 : decode cX12_needs 29 = .ok (.iload_n 3, 1) := by decide +kernel
theorem dX12_needs_30 : decode cX12_needs 30 = .ok (.bipush 60, 2) := by decide +kernel
theorem dX12_needs_32 : decode cX12_needs 32 = .ok (.if_icmp .le 7, 3) := by decide +kernel
theorem dX12_needs_35 : decode cX12_needs 35 = .ok (.iconst (-1), 1) := by decide +kernel
theorem dX12_needs_36 : decode cX12_needs 36 = .ok (.goto 4, 3) := by decide +kernel
theorem dX12_needs_39 : decode cX12_needs 39 = .ok (.iload_n 3, 1) := by decide +kernel
theorem dX12_needs_40 : decode cX12_needs 40 = .ok (.ireturn, 1) := by decide +kernel
set_option maxHeartbeats 4000000 in
set_option maxRecDepth 100000 in
theorem s_X12_needs {P : PP} {a0 : Nat} {a1 : Int32} {a2 : Int32} (I : IM P a0) (hW : MW P a0) : CtrI yX12_needs cX12_needs 4 (some Jvm.ClassFile.FieldType.int) ({ frames := 7, cells := 0, slots := 0, locals := 448 } : Room) 0 0 P [.ref a0, .int a1, .int a2] (fun r P2 => IM P2 a0 ∧ EM [0, 28, 29, 30, 31, 35, 36, 37, 38] a0 P P2 ∧ MW P2 a0 ∧ (-1 ≤ r.toInt ∧ r.toInt ≤ 60)) := by
  refine enI (lv := [(0, .ref a0), (1, .int a1), (2, .int a2)]) (by decide) (Nat.le_of_ble_eq_true rfl) rfl (fun E D cy C Ci0 ret => ?_)
  have ha0 := I.2.1
  have J20 : ∀ (P20 : PP), (IM P20 a0) → (EM [0, 28, 29, 30, 31, 35, 36, 37, 38] a0 P P20) → (MW P20 a0) → (0 ≤ (pI P20 a0 0).toInt ∧ (pI P20 a0 0).toInt ≤ 0) → G E ({ frames := 7, cells := 0, slots := 0, locals := 448 } : Room) D cy 4 P20 0 0 20 [] [] := by
    intro P20 I20 X20 W20 hq20_0
    have h66782 := X20.at ha0
    refine g_iconst (v := (-1)) C dX12_needs_20 (by decide) ?_
    exact ret _ _ _ _ _ _ dX12_needs_21 rfl (by decide) (by decide) ⟨I20, X20, W20, (by decide)⟩
  refine g_aload_n C dX12_needs_0 rfl 0 rfl ?_
  refine g_iconst (v := 0) C dX12_needs_1 (by decide) ?_
  refine g_putI C fi_X12_1 rfl (ha0).1 (ha0).2 dX12_needs_2 ?_
  refine gqW (ks := [0]) (I.setI (rgOk.of rfl (by decide))) (EM.setI I (by decide)) (fun Y66783 Iy66784 Xy66785 w66786 => ?_)
  have w66786 : (pI Y66783 a0 0).toInt = 0 := w66786
  have W66787 := hW.keep I Xy66785 (by decide) (by decide) (by decide)
  have Xz66788 : EM [0, 28, 29, 30, 31, 35, 36, 37, 38] a0 P Y66783 := Xy66785.mono (by decide)
  have h66789 := Xy66785.at ha0
  refine g_iload_n C dX12_needs_5 rfl 1 rfl ?_
  refine g_callSI (b := 0) (ci := 0) (rest := []) C ms_X12_278 [.int a1] (s_X12_isQuarter Iy66784.1) rfl rfl (by decide) (Nat.le_of_ble_eq_true rfl) (by decide) dX12_needs_6 (fun r66790 Y66791 h66792 => ?_)
  obtain ⟨rfl, h66792⟩ := h66792
  obtain ⟨h66792, hi66793⟩ := h66792
  have hi66793 : r66790.toInt = 0 ∨ (((0 : Int) ≤ a1.toInt ∧ a1.toInt ≤ (3 : Int))) := hi66793
  have h66792 : 0 ≤ r66790.toInt ∧ r66790.toInt ≤ 1 := h66792
  refine b_if_eq C 20 dX12_needs_9 (by decide) (fun h66794 => ?_) (fun h66794 => ?_)
  · have h66794 : r66790.toInt = 0 := congrArg Int32.toInt h66794
    clear hi66793
    refine g_lv (lv' := []) [] rfl ?_
    exact J20 Y66783 Iy66784 Xz66788 W66787 (by omega)
  · have h66794 : r66790.toInt ≠ 0 := ti_ne h66794
    replace hi66793 := hi66793.resolve_left (by omega)
    refine g_aload_n C dX12_needs_12 rfl 0 rfl ?_
    refine g_iload_n C dX12_needs_13 rfl 2 rfl ?_
    refine g_callVI (rest := []) C mv_X12_192 [.int a2] (s_X12_isBook Iy66784 W66787) (h66789).1 (h66789).2 rfl rfl (by decide) (Nat.le_of_ble_eq_true rfl) (by decide) dX12_needs_14 (fun r66795 Y66796 h66797 => ?_)
    obtain ⟨rfl, h66797⟩ := h66797
    obtain ⟨h66797, hi66798, hi66799⟩ := h66797
    have hi66798 : r66795.toInt = 0 ∨ (((0 : Int) ≤ a2.toInt ∧ a2.toInt ≤ (1 : Int))) := hi66798
    have h66797 : 0 ≤ r66795.toInt ∧ r66795.toInt ≤ 1 := h66797
    refine b_if_ne C 22 dX12_needs_17 (by decide) (fun h66800 => ?_) (fun h66800 => ?_)
    · have h66800 : r66795.toInt ≠ 0 := ti_ne h66800
      replace hi66798 := hi66798.resolve_left (by omega)
      obtain ⟨b66801, e66802, h66803⟩ := Iy66784.fld (h66789) 10 13 2 rfl
      have hi66799 := (hi66799.resolve_left (by omega)) b66801 e66802
      have hi66799 : 0 < (pI Y66783 b66801 (a2.toInt.toNat)).toInt := hi66799
      have h66804 := Iy66784.arr e66802 rfl (a2.toInt.toNat)
      refine g_aload_n C dX12_needs_22 rfl 0 rfl ?_
      refine g_iload_n C dX12_needs_23 rfl 1 rfl ?_
      refine g_iload_n C dX12_needs_24 rfl 2 rfl ?_
      refine g_callVI (rest := []) C mv_X12_408 [.int a1, .int a2] (s_X12_needsOf Iy66784 (by omega) (by omega) (fun b9 e9 => by rw [e66802] at e9; cases e9; show 1 ≤ (pI Y66783 b66801 (a2.toInt.toNat)).toInt ∧ (pI Y66783 b66801 (a2.toInt.toNat)).toInt ≤ 16; omega) W66787) (h66789).1 (h66789).2 rfl rfl (by decide) (Nat.le_of_ble_eq_true rfl) (by decide) dX12_needs_25 (fun r66805 Y66806 h66807 => ?_)
      obtain ⟨Iy66808, Xy66809, W66810, h66807⟩ := h66807
      have q66811 := Xy66809.keepF 0 (by decide)
      have q66812 := Xy66809.keepA e66802 (by decide) rfl (a2.toInt.toNat)
      have Xz66813 : EM [0, 28, 29, 30, 31, 35, 36, 37, 38] a0 P Y66806 := EM.tr ha0 Xz66788 (Xy66809.mono (by decide))
      have e66814 := Xy66809.ref h66789 (by decide) e66802
      have h66815 := Xy66809.at h66789
      have h66816 := Xy66809.ar h66803
      have h66807 : 0 ≤ r66805.toInt ∧ r66805.toInt ≤ 61 := h66807
      refine g_istore_n (lv' := [(3, .int r66805), (0, .ref a0), (1, .int a1), (2, .int a2)]) C dX12_needs_28 rfl (by decide) rfl ?_
      refine g_iload_n C dX12_needs_29 rfl 0 rfl ?_
      refine g_bipush (v := 60) C dX12_needs_30 (by decide) ?_
      refine b_icmp_le C 39 dX12_needs_32 (by decide) (fun h66817 => ?_) (fun h66817 => ?_)
      · have h66817 : r66805.toInt ≤ 60 := h66817
        refine g_iload_n C dX12_needs_39 rfl 0 rfl ?_
        exact ret _ _ _ _ _ _ dX12_needs_40 rfl (by decide) (by decide) ⟨Iy66808, Xz66813, W66810, (by omega)⟩
      · have h66817 : 60 < r66805.toInt := h66817
        refine g_iconst (v := (-1)) C dX12_needs_35 (by decide) ?_
        refine g_goto C 40 dX12_needs_36 (by decide) ?_
        exact ret _ _ _ _ _ _ dX12_needs_40 rfl (by decide) (by decide) ⟨Iy66808, Xz66813, W66810, (by decide)⟩
    · have h66800 : r66795.toInt = 0 := congrArg Int32.toInt h66800
      clear hi66798
      refine g_lv (lv' := []) [] rfl ?_
      exact J20 Y66783 Iy66784 Xz66788 W66787 (by omega)
theorem dX12_page_0 : decode cX12_page 0 = .ok (.aload_n 0, 1) := by decide +kernel
theorem dX12_page_1 : decode cX12_page 1 = .ok (.iconst 0, 1) := by decide +kernel
theorem dX12_page_2 : decode cX12_page 2 = .ok (.putfield 1, 3) := by decide +kernel
theorem dX12_page_5 : decode cX12_page 5 = .ok (.aload_n 0, 1) := by decide +kernel
theorem dX12_page_6 : decode cX12_page 6 = .ok (.iload_n 1, 1) := by decide +kernel
theorem dX12_page_7 : decode cX12_page 7 = .ok (.invokevirtual 192, 3) := by decide +kernel
theorem dX12_page_10 : decode cX12_page 10 = .ok (.ifCond .eq 37, 3) := by decide +kernel
theorem dX12_page_13 : decode cX12_page 13 = .ok (.iload_n 2, 1) := by decide +kernel
theorem dX12_page_14 : decode cX12_page 14 = .ok (.iconst 0, 1) := by decide +kernel
theorem dX12_page_15 : decode cX12_page 15 = .ok (.aload_n 0, 1) := by decide +kernel
theorem dX12_page_16 : decode cX12_page 16 = .ok (.getfield 45, 3) := by decide +kernel
theorem dX12_page_19 : decode cX12_page 19 = .ok (.iload_n 1, 1) := by decide +kernel
theorem dX12_page_20 : decode cX12_page 20 = .ok (.iaload, 1) := by decide +kernel
theorem dX12_page_21 : decode cX12_page 21 = .ok (.iconst 1, 1) := by decide +kernel
theorem dX12_page_22 : decode cX12_page 22 = .ok (.isub, 1) := by decide +kernel
theorem dX12_page_23 : decode cX12_page 23 = .ok (.invokestatic 178, 3) := by decide +kernel
theorem dX12_page_26 : decode cX12_page 26 = .ok (.ifCond .eq 21, 3) := by decide +kernel
theorem dX12_page_29 : decode cX12_page 29 = .ok (.iload_n 3, 1) := by decide +kernel
theorem dX12_page_30 : decode cX12_page 30 = .ok (.iconst 0, 1) := by decide +kernel
theorem dX12_page_31 : decode cX12_page 31 = .ok (.ldc 195, 2) := by decide +kernel
theorem dX12_page_33 : decode cX12_page 33 = .ok (.invokestatic 178, 3) := by decide +kernel
theorem dX12_page_36 : decode cX12_page 36 = .ok (.ifCond .eq 11, 3) := by decide +kernel
theorem dX12_page_39 : decode cX12_page 39 = .ok (.aload_n 0, 1) := by decide +kernel
theorem dX12_page_40 : decode cX12_page 40 = .ok (.iload_n 1, 1) := by decide +kernel
theorem dX12_page_41 : decode cX12_page 41 = .ok (.invokevirtual 196, 3) := by decide +kernel
theorem dX12_page_44 : decode cX12_page 44 = .ok (.ifCond .eq 5, 3) := by decide +kernel
theorem dX12_page_47 : decode cX12_page 47 = .ok (.iconst 0, 1) := by decide +kernel
theorem dX12_page_48 : decode cX12_page 48 = .ok (.ireturn, 1) := by decide +kernel
theorem dX12_page_49 : decode cX12_page 49 = .ok (.aload_n 0, 1) := by decide +kernel
theorem dX12_page_50 : decode cX12_page 50 = .ok (.getfield 48, 3) := by decide +kernel
theorem dX12_page_53 : decode cX12_page 53 = .ok (.bipush 16, 2) := by decide +kernel
theorem dX12_page_55 : decode cX12_page 55 = .ok (.iload_n 1, 1) := by decide +kernel
theorem dX12_page_56 : decode cX12_page 56 = .ok (.imul, 1) := by decide +kernel
theorem dX12_page_57 : decode cX12_page 57 = .ok (.iload_n 2, 1) := by decide +kernel
theorem dX12_page_58 : decode cX12_page 58 = .ok (.iadd, 1) := by decide +kernel
theorem dX12_page_59 : decode cX12_page 59 = .ok (.iload_n 3, 1) := by decide +kernel
theorem dX12_page_60 : decode cX12_page 60 = .ok (.iastore, 1) := by decide +kernel
theorem dX12_page_61 : decode cX12_page 61 = .ok (.iconst 1, 1) := by decide +kernel
theorem dX12_page_62 : decode cX12_page 62 = .ok (.ireturn, 1) := by decide +kernel
set_option maxHeartbeats 4000000 in
set_option maxRecDepth 100000 in
theorem s_X12_page {P : PP} {a0 : Nat} {a1 : Int32} {a2 : Int32} {a3 : Int32} (I : IM P a0) (hW : MW P a0) : CtrI yX12_page cX12_page 4 (some Jvm.ClassFile.FieldType.boolean) ({ frames := 3, cells := 0, slots := 0, locals := 192 } : Room) 0 0 P [.ref a0, .int a1, .int a2, .int a3] (fun r P2 => IM P2 a0 ∧ EM [0, 11] a0 P P2 ∧ MW P2 a0 ∧ (0 ≤ r.toInt ∧ r.toInt ≤ 1) ∧ (r.toInt = 0 ∨ (((0 : Int) ≤ a1.toInt ∧ a1.toInt ≤ (1 : Int)) ∧ ((0 : Int) ≤ a2.toInt ∧ a2.toInt ≤ (15 : Int)) ∧ ((0 : Int) ≤ a3.toInt ∧ a3.toInt ≤ (65535 : Int))))) := by
  refine enI (lv := [(0, .ref a0), (1, .int a1), (2, .int a2), (3, .int a3)]) (by decide) (Nat.le_of_ble_eq_true rfl) rfl (fun E D cy C Ci0 ret => ?_)
  have ha0 := I.2.1
  have J47 : ∀ (P47 : PP), (IM P47 a0) → (EM [0, 11] a0 P P47) → (MW P47 a0) → (0 ≤ (pI P47 a0 0).toInt ∧ (pI P47 a0 0).toInt ≤ 0) → G E ({ frames := 3, cells := 0, slots := 0, locals := 192 } : Room) D cy 4 P47 0 0 47 [] [] := by
    intro P47 I47 X47 W47 hq47_0
    have h66872 := X47.at ha0
    refine g_iconst (v := 0) C dX12_page_47 (by decide) ?_
    exact ret _ _ _ _ _ _ dX12_page_48 rfl (by decide) (by decide) ⟨I47, X47, W47, (by decide), Or.inl rfl⟩
  refine g_aload_n C dX12_page_0 rfl 0 rfl ?_
  refine g_iconst (v := 0) C dX12_page_1 (by decide) ?_
  refine g_putI C fi_X12_1 rfl (ha0).1 (ha0).2 dX12_page_2 ?_
  refine gqW (ks := [0]) (I.setI (rgOk.of rfl (by decide))) (EM.setI I (by decide)) (fun Y66873 Iy66874 Xy66875 w66876 => ?_)
  have w66876 : (pI Y66873 a0 0).toInt = 0 := w66876
  have W66877 := hW.keep I Xy66875 (by decide) (by decide) (by decide)
  have Xz66878 : EM [0, 11] a0 P Y66873 := Xy66875.mono (by decide)
  have h66879 := Xy66875.at ha0
  refine g_aload_n C dX12_page_5 rfl 0 rfl ?_
  refine g_iload_n C dX12_page_6 rfl 1 rfl ?_
  refine g_callVI (rest := []) C mv_X12_192 [.int a1] (s_X12_isBook Iy66874 W66877) (h66879).1 (h66879).2 rfl rfl (by decide) (Nat.le_of_ble_eq_true rfl) (by decide) dX12_page_7 (fun r66880 Y66881 h66882 => ?_)
  obtain ⟨rfl, h66882⟩ := h66882
  obtain ⟨h66882, hi66883, hi66884⟩ := h66882
  have hi66883 : r66880.toInt = 0 ∨ (((0 : Int) ≤ a1.toInt ∧ a1.toInt ≤ (1 : Int))) := hi66883
  have h66882 : 0 ≤ r66880.toInt ∧ r66880.toInt ≤ 1 := h66882
  refine b_if_eq C 47 dX12_page_10 (by decide) (fun h66885 => ?_) (fun h66885 => ?_)
  · have h66885 : r66880.toInt = 0 := congrArg Int32.toInt h66885
    clear hi66883
    refine g_lv (lv' := []) [] rfl ?_
    exact J47 Y66873 Iy66874 Xz66878 W66877 (by omega)
  · have h66885 : r66880.toInt ≠ 0 := ti_ne h66885
    replace hi66883 := hi66883.resolve_left (by omega)
    obtain ⟨b66886, e66887, h66888⟩ := Iy66874.fld (h66879) 10 13 2 rfl
    have hi66884 := (hi66884.resolve_left (by omega)) b66886 e66887
    have hi66884 : 0 < (pI Y66873 b66886 (a1.toInt.toNat)).toInt := hi66884
    have h66889 := Iy66874.arr e66887 rfl (a1.toInt.toNat)
    refine g_iload_n C dX12_page_13 rfl 2 rfl ?_
    refine g_iconst (v := 0) C dX12_page_14 (by decide) ?_
    refine g_aload_n C dX12_page_15 rfl 0 rfl ?_
    refine g_getR C fi_X12_45 rfl e66887 (h66879).1 (h66879).2 dX12_page_16 ?_
    refine g_iload_n C dX12_page_19 rfl 1 rfl ?_
    refine g_iald (j := (a1.toInt.toNat)) C h66888.1 h66888.2.1 (ix_in h66888.2.2 (by omega)) dX12_page_20 ?_
    refine g_iconst (v := 1) C dX12_page_21 (by decide) ?_
    refine s_isub C dX12_page_22 (by show -2147483648 ≤ (pI Y66873 b66886 (a1.toInt.toNat)).toInt - 1 ∧ (pI Y66873 b66886 (a1.toInt.toNat)).toInt - 1 ≤ 2147483647; omega) (fun z66890 h66891 => ?_)
    have h66891 : z66890.toInt = (pI Y66873 b66886 (a1.toInt.toNat)).toInt - 1 := h66891
    refine g_callSI (b := 0) (ci := 0) (rest := []) C ms_X12_178 [.int a2, .int 0, .int z66890] (s_X12_within Iy66874.1) rfl rfl (by decide) (Nat.le_of_ble_eq_true rfl) (by decide) dX12_page_23 (fun r66892 Y66893 h66894 => ?_)
    obtain ⟨rfl, h66894⟩ := h66894
    obtain ⟨h66894, hi66895⟩ := h66894
    have hi66895 : r66892.toInt = 0 ∨ (0 ≤ a2.toInt ∧ a2.toInt ≤ z66890.toInt) := hi66895
    have h66894 : 0 ≤ r66892.toInt ∧ r66892.toInt ≤ 1 := h66894
    refine b_if_eq C 47 dX12_page_26 (by decide) (fun h66896 => ?_) (fun h66896 => ?_)
    · have h66896 : r66892.toInt = 0 := congrArg Int32.toInt h66896
      clear hi66895
      refine g_lv (lv' := []) [] rfl ?_
      exact J47 Y66873 Iy66874 Xz66878 W66877 (by omega)
    · have h66896 : r66892.toInt ≠ 0 := ti_ne h66896
      replace hi66895 := hi66895.resolve_left (by omega)
      refine g_iload_n C dX12_page_29 rfl 3 rfl ?_
      refine g_iconst (v := 0) C dX12_page_30 (by decide) ?_
      refine g_ldc (v := 65535) C kc_X12_195 dX12_page_31 ?_
      refine g_callSI (b := 0) (ci := 0) (rest := []) C ms_X12_178 [.int a3, .int 0, .int 65535] (s_X12_within Iy66874.1) rfl rfl (by decide) (Nat.le_of_ble_eq_true rfl) (by decide) dX12_page_33 (fun r66897 Y66898 h66899 => ?_)
      obtain ⟨rfl, h66899⟩ := h66899
      obtain ⟨h66899, hi66900⟩ := h66899
      have hi66900 : r66897.toInt = 0 ∨ (0 ≤ a3.toInt ∧ a3.toInt ≤ 65535) := hi66900
      have h66899 : 0 ≤ r66897.toInt ∧ r66897.toInt ≤ 1 := h66899
      refine b_if_eq C 47 dX12_page_36 (by decide) (fun h66901 => ?_) (fun h66901 => ?_)
      · have h66901 : r66897.toInt = 0 := congrArg Int32.toInt h66901
        clear hi66900
        refine g_lv (lv' := []) [] rfl ?_
        exact J47 Y66873 Iy66874 Xz66878 W66877 (by omega)
      · have h66901 : r66897.toInt ≠ 0 := ti_ne h66901
        replace hi66900 := hi66900.resolve_left (by omega)
        refine g_aload_n C dX12_page_39 rfl 0 rfl ?_
        refine g_iload_n C dX12_page_40 rfl 1 rfl ?_
        refine g_callVI (rest := []) C mv_X12_196 [.int a1] (s_X12_isOut Iy66874 W66877) (h66879).1 (h66879).2 rfl rfl (by decide) (Nat.le_of_ble_eq_true rfl) (by decide) dX12_page_41 (fun r66902 Y66903 h66904 => ?_)
        obtain ⟨rfl, h66904⟩ := h66904
        have h66904 : 0 ≤ r66902.toInt ∧ r66902.toInt ≤ 1 := h66904
        refine b_if_eq C 49 dX12_page_44 (by decide) (fun h66905 => ?_) (fun h66905 => ?_)
        · have h66905 : r66902.toInt = 0 := congrArg Int32.toInt h66905
          refine g_aload_n C dX12_page_49 rfl 0 rfl ?_
          obtain ⟨b66906, e66907, h66908⟩ := Iy66874.fld (h66879) 11 13 32 rfl
          refine g_getR C fi_X12_48 rfl e66907 (h66879).1 (h66879).2 dX12_page_50 ?_
          refine g_bipush (v := 16) C dX12_page_53 (by decide) ?_
          refine g_iload_n C dX12_page_55 rfl 1 rfl ?_
          refine s_imul C dX12_page_56 (by show -2147483648 ≤ 16 * a1.toInt ∧ 16 * a1.toInt ≤ 2147483647; omega) (fun z66909 h66910 => ?_)
          have h66910 : z66909.toInt = 16 * a1.toInt := h66910
          refine g_iload_n C dX12_page_57 rfl 2 rfl ?_
          refine s_iadd C dX12_page_58 (by show -2147483648 ≤ z66909.toInt + a2.toInt ∧ z66909.toInt + a2.toInt ≤ 2147483647; omega) (fun z66911 h66912 => ?_)
          have h66912 : z66911.toInt = z66909.toInt + a2.toInt := h66912
          refine g_iload_n C dX12_page_59 rfl 3 rfl ?_
          refine g_iast (j := (z66911.toInt.toNat)) C h66908.1 h66908.2.1 (ix_in h66908.2.2 (by omega)) dX12_page_60 ?_
          refine gqW (ks := [11]) (Iy66874.setA e66907 h66908 (by decide) (arOk.none rfl)) (EM.setA Iy66874 e66907 rfl (by decide)) (fun Y66913 Iy66914 Xy66915 w66916 => ?_)
          have w66916 : (pI Y66913 b66906 (z66911.toInt.toNat)).toInt = a3.toInt := w66916
          have q66917 := Xy66915.keepF 0 (by decide)
          have q66918 := Xy66915.keepA e66887 (by decide) rfl (a1.toInt.toNat)
          have W66919 := W66877.keep Iy66874 Xy66915 (by decide) (by decide) (by decide)
          have Xz66920 : EM [0, 11] a0 P Y66913 := EM.tr ha0 Xz66878 (Xy66915.mono (by decide))
          have e66921 := Xy66915.ref h66879 (by decide) e66887
          have e66922 := Xy66915.ref h66879 (by decide) e66907
          have h66923 := Xy66915.at h66879
          have h66924 := Xy66915.ar h66888
          have h66925 := Xy66915.ar h66908
          refine g_iconst (v := 1) C dX12_page_61 (by decide) ?_
          exact ret _ _ _ _ _ _ dX12_page_62 rfl (by decide) (by decide) ⟨Iy66914, Xz66920, W66919, (by decide), Or.inr (by omega)⟩
        · have h66905 : r66902.toInt ≠ 0 := ti_ne h66905
          refine g_lv (lv' := []) [] rfl ?_
          exact J47 Y66873 Iy66874 Xz66878 W66877 (by omega)
theorem dX12_paper_0 : decode cX12_paper 0 = .ok (.aload_n 0, 1) := by decide +kernel
theorem dX12_paper_1 : decode cX12_paper 1 = .ok (.aload_n 0, 1) := by decide +kernel
theorem dX12_paper_2 : decode cX12_paper 2 = .ok (.iload_n 1, 1) := by decide +kernel
theorem dX12_paper_3 : decode cX12_paper 3 = .ok (.iload_n 2, 1) := by decide +kernel
theorem dX12_paper_4 : decode cX12_paper 4 = .ok (.invokevirtual 298, 3) := by decide +kernel
theorem dX12_paper_7 : decode cX12_paper 7 = .ok (.ifCond .eq 16, 3) := by decide +kernel
theorem dX12_paper_10 : decode cX12_paper 10 = .ok (.iload_n 3, 1) := by decide +kernel
theorem dX12_paper_11 : decode cX12_paper 11 = .ok (.iconst 0, 1) := by decide +kernel
theorem dX12_paper_12 : decode cX12_paper 12 = .ok (.iconst 5, 1) := by decide +kernel
theorem dX12_paper_13 : decode cX12_paper 13 = .ok (.invokestatic 178, 3) := by decide +kernel
theorem dX12_paper_16 : decode cX12_paper 16 = .ok (.ifCond .eq 7, 3) := by decide +kernel
theorem dX12_paper_19 : decode cX12_paper 19 = .ok (.iconst 0, 1) := by decide +kernel
theorem dX12_paper_20 : decode cX12_paper 20 = .ok (.goto 4, 3) := by decide +kernel
theorem dX12_paper_23 : decode cX12_paper 23 = .ok (.iconst 1, 1) := by decide +kernel
theorem dX12_paper_24 : decode cX12_paper 24 = .ok (.putfield 1, 3) := by decide +kernel
theorem dX12_paper_27 : decode cX12_paper 27 = .ok (.aload_n 0, 1) := by decide +kernel
theorem dX12_paper_28 : decode cX12_paper 28 = .ok (.getfield 1, 3) := by decide +kernel
theorem dX12_paper_31 : decode cX12_paper 31 = .ok (.ifCond .le 5, 3) := by decide +kernel
theorem dX12_paper_36 : decode cX12_paper 36 = .ok (.bipush 40, 2) := by decide +kernel
theorem dX12_paper_38 : decode cX12_paper 38 = .ok (.iload_n 1, 1) := by decide +kernel
theorem dX12_paper_39 : decode cX12_paper 39 = .ok (.imul, 1) := by decide +kernel
theorem dX12_paper_40 : decode cX12_paper 40 = .ok (.iload_n 2, 1) := by decide +kernel
theorem dX12_paper_41 : decode cX12_paper 41 = .ok (.iadd, 1) := by decide +kernel
theorem dX12_paper_42 : decode cX12_paper 42 = .ok (.istore 4, 2) := by decide +kernel
theorem dX12_paper_44 : decode cX12_paper 44 = .ok (.iload_n 3, 1) := by decide +kernel
theorem dX12_paper_45 : decode cX12_paper 45 = .ok (.tableswitch 75 0 4 #[35, 43, 51, 59, 67], 35) := by decide +kernel
theorem dX12_paper_120 : decode cX12_paper 120 = .ok (.aload_n 0, 1) := by decide +kernel
theorem dX12_paper_121 : decode cX12_paper 121 = .ok (.getfield 75, 3) := by decide +kernel
theorem dX12_paper_124 : decode cX12_paper 124 = .ok (.iload 4, 2) := by decide +kernel
theorem dX12_paper_126 : decode cX12_paper 126 = .ok (.iaload, 1) := by decide +kernel
theorem dX12_paper_127 : decode cX12_paper 127 = .ok (.ifCond .ge 7, 3) := by decide +kernel
theorem dX12_paper_134 : decode cX12_paper 134 = .ok (.aload_n 0, 1) := by decide +kernel
theorem dX12_paper_135 : decode cX12_paper 135 = .ok (.iload_n 1, 1) := by decide +kernel
theorem dX12_paper_136 : decode cX12_paper 136 = .ok (.iload_n 2, 1) := by decide +kernel
theorem dX12_paper_137 : decode cX12_paper 137 = .ok (.invokevirtual 358, 3) := by decide +kernel
theorem dX12_unknownOf_0 : decode cX12_unknownOf 0 = .ok (.bipush 40, 2) := by decide +kernel
theorem dX12_unknownOf_2 : decode cX12_unknownOf 2 = .ok (.iload_n 1, 1) := by decide +kernel
theorem dX12_unknownOf_3 : decode cX12_unknownOf 3 = .ok (.imul, 1) := by decide +kernel
theorem dX12_unknownOf_4 : decode cX12_unknownOf 4 = .ok (.iload_n 2, 1) := by decide +kernel
theorem dX12_unknownOf_5 : decode cX12_unknownOf 5 = .ok (.iadd, 1) := by decide +kernel
theorem dX12_unknownOf_6 : decode cX12_unknownOf 6 = .ok (.istore_n 3, 1) := by decide +kernel
theorem dX12_unknownOf_7 : decode cX12_unknownOf 7 = .ok (.aload_n 0, 1) := by decide +kernel
theorem dX12_unknownOf_8 : decode cX12_unknownOf 8 = .ok (.getfield 75, 3) := by decide +kernel
theorem dX12_unknownOf_11 : decode cX12_unknownOf 11 = .ok (.iload_n 3, 1) := by decide +kernel
theorem dX12_unknownOf_12 : decode cX12_unknownOf 12 = .ok (.iaload, 1) := by decide +kernel
theorem dX12_unknownOf_13 : decode cX12_unknownOf 13 = .ok (.istore 4, 2) := by decide +kernel
theorem dX12_unknownOf_15 : decode cX12_unknownOf 15 = .ok (.aload_n 0, 1) := by decide +kernel
theorem dX12_unknownOf_16 : decode cX12_unknownOf 16 = .ok (.invokevirtual 336, 3) := by decide +kernel
theorem dX12_unknownOf_19 : decode cX12_unknownOf 19 = .ok (.aload_n 0, 1) := by decide +kernel
theorem dX12_unknownOf_20 : decode cX12_unknownOf 20 = .ok (.iload 4, 2) := by decide +kernel
theorem dX12_unknownOf_22 : decode cX12_unknownOf 22 = .ok (.aload_n 0, 1) := by decide +kernel
theorem dX12_unknownOf_23 : decode cX12_unknownOf 23 = .ok (.getfield 72, 3) := by decide +kernel
theorem dX12_unknownOf_26 : decode cX12_unknownOf 26 = .ok (.iload_n 3, 1) := by decide +kernel
theorem dX12_unknownOf_27 : decode cX12_unknownOf 27 = .ok (.iaload, 1) := by decide +kernel
theorem dX12_unknownOf_28 : decode cX12_unknownOf 28 = .ok (.invokevirtual 261, 3) := by decide +kernel
theorem dX12_unknownOf_31 : decode cX12_unknownOf 31 = .ok (.istore 5, 2) := by decide +kernel
theorem dX12_unknownOf_33 : decode cX12_unknownOf 33 = .ok (.iconst 0, 1) := by decide +kernel
theorem dX12_unknownOf_34 : decode cX12_unknownOf 34 = .ok (.istore 6, 2) := by decide +kernel
theorem dX12_unknownOf_36 : decode cX12_unknownOf 36 = .ok (.iconst 0, 1) := by decide +kernel
theorem dX12_unknownOf_37 : decode cX12_unknownOf 37 = .ok (.istore 7, 2) := by decide +kernel
theorem dX12_unknownOf_39 : decode cX12_unknownOf 39 = .ok (.iload 7, 2) := by decide +kernel
theorem dX12_unknownOf_41 : decode cX12_unknownOf 41 = .ok (.iconst 2, 1) := by decide +kernel
theorem dX12_unknownOf_42 : decode cX12_unknownOf 42 = .ok (.if_icmp .ge 57, 3) := by decide +kernel
theorem dX12_unknownOf_45 : decode cX12_unknownOf 45 = .ok (.aload_n 0, 1) := by decide +kernel
theorem dX12_unknownOf_46 : decode cX12_unknownOf 46 = .ok (.getfield 81, 3) := by decide +kernel
theorem dX12_unknownOf_49 : decode cX12_unknownOf 49 = .ok (.iload_n 3, 1) := by decide +kernel
theorem dX12_unknownOf_50 : decode cX12_unknownOf 50 = .ok (.iaload, 1) := by decide +kernel
theorem dX12_unknownOf_51 : decode cX12_unknownOf 51 = .ok (.iload 7, 2) := by decide +kernel
theorem dX12_unknownOf_53 : decode cX12_unknownOf 53 = .ok (.ishr, 1) := by decide +kernel
theorem dX12_unknownOf_54 : decode cX12_unknownOf 54 = .ok (.iconst 1, 1) := by decide +kernel
theorem dX12_unknownOf_55 : decode cX12_unknownOf 55 = .ok (.iand, 1) := by decide +kernel
theorem dX12_unknownOf_56 : decode cX12_unknownOf 56 = .ok (.iconst 1, 1) := by decide +kernel
theorem dX12_unknownOf_57 : decode cX12_unknownOf 57 = .ok (.if_icmp .ne 36, 3) := by decide +kernel
theorem dX12_unknownOf_60 : decode cX12_unknownOf 60 = .ok (.aload_n 0, 1) := by decide +kernel
theorem dX12_unknownOf_61 : decode cX12_unknownOf 61 = .ok (.iload_n 1, 1) := by decide +kernel
theorem dX12_unknownOf_62 : decode cX12_unknownOf 62 = .ok (.iload 4, 2) := by decide +kernel
theorem dX12_unknownOf_64 : decode cX12_unknownOf 64 = .ok (.iload 7, 2) := by decide +kernel
theorem dX12_unknownOf_66 : decode cX12_unknownOf 66 = .ok (.aload_n 0, 1) := by decide +kernel
theorem dX12_unknownOf_67 : decode cX12_unknownOf 67 = .ok (.getfield 69, 3) := by decide +kernel
theorem dX12_unknownOf_70 : decode cX12_unknownOf 70 = .ok (.iload_n 1, 1) := by decide +kernel
theorem dX12_unknownOf_71 : decode cX12_unknownOf 71 = .ok (.iaload, 1) := by decide +kernel
theorem dX12_unknownOf_72 : decode cX12_unknownOf 72 = .ok (.invokevirtual 339, 3) := by decide +kernel
theorem dX12_unknownOf_75 : decode cX12_unknownOf 75 = .ok (.aload_n 0, 1) := by decide +kernel
theorem dX12_unknownOf_76 : decode cX12_unknownOf 76 = .ok (.invokevirtual 343, 3) := by decide +kernel
theorem dX12_unknownOf_79 : decode cX12_unknownOf 79 = .ok (.iload 6, 2) := by decide +kernel
theorem dX12_unknownOf_81 : decode cX12_unknownOf 81 = .ok (.iload 5, 2) := by decide +kernel
theorem dX12_unknownOf_83 : decode cX12_unknownOf 83 = .ok (.aload_n 0, 1) := by decide +kernel
theorem dX12_unknownOf_84 : decode cX12_unknownOf 84 = .ok (.getfield 318, 3) := by decide +kernel
theorem dX12_unknownOf_87 : decode cX12_unknownOf 87 = .ok (.iconst (-1), 1) := by decide +kernel
theorem dX12_unknownOf_88 : decode cX12_unknownOf 88 = .ok (.ixor, 1) := by decide +kernel
theorem dX12_unknownOf_89 : decode cX12_unknownOf 89 = .ok (.iand, 1) := by decide +kernel
theorem dX12_unknownOf_90 : decode cX12_unknownOf 90 = .ok (.ior, 1) := by decide +kernel
theorem dX12_unknownOf_91 : decode cX12_unknownOf 91 = .ok (.istore 6, 2) := by decide +kernel
theorem dX12_unknownOf_93 : decode cX12_unknownOf 93 = .ok (.iinc 7 1, 3) := by decide +kernel
theorem dX12_unknownOf_96 : decode cX12_unknownOf 96 = .ok (.goto (-57), 3) := by decide +kernel
theorem dX12_unknownOf_99 : decode cX12_unknownOf 99 = .ok (.iload 6, 2) := by decide +kernel
theorem dX12_unknownOf_101 : decode cX12_unknownOf 101 = .ok (.invokestatic 264, 3) := by decide +kernel
theorem dX12_unknownOf_104 : decode cX12_unknownOf 104 = .ok (.ireturn, 1) := by decide +kernel
set_option maxHeartbeats 4000000 in
set_option maxRecDepth 100000 in
theorem s_X12_unknownOf {P : PP} {a0 : Nat} {a1 : Int32} {a2 : Int32} (I : IM P a0) (ha1 : 0 ≤ a1.toInt ∧ a1.toInt ≤ 3) (ha2 : 0 ≤ a2.toInt ∧ a2.toInt ≤ 39) (hW : MW P a0) (hb : ∀ b, pR P a0 22 = some b → 0 ≤ (pI P b (40 * a1.toInt + a2.toInt).toNat).toInt) : CtrI yX12_unknownOf cX12_unknownOf 8 (some Jvm.ClassFile.FieldType.int) ({ frames := 7, cells := 0, slots := 0, locals := 448 } : Room) 0 0 P [.ref a0, .int a1, .int a2] (fun r P2 => IM P2 a0 ∧ EM [28, 29, 30, 31, 32, 33, 34] a0 P P2 ∧ MW P2 a0 ∧ (True)) := by
  refine enI (lv := [(0, .ref a0), (1, .int a1), (2, .int a2)]) (by decide) (Nat.le_of_ble_eq_true rfl) rfl (fun E D cy C Ci0 ret => ?_)
  have ha0 := I.2.1
  have J39 : ∀ (n39 : Nat) (P39 : PP) (v39_3 : Int32) (v39_4 : Int32) (v39_5 : Int32) (v39_6 : Int32) (v39_7 : Int32), (2 - v39_7.toInt).toNat < n39 → (IM P39 a0) → (EM [28, 29, 30, 31, 32, 33, 34] a0 P P39) → (MW P39 a0) → (0 ≤ v39_3.toInt ∧ v39_3.toInt ≤ 159) → (0 ≤ v39_4.toInt ∧ v39_4.toInt ≤ 1) → (0 ≤ v39_7.toInt ∧ v39_7.toInt ≤ 2) → (∀ b910, pR P39 a0 10 = some b910 → 0 < (pI P39 b910 (v39_4.toInt.toNat)).toInt) → G E ({ frames := 7, cells := 0, slots := 0, locals := 448 } : Room) D cy 8 P39 0 0 39 [(0, .ref a0), (1, .int a1), (3, .int v39_3), (4, .int v39_4), (5, .int v39_5), (6, .int v39_6), (7, .int v39_7)] [] := by
    intro n39
    induction n39 with
    | zero => intro P39 v39_3 v39_4 v39_5 v39_6 v39_7 hm39 I39 X39 W39 hv39_3 hv39_4 hv39_7 rel39_0; omega
    | succ n39 ih39 =>
      intro P39 v39_3 v39_4 v39_5 v39_6 v39_7 hm39 I39 X39 W39 hv39_3 hv39_4 hv39_7 rel39_0
      have h67187 := X39.at ha0
      obtain ⟨b67188, e67189, h67190⟩ := I39.fld (h67187) 10 13 2 rfl
      have rel39_0 := rel39_0 b67188 e67189
      have h67191 := I39.arr e67189 rfl (v39_4.toInt.toNat)
      have J93 : ∀ (P93 : PP) (v93_6 : Int32), (IM P93 a0) → (EM [28, 29, 30, 31, 32, 33, 34] a0 P P93) → (MW P93 a0) → (0 ≤ v39_7.toInt ∧ v39_7.toInt ≤ 1) → (∀ b910, pR P93 a0 10 = some b910 → 0 < (pI P93 b910 (v39_4.toInt.toNat)).toInt) → G E ({ frames := 7, cells := 0, slots := 0, locals := 448 } : Room) D cy 8 P93 0 0 93 [(0, .ref a0), (1, .int a1), (3, .int v39_3), (4, .int v39_4), (5, .int v39_5), (6, .int v93_6), (7, .int v39_7)] [] := by
        intro P93 v93_6 I93 X93 W93 hv93_7 rel93_0
        have h67192 := X93.at ha0
        obtain ⟨b67193, e67194, h67195⟩ := I93.fld (h67192) 10 13 2 rfl
        have rel93_0 := rel93_0 b67193 e67194
        have h67196 := I93.arr e67194 rfl (v39_4.toInt.toNat)
        refine s_iinc (lv0 := [(0, .ref a0), (1, .int a1), (3, .int v39_3), (4, .int v39_4), (5, .int v39_5), (6, .int v93_6)]) (m := 1) C dX12_unknownOf_93 6 rfl (by decide) rfl (by decide) (by omega) (fun z67197 h67198 => ?_)
        have h67198 : z67197.toInt = v39_7.toInt + 1 := h67198
        refine g_goto C 39 dX12_unknownOf_96 (by decide) ?_
        refine g_lv (lv' := [(0, .ref a0), (1, .int a1), (3, .int v39_3), (4, .int v39_4), (5, .int v39_5), (6, .int v93_6), (7, .int z67197)]) [1, 2, 3, 4, 5, 6, 0] rfl ?_
        exact ih39 P93 v39_3 v39_4 v39_5 v93_6 z67197 (by omega) I93 X93 W93 (by omega) (by omega) (by omega) (by intro b910 e910; rw [e67194] at e910; cases e910; show 0 < (pI P93 b67193 (v39_4.toInt.toNat)).toInt; omega)
      refine g_iload C dX12_unknownOf_39 6 rfl ?_
      refine g_iconst (v := 2) C dX12_unknownOf_41 (by decide) ?_
      refine b_icmp_ge C 99 dX12_unknownOf_42 (by decide) (fun h67199 => ?_) (fun h67199 => ?_)
      · have h67199 : 2 ≤ v39_7.toInt := h67199
        refine g_iload C dX12_unknownOf_99 5 rfl ?_
        refine g_callSI (b := 0) (ci := 0) (rest := []) C ms_X12_264 [.int v39_6] (s_X12_bits I39.1) rfl rfl (by decide) (Nat.le_of_ble_eq_true rfl) (by decide) dX12_unknownOf_101 (fun r67200 Y67201 h67202 => ?_)
        obtain ⟨rfl, h67202⟩ := h67202
        have h67202 : True := h67202
        exact ret _ _ _ _ _ _ dX12_unknownOf_104 rfl (by decide) (by decide) ⟨I39, X39, W39, trivial⟩
      · have h67199 : v39_7.toInt < 2 := h67199
        refine g_aload_n C dX12_unknownOf_45 rfl 0 rfl ?_
        obtain ⟨b67203, e67204, h67205⟩ := I39.fld (h67187) 24 13 800 rfl
        refine g_getR C fi_X12_81 rfl e67204 (h67187).1 (h67187).2 dX12_unknownOf_46 ?_
        refine g_iload_n C dX12_unknownOf_49 rfl 2 rfl ?_
        refine g_iald (j := (v39_3.toInt.toNat)) C h67205.1 h67205.2.1 (ix_in h67205.2.2 (by omega)) dX12_unknownOf_50 ?_
        refine g_iload C dX12_unknownOf_51 6 rfl ?_
        refine a_ishr C dX12_unknownOf_53 (fun z67206 => ?_)
        refine g_iconst (v := 1) C dX12_unknownOf_54 (by decide) ?_
        refine s_iand C dX12_unknownOf_55 (by show 0 ≤ 1; omega) (fun z67208 h67209 => ?_)
        have h67209 : 0 ≤ z67208.toInt ∧ z67208.toInt ≤ 1 := h67209
        refine g_iconst (v := 1) C dX12_unknownOf_56 (by decide) ?_
        refine b_icmp_ne C 93 dX12_unknownOf_57 (by decide) (fun h67210 => ?_) (fun h67210 => ?_)
        · have h67210 : z67208.toInt ≠ 1 := ti_ne h67210
          exact J93 P39 v39_6 I39 X39 W39 (by omega) (by intro b910 e910; rw [e67189] at e910; cases e910; show 0 < (pI P39 b67188 (v39_4.toInt.toNat)).toInt; omega)
        · have h67210 : z67208.toInt = 1 := congrArg Int32.toInt h67210
          refine g_aload_n C dX12_unknownOf_60 rfl 0 rfl ?_
          refine g_iload_n C dX12_unknownOf_61 rfl 1 rfl ?_
          refine g_iload C dX12_unknownOf_62 3 rfl ?_
          refine g_iload C dX12_unknownOf_64 6 rfl ?_
          refine g_aload_n C dX12_unknownOf_66 rfl 0 rfl ?_
          obtain ⟨b67211, e67212, h67213⟩ := I39.fld (h67187) 20 13 20 rfl
          refine g_getR C fi_X12_69 rfl e67212 (h67187).1 (h67187).2 dX12_unknownOf_67 ?_
          refine g_iload_n C dX12_unknownOf_70 rfl 1 rfl ?_
          refine g_iald (j := (a1.toInt.toNat)) C h67213.1 h67213.2.1 (ix_in h67213.2.2 (by omega)) dX12_unknownOf_71 ?_
          have h67214 := I39.arr e67212 rfl (a1.toInt.toNat)
          refine g_callVV (rest := []) C mv_X12_339 [.int a1, .int v39_4, .int v39_7, .int (pI P39 b67211 (a1.toInt.toNat))] (s_X12_gathers I39 (by omega) (by omega) (by omega) (fun b9 e9 => by rw [e67189] at e9; cases e9; show 1 ≤ (pI P39 b67188 (v39_4.toInt.toNat)).toInt ∧ (pI P39 b67188 (v39_4.toInt.toNat)).toInt ≤ 16; omega) W39) (h67187).1 (h67187).2 rfl rfl (by decide) (Nat.le_of_ble_eq_true rfl) (by decide) dX12_unknownOf_72 (fun Y67216 h67217 => ?_)
          obtain ⟨Iy67218, Xy67219, W67220, p67221⟩ := h67217
          have p67221 : (pI Y67216 a0 28).toInt ≤ 4 + (pI P39 b67211 (a1.toInt.toNat)).toInt := p67221
          have q67222 := Xy67219.keepA e67189 (by decide) rfl (v39_4.toInt.toNat)
          have q67223 := Xy67219.keepA e67212 (by decide) rfl (a1.toInt.toNat)
          have Xz67224 : EM [28, 29, 30, 31, 32, 33, 34] a0 P Y67216 := EM.tr ha0 X39 (Xy67219.mono (by decide))
          have e67225 := Xy67219.ref h67187 (by decide) e67189
          have e67226 := Xy67219.ref h67187 (by decide) e67212
          have h67227 := Xy67219.at h67187
          have h67228 := Xy67219.ar h67190
          have h67229 := Xy67219.ar h67213
          have h67230 := Iy67218.rg h67227 28 rfl
          refine g_aload_n C dX12_unknownOf_75 rfl 0 rfl ?_
          refine g_callVV (rest := []) C mv_X12_343 [] (s_X12_findPeeled Iy67218 W67220) (h67227).1 (h67227).2 rfl rfl (by decide) (Nat.le_of_ble_eq_true rfl) (by decide) dX12_unknownOf_76 (fun Y67232 h67233 => ?_)
          obtain ⟨Iy67234, Xy67235, W67236⟩ := h67233
          have q67237 := Xy67235.keepA e67225 (by decide) rfl (v39_4.toInt.toNat)
          have q67238 := Xy67235.keepA e67226 (by decide) rfl (a1.toInt.toNat)
          have q67239 := Xy67235.keepF 28 (by decide)
          have Xz67240 : EM [28, 29, 30, 31, 32, 33, 34] a0 P Y67232 := EM.tr ha0 Xz67224 (Xy67235.mono (by decide))
          have e67241 := Xy67235.ref h67227 (by decide) e67225
          have e67242 := Xy67235.ref h67227 (by decide) e67226
          have h67243 := Xy67235.at h67227
          have h67244 := Xy67235.ar h67228
          have h67245 := Xy67235.ar h67229
          refine g_iload C dX12_unknownOf_79 5 rfl ?_
          refine g_iload C dX12_unknownOf_81 4 rfl ?_
          refine g_aload_n C dX12_unknownOf_83 rfl 0 rfl ?_
          refine g_getI C fi_X12_318 (by decide) (h67243).1 (h67243).2 dX12_unknownOf_84 ?_
          refine g_iconst (v := (-1)) C dX12_unknownOf_87 (by decide) ?_
          refine a_ixor C dX12_unknownOf_88 (fun z67246 => ?_)
          refine a_iand C dX12_unknownOf_89 (fun z67248 => ?_)
          refine a_ior C dX12_unknownOf_90 (fun z67250 => ?_)
          refine g_istore (lv' := [(6, .int z67250), (0, .ref a0), (1, .int a1), (3, .int v39_3), (4, .int v39_4), (5, .int v39_5), (7, .int v39_7)]) C dX12_unknownOf_91 (by decide) rfl ?_
          refine g_lv (lv' := [(0, .ref a0), (1, .int a1), (3, .int v39_3), (4, .int v39_4), (5, .int v39_5), (6, .int z67250), (7, .int v39_7)]) [1, 2, 3, 4, 5, 0, 6] rfl ?_
          exact J93 Y67232 z67250 Iy67234 Xz67240 W67236 (by omega) (by intro b910 e910; rw [e67241] at e910; cases e910; show 0 < (pI Y67232 b67188 (v39_4.toInt.toNat)).toInt; omega)
  refine g_bipush (v := 40) C dX12_unknownOf_0 (by decide) ?_
  refine g_iload_n C dX12_unknownOf_2 rfl 1 rfl ?_
  refine s_imul C dX12_unknownOf_3 (by show -2147483648 ≤ 40 * a1.toInt ∧ 40 * a1.toInt ≤ 2147483647; omega) (fun z67252 h67253 => ?_)
  have h67253 : z67252.toInt = 40 * a1.toInt := h67253
  refine g_iload_n C dX12_unknownOf_4 rfl 2 rfl ?_
  refine s_iadd C dX12_unknownOf_5 (by show -2147483648 ≤ z67252.toInt + a2.toInt ∧ z67252.toInt + a2.toInt ≤ 2147483647; omega) (fun z67254 h67255 => ?_)
  have h67255 : z67254.toInt = z67252.toInt + a2.toInt := h67255
  refine g_istore_n (lv' := [(3, .int z67254), (0, .ref a0), (1, .int a1), (2, .int a2)]) C dX12_unknownOf_6 rfl (by decide) rfl ?_
  refine g_aload_n C dX12_unknownOf_7 rfl 1 rfl ?_
  obtain ⟨b67256, e67257, h67258⟩ := I.fld (ha0) 22 13 800 rfl
  refine g_getR C fi_X12_75 rfl e67257 (ha0).1 (ha0).2 dX12_unknownOf_8 ?_
  refine g_iload_n C dX12_unknownOf_11 rfl 0 rfl ?_
  refine g_iald (j := (z67254.toInt.toNat)) C h67258.1 h67258.2.1 (ix_in h67258.2.2 (by omega)) dX12_unknownOf_12 ?_
  have h67259 := I.arr e67257 rfl (z67254.toInt.toNat)
  have hb := hb b67256 e67257
  rw [show (40 * a1.toInt + a2.toInt).toNat = z67254.toInt.toNat by omega] at hb
  refine g_topi (fun z67260 h67261 => ?_)
  have h67261 : z67260.toInt = (pI P b67256 (z67254.toInt.toNat)).toInt := congrArg Int32.toInt h67261
  refine g_istore (lv' := [(4, .int z67260), (3, .int z67254), (0, .ref a0), (1, .int a1), (2, .int a2)]) C dX12_unknownOf_13 (by decide) rfl ?_
  obtain ⟨b67262, e67263, h67264⟩ := I.fld (ha0) 10 13 2 rfl
  have ht := hW.told e67257 e67263 hb
  rw [show (pI P b67256 (z67254.toInt.toNat)).toInt = z67260.toInt by omega] at ht
  have h67265 := I.arr e67263 rfl (z67260.toInt.toNat)
  refine g_aload_n C dX12_unknownOf_15 rfl 2 rfl ?_
  refine g_callVV (rest := []) C mv_X12_336 [] (s_X12_leavesNone I hW) (ha0).1 (ha0).2 rfl rfl (by decide) (Nat.le_of_ble_eq_true rfl) (by decide) dX12_unknownOf_16 (fun Y67267 h67268 => ?_)
  obtain ⟨Iy67269, Xy67270, W67271⟩ := h67268
  have q67272 := Xy67270.keepA e67257 (by decide) rfl (z67254.toInt.toNat)
  have q67273 := Xy67270.keepA e67263 (by decide) rfl (z67260.toInt.toNat)
  have Xz67274 : EM [28, 29, 30, 31, 32, 33, 34] a0 P Y67267 := Xy67270.mono (by decide)
  have e67275 := Xy67270.ref ha0 (by decide) e67257
  have e67276 := Xy67270.ref ha0 (by decide) e67263
  have h67277 := Xy67270.at ha0
  have h67278 := Xy67270.ar h67258
  have h67279 := Xy67270.ar h67264
  refine g_aload_n C dX12_unknownOf_19 rfl 2 rfl ?_
  refine g_iload C dX12_unknownOf_20 0 rfl ?_
  refine g_aload_n C dX12_unknownOf_22 rfl 2 rfl ?_
  obtain ⟨b67280, e67281, h67282⟩ := Iy67269.fld (h67277) 21 13 800 rfl
  refine g_getR C fi_X12_72 rfl e67281 (h67277).1 (h67277).2 dX12_unknownOf_23 ?_
  refine g_iload_n C dX12_unknownOf_26 rfl 1 rfl ?_
  refine g_iald (j := (z67254.toInt.toNat)) C h67282.1 h67282.2.1 (ix_in h67282.2.2 (by omega)) dX12_unknownOf_27 ?_
  refine g_callVI (rest := []) C mv_X12_261 [.int z67260, .int (pI Y67267 b67280 (z67254.toInt.toNat))] (s_X12_setOf Iy67269 (by omega) (fun b9 e9 => by rw [e67276] at e9; cases e9; show 1 ≤ (pI Y67267 b67262 (z67260.toInt.toNat)).toInt ∧ (pI Y67267 b67262 (z67260.toInt.toNat)).toInt ≤ 16; omega) W67271) (h67277).1 (h67277).2 rfl rfl (by decide) (Nat.le_of_ble_eq_true rfl) (by decide) dX12_unknownOf_28 (fun r67283 Y67284 h67285 => ?_)
  obtain ⟨Iy67286, Xy67287, W67288, h67285⟩ := h67285
  have q67289 := Xy67287.keepA e67275 (by decide) rfl (z67254.toInt.toNat)
  have q67290 := Xy67287.keepA e67276 (by decide) rfl (z67260.toInt.toNat)
  have Xz67291 : EM [28, 29, 30, 31, 32, 33, 34] a0 P Y67284 := EM.tr ha0 Xz67274 (Xy67287.mono (by decide))
  have e67292 := Xy67287.ref h67277 (by decide) e67275
  have e67293 := Xy67287.ref h67277 (by decide) e67276
  have h67294 := Xy67287.at h67277
  have h67295 := Xy67287.ar h67278
  have h67296 := Xy67287.ar h67279
  have h67285 : True := h67285
  refine g_istore (lv' := [(5, .int r67283), (4, .int z67260), (3, .int z67254), (0, .ref a0), (1, .int a1), (2, .int a2)]) C dX12_unknownOf_31 (by decide) rfl ?_
  refine g_iconst (v := 0) C dX12_unknownOf_33 (by decide) ?_
  refine g_istore (lv' := [(6, .int 0), (5, .int r67283), (4, .int z67260), (3, .int z67254), (0, .ref a0), (1, .int a1), (2, .int a2)]) C dX12_unknownOf_34 (by decide) rfl ?_
  refine g_iconst (v := 0) C dX12_unknownOf_36 (by decide) ?_
  refine g_istore (lv' := [(7, .int 0), (6, .int 0), (5, .int r67283), (4, .int z67260), (3, .int z67254), (0, .ref a0), (1, .int a1), (2, .int a2)]) C dX12_unknownOf_37 (by decide) rfl ?_
  refine g_lv (lv' := [(0, .ref a0), (1, .int a1), (3, .int z67254), (4, .int z67260), (5, .int r67283), (6, .int 0), (7, .int 0)]) [5, 6, 4, 3, 2, 1, 0] rfl ?_
  exact J39 _ Y67284 z67254 z67260 r67283 0 0 (Nat.lt_succ_self _) Iy67286 Xz67291 W67288 (by omega) (by omega) (by decide) (by intro b910 e910; rw [e67293] at e910; cases e910; show 0 < (pI Y67284 b67262 (z67260.toInt.toNat)).toInt; omega)
theorem dX12_paper_34 : decode cX12_paper 34 = .ok (.iconst 0, 1) := by decide +kernel
theorem dX12_paper_35 : decode cX12_paper 35 = .ok (.ireturn, 1) := by decide +kernel
theorem dX12_paper_80 : decode cX12_paper 80 = .ok (.aload_n 0, 1) := by decide +kernel
theorem dX12_paper_81 : decode cX12_paper 81 = .ok (.getfield 75, 3) := by decide +kernel
theorem dX12_paper_84 : decode cX12_paper 84 = .ok (.iload 4, 2) := by decide +kernel
theorem dX12_paper_86 : decode cX12_paper 86 = .ok (.iaload, 1) := by decide +kernel
theorem dX12_paper_87 : decode cX12_paper 87 = .ok (.ireturn, 1) := by decide +kernel
theorem dX12_paper_88 : decode cX12_paper 88 = .ok (.aload_n 0, 1) := by decide +kernel
theorem dX12_paper_89 : decode cX12_paper 89 = .ok (.getfield 72, 3) := by decide +kernel
theorem dX12_paper_92 : decode cX12_paper 92 = .ok (.iload 4, 2) := by decide +kernel
theorem dX12_paper_94 : decode cX12_paper 94 = .ok (.iaload, 1) := by decide +kernel
theorem dX12_paper_95 : decode cX12_paper 95 = .ok (.ireturn, 1) := by decide +kernel
theorem dX12_paper_96 : decode cX12_paper 96 = .ok (.aload_n 0, 1) := by decide +kernel
theorem dX12_paper_97 : decode cX12_paper 97 = .ok (.getfield 78, 3) := by decide +kernel
theorem dX12_paper_100 : decode cX12_paper 100 = .ok (.iload 4, 2) := by decide +kernel
theorem dX12_paper_102 : decode cX12_paper 102 = .ok (.iaload, 1) := by decide +kernel
theorem dX12_paper_103 : decode cX12_paper 103 = .ok (.ireturn, 1) := by decide +kernel
theorem dX12_paper_104 : decode cX12_paper 104 = .ok (.aload_n 0, 1) := by decide +kernel
theorem dX12_paper_105 : decode cX12_paper 105 = .ok (.getfield 81, 3) := by decide +kernel
theorem dX12_paper_108 : decode cX12_paper 108 = .ok (.iload 4, 2) := by decide +kernel
theorem dX12_paper_110 : decode cX12_paper 110 = .ok (.iaload, 1) := by decide +kernel
theorem dX12_paper_111 : decode cX12_paper 111 = .ok (.ireturn, 1) := by decide +kernel
theorem dX12_paper_112 : decode cX12_paper 112 = .ok (.aload_n 0, 1) := by decide +kernel
theorem dX12_paper_113 : decode cX12_paper 113 = .ok (.getfield 84, 3) := by decide +kernel
theorem dX12_paper_116 : decode cX12_paper 116 = .ok (.iload 4, 2) := by decide +kernel
theorem dX12_paper_118 : decode cX12_paper 118 = .ok (.iaload, 1) := by decide +kernel
theorem dX12_paper_119 : decode cX12_paper 119 = .ok (.ireturn, 1) := by decide +kernel
theorem dX12_paper_130 : decode cX12_paper 130 = .ok (.iconst (-1), 1) := by decide +kernel
theorem dX12_paper_131 : decode cX12_paper 131 = .ok (.goto 9, 3) := by decide +kernel
theorem dX12_paper_140 : decode cX12_paper 140 = .ok (.ireturn, 1) := by decide +kernel
set_option maxHeartbeats 4000000 in
set_option maxRecDepth 100000 in
theorem s_X12_paper {P : PP} {a0 : Nat} {a1 : Int32} {a2 : Int32} {a3 : Int32} (I : IM P a0) (hW : MW P a0) : CtrI yX12_paper cX12_paper 5 (some Jvm.ClassFile.FieldType.int) ({ frames := 8, cells := 0, slots := 0, locals := 512 } : Room) 0 0 P [.ref a0, .int a1, .int a2, .int a3] (fun r P2 => IM P2 a0 ∧ EM [0, 28, 29, 30, 31, 32, 33, 34] a0 P P2 ∧ MW P2 a0 ∧ (True)) := by
  refine enI (lv := [(0, .ref a0), (1, .int a1), (2, .int a2), (3, .int a3)]) (by decide) (Nat.le_of_ble_eq_true rfl) rfl (fun E D cy C Ci0 ret => ?_)
  have ha0 := I.2.1
  have J24 : ∀ (v24_s0 : Int32), (0 ≤ v24_s0.toInt ∧ v24_s0.toInt ≤ 1) → (v24_s0.toInt ≠ 0 ∨ (0 ≤ a1.toInt ∧ a1.toInt ≤ 3 ∧ 0 ≤ a2.toInt ∧ a2.toInt ≤ 39)) → G E ({ frames := 8, cells := 0, slots := 0, locals := 512 } : Room) D cy 5 P 0 0 24 [(0, .ref a0), (1, .int a1), (2, .int a2), (3, .int a3)] [.int v24_s0, .ref a0] := by
    intro v24_s0 hv24_s0 rel24_0
    refine g_putI C fi_X12_1 rfl (ha0).1 (ha0).2 dX12_paper_24 ?_
    refine gqW (ks := [0]) (I.setI (rgOk.of rfl (by omega))) (EM.setI I (by decide)) (fun Y67359 Iy67360 Xy67361 w67362 => ?_)
    have w67362 : (pI Y67359 a0 0).toInt = v24_s0.toInt := w67362
    have W67363 := hW.keep I Xy67361 (by decide) (by decide) (by decide)
    have Xz67364 : EM [0, 28, 29, 30, 31, 32, 33, 34] a0 P Y67359 := Xy67361.mono (by decide)
    have h67365 := Xy67361.at ha0
    refine g_aload_n C dX12_paper_27 rfl 0 rfl ?_
    refine g_getI C fi_X12_1 (by decide) (h67365).1 (h67365).2 dX12_paper_28 ?_
    refine b_if_le C 36 dX12_paper_31 (by decide) (fun h67366 => ?_) (fun h67366 => ?_)
    · have h67366 : (pI Y67359 a0 0).toInt ≤ 0 := h67366
      have hz36 : (0 ≤ a1.toInt ∧ a1.toInt ≤ 3) ∧ (0 ≤ a2.toInt ∧ a2.toInt ≤ 39) := by omega
      refine g_bipush (v := 40) C dX12_paper_36 (by decide) ?_
      refine g_iload_n C dX12_paper_38 rfl 1 rfl ?_
      refine s_imul C dX12_paper_39 (by show -2147483648 ≤ 40 * a1.toInt ∧ 40 * a1.toInt ≤ 2147483647; omega) (fun z67367 h67368 => ?_)
      have h67368 : z67367.toInt = 40 * a1.toInt := h67368
      refine g_iload_n C dX12_paper_40 rfl 2 rfl ?_
      refine s_iadd C dX12_paper_41 (by show -2147483648 ≤ z67367.toInt + a2.toInt ∧ z67367.toInt + a2.toInt ≤ 2147483647; omega) (fun z67369 h67370 => ?_)
      have h67370 : z67369.toInt = z67367.toInt + a2.toInt := h67370
      refine g_istore (lv' := [(4, .int z67369), (0, .ref a0), (1, .int a1), (2, .int a2), (3, .int a3)]) C dX12_paper_42 (by decide) rfl ?_
      refine g_iload_n C dX12_paper_44 rfl 4 rfl ?_
      by_cases h67371 : a3.toInt < 0 ∨ 4 < a3.toInt
      · refine g_tableOut C 120 dX12_paper_45 h67371 (by decide) ?_
        refine g_aload_n C dX12_paper_120 rfl 1 rfl ?_
        obtain ⟨b67373, e67374, h67375⟩ := Iy67360.fld (h67365) 22 13 800 rfl
        refine g_getR C fi_X12_75 rfl e67374 (h67365).1 (h67365).2 dX12_paper_121 ?_
        refine g_iload C dX12_paper_124 0 rfl ?_
        refine g_iald (j := (z67369.toInt.toNat)) C h67375.1 h67375.2.1 (ix_in h67375.2.2 (by omega)) dX12_paper_126 ?_
        have h67376 := Iy67360.arr e67374 rfl (z67369.toInt.toNat)
        refine b_if_ge C 134 dX12_paper_127 (by decide) (fun h67377 => ?_) (fun h67377 => ?_)
        · have h67377 : 0 ≤ (pI Y67359 b67373 (z67369.toInt.toNat)).toInt := h67377
          refine g_aload_n C dX12_paper_134 rfl 1 rfl ?_
          refine g_iload_n C dX12_paper_135 rfl 2 rfl ?_
          refine g_iload_n C dX12_paper_136 rfl 3 rfl ?_
          refine g_callVI (rest := []) C mv_X12_358 [.int a1, .int a2] (s_X12_unknownOf Iy67360 (by omega) (by omega) W67363 (fun b9 e9 => by rw [e67374] at e9; cases e9; rw [show (40 * a1.toInt + a2.toInt).toNat = z67369.toInt.toNat by omega]; omega)) (h67365).1 (h67365).2 rfl rfl (by decide) (Nat.le_of_ble_eq_true rfl) (by decide) dX12_paper_137 (fun r67378 Y67379 h67380 => ?_)
          obtain ⟨Iy67381, Xy67382, W67383, h67380⟩ := h67380
          have q67384 := Xy67382.keepF 0 (by decide)
          have q67385 := Xy67382.keepA e67374 (by decide) rfl (z67369.toInt.toNat)
          have Xz67386 : EM [0, 28, 29, 30, 31, 32, 33, 34] a0 P Y67379 := EM.tr ha0 Xz67364 (Xy67382.mono (by decide))
          have e67387 := Xy67382.ref h67365 (by decide) e67374
          have h67388 := Xy67382.at h67365
          have h67389 := Xy67382.ar h67375
          have h67380 : True := h67380
          exact ret _ _ _ _ _ _ dX12_paper_140 rfl (by decide) (by decide) ⟨Iy67381, Xz67386, W67383, trivial⟩
        · have h67377 : (pI Y67359 b67373 (z67369.toInt.toNat)).toInt < 0 := h67377
          refine g_iconst (v := (-1)) C dX12_paper_130 (by decide) ?_
          refine g_goto C 140 dX12_paper_131 (by decide) ?_
          exact ret _ _ _ _ _ _ dX12_paper_140 rfl (by decide) (by decide) ⟨Iy67360, Xz67364, W67363, trivial⟩
      · rcases (show a3.toInt = 0 ∨ a3.toInt = 1 ∨ a3.toInt = 2 ∨ a3.toInt = 3 ∨ a3.toInt = 4 by omega) with h67372 | h67372 | h67372 | h67372 | h67372
        · refine g_tableIn C 80 dX12_paper_45 (by omega) (by omega) (by rw [h67372]; rfl) (by decide) ?_
          refine g_aload_n C dX12_paper_80 rfl 1 rfl ?_
          obtain ⟨b67390, e67391, h67392⟩ := Iy67360.fld (h67365) 22 13 800 rfl
          refine g_getR C fi_X12_75 rfl e67391 (h67365).1 (h67365).2 dX12_paper_81 ?_
          refine g_iload C dX12_paper_84 0 rfl ?_
          refine g_iald (j := (z67369.toInt.toNat)) C h67392.1 h67392.2.1 (ix_in h67392.2.2 (by omega)) dX12_paper_86 ?_
          have h67393 := Iy67360.arr e67391 rfl (z67369.toInt.toNat)
          exact ret _ _ _ _ _ _ dX12_paper_87 rfl (by decide) (by decide) ⟨Iy67360, Xz67364, W67363, trivial⟩
        · refine g_tableIn C 88 dX12_paper_45 (by omega) (by omega) (by rw [h67372]; rfl) (by decide) ?_
          refine g_aload_n C dX12_paper_88 rfl 1 rfl ?_
          obtain ⟨b67394, e67395, h67396⟩ := Iy67360.fld (h67365) 21 13 800 rfl
          refine g_getR C fi_X12_72 rfl e67395 (h67365).1 (h67365).2 dX12_paper_89 ?_
          refine g_iload C dX12_paper_92 0 rfl ?_
          refine g_iald (j := (z67369.toInt.toNat)) C h67396.1 h67396.2.1 (ix_in h67396.2.2 (by omega)) dX12_paper_94 ?_
          exact ret _ _ _ _ _ _ dX12_paper_95 rfl (by decide) (by decide) ⟨Iy67360, Xz67364, W67363, trivial⟩
        · refine g_tableIn C 96 dX12_paper_45 (by omega) (by omega) (by rw [h67372]; rfl) (by decide) ?_
          refine g_aload_n C dX12_paper_96 rfl 1 rfl ?_
          obtain ⟨b67397, e67398, h67399⟩ := Iy67360.fld (h67365) 23 13 800 rfl
          refine g_getR C fi_X12_78 rfl e67398 (h67365).1 (h67365).2 dX12_paper_97 ?_
          refine g_iload C dX12_paper_100 0 rfl ?_
          refine g_iald (j := (z67369.toInt.toNat)) C h67399.1 h67399.2.1 (ix_in h67399.2.2 (by omega)) dX12_paper_102 ?_
          exact ret _ _ _ _ _ _ dX12_paper_103 rfl (by decide) (by decide) ⟨Iy67360, Xz67364, W67363, trivial⟩
        · refine g_tableIn C 104 dX12_paper_45 (by omega) (by omega) (by rw [h67372]; rfl) (by decide) ?_
          refine g_aload_n C dX12_paper_104 rfl 1 rfl ?_
          obtain ⟨b67400, e67401, h67402⟩ := Iy67360.fld (h67365) 24 13 800 rfl
          refine g_getR C fi_X12_81 rfl e67401 (h67365).1 (h67365).2 dX12_paper_105 ?_
          refine g_iload C dX12_paper_108 0 rfl ?_
          refine g_iald (j := (z67369.toInt.toNat)) C h67402.1 h67402.2.1 (ix_in h67402.2.2 (by omega)) dX12_paper_110 ?_
          exact ret _ _ _ _ _ _ dX12_paper_111 rfl (by decide) (by decide) ⟨Iy67360, Xz67364, W67363, trivial⟩
        · refine g_tableIn C 112 dX12_paper_45 (by omega) (by omega) (by rw [h67372]; rfl) (by decide) ?_
          refine g_aload_n C dX12_paper_112 rfl 1 rfl ?_
          obtain ⟨b67403, e67404, h67405⟩ := Iy67360.fld (h67365) 25 13 800 rfl
          refine g_getR C fi_X12_84 rfl e67404 (h67365).1 (h67365).2 dX12_paper_113 ?_
          refine g_iload C dX12_paper_116 0 rfl ?_
          refine g_iald (j := (z67369.toInt.toNat)) C h67405.1 h67405.2.1 (ix_in h67405.2.2 (by omega)) dX12_paper_118 ?_
          exact ret _ _ _ _ _ _ dX12_paper_119 rfl (by decide) (by decide) ⟨Iy67360, Xz67364, W67363, trivial⟩
    · have h67366 : 0 < (pI Y67359 a0 0).toInt := h67366
      refine g_iconst (v := 0) C dX12_paper_34 (by decide) ?_
      exact ret _ _ _ _ _ _ dX12_paper_35 rfl (by decide) (by decide) ⟨Iy67360, Xz67364, W67363, trivial⟩
  have J23 : G E ({ frames := 8, cells := 0, slots := 0, locals := 512 } : Room) D cy 5 P 0 0 23 [(0, .ref a0), (1, .int a1), (2, .int a2), (3, .int a3)] [.ref a0] := by
    refine g_iconst (v := 1) C dX12_paper_23 (by decide) ?_
    exact J24 1 (by decide) (by show 1 ≠ 0 ∨ (0 ≤ a1.toInt ∧ a1.toInt ≤ 3 ∧ 0 ≤ a2.toInt ∧ a2.toInt ≤ 39); omega)
  refine g_aload_n C dX12_paper_0 rfl 0 rfl ?_
  refine g_aload_n C dX12_paper_1 rfl 0 rfl ?_
  refine g_iload_n C dX12_paper_2 rfl 1 rfl ?_
  refine g_iload_n C dX12_paper_3 rfl 2 rfl ?_
  refine g_callVI (rest := [.ref a0]) C mv_X12_298 [.int a1, .int a2] (s_X12_isPaper I hW) (ha0).1 (ha0).2 rfl rfl (by decide) (Nat.le_of_ble_eq_true rfl) (by decide) dX12_paper_4 (fun r67406 Y67407 h67408 => ?_)
  obtain ⟨rfl, h67408⟩ := h67408
  obtain ⟨h67408, hi67409, hi67410⟩ := h67408
  have hi67409 : r67406.toInt = 0 ∨ (((0 : Int) ≤ a1.toInt ∧ a1.toInt ≤ (3 : Int)) ∧ ((0 : Int) ≤ a2.toInt ∧ a2.toInt ≤ (39 : Int))) := hi67409
  have h67408 : 0 ≤ r67406.toInt ∧ r67406.toInt ≤ 1 := h67408
  refine b_if_eq C 23 dX12_paper_7 (by decide) (fun h67411 => ?_) (fun h67411 => ?_)
  · have h67411 : r67406.toInt = 0 := congrArg Int32.toInt h67411
    clear hi67409
    exact J23 
  · have h67411 : r67406.toInt ≠ 0 := ti_ne h67411
    replace hi67409 := hi67409.resolve_left (by omega)
    obtain ⟨b67412, e67413, h67414⟩ := I.fld (ha0) 20 13 20 rfl
    have hi67410 := (hi67410.resolve_left (by omega)) b67412 e67413
    have hi67410 : a2.toInt < (pI P b67412 (a1.toInt.toNat)).toInt ∧ 0 ≤ a2.toInt := hi67410
    have h67415 := I.arr e67413 rfl (a1.toInt.toNat)
    refine g_iload_n C dX12_paper_10 rfl 3 rfl ?_
    refine g_iconst (v := 0) C dX12_paper_11 (by decide) ?_
    refine g_iconst (v := 5) C dX12_paper_12 (by decide) ?_
    refine g_callSI (b := 0) (ci := 0) (rest := [.ref a0]) C ms_X12_178 [.int a3, .int 0, .int 5] (s_X12_within I.1) rfl rfl (by decide) (Nat.le_of_ble_eq_true rfl) (by decide) dX12_paper_13 (fun r67416 Y67417 h67418 => ?_)
    obtain ⟨rfl, h67418⟩ := h67418
    obtain ⟨h67418, hi67419⟩ := h67418
    have hi67419 : r67416.toInt = 0 ∨ (0 ≤ a3.toInt ∧ a3.toInt ≤ 5) := hi67419
    have h67418 : 0 ≤ r67416.toInt ∧ r67416.toInt ≤ 1 := h67418
    refine b_if_eq C 23 dX12_paper_16 (by decide) (fun h67420 => ?_) (fun h67420 => ?_)
    · have h67420 : r67416.toInt = 0 := congrArg Int32.toInt h67420
      clear hi67419
      exact J23 
    · have h67420 : r67416.toInt ≠ 0 := ti_ne h67420
      replace hi67419 := hi67419.resolve_left (by omega)
      refine g_iconst (v := 0) C dX12_paper_19 (by decide) ?_
      refine g_goto C 24 dX12_paper_20 (by decide) ?_
      exact J24 0 (by decide) (by show 0 ≠ 0 ∨ (0 ≤ a1.toInt ∧ a1.toInt ≤ 3 ∧ 0 ≤ a2.toInt ∧ a2.toInt ≤ 39); omega)
theorem dX12_peels_0 : decode cX12_peels 0 = .ok (.aload_n 0, 1) := by decide +kernel
theorem dX12_peels_1 : decode cX12_peels 1 = .ok (.iconst 0, 1) := by decide +kernel
theorem dX12_peels_2 : decode cX12_peels 2 = .ok (.putfield 1, 3) := by decide +kernel
theorem dX12_peels_5 : decode cX12_peels 5 = .ok (.aload_n 0, 1) := by decide +kernel
theorem dX12_peels_6 : decode cX12_peels 6 = .ok (.iload_n 1, 1) := by decide +kernel
theorem dX12_peels_7 : decode cX12_peels 7 = .ok (.iload_n 2, 1) := by decide +kernel
theorem dX12_peels_8 : decode cX12_peels 8 = .ok (.iload_n 3, 1) := by decide +kernel
theorem dX12_peels_9 : decode cX12_peels 9 = .ok (.invokevirtual 333, 3) := by decide +kernel
theorem dX12_peels_12 : decode cX12_peels 12 = .ok (.ifCond .eq 13, 3) := by decide +kernel
theorem dX12_peels_15 : decode cX12_peels 15 = .ok (.iload 4, 2) := by decide +kernel
theorem dX12_peels_17 : decode cX12_peels 17 = .ok (.iconst 0, 1) := by decide +kernel
theorem dX12_peels_18 : decode cX12_peels 18 = .ok (.iconst 3, 1) := by decide +kernel
theorem dX12_peels_19 : decode cX12_peels 19 = .ok (.invokestatic 178, 3) := by decide +kernel
theorem dX12_peels_22 : decode cX12_peels 22 = .ok (.ifCond .ne 5, 3) := by decide +kernel
theorem dX12_peels_25 : decode cX12_peels 25 = .ok (.iconst (-1), 1) := by decide +kernel
theorem dX12_peels_26 : decode cX12_peels 26 = .ok (.ireturn, 1) := by decide +kernel
theorem dX12_peels_27 : decode cX12_peels 27 = .ok (.aload_n 0, 1) := by decide +kernel
theorem dX12_peels_28 : decode cX12_peels 28 = .ok (.invokevirtual 336, 3) := by decide +kernel
theorem dX12_peels_31 : decode cX12_peels 31 = .ok (.aload_n 0, 1) := by decide +kernel
theorem dX12_peels_32 : decode cX12_peels 32 = .ok (.iload_n 1, 1) := by decide +kernel
theorem dX12_peels_33 : decode cX12_peels 33 = .ok (.iload_n 2, 1) := by decide +kernel
theorem dX12_peels_34 : decode cX12_peels 34 = .ok (.iload_n 3, 1) := by decide +kernel
theorem dX12_peels_35 : decode cX12_peels 35 = .ok (.aload_n 0, 1) := by decide +kernel
theorem dX12_peels_36 : decode cX12_peels 36 = .ok (.getfield 69, 3) := by decide +kernel
theorem dX12_peels_39 : decode cX12_peels 39 = .ok (.iload_n 1, 1) := by decide +kernel
theorem dX12_peels_40 : decode cX12_peels 40 = .ok (.iaload, 1) := by decide +kernel
theorem dX12_peels_41 : decode cX12_peels 41 = .ok (.invokevirtual 339, 3) := by decide +kernel
theorem dX12_peels_44 : decode cX12_peels 44 = .ok (.aload_n 0, 1) := by decide +kernel
theorem dX12_peels_45 : decode cX12_peels 45 = .ok (.invokevirtual 343, 3) := by decide +kernel
theorem dX12_peels_48 : decode cX12_peels 48 = .ok (.iload 4, 2) := by decide +kernel
theorem dX12_peels_50 : decode cX12_peels 50 = .ok (.ifCond .ne 8, 3) := by decide +kernel
theorem dX12_peels_53 : decode cX12_peels 53 = .ok (.aload_n 0, 1) := by decide +kernel
theorem dX12_peels_54 : decode cX12_peels 54 = .ok (.getfield 318, 3) := by decide +kernel
theorem dX12_peels_57 : decode cX12_peels 57 = .ok (.ireturn, 1) := by decide +kernel
theorem dX12_peels_58 : decode cX12_peels 58 = .ok (.iconst 0, 1) := by decide +kernel
theorem dX12_peels_59 : decode cX12_peels 59 = .ok (.istore 5, 2) := by decide +kernel
theorem dX12_peels_61 : decode cX12_peels 61 = .ok (.iconst 0, 1) := by decide +kernel
theorem dX12_peels_62 : decode cX12_peels 62 = .ok (.istore 6, 2) := by decide +kernel
theorem dX12_peels_64 : decode cX12_peels 64 = .ok (.iload 6, 2) := by decide +kernel
theorem dX12_peels_66 : decode cX12_peels 66 = .ok (.aload_n 0, 1) := by decide +kernel
theorem dX12_peels_67 : decode cX12_peels 67 = .ok (.getfield 305, 3) := by decide +kernel
theorem dX12_peels_70 : decode cX12_peels 70 = .ok (.if_icmp .ge 96, 3) := by decide +kernel
theorem dX12_peels_73 : decode cX12_peels 73 = .ok (.aload_n 0, 1) := by decide +kernel
theorem dX12_peels_74 : decode cX12_peels 74 = .ok (.getfield 91, 3) := by decide +kernel
theorem dX12_peels_77 : decode cX12_peels 77 = .ok (.iload 6, 2) := by decide +kernel
theorem dX12_peels_79 : decode cX12_peels 79 = .ok (.iaload, 1) := by decide +kernel
theorem dX12_peels_80 : decode cX12_peels 80 = .ok (.aload_n 0, 1) := by decide +kernel
theorem dX12_peels_81 : decode cX12_peels 81 = .ok (.getfield 318, 3) := by decide +kernel
theorem dX12_peels_84 : decode cX12_peels 84 = .ok (.iconst (-1), 1) := by decide +kernel
theorem dX12_peels_85 : decode cX12_peels 85 = .ok (.ixor, 1) := by decide +kernel
theorem dX12_peels_86 : decode cX12_peels 86 = .ok (.iand, 1) := by decide +kernel
theorem dX12_peels_87 : decode cX12_peels 87 = .ok (.invokestatic 264, 3) := by decide +kernel
theorem dX12_peels_90 : decode cX12_peels 90 = .ok (.istore 7, 2) := by decide +kernel
theorem dX12_peels_92 : decode cX12_peels 92 = .ok (.iload 5, 2) := by decide +kernel
theorem dX12_peels_94 : decode cX12_peels 94 = .ok (.iload 4, 2) := by decide +kernel
theorem dX12_peels_96 : decode cX12_peels 96 = .ok (.iconst 1, 1) := by decide +kernel
theorem dX12_peels_97 : decode cX12_peels 97 = .ok (.if_icmp .ne 25, 3) := by decide +kernel
theorem dX12_peels_100 : decode cX12_peels 100 = .ok (.iload 7, 2) := by decide +kernel
theorem dX12_peels_102 : decode cX12_peels 102 = .ok (.ifCond .ne 16, 3) := by decide +kernel
theorem dX12_peels_105 : decode cX12_peels 105 = .ok (.aload_n 0, 1) := by decide +kernel
theorem dX12_peels_106 : decode cX12_peels 106 = .ok (.iload 6, 2) := by decide +kernel
theorem dX12_peels_108 : decode cX12_peels 108 = .ok (.invokevirtual 321, 3) := by decide +kernel
theorem dX12_peels_111 : decode cX12_peels 111 = .ok (.ifCond .eq 7, 3) := by decide +kernel
theorem dX12_peels_114 : decode cX12_peels 114 = .ok (.iconst 1, 1) := by decide +kernel
theorem dX12_peels_115 : decode cX12_peels 115 = .ok (.goto 42, 3) := by decide +kernel
theorem dX12_peels_118 : decode cX12_peels 118 = .ok (.iconst 0, 1) := by decide +kernel
theorem dX12_peels_119 : decode cX12_peels 119 = .ok (.goto 38, 3) := by decide +kernel
theorem dX12_peels_122 : decode cX12_peels 122 = .ok (.iload 4, 2) := by decide +kernel
theorem dX12_peels_124 : decode cX12_peels 124 = .ok (.iconst 2, 1) := by decide +kernel
theorem dX12_peels_125 : decode cX12_peels 125 = .ok (.if_icmp .ne 21, 3) := by decide +kernel
theorem dX12_peels_128 : decode cX12_peels 128 = .ok (.aload_n 0, 1) := by decide +kernel
theorem dX12_peels_129 : decode cX12_peels 129 = .ok (.getfield 91, 3) := by decide +kernel
theorem dX12_peels_132 : decode cX12_peels 132 = .ok (.iload 6, 2) := by decide +kernel
theorem dX12_peels_134 : decode cX12_peels 134 = .ok (.iaload, 1) := by decide +kernel
theorem dX12_peels_135 : decode cX12_peels 135 = .ok (.aload_n 0, 1) := by decide +kernel
theorem dX12_peels_136 : decode cX12_peels 136 = .ok (.getfield 318, 3) := by decide +kernel
theorem dX12_peels_139 : decode cX12_peels 139 = .ok (.iand, 1) := by decide +kernel
theorem dX12_peels_140 : decode cX12_peels 140 = .ok (.invokestatic 264, 3) := by decide +kernel
theorem dX12_peels_143 : decode cX12_peels 143 = .ok (.goto 14, 3) := by decide +kernel
theorem dX12_peels_146 : decode cX12_peels 146 = .ok (.iload 7, 2) := by decide +kernel
theorem dX12_peels_148 : decode cX12_peels 148 = .ok (.iconst 1, 1) := by decide +kernel
theorem dX12_peels_149 : decode cX12_peels 149 = .ok (.if_icmp .le 7, 3) := by decide +kernel
theorem dX12_peels_152 : decode cX12_peels 152 = .ok (.iconst 1, 1) := by decide +kernel
theorem dX12_peels_153 : decode cX12_peels 153 = .ok (.goto 4, 3) := by decide +kernel
theorem dX12_peels_156 : decode cX12_peels 156 = .ok (.iconst 0, 1) := by decide +kernel
theorem dX12_peels_157 : decode cX12_peels 157 = .ok (.iadd, 1) := by decide +kernel
theorem dX12_peels_158 : decode cX12_peels 158 = .ok (.istore 5, 2) := by decide +kernel
theorem dX12_peels_160 : decode cX12_peels 160 = .ok (.iinc 6 1, 3) := by decide +kernel
theorem dX12_peels_163 : decode cX12_peels 163 = .ok (.goto (-99), 3) := by decide +kernel
theorem dX12_peels_166 : decode cX12_peels 166 = .ok (.iload 4, 2) := by decide +kernel
theorem dX12_peels_168 : decode cX12_peels 168 = .ok (.iconst 2, 1) := by decide +kernel
theorem dX12_peels_169 : decode cX12_peels 169 = .ok (.if_icmp .ne 16, 3) := by decide +kernel
theorem dX12_peels_172 : decode cX12_peels 172 = .ok (.iload 5, 2) := by decide +kernel
theorem dX12_peels_174 : decode cX12_peels 174 = .ok (.aload_n 0, 1) := by decide +kernel
theorem dX12_peels_175 : decode cX12_peels 175 = .ok (.getfield 318, 3) := by decide +kernel
theorem dX12_peels_178 : decode cX12_peels 178 = .ok (.invokestatic 264, 3) := by decide +kernel
theorem dX12_peels_181 : decode cX12_peels 181 = .ok (.isub, 1) := by decide +kernel
theorem dX12_peels_182 : decode cX12_peels 182 = .ok (.goto 5, 3) := by decide +kernel
theorem dX12_peels_185 : decode cX12_peels 185 = .ok (.iload 5, 2) := by decide +kernel
theorem dX12_peels_187 : decode cX12_peels 187 = .ok (.ireturn, 1) := by decide +kernel
set_option maxHeartbeats 4000000 in
set_option maxRecDepth 100000 in
theorem s_X12_peels {P : PP} {a0 : Nat} {a1 : Int32} {a2 : Int32} {a3 : Int32} {a4 : Int32} (I : IM P a0) (hW : MW P a0) : CtrI yX12_peels cX12_peels 8 (some Jvm.ClassFile.FieldType.int) ({ frames := 7, cells := 0, slots := 0, locals := 448 } : Room) 0 0 P [.ref a0, .int a1, .int a2, .int a3, .int a4] (fun r P2 => IM P2 a0 ∧ EM [0, 28, 29, 30, 31, 32, 33, 34] a0 P P2 ∧ MW P2 a0 ∧ (True)) := by
  refine enI (lv := [(0, .ref a0), (1, .int a1), (2, .int a2), (3, .int a3), (4, .int a4)]) (by decide) (Nat.le_of_ble_eq_true rfl) rfl (fun E D cy C Ci0 ret => ?_)
  have ha0 := I.2.1
  have J64 : ∀ (n64 : Nat) (P64 : PP) (v64_5 : Int32) (v64_6 : Int32), (44 - v64_6.toInt).toNat < n64 → (IM P64 a0) → (EM [0, 28, 29, 30, 31, 32, 33, 34] a0 P P64) → (MW P64 a0) → (1 ≤ a4.toInt ∧ a4.toInt ≤ 3) → (0 ≤ v64_6.toInt ∧ v64_6.toInt ≤ 44) → (0 ≤ (pI P64 a0 0).toInt ∧ (pI P64 a0 0).toInt ≤ 0) → (0 ≤ (pI P64 a0 28).toInt ∧ (pI P64 a0 28).toInt ≤ 44) → (∀ b, pR P64 a0 10 = some b → 1 ≤ (pI P64 b (a2.toInt.toNat)).toInt ∧ (pI P64 b (a2.toInt.toNat)).toInt ≤ 16) → G E ({ frames := 7, cells := 0, slots := 0, locals := 448 } : Room) D cy 8 P64 0 0 64 [(0, .ref a0), (4, .int a4), (5, .int v64_5), (6, .int v64_6)] [] := by
    intro n64
    induction n64 with
    | zero => intro P64 v64_5 v64_6 hm64 I64 X64 W64 hv64_4 hv64_6 hq64_0 hq64_1 hq64_2; omega
    | succ n64 ih64 =>
      intro P64 v64_5 v64_6 hm64 I64 X64 W64 hv64_4 hv64_6 hq64_0 hq64_1 hq64_2
      have h68327 := X64.at ha0
      obtain ⟨b68328, e68329, h68330⟩ := I64.fld (h68327) 10 13 2 rfl
      have hq64_2 := hq64_2 b68328 e68329
      have J157 : ∀ (v157_s0 : Int32), (1 ≤ a4.toInt ∧ a4.toInt ≤ 3) → (0 ≤ v64_6.toInt ∧ v64_6.toInt ≤ 43) → (0 ≤ (pI P64 a0 0).toInt ∧ (pI P64 a0 0).toInt ≤ 0) → (1 ≤ (pI P64 a0 28).toInt ∧ (pI P64 a0 28).toInt ≤ 44) → (∀ b, pR P64 a0 10 = some b → 1 ≤ (pI P64 b (a2.toInt.toNat)).toInt ∧ (pI P64 b (a2.toInt.toNat)).toInt ≤ 16) → G E ({ frames := 7, cells := 0, slots := 0, locals := 448 } : Room) D cy 8 P64 0 0 157 [(0, .ref a0), (4, .int a4), (6, .int v64_6)] [.int v157_s0, .int v64_5] := by
        intro v157_s0 hv157_4 hv157_6 hq157_0 hq157_1 hq157_2
        have h68331 := X64.at ha0
        obtain ⟨b68332, e68333, h68334⟩ := I64.fld (h68331) 10 13 2 rfl
        have hq157_2 := hq157_2 b68332 e68333
        refine a_iadd C dX12_peels_157 (fun z68335 => ?_)
        refine g_istore (lv' := [(5, .int z68335), (0, .ref a0), (4, .int a4), (6, .int v64_6)]) C dX12_peels_158 (by decide) rfl ?_
        refine s_iinc (lv0 := [(5, .int z68335), (0, .ref a0), (4, .int a4)]) (m := 1) C dX12_peels_160 3 rfl (by decide) rfl (by decide) (by omega) (fun z68337 h68338 => ?_)
        have h68338 : z68337.toInt = v64_6.toInt + 1 := h68338
        refine g_goto C 64 dX12_peels_163 (by decide) ?_
        refine g_lv (lv' := [(0, .ref a0), (4, .int a4), (5, .int z68335), (6, .int z68337)]) [2, 3, 1, 0] rfl ?_
        exact ih64 P64 z68335 z68337 (by omega) I64 X64 W64 (by omega) (by omega) (by omega) (by omega) (fun b9 e9 => by rw [e68333] at e9; cases e9; omega)
      have J118 : (1 ≤ a4.toInt ∧ a4.toInt ≤ 1) → (0 ≤ v64_6.toInt ∧ v64_6.toInt ≤ 43) → (0 ≤ (pI P64 a0 0).toInt ∧ (pI P64 a0 0).toInt ≤ 0) → (1 ≤ (pI P64 a0 28).toInt ∧ (pI P64 a0 28).toInt ≤ 44) → (∀ b, pR P64 a0 10 = some b → 1 ≤ (pI P64 b (a2.toInt.toNat)).toInt ∧ (pI P64 b (a2.toInt.toNat)).toInt ≤ 16) → G E ({ frames := 7, cells := 0, slots := 0, locals := 448 } : Room) D cy 8 P64 0 0 118 [(0, .ref a0), (4, .int a4), (6, .int v64_6)] [.int v64_5] := by
        intro hv118_4 hv118_6 hq118_0 hq118_1 hq118_2
        have h68339 := X64.at ha0
        obtain ⟨b68340, e68341, h68342⟩ := I64.fld (h68339) 10 13 2 rfl
        have hq118_2 := hq118_2 b68340 e68341
        refine g_iconst (v := 0) C dX12_peels_118 (by decide) ?_
        refine g_goto C 157 dX12_peels_119 (by decide) ?_
        exact J157 0 (by omega) (by omega) (by omega) (by omega) (fun b9 e9 => by rw [e68341] at e9; cases e9; omega)
      refine g_iload C dX12_peels_64 3 rfl ?_
      refine g_aload_n C dX12_peels_66 rfl 0 rfl ?_
      refine g_getI C fi_X12_305 (by decide) (h68327).1 (h68327).2 dX12_peels_67 ?_
      refine b_icmp_ge C 166 dX12_peels_70 (by decide) (fun h68343 => ?_) (fun h68343 => ?_)
      · have h68343 : (pI P64 a0 28).toInt ≤ v64_6.toInt := h68343
        refine g_iload C dX12_peels_166 1 rfl ?_
        refine g_iconst (v := 2) C dX12_peels_168 (by decide) ?_
        refine b_icmp_ne C 185 dX12_peels_169 (by decide) (fun h68344 => ?_) (fun h68344 => ?_)
        · have h68344 : a4.toInt ≠ 2 := ti_ne h68344
          refine g_iload C dX12_peels_185 2 rfl ?_
          exact ret _ _ _ _ _ _ dX12_peels_187 rfl (by decide) (by decide) ⟨I64, X64, W64, trivial⟩
        · have h68344 : a4.toInt = 2 := congrArg Int32.toInt h68344
          refine g_iload C dX12_peels_172 2 rfl ?_
          refine g_aload_n C dX12_peels_174 rfl 0 rfl ?_
          refine g_getI C fi_X12_318 (by decide) (h68327).1 (h68327).2 dX12_peels_175 ?_
          refine g_callSI (b := 0) (ci := 0) (rest := [.int v64_5]) C ms_X12_264 [.int (pI P64 a0 33)] (s_X12_bits I64.1) rfl rfl (by decide) (Nat.le_of_ble_eq_true rfl) (by decide) dX12_peels_178 (fun r68345 Y68346 h68347 => ?_)
          obtain ⟨rfl, h68347⟩ := h68347
          have h68347 : True := h68347
          refine a_isub C dX12_peels_181 (fun z68348 => ?_)
          refine g_goto C 187 dX12_peels_182 (by decide) ?_
          exact ret _ _ _ _ _ _ dX12_peels_187 rfl (by decide) (by decide) ⟨I64, X64, W64, trivial⟩
      · have h68343 : v64_6.toInt < (pI P64 a0 28).toInt := h68343
        refine g_aload_n C dX12_peels_73 rfl 0 rfl ?_
        obtain ⟨b68350, e68351, h68352⟩ := I64.fld (h68327) 29 13 64 rfl
        refine g_getR C fi_X12_91 rfl e68351 (h68327).1 (h68327).2 dX12_peels_74 ?_
        refine g_iload C dX12_peels_77 3 rfl ?_
        refine g_iald (j := (v64_6.toInt.toNat)) C h68352.1 h68352.2.1 (ix_in h68352.2.2 (by omega)) dX12_peels_79 ?_
        refine g_aload_n C dX12_peels_80 rfl 0 rfl ?_
        refine g_getI C fi_X12_318 (by decide) (h68327).1 (h68327).2 dX12_peels_81 ?_
        refine g_iconst (v := (-1)) C dX12_peels_84 (by decide) ?_
        refine a_ixor C dX12_peels_85 (fun z68353 => ?_)
        refine a_iand C dX12_peels_86 (fun z68355 => ?_)
        refine g_callSI (b := 0) (ci := 0) (rest := []) C ms_X12_264 [.int z68355] (s_X12_bits I64.1) rfl rfl (by decide) (Nat.le_of_ble_eq_true rfl) (by decide) dX12_peels_87 (fun r68357 Y68358 h68359 => ?_)
        obtain ⟨rfl, h68359⟩ := h68359
        have h68359 : True := h68359
        refine g_istore (lv' := [(7, .int r68357), (0, .ref a0), (4, .int a4), (5, .int v64_5), (6, .int v64_6)]) C dX12_peels_90 (by decide) rfl ?_
        refine g_iload C dX12_peels_92 3 rfl ?_
        refine g_iload C dX12_peels_94 2 rfl ?_
        refine g_iconst (v := 1) C dX12_peels_96 (by decide) ?_
        refine b_icmp_ne C 122 dX12_peels_97 (by decide) (fun h68360 => ?_) (fun h68360 => ?_)
        · have h68360 : a4.toInt ≠ 1 := ti_ne h68360
          refine g_iload C dX12_peels_122 2 rfl ?_
          refine g_iconst (v := 2) C dX12_peels_124 (by decide) ?_
          refine b_icmp_ne C 146 dX12_peels_125 (by decide) (fun h68361 => ?_) (fun h68361 => ?_)
          · have h68361 : a4.toInt ≠ 2 := ti_ne h68361
            refine g_iload C dX12_peels_146 0 rfl ?_
            refine g_iconst (v := 1) C dX12_peels_148 (by decide) ?_
            have u68363 := ti_rng r68357
            refine b_icmp_le C 156 dX12_peels_149 (by decide) (fun h68362 => ?_) (fun h68362 => ?_)
            · have h68362 : r68357.toInt ≤ 1 := h68362
              refine g_iconst (v := 0) C dX12_peels_156 (by decide) ?_
              refine g_lv (lv' := [(0, .ref a0), (4, .int a4), (6, .int v64_6)]) [1, 2, 4] rfl ?_
              exact J157 0 (by omega) (by omega) (by omega) (by omega) (fun b9 e9 => by rw [e68329] at e9; cases e9; omega)
            · have h68362 : 1 < r68357.toInt := h68362
              refine g_iconst (v := 1) C dX12_peels_152 (by decide) ?_
              refine g_goto C 157 dX12_peels_153 (by decide) ?_
              refine g_lv (lv' := [(0, .ref a0), (4, .int a4), (6, .int v64_6)]) [1, 2, 4] rfl ?_
              exact J157 1 (by omega) (by omega) (by omega) (by omega) (fun b9 e9 => by rw [e68329] at e9; cases e9; omega)
          · have h68361 : a4.toInt = 2 := congrArg Int32.toInt h68361
            refine g_aload_n C dX12_peels_128 rfl 1 rfl ?_
            refine g_getR C fi_X12_91 rfl e68351 (h68327).1 (h68327).2 dX12_peels_129 ?_
            refine g_iload C dX12_peels_132 4 rfl ?_
            refine g_iald (j := (v64_6.toInt.toNat)) C h68352.1 h68352.2.1 (ix_in h68352.2.2 (by omega)) dX12_peels_134 ?_
            refine g_aload_n C dX12_peels_135 rfl 1 rfl ?_
            refine g_getI C fi_X12_318 (by decide) (h68327).1 (h68327).2 dX12_peels_136 ?_
            refine a_iand C dX12_peels_139 (fun z68364 => ?_)
            refine g_callSI (b := 0) (ci := 0) (rest := [.int v64_5]) C ms_X12_264 [.int z68364] (s_X12_bits I64.1) rfl rfl (by decide) (Nat.le_of_ble_eq_true rfl) (by decide) dX12_peels_140 (fun r68366 Y68367 h68368 => ?_)
            obtain ⟨rfl, h68368⟩ := h68368
            have h68368 : True := h68368
            refine g_goto C 157 dX12_peels_143 (by decide) ?_
            refine g_lv (lv' := [(0, .ref a0), (4, .int a4), (6, .int v64_6)]) [1, 2, 4] rfl ?_
            exact J157 r68366 (by omega) (by omega) (by omega) (by omega) (fun b9 e9 => by rw [e68329] at e9; cases e9; omega)
        · have h68360 : a4.toInt = 1 := congrArg Int32.toInt h68360
          refine g_iload C dX12_peels_100 0 rfl ?_
          have u68370 := ti_rng r68357
          refine b_if_ne C 118 dX12_peels_102 (by decide) (fun h68369 => ?_) (fun h68369 => ?_)
          · have h68369 : r68357.toInt ≠ 0 := ti_ne h68369
            refine g_lv (lv' := [(0, .ref a0), (4, .int a4), (6, .int v64_6)]) [1, 2, 4] rfl ?_
            exact J118 (by omega) (by omega) (by omega) (by omega) (fun b9 e9 => by rw [e68329] at e9; cases e9; omega)
          · have h68369 : r68357.toInt = 0 := congrArg Int32.toInt h68369
            refine g_aload_n C dX12_peels_105 rfl 1 rfl ?_
            refine g_iload C dX12_peels_106 4 rfl ?_
            refine g_callVI (rest := [.int v64_5]) C mv_X12_321 [.int v64_6] (s_X12_comesTo I64 (by omega) W64) (h68327).1 (h68327).2 rfl rfl (by decide) (Nat.le_of_ble_eq_true rfl) (by decide) dX12_peels_108 (fun r68371 Y68372 h68373 => ?_)
            obtain ⟨rfl, h68373⟩ := h68373
            have h68373 : True := h68373
            have u68375 := ti_rng r68371
            refine b_if_eq C 118 dX12_peels_111 (by decide) (fun h68374 => ?_) (fun h68374 => ?_)
            · have h68374 : r68371.toInt = 0 := congrArg Int32.toInt h68374
              refine g_lv (lv' := [(0, .ref a0), (4, .int a4), (6, .int v64_6)]) [1, 2, 4] rfl ?_
              exact J118 (by omega) (by omega) (by omega) (by omega) (fun b9 e9 => by rw [e68329] at e9; cases e9; omega)
            · have h68374 : r68371.toInt ≠ 0 := ti_ne h68374
              refine g_iconst (v := 1) C dX12_peels_114 (by decide) ?_
              refine g_goto C 157 dX12_peels_115 (by decide) ?_
              refine g_lv (lv' := [(0, .ref a0), (4, .int a4), (6, .int v64_6)]) [1, 2, 4] rfl ?_
              exact J157 1 (by omega) (by omega) (by omega) (by omega) (fun b9 e9 => by rw [e68329] at e9; cases e9; omega)
  have J25 : ∀ (P25 : PP), (IM P25 a0) → (EM [0, 28, 29, 30, 31, 32, 33, 34] a0 P P25) → (MW P25 a0) → (0 ≤ (pI P25 a0 0).toInt ∧ (pI P25 a0 0).toInt ≤ 0) → G E ({ frames := 7, cells := 0, slots := 0, locals := 448 } : Room) D cy 8 P25 0 0 25 [] [] := by
    intro P25 I25 X25 W25 hq25_0
    have h68376 := X25.at ha0
    refine g_iconst (v := (-1)) C dX12_peels_25 (by decide) ?_
    exact ret _ _ _ _ _ _ dX12_peels_26 rfl (by decide) (by decide) ⟨I25, X25, W25, trivial⟩
  refine g_aload_n C dX12_peels_0 rfl 0 rfl ?_
  refine g_iconst (v := 0) C dX12_peels_1 (by decide) ?_
  refine g_putI C fi_X12_1 rfl (ha0).1 (ha0).2 dX12_peels_2 ?_
  refine gqW (ks := [0]) (I.setI (rgOk.of rfl (by decide))) (EM.setI I (by decide)) (fun Y68377 Iy68378 Xy68379 w68380 => ?_)
  have w68380 : (pI Y68377 a0 0).toInt = 0 := w68380
  have W68381 := hW.keep I Xy68379 (by decide) (by decide) (by decide)
  have Xz68382 : EM [0, 28, 29, 30, 31, 32, 33, 34] a0 P Y68377 := Xy68379.mono (by decide)
  have h68383 := Xy68379.at ha0
  refine g_aload_n C dX12_peels_5 rfl 0 rfl ?_
  refine g_iload_n C dX12_peels_6 rfl 1 rfl ?_
  refine g_iload_n C dX12_peels_7 rfl 2 rfl ?_
  refine g_iload_n C dX12_peels_8 rfl 3 rfl ?_
  refine g_callVI (rest := []) C mv_X12_333 [.int a1, .int a2, .int a3] (s_X12_isAsked Iy68378 W68381) (h68383).1 (h68383).2 rfl rfl (by decide) (Nat.le_of_ble_eq_true rfl) (by decide) dX12_peels_9 (fun r68384 Y68385 h68386 => ?_)
  obtain ⟨rfl, h68386⟩ := h68386
  obtain ⟨h68386, hi68387, hi68388⟩ := h68386
  have hi68387 : r68384.toInt = 0 ∨ (((0 : Int) ≤ a1.toInt ∧ a1.toInt ≤ (3 : Int)) ∧ ((0 : Int) ≤ a2.toInt ∧ a2.toInt ≤ (1 : Int)) ∧ ((0 : Int) ≤ a3.toInt ∧ a3.toInt ≤ (1 : Int))) := hi68387
  have h68386 : 0 ≤ r68384.toInt ∧ r68384.toInt ≤ 1 := h68386
  refine b_if_eq C 25 dX12_peels_12 (by decide) (fun h68389 => ?_) (fun h68389 => ?_)
  · have h68389 : r68384.toInt = 0 := congrArg Int32.toInt h68389
    clear hi68387
    refine g_lv (lv' := []) [] rfl ?_
    exact J25 Y68377 Iy68378 Xz68382 W68381 (by omega)
  · have h68389 : r68384.toInt ≠ 0 := ti_ne h68389
    replace hi68387 := hi68387.resolve_left (by omega)
    obtain ⟨b68390, e68391, h68392⟩ := Iy68378.fld (h68383) 10 13 2 rfl
    have hi68388 := (hi68388.resolve_left (by omega)) b68390 e68391
    have hi68388 : 0 < (pI Y68377 b68390 (a2.toInt.toNat)).toInt := hi68388
    have h68393 := Iy68378.arr e68391 rfl (a2.toInt.toNat)
    refine g_iload C dX12_peels_15 4 rfl ?_
    refine g_iconst (v := 0) C dX12_peels_17 (by decide) ?_
    refine g_iconst (v := 3) C dX12_peels_18 (by decide) ?_
    refine g_callSI (b := 0) (ci := 0) (rest := []) C ms_X12_178 [.int a4, .int 0, .int 3] (s_X12_within Iy68378.1) rfl rfl (by decide) (Nat.le_of_ble_eq_true rfl) (by decide) dX12_peels_19 (fun r68394 Y68395 h68396 => ?_)
    obtain ⟨rfl, h68396⟩ := h68396
    obtain ⟨h68396, hi68397⟩ := h68396
    have hi68397 : r68394.toInt = 0 ∨ (0 ≤ a4.toInt ∧ a4.toInt ≤ 3) := hi68397
    have h68396 : 0 ≤ r68394.toInt ∧ r68394.toInt ≤ 1 := h68396
    refine b_if_ne C 27 dX12_peels_22 (by decide) (fun h68398 => ?_) (fun h68398 => ?_)
    · have h68398 : r68394.toInt ≠ 0 := ti_ne h68398
      replace hi68397 := hi68397.resolve_left (by omega)
      refine g_aload_n C dX12_peels_27 rfl 0 rfl ?_
      refine g_callVV (rest := []) C mv_X12_336 [] (s_X12_leavesNone Iy68378 W68381) (h68383).1 (h68383).2 rfl rfl (by decide) (Nat.le_of_ble_eq_true rfl) (by decide) dX12_peels_28 (fun Y68400 h68401 => ?_)
      obtain ⟨Iy68402, Xy68403, W68404⟩ := h68401
      have q68405 := Xy68403.keepF 0 (by decide)
      have q68406 := Xy68403.keepA e68391 (by decide) rfl (a2.toInt.toNat)
      have Xz68407 : EM [0, 28, 29, 30, 31, 32, 33, 34] a0 P Y68400 := EM.tr ha0 Xz68382 (Xy68403.mono (by decide))
      have e68408 := Xy68403.ref h68383 (by decide) e68391
      have h68409 := Xy68403.at h68383
      have h68410 := Xy68403.ar h68392
      refine g_aload_n C dX12_peels_31 rfl 0 rfl ?_
      refine g_iload_n C dX12_peels_32 rfl 1 rfl ?_
      refine g_iload_n C dX12_peels_33 rfl 2 rfl ?_
      refine g_iload_n C dX12_peels_34 rfl 3 rfl ?_
      refine g_aload_n C dX12_peels_35 rfl 0 rfl ?_
      obtain ⟨b68411, e68412, h68413⟩ := Iy68402.fld (h68409) 20 13 20 rfl
      refine g_getR C fi_X12_69 rfl e68412 (h68409).1 (h68409).2 dX12_peels_36 ?_
      refine g_iload_n C dX12_peels_39 rfl 1 rfl ?_
      refine g_iald (j := (a1.toInt.toNat)) C h68413.1 h68413.2.1 (ix_in h68413.2.2 (by omega)) dX12_peels_40 ?_
      have h68414 := Iy68402.arr e68412 rfl (a1.toInt.toNat)
      refine g_callVV (rest := []) C mv_X12_339 [.int a1, .int a2, .int a3, .int (pI Y68400 b68411 (a1.toInt.toNat))] (s_X12_gathers Iy68402 (by omega) (by omega) (by omega) (fun b9 e9 => by rw [e68408] at e9; cases e9; show 1 ≤ (pI Y68400 b68390 (a2.toInt.toNat)).toInt ∧ (pI Y68400 b68390 (a2.toInt.toNat)).toInt ≤ 16; omega) W68404) (h68409).1 (h68409).2 rfl rfl (by decide) (Nat.le_of_ble_eq_true rfl) (by decide) dX12_peels_41 (fun Y68416 h68417 => ?_)
      obtain ⟨Iy68418, Xy68419, W68420, p68421⟩ := h68417
      have p68421 : (pI Y68416 a0 28).toInt ≤ 4 + (pI Y68400 b68411 (a1.toInt.toNat)).toInt := p68421
      have q68422 := Xy68419.keepF 0 (by decide)
      have q68423 := Xy68419.keepA e68408 (by decide) rfl (a2.toInt.toNat)
      have q68424 := Xy68419.keepA e68412 (by decide) rfl (a1.toInt.toNat)
      have Xz68425 : EM [0, 28, 29, 30, 31, 32, 33, 34] a0 P Y68416 := EM.tr ha0 Xz68407 (Xy68419.mono (by decide))
      have e68426 := Xy68419.ref h68409 (by decide) e68408
      have e68427 := Xy68419.ref h68409 (by decide) e68412
      have h68428 := Xy68419.at h68409
      have h68429 := Xy68419.ar h68410
      have h68430 := Xy68419.ar h68413
      have h68431 := Iy68418.rg h68428 28 rfl
      refine g_aload_n C dX12_peels_44 rfl 0 rfl ?_
      refine g_callVV (rest := []) C mv_X12_343 [] (s_X12_findPeeled Iy68418 W68420) (h68428).1 (h68428).2 rfl rfl (by decide) (Nat.le_of_ble_eq_true rfl) (by decide) dX12_peels_45 (fun Y68433 h68434 => ?_)
      obtain ⟨Iy68435, Xy68436, W68437⟩ := h68434
      have q68438 := Xy68436.keepF 0 (by decide)
      have q68439 := Xy68436.keepA e68426 (by decide) rfl (a2.toInt.toNat)
      have q68440 := Xy68436.keepA e68427 (by decide) rfl (a1.toInt.toNat)
      have q68441 := Xy68436.keepF 28 (by decide)
      have Xz68442 : EM [0, 28, 29, 30, 31, 32, 33, 34] a0 P Y68433 := EM.tr ha0 Xz68425 (Xy68436.mono (by decide))
      have e68443 := Xy68436.ref h68428 (by decide) e68426
      have e68444 := Xy68436.ref h68428 (by decide) e68427
      have h68445 := Xy68436.at h68428
      have h68446 := Xy68436.ar h68429
      have h68447 := Xy68436.ar h68430
      refine g_iload C dX12_peels_48 4 rfl ?_
      refine b_if_ne C 58 dX12_peels_50 (by decide) (fun h68448 => ?_) (fun h68448 => ?_)
      · have h68448 : a4.toInt ≠ 0 := ti_ne h68448
        refine g_iconst (v := 0) C dX12_peels_58 (by decide) ?_
        refine g_istore (lv' := [(5, .int 0), (0, .ref a0), (1, .int a1), (2, .int a2), (3, .int a3), (4, .int a4)]) C dX12_peels_59 (by decide) rfl ?_
        refine g_iconst (v := 0) C dX12_peels_61 (by decide) ?_
        refine g_istore (lv' := [(6, .int 0), (5, .int 0), (0, .ref a0), (1, .int a1), (2, .int a2), (3, .int a3), (4, .int a4)]) C dX12_peels_62 (by decide) rfl ?_
        refine g_lv (lv' := [(0, .ref a0), (4, .int a4), (5, .int 0), (6, .int 0)]) [2, 6, 1, 0] rfl ?_
        exact J64 _ Y68433 0 0 (Nat.lt_succ_self _) Iy68435 Xz68442 W68437 (by omega) (by decide) (by omega) (by omega) (fun b9 e9 => by rw [e68443] at e9; cases e9; omega)
      · have h68448 : a4.toInt = 0 := congrArg Int32.toInt h68448
        refine g_aload_n C dX12_peels_53 rfl 0 rfl ?_
        refine g_getI C fi_X12_318 (by decide) (h68445).1 (h68445).2 dX12_peels_54 ?_
        exact ret _ _ _ _ _ _ dX12_peels_57 rfl (by decide) (by decide) ⟨Iy68435, Xz68442, W68437, trivial⟩
    · have h68398 : r68394.toInt = 0 := congrArg Int32.toInt h68398
      clear hi68397
      refine g_lv (lv' := []) [] rfl ?_
      exact J25 Y68377 Iy68378 Xz68382 W68381 (by omega)
theorem dX12_quarter_0 : decode cX12_quarter 0 = .ok (.aload_n 0, 1) := by decide +kernel
theorem dX12_quarter_1 : decode cX12_quarter 1 = .ok (.iconst 0, 1) := by decide +kernel
theorem dX12_quarter_2 : decode cX12_quarter 2 = .ok (.putfield 1, 3) := by decide +kernel
theorem dX12_quarter_5 : decode cX12_quarter 5 = .ok (.iload_n 1, 1) := by decide +kernel
theorem dX12_quarter_6 : decode cX12_quarter 6 = .ok (.invokestatic 278, 3) := by decide +kernel
theorem dX12_quarter_9 : decode cX12_quarter 9 = .ok (.ifCond .eq 24, 3) := by decide +kernel
theorem dX12_quarter_12 : decode cX12_quarter 12 = .ok (.iload_n 2, 1) := by decide +kernel
theorem dX12_quarter_13 : decode cX12_quarter 13 = .ok (.iconst 0, 1) := by decide +kernel
theorem dX12_quarter_14 : decode cX12_quarter 14 = .ok (.bipush 100, 2) := by decide +kernel
theorem dX12_quarter_16 : decode cX12_quarter 16 = .ok (.invokestatic 178, 3) := by decide +kernel
theorem dX12_quarter_19 : decode cX12_quarter 19 = .ok (.ifCond .eq 14, 3) := by decide +kernel
theorem dX12_quarter_22 : decode cX12_quarter 22 = .ok (.iload_n 3, 1) := by decide +kernel
theorem dX12_quarter_23 : decode cX12_quarter 23 = .ok (.iconst 0, 1) := by decide +kernel
theorem dX12_quarter_24 : decode cX12_quarter 24 = .ok (.sipush 999, 3) := by decide +kernel
theorem dX12_quarter_27 : decode cX12_quarter 27 = .ok (.invokestatic 178, 3) := by decide +kernel
theorem dX12_quarter_30 : decode cX12_quarter 30 = .ok (.ifCond .ne 5, 3) := by decide +kernel
theorem dX12_quarter_33 : decode cX12_quarter 33 = .ok (.iconst 0, 1) := by decide +kernel
theorem dX12_quarter_34 : decode cX12_quarter 34 = .ok (.ireturn, 1) := by decide +kernel
theorem dX12_quarter_35 : decode cX12_quarter 35 = .ok (.aload_n 0, 1) := by decide +kernel
theorem dX12_quarter_36 : decode cX12_quarter 36 = .ok (.getfield 127, 3) := by decide +kernel
theorem dX12_quarter_39 : decode cX12_quarter 39 = .ok (.iload_n 1, 1) := by decide +kernel
theorem dX12_quarter_40 : decode cX12_quarter 40 = .ok (.iload_n 2, 1) := by decide +kernel
theorem dX12_quarter_41 : decode cX12_quarter 41 = .ok (.iastore, 1) := by decide +kernel
theorem dX12_quarter_42 : decode cX12_quarter 42 = .ok (.aload_n 0, 1) := by decide +kernel
theorem dX12_quarter_43 : decode cX12_quarter 43 = .ok (.getfield 130, 3) := by decide +kernel
theorem dX12_quarter_46 : decode cX12_quarter 46 = .ok (.iload_n 1, 1) := by decide +kernel
theorem dX12_quarter_47 : decode cX12_quarter 47 = .ok (.iload_n 3, 1) := by decide +kernel
theorem dX12_quarter_48 : decode cX12_quarter 48 = .ok (.iastore, 1) := by decide +kernel
theorem dX12_quarter_49 : decode cX12_quarter 49 = .ok (.iconst 1, 1) := by decide +kernel
theorem dX12_quarter_50 : decode cX12_quarter 50 = .ok (.ireturn, 1) := by decide +kernel
set_option maxHeartbeats 4000000 in
set_option maxRecDepth 100000 in
theorem s_X12_quarter {P : PP} {a0 : Nat} {a1 : Int32} {a2 : Int32} {a3 : Int32} (I : IM P a0) (hW : MW P a0) : CtrI yX12_quarter cX12_quarter 4 (some Jvm.ClassFile.FieldType.boolean) ({ frames := 3, cells := 0, slots := 0, locals := 192 } : Room) 0 0 P [.ref a0, .int a1, .int a2, .int a3] (fun r P2 => IM P2 a0 ∧ EM [0, 45, 46] a0 P P2 ∧ MW P2 a0 ∧ (0 ≤ r.toInt ∧ r.toInt ≤ 1) ∧ (r.toInt = 0 ∨ (((0 : Int) ≤ a1.toInt ∧ a1.toInt ≤ (3 : Int)) ∧ ((0 : Int) ≤ a2.toInt ∧ a2.toInt ≤ (100 : Int)) ∧ ((0 : Int) ≤ a3.toInt ∧ a3.toInt ≤ (999 : Int))))) := by
  refine enI (lv := [(0, .ref a0), (1, .int a1), (2, .int a2), (3, .int a3)]) (by decide) (Nat.le_of_ble_eq_true rfl) rfl (fun E D cy C Ci0 ret => ?_)
  have ha0 := I.2.1
  have J33 : ∀ (P33 : PP), (IM P33 a0) → (EM [0, 45, 46] a0 P P33) → (MW P33 a0) → (0 ≤ (pI P33 a0 0).toInt ∧ (pI P33 a0 0).toInt ≤ 0) → G E ({ frames := 3, cells := 0, slots := 0, locals := 192 } : Room) D cy 4 P33 0 0 33 [] [] := by
    intro P33 I33 X33 W33 hq33_0
    have h68501 := X33.at ha0
    refine g_iconst (v := 0) C dX12_quarter_33 (by decide) ?_
    exact ret _ _ _ _ _ _ dX12_quarter_34 rfl (by decide) (by decide) ⟨I33, X33, W33, (by decide), Or.inl rfl⟩
  refine g_aload_n C dX12_quarter_0 rfl 0 rfl ?_
  refine g_iconst (v := 0) C dX12_quarter_1 (by decide) ?_
  refine g_putI C fi_X12_1 rfl (ha0).1 (ha0).2 dX12_quarter_2 ?_
  refine gqW (ks := [0]) (I.setI (rgOk.of rfl (by decide))) (EM.setI I (by decide)) (fun Y68502 Iy68503 Xy68504 w68505 => ?_)
  have w68505 : (pI Y68502 a0 0).toInt = 0 := w68505
  have W68506 := hW.keep I Xy68504 (by decide) (by decide) (by decide)
  have Xz68507 : EM [0, 45, 46] a0 P Y68502 := Xy68504.mono (by decide)
  have h68508 := Xy68504.at ha0
  refine g_iload_n C dX12_quarter_5 rfl 1 rfl ?_
  refine g_callSI (b := 0) (ci := 0) (rest := []) C ms_X12_278 [.int a1] (s_X12_isQuarter Iy68503.1) rfl rfl (by decide) (Nat.le_of_ble_eq_true rfl) (by decide) dX12_quarter_6 (fun r68509 Y68510 h68511 => ?_)
  obtain ⟨rfl, h68511⟩ := h68511
  obtain ⟨h68511, hi68512⟩ := h68511
  have hi68512 : r68509.toInt = 0 ∨ (((0 : Int) ≤ a1.toInt ∧ a1.toInt ≤ (3 : Int))) := hi68512
  have h68511 : 0 ≤ r68509.toInt ∧ r68509.toInt ≤ 1 := h68511
  refine b_if_eq C 33 dX12_quarter_9 (by decide) (fun h68513 => ?_) (fun h68513 => ?_)
  · have h68513 : r68509.toInt = 0 := congrArg Int32.toInt h68513
    clear hi68512
    refine g_lv (lv' := []) [] rfl ?_
    exact J33 Y68502 Iy68503 Xz68507 W68506 (by omega)
  · have h68513 : r68509.toInt ≠ 0 := ti_ne h68513
    replace hi68512 := hi68512.resolve_left (by omega)
    refine g_iload_n C dX12_quarter_12 rfl 2 rfl ?_
    refine g_iconst (v := 0) C dX12_quarter_13 (by decide) ?_
    refine g_bipush (v := 100) C dX12_quarter_14 (by decide) ?_
    refine g_callSI (b := 0) (ci := 0) (rest := []) C ms_X12_178 [.int a2, .int 0, .int 100] (s_X12_within Iy68503.1) rfl rfl (by decide) (Nat.le_of_ble_eq_true rfl) (by decide) dX12_quarter_16 (fun r68514 Y68515 h68516 => ?_)
    obtain ⟨rfl, h68516⟩ := h68516
    obtain ⟨h68516, hi68517⟩ := h68516
    have hi68517 : r68514.toInt = 0 ∨ (0 ≤ a2.toInt ∧ a2.toInt ≤ 100) := hi68517
    have h68516 : 0 ≤ r68514.toInt ∧ r68514.toInt ≤ 1 := h68516
    refine b_if_eq C 33 dX12_quarter_19 (by decide) (fun h68518 => ?_) (fun h68518 => ?_)
    · have h68518 : r68514.toInt = 0 := congrArg Int32.toInt h68518
      clear hi68517
      refine g_lv (lv' := []) [] rfl ?_
      exact J33 Y68502 Iy68503 Xz68507 W68506 (by omega)
    · have h68518 : r68514.toInt ≠ 0 := ti_ne h68518
      replace hi68517 := hi68517.resolve_left (by omega)
      refine g_iload_n C dX12_quarter_22 rfl 3 rfl ?_
      refine g_iconst (v := 0) C dX12_quarter_23 (by decide) ?_
      refine g_sipush (v := 999) C dX12_quarter_24 (by decide) ?_
      refine g_callSI (b := 0) (ci := 0) (rest := []) C ms_X12_178 [.int a3, .int 0, .int 999] (s_X12_within Iy68503.1) rfl rfl (by decide) (Nat.le_of_ble_eq_true rfl) (by decide) dX12_quarter_27 (fun r68519 Y68520 h68521 => ?_)
      obtain ⟨rfl, h68521⟩ := h68521
      obtain ⟨h68521, hi68522⟩ := h68521
      have hi68522 : r68519.toInt = 0 ∨ (0 ≤ a3.toInt ∧ a3.toInt ≤ 999) := hi68522
      have h68521 : 0 ≤ r68519.toInt ∧ r68519.toInt ≤ 1 := h68521
      refine b_if_ne C 35 dX12_quarter_30 (by decide) (fun h68523 => ?_) (fun h68523 => ?_)
      · have h68523 : r68519.toInt ≠ 0 := ti_ne h68523
        replace hi68522 := hi68522.resolve_left (by omega)
        refine g_aload_n C dX12_quarter_35 rfl 0 rfl ?_
        obtain ⟨b68524, e68525, h68526⟩ := Iy68503.fld (h68508) 45 13 4 rfl
        refine g_getR C fi_X12_127 rfl e68525 (h68508).1 (h68508).2 dX12_quarter_36 ?_
        refine g_iload_n C dX12_quarter_39 rfl 1 rfl ?_
        refine g_iload_n C dX12_quarter_40 rfl 2 rfl ?_
        refine g_iast (j := (a1.toInt.toNat)) C h68526.1 h68526.2.1 (ix_in h68526.2.2 (by omega)) dX12_quarter_41 ?_
        refine gqW (ks := [45]) (Iy68503.setA e68525 h68526 (by decide) (arOk.none rfl)) (EM.setA Iy68503 e68525 rfl (by decide)) (fun Y68527 Iy68528 Xy68529 w68530 => ?_)
        have w68530 : (pI Y68527 b68524 (a1.toInt.toNat)).toInt = a2.toInt := w68530
        have q68531 := Xy68529.keepF 0 (by decide)
        have W68532 := W68506.keep Iy68503 Xy68529 (by decide) (by decide) (by decide)
        have Xz68533 : EM [0, 45, 46] a0 P Y68527 := EM.tr ha0 Xz68507 (Xy68529.mono (by decide))
        have e68534 := Xy68529.ref h68508 (by decide) e68525
        have h68535 := Xy68529.at h68508
        have h68536 := Xy68529.ar h68526
        refine g_aload_n C dX12_quarter_42 rfl 0 rfl ?_
        obtain ⟨b68537, e68538, h68539⟩ := Iy68528.fld (h68535) 46 13 4 rfl
        refine g_getR C fi_X12_130 rfl e68538 (h68535).1 (h68535).2 dX12_quarter_43 ?_
        refine g_iload_n C dX12_quarter_46 rfl 1 rfl ?_
        refine g_iload_n C dX12_quarter_47 rfl 3 rfl ?_
        refine g_iast (j := (a1.toInt.toNat)) C h68539.1 h68539.2.1 (ix_in h68539.2.2 (by omega)) dX12_quarter_48 ?_
        refine gqW (ks := [46]) (Iy68528.setA e68538 h68539 (by decide) (arOk.none rfl)) (EM.setA Iy68528 e68538 rfl (by decide)) (fun Y68540 Iy68541 Xy68542 w68543 => ?_)
        have w68543 : (pI Y68540 b68537 (a1.toInt.toNat)).toInt = a3.toInt := w68543
        have q68544 := Xy68542.keepF 0 (by decide)
        have q68545 := Xy68542.keepA e68534 (by decide) rfl (a1.toInt.toNat)
        have W68546 := W68532.keep Iy68528 Xy68542 (by decide) (by decide) (by decide)
        have Xz68547 : EM [0, 45, 46] a0 P Y68540 := EM.tr ha0 Xz68533 (Xy68542.mono (by decide))
        have e68548 := Xy68542.ref h68535 (by decide) e68534
        have e68549 := Xy68542.ref h68535 (by decide) e68538
        have h68550 := Xy68542.at h68535
        have h68551 := Xy68542.ar h68536
        have h68552 := Xy68542.ar h68539
        refine g_iconst (v := 1) C dX12_quarter_49 (by decide) ?_
        exact ret _ _ _ _ _ _ dX12_quarter_50 rfl (by decide) (by decide) ⟨Iy68541, Xz68547, W68546, (by decide), Or.inr (by omega)⟩
      · have h68523 : r68519.toInt = 0 := congrArg Int32.toInt h68523
        clear hi68522
        refine g_lv (lv' := []) [] rfl ?_
        exact J33 Y68502 Iy68503 Xz68507 W68506 (by omega)
theorem dX12_read_0 : decode cX12_read 0 = .ok (.aload_n 0, 1) := by decide +kernel
theorem dX12_read_1 : decode cX12_read 1 = .ok (.iconst 0, 1) := by decide +kernel
theorem dX12_read_2 : decode cX12_read 2 = .ok (.putfield 1, 3) := by decide +kernel
theorem dX12_read_5 : decode cX12_read 5 = .ok (.iload_n 1, 1) := by decide +kernel
theorem dX12_read_6 : decode cX12_read 6 = .ok (.invokestatic 278, 3) := by decide +kernel
theorem dX12_read_9 : decode cX12_read 9 = .ok (.ifCond .eq 30, 3) := by decide +kernel
theorem dX12_read_12 : decode cX12_read 12 = .ok (.aload_n 0, 1) := by decide +kernel
theorem dX12_read_13 : decode cX12_read 13 = .ok (.iload_n 2, 1) := by decide +kernel
theorem dX12_read_14 : decode cX12_read 14 = .ok (.invokevirtual 192, 3) := by decide +kernel
theorem dX12_read_17 : decode cX12_read 17 = .ok (.ifCond .eq 22, 3) := by decide +kernel
theorem dX12_read_20 : decode cX12_read 20 = .ok (.aload_n 0, 1) := by decide +kernel
theorem dX12_read_21 : decode cX12_read 21 = .ok (.iload_n 2, 1) := by decide +kernel
theorem dX12_read_22 : decode cX12_read 22 = .ok (.iload_n 3, 1) := by decide +kernel
theorem dX12_read_23 : decode cX12_read 23 = .ok (.invokevirtual 352, 3) := by decide +kernel
theorem dX12_read_26 : decode cX12_read 26 = .ok (.ifCond .eq 13, 3) := by decide +kernel
theorem dX12_read_29 : decode cX12_read 29 = .ok (.iload 4, 2) := by decide +kernel
theorem dX12_read_31 : decode cX12_read 31 = .ok (.iconst 0, 1) := by decide +kernel
theorem dX12_read_32 : decode cX12_read 32 = .ok (.iconst 1, 1) := by decide +kernel
theorem dX12_read_33 : decode cX12_read 33 = .ok (.invokestatic 178, 3) := by decide +kernel
theorem dX12_read_36 : decode cX12_read 36 = .ok (.ifCond .ne 5, 3) := by decide +kernel
theorem dX12_read_41 : decode cX12_read 41 = .ok (.aload_n 0, 1) := by decide +kernel
theorem dX12_read_42 : decode cX12_read 42 = .ok (.invokevirtual 336, 3) := by decide +kernel
theorem dX12_read_45 : decode cX12_read 45 = .ok (.aload_n 0, 1) := by decide +kernel
theorem dX12_read_46 : decode cX12_read 46 = .ok (.iload_n 1, 1) := by decide +kernel
theorem dX12_read_47 : decode cX12_read 47 = .ok (.iload_n 2, 1) := by decide +kernel
theorem dX12_read_48 : decode cX12_read 48 = .ok (.iload_n 3, 1) := by decide +kernel
theorem dX12_read_49 : decode cX12_read 49 = .ok (.iload 4, 2) := by decide +kernel
theorem dX12_read_51 : decode cX12_read 51 = .ok (.aload_n 0, 1) := by decide +kernel
theorem dX12_read_52 : decode cX12_read 52 = .ok (.getfield 69, 3) := by decide +kernel
theorem dX12_read_55 : decode cX12_read 55 = .ok (.iload_n 1, 1) := by decide +kernel
theorem dX12_read_56 : decode cX12_read 56 = .ok (.iaload, 1) := by decide +kernel
theorem dX12_read_57 : decode cX12_read 57 = .ok (.invokevirtual 355, 3) := by decide +kernel
theorem dX12_readBy_0 : decode cX12_readBy 0 = .ok (.iconst 0, 1) := by decide +kernel
theorem dX12_readBy_1 : decode cX12_readBy 1 = .ok (.istore 6, 2) := by decide +kernel
theorem dX12_readBy_3 : decode cX12_readBy 3 = .ok (.iconst 0, 1) := by decide +kernel
theorem dX12_readBy_4 : decode cX12_readBy 4 = .ok (.istore 7, 2) := by decide +kernel
theorem dX12_readBy_6 : decode cX12_readBy 6 = .ok (.iload 7, 2) := by decide +kernel
theorem dX12_readBy_8 : decode cX12_readBy 8 = .ok (.iconst 2, 1) := by decide +kernel
theorem dX12_readBy_9 : decode cX12_readBy 9 = .ok (.if_icmp .ge 105, 3) := by decide +kernel
theorem dX12_readBy_12 : decode cX12_readBy 12 = .ok (.aload_n 0, 1) := by decide +kernel
theorem dX12_readBy_13 : decode cX12_readBy 13 = .ok (.iload_n 1, 1) := by decide +kernel
theorem dX12_readBy_14 : decode cX12_readBy 14 = .ok (.iload_n 2, 1) := by decide +kernel
theorem dX12_readBy_15 : decode cX12_readBy 15 = .ok (.iload 7, 2) := by decide +kernel
theorem dX12_readBy_17 : decode cX12_readBy 17 = .ok (.iload 5, 2) := by decide +kernel
theorem dX12_readBy_19 : decode cX12_readBy 19 = .ok (.invokevirtual 339, 3) := by decide +kernel
theorem dX12_readBy_22 : decode cX12_readBy 22 = .ok (.iload 4, 2) := by decide +kernel
theorem dX12_readBy_24 : decode cX12_readBy 24 = .ok (.ifCond .ne 10, 3) := by decide +kernel
theorem dX12_readBy_27 : decode cX12_readBy 27 = .ok (.aload_n 0, 1) := by decide +kernel
theorem dX12_readBy_28 : decode cX12_readBy 28 = .ok (.invokevirtual 343, 3) := by decide +kernel
theorem dX12_readBy_31 : decode cX12_readBy 31 = .ok (.goto 7, 3) := by decide +kernel
theorem dX12_readBy_34 : decode cX12_readBy 34 = .ok (.aload_n 0, 1) := by decide +kernel
theorem dX12_readBy_35 : decode cX12_readBy 35 = .ok (.invokevirtual 346, 3) := by decide +kernel
theorem dX12_readBy_38 : decode cX12_readBy 38 = .ok (.iload 4, 2) := by decide +kernel
theorem dX12_readBy_40 : decode cX12_readBy 40 = .ok (.ifCond .ne 23, 3) := by decide +kernel
theorem dX12_readBy_43 : decode cX12_readBy 43 = .ok (.aload_n 0, 1) := by decide +kernel
theorem dX12_readBy_44 : decode cX12_readBy 44 = .ok (.getfield 318, 3) := by decide +kernel
theorem dX12_readBy_47 : decode cX12_readBy 47 = .ok (.iload_n 3, 1) := by decide +kernel
theorem dX12_readBy_48 : decode cX12_readBy 48 = .ok (.ishr, 1) := by decide +kernel
theorem dX12_readBy_49 : decode cX12_readBy 49 = .ok (.iconst 1, 1) := by decide +kernel
theorem dX12_readBy_50 : decode cX12_readBy 50 = .ok (.iand, 1) := by decide +kernel
theorem dX12_readBy_51 : decode cX12_readBy 51 = .ok (.iconst 1, 1) := by decide +kernel
theorem dX12_readBy_52 : decode cX12_readBy 52 = .ok (.if_icmp .ne 7, 3) := by decide +kernel
theorem dX12_readBy_55 : decode cX12_readBy 55 = .ok (.iconst 1, 1) := by decide +kernel
theorem dX12_readBy_56 : decode cX12_readBy 56 = .ok (.goto 12, 3) := by decide +kernel
theorem dX12_readBy_59 : decode cX12_readBy 59 = .ok (.iconst 0, 1) := by decide +kernel
theorem dX12_readBy_60 : decode cX12_readBy 60 = .ok (.goto 8, 3) := by decide +kernel
theorem dX12_readBy_63 : decode cX12_readBy 63 = .ok (.aload_n 0, 1) := by decide +kernel
theorem dX12_readBy_64 : decode cX12_readBy 64 = .ok (.iload_n 3, 1) := by decide +kernel
theorem dX12_readBy_65 : decode cX12_readBy 65 = .ok (.invokevirtual 330, 3) := by decide +kernel
theorem dX12_readBy_68 : decode cX12_readBy 68 = .ok (.istore 8, 2) := by decide +kernel
theorem dX12_readBy_70 : decode cX12_readBy 70 = .ok (.iload 8, 2) := by decide +kernel
theorem dX12_readBy_72 : decode cX12_readBy 72 = .ok (.ifCond .ne 5, 3) := by decide +kernel
theorem dX12_readBy_75 : decode cX12_readBy 75 = .ok (.iconst (-1), 1) := by decide +kernel
theorem dX12_readBy_76 : decode cX12_readBy 76 = .ok (.ireturn, 1) := by decide +kernel
theorem dX12_readBy_77 : decode cX12_readBy 77 = .ok (.iload 6, 2) := by decide +kernel
theorem dX12_readBy_79 : decode cX12_readBy 79 = .ok (.iload 4, 2) := by decide +kernel
theorem dX12_readBy_81 : decode cX12_readBy 81 = .ok (.ifCond .ne 12, 3) := by decide +kernel
theorem dX12_readBy_84 : decode cX12_readBy 84 = .ok (.aload_n 0, 1) := by decide +kernel
theorem dX12_readBy_85 : decode cX12_readBy 85 = .ok (.getfield 103, 3) := by decide +kernel
theorem dX12_readBy_88 : decode cX12_readBy 88 = .ok (.iload_n 3, 1) := by decide +kernel
theorem dX12_readBy_89 : decode cX12_readBy 89 = .ok (.iaload, 1) := by decide +kernel
theorem dX12_readBy_90 : decode cX12_readBy 90 = .ok (.goto 9, 3) := by decide +kernel
theorem dX12_readBy_93 : decode cX12_readBy 93 = .ok (.aload_n 0, 1) := by decide +kernel
theorem dX12_readBy_94 : decode cX12_readBy 94 = .ok (.getfield 109, 3) := by decide +kernel
theorem dX12_readBy_97 : decode cX12_readBy 97 = .ok (.iload_n 3, 1) := by decide +kernel
theorem dX12_readBy_98 : decode cX12_readBy 98 = .ok (.iaload, 1) := by decide +kernel
theorem dX12_readBy_99 : decode cX12_readBy 99 = .ok (.bipush 8, 2) := by decide +kernel
theorem dX12_readBy_101 : decode cX12_readBy 101 = .ok (.iload 7, 2) := by decide +kernel
theorem dX12_readBy_103 : decode cX12_readBy 103 = .ok (.imul, 1) := by decide +kernel
theorem dX12_readBy_104 : decode cX12_readBy 104 = .ok (.ishl, 1) := by decide +kernel
theorem dX12_readBy_105 : decode cX12_readBy 105 = .ok (.iadd, 1) := by decide +kernel
theorem dX12_readBy_106 : decode cX12_readBy 106 = .ok (.istore 6, 2) := by decide +kernel
theorem dX12_readBy_108 : decode cX12_readBy 108 = .ok (.iinc 7 1, 3) := by decide +kernel
theorem dX12_readBy_111 : decode cX12_readBy 111 = .ok (.goto (-105), 3) := by decide +kernel
theorem dX12_readBy_114 : decode cX12_readBy 114 = .ok (.iload 6, 2) := by decide +kernel
theorem dX12_readBy_116 : decode cX12_readBy 116 = .ok (.ireturn, 1) := by decide +kernel
set_option maxHeartbeats 4000000 in
set_option maxRecDepth 100000 in
theorem s_X12_readBy {P : PP} {a0 : Nat} {a1 : Int32} {a2 : Int32} {a3 : Int32} {a4 : Int32} {a5 : Int32} (I : IM P a0) (ha1 : 0 ≤ a1.toInt ∧ a1.toInt ≤ 3) (ha2 : 0 ≤ a2.toInt ∧ a2.toInt ≤ 1) (ha3 : 0 ≤ a3.toInt ∧ a3.toInt ≤ 19) (ha5 : 0 ≤ a5.toInt ∧ a5.toInt ≤ 40) (hf0 : ∀ b, pR P a0 10 = some b → 1 ≤ (pI P b (a2.toInt.toNat)).toInt ∧ (pI P b (a2.toInt.toNat)).toInt ≤ 16) (hW : MW P a0) : CtrI yX12_readBy cX12_readBy 9 (some Jvm.ClassFile.FieldType.int) ({ frames := 7, cells := 0, slots := 0, locals := 448 } : Room) 0 0 P [.ref a0, .int a1, .int a2, .int a3, .int a4, .int a5] (fun r P2 => IM P2 a0 ∧ EM [28, 29, 30, 31, 33, 34, 35, 36, 37, 38] a0 P P2 ∧ MW P2 a0 ∧ (True)) := by
  refine enI (lv := [(0, .ref a0), (1, .int a1), (2, .int a2), (3, .int a3), (4, .int a4), (5, .int a5)]) (by decide) (Nat.le_of_ble_eq_true rfl) rfl (fun E D cy C Ci0 ret => ?_)
  have ha0 := I.2.1
  have J6 : ∀ (n6 : Nat) (P6 : PP) (v6_6 : Int32) (v6_7 : Int32), (2 - v6_7.toInt).toNat < n6 → (IM P6 a0) → (EM [28, 29, 30, 31, 33, 34, 35, 36, 37, 38] a0 P P6) → (MW P6 a0) → (0 ≤ v6_7.toInt ∧ v6_7.toInt ≤ 2) → (∀ b, pR P6 a0 10 = some b → 1 ≤ (pI P6 b (a2.toInt.toNat)).toInt ∧ (pI P6 b (a2.toInt.toNat)).toInt ≤ 16) → G E ({ frames := 7, cells := 0, slots := 0, locals := 448 } : Room) D cy 9 P6 0 0 6 [(0, .ref a0), (1, .int a1), (2, .int a2), (3, .int a3), (4, .int a4), (5, .int a5), (6, .int v6_6), (7, .int v6_7)] [] := by
    intro n6
    induction n6 with
    | zero => intro P6 v6_6 v6_7 hm6 I6 X6 W6 hv6_7 hq6_0; omega
    | succ n6 ih6 =>
      intro P6 v6_6 v6_7 hm6 I6 X6 W6 hv6_7 hq6_0
      have h68813 := X6.at ha0
      obtain ⟨b68814, e68815, h68816⟩ := I6.fld (h68813) 10 13 2 rfl
      have hq6_0 := hq6_0 b68814 e68815
      have J99 : ∀ (P99 : PP) (v99_s0 : Int32), (IM P99 a0) → (EM [28, 29, 30, 31, 33, 34, 35, 36, 37, 38] a0 P P99) → (MW P99 a0) → (0 ≤ v6_7.toInt ∧ v6_7.toInt ≤ 1) → (0 ≤ (pI P99 a0 28).toInt ∧ (pI P99 a0 28).toInt ≤ 44) → (∀ b, pR P99 a0 10 = some b → 1 ≤ (pI P99 b (a2.toInt.toNat)).toInt ∧ (pI P99 b (a2.toInt.toNat)).toInt ≤ 16) → G E ({ frames := 7, cells := 0, slots := 0, locals := 448 } : Room) D cy 9 P99 0 0 99 [(0, .ref a0), (1, .int a1), (2, .int a2), (3, .int a3), (4, .int a4), (5, .int a5), (7, .int v6_7)] [.int v99_s0, .int v6_6] := by
        intro P99 v99_s0 I99 X99 W99 hv99_7 hq99_0 hq99_1
        have h68817 := X99.at ha0
        obtain ⟨b68818, e68819, h68820⟩ := I99.fld (h68817) 10 13 2 rfl
        have hq99_1 := hq99_1 b68818 e68819
        refine g_bipush (v := 8) C dX12_readBy_99 (by decide) ?_
        refine g_iload C dX12_readBy_101 6 rfl ?_
        refine s_imul C dX12_readBy_103 (by show -2147483648 ≤ 8 * v6_7.toInt ∧ 8 * v6_7.toInt ≤ 2147483647; omega) (fun z68821 h68822 => ?_)
        have h68822 : z68821.toInt = 8 * v6_7.toInt := h68822
        refine a_ishl C dX12_readBy_104 (fun z68823 => ?_)
        refine a_iadd C dX12_readBy_105 (fun z68825 => ?_)
        refine g_istore (lv' := [(6, .int z68825), (0, .ref a0), (1, .int a1), (2, .int a2), (3, .int a3), (4, .int a4), (5, .int a5), (7, .int v6_7)]) C dX12_readBy_106 (by decide) rfl ?_
        refine s_iinc (lv0 := [(6, .int z68825), (0, .ref a0), (1, .int a1), (2, .int a2), (3, .int a3), (4, .int a4), (5, .int a5)]) (m := 1) C dX12_readBy_108 7 rfl (by decide) rfl (by decide) (by omega) (fun z68827 h68828 => ?_)
        have h68828 : z68827.toInt = v6_7.toInt + 1 := h68828
        refine g_goto C 6 dX12_readBy_111 (by decide) ?_
        refine g_lv (lv' := [(0, .ref a0), (1, .int a1), (2, .int a2), (3, .int a3), (4, .int a4), (5, .int a5), (6, .int z68825), (7, .int z68827)]) [2, 3, 4, 5, 6, 7, 1, 0] rfl ?_
        exact ih6 P99 z68825 z68827 (by omega) I99 X99 W99 (by omega) (fun b9 e9 => by rw [e68819] at e9; cases e9; omega)
      have J68 : ∀ (P68 : PP) (v68_s0 : Int32), (IM P68 a0) → (EM [28, 29, 30, 31, 33, 34, 35, 36, 37, 38] a0 P P68) → (MW P68 a0) → (0 ≤ v6_7.toInt ∧ v6_7.toInt ≤ 1) → (0 ≤ v68_s0.toInt ∧ v68_s0.toInt ≤ 1) → (0 ≤ (pI P68 a0 28).toInt ∧ (pI P68 a0 28).toInt ≤ 44) → (∀ b, pR P68 a0 10 = some b → 1 ≤ (pI P68 b (a2.toInt.toNat)).toInt ∧ (pI P68 b (a2.toInt.toNat)).toInt ≤ 16) → G E ({ frames := 7, cells := 0, slots := 0, locals := 448 } : Room) D cy 9 P68 0 0 68 [(0, .ref a0), (1, .int a1), (2, .int a2), (3, .int a3), (4, .int a4), (5, .int a5), (6, .int v6_6), (7, .int v6_7)] [.int v68_s0] := by
        intro P68 v68_s0 I68 X68 W68 hv68_7 hv68_s0 hq68_0 hq68_1
        have h68829 := X68.at ha0
        obtain ⟨b68830, e68831, h68832⟩ := I68.fld (h68829) 10 13 2 rfl
        have hq68_1 := hq68_1 b68830 e68831
        refine g_istore (lv' := [(8, .int v68_s0), (0, .ref a0), (1, .int a1), (2, .int a2), (3, .int a3), (4, .int a4), (5, .int a5), (6, .int v6_6), (7, .int v6_7)]) C dX12_readBy_68 (by decide) rfl ?_
        refine g_iload C dX12_readBy_70 0 rfl ?_
        refine b_if_ne C 77 dX12_readBy_72 (by decide) (fun h68833 => ?_) (fun h68833 => ?_)
        · have h68833 : v68_s0.toInt ≠ 0 := ti_ne h68833
          refine g_iload C dX12_readBy_77 7 rfl ?_
          refine g_iload C dX12_readBy_79 5 rfl ?_
          have u68835 := ti_rng a4
          refine b_if_ne C 93 dX12_readBy_81 (by decide) (fun h68834 => ?_) (fun h68834 => ?_)
          · have h68834 : a4.toInt ≠ 0 := ti_ne h68834
            refine g_aload_n C dX12_readBy_93 rfl 1 rfl ?_
            obtain ⟨b68836, e68837, h68838⟩ := I68.fld (h68829) 38 13 20 rfl
            refine g_getR C fi_X12_109 rfl e68837 (h68829).1 (h68829).2 dX12_readBy_94 ?_
            refine g_iload_n C dX12_readBy_97 rfl 4 rfl ?_
            refine g_iald (j := (a3.toInt.toNat)) C h68838.1 h68838.2.1 (ix_in h68838.2.2 (by omega)) dX12_readBy_98 ?_
            refine g_lv (lv' := [(0, .ref a0), (1, .int a1), (2, .int a2), (3, .int a3), (4, .int a4), (5, .int a5), (7, .int v6_7)]) [1, 2, 3, 4, 5, 6, 8] rfl ?_
            exact J99 P68 (pI P68 b68836 (a3.toInt.toNat)) I68 X68 W68 (by omega) (by omega) (fun b9 e9 => by rw [e68831] at e9; cases e9; omega)
          · have h68834 : a4.toInt = 0 := congrArg Int32.toInt h68834
            refine g_aload_n C dX12_readBy_84 rfl 1 rfl ?_
            obtain ⟨b68839, e68840, h68841⟩ := I68.fld (h68829) 34 13 20 rfl
            refine g_getR C fi_X12_103 rfl e68840 (h68829).1 (h68829).2 dX12_readBy_85 ?_
            refine g_iload_n C dX12_readBy_88 rfl 4 rfl ?_
            refine g_iald (j := (a3.toInt.toNat)) C h68841.1 h68841.2.1 (ix_in h68841.2.2 (by omega)) dX12_readBy_89 ?_
            refine g_goto C 99 dX12_readBy_90 (by decide) ?_
            refine g_lv (lv' := [(0, .ref a0), (1, .int a1), (2, .int a2), (3, .int a3), (4, .int a4), (5, .int a5), (7, .int v6_7)]) [1, 2, 3, 4, 5, 6, 8] rfl ?_
            exact J99 P68 (pI P68 b68839 (a3.toInt.toNat)) I68 X68 W68 (by omega) (by omega) (fun b9 e9 => by rw [e68831] at e9; cases e9; omega)
        · have h68833 : v68_s0.toInt = 0 := congrArg Int32.toInt h68833
          refine g_iconst (v := (-1)) C dX12_readBy_75 (by decide) ?_
          exact ret _ _ _ _ _ _ dX12_readBy_76 rfl (by decide) (by decide) ⟨I68, X68, W68, trivial⟩
      have J38 : ∀ (P38 : PP), (IM P38 a0) → (EM [28, 29, 30, 31, 33, 34, 35, 36, 37, 38] a0 P P38) → (MW P38 a0) → (0 ≤ v6_7.toInt ∧ v6_7.toInt ≤ 1) → (0 ≤ (pI P38 a0 28).toInt ∧ (pI P38 a0 28).toInt ≤ 44) → (∀ b, pR P38 a0 10 = some b → 1 ≤ (pI P38 b (a2.toInt.toNat)).toInt ∧ (pI P38 b (a2.toInt.toNat)).toInt ≤ 16) → G E ({ frames := 7, cells := 0, slots := 0, locals := 448 } : Room) D cy 9 P38 0 0 38 [(0, .ref a0), (1, .int a1), (2, .int a2), (3, .int a3), (4, .int a4), (5, .int a5), (6, .int v6_6), (7, .int v6_7)] [] := by
        intro P38 I38 X38 W38 hv38_7 hq38_0 hq38_1
        have h68842 := X38.at ha0
        obtain ⟨b68843, e68844, h68845⟩ := I38.fld (h68842) 10 13 2 rfl
        have hq38_1 := hq38_1 b68843 e68844
        refine g_iload C dX12_readBy_38 4 rfl ?_
        have u68847 := ti_rng a4
        refine b_if_ne C 63 dX12_readBy_40 (by decide) (fun h68846 => ?_) (fun h68846 => ?_)
        · have h68846 : a4.toInt ≠ 0 := ti_ne h68846
          refine g_aload_n C dX12_readBy_63 rfl 0 rfl ?_
          refine g_iload_n C dX12_readBy_64 rfl 3 rfl ?_
          refine g_callVI (rest := []) C mv_X12_330 [.int a3] (s_X12_isFixed I38 (by omega) W38) (h68842).1 (h68842).2 rfl rfl (by decide) (Nat.le_of_ble_eq_true rfl) (by decide) dX12_readBy_65 (fun r68848 Y68849 h68850 => ?_)
          obtain ⟨rfl, h68850⟩ := h68850
          have h68850 : 0 ≤ r68848.toInt ∧ r68848.toInt ≤ 1 := h68850
          exact J68 P38 r68848 I38 X38 W38 (by omega) (by omega) (by omega) (fun b9 e9 => by rw [e68844] at e9; cases e9; omega)
        · have h68846 : a4.toInt = 0 := congrArg Int32.toInt h68846
          refine g_aload_n C dX12_readBy_43 rfl 0 rfl ?_
          refine g_getI C fi_X12_318 (by decide) (h68842).1 (h68842).2 dX12_readBy_44 ?_
          refine g_iload_n C dX12_readBy_47 rfl 3 rfl ?_
          refine a_ishr C dX12_readBy_48 (fun z68851 => ?_)
          refine g_iconst (v := 1) C dX12_readBy_49 (by decide) ?_
          refine s_iand C dX12_readBy_50 (by show 0 ≤ 1; omega) (fun z68853 h68854 => ?_)
          have h68854 : 0 ≤ z68853.toInt ∧ z68853.toInt ≤ 1 := h68854
          refine g_iconst (v := 1) C dX12_readBy_51 (by decide) ?_
          refine b_icmp_ne C 59 dX12_readBy_52 (by decide) (fun h68855 => ?_) (fun h68855 => ?_)
          · have h68855 : z68853.toInt ≠ 1 := ti_ne h68855
            refine g_iconst (v := 0) C dX12_readBy_59 (by decide) ?_
            refine g_goto C 68 dX12_readBy_60 (by decide) ?_
            exact J68 P38 0 I38 X38 W38 (by omega) (by decide) (by omega) (fun b9 e9 => by rw [e68844] at e9; cases e9; omega)
          · have h68855 : z68853.toInt = 1 := congrArg Int32.toInt h68855
            refine g_iconst (v := 1) C dX12_readBy_55 (by decide) ?_
            refine g_goto C 68 dX12_readBy_56 (by decide) ?_
            exact J68 P38 1 I38 X38 W38 (by omega) (by decide) (by omega) (fun b9 e9 => by rw [e68844] at e9; cases e9; omega)
      refine g_iload C dX12_readBy_6 7 rfl ?_
      refine g_iconst (v := 2) C dX12_readBy_8 (by decide) ?_
      refine b_icmp_ge C 114 dX12_readBy_9 (by decide) (fun h68856 => ?_) (fun h68856 => ?_)
      · have h68856 : 2 ≤ v6_7.toInt := h68856
        refine g_iload C dX12_readBy_114 6 rfl ?_
        exact ret _ _ _ _ _ _ dX12_readBy_116 rfl (by decide) (by decide) ⟨I6, X6, W6, trivial⟩
      · have h68856 : v6_7.toInt < 2 := h68856
        refine g_aload_n C dX12_readBy_12 rfl 0 rfl ?_
        refine g_iload_n C dX12_readBy_13 rfl 1 rfl ?_
        refine g_iload_n C dX12_readBy_14 rfl 2 rfl ?_
        refine g_iload C dX12_readBy_15 7 rfl ?_
        refine g_iload C dX12_readBy_17 5 rfl ?_
        refine g_callVV (rest := []) C mv_X12_339 [.int a1, .int a2, .int v6_7, .int a5] (s_X12_gathers I6 (by omega) (by omega) (by omega) (fun b9 e9 => by rw [e68815] at e9; cases e9; show 1 ≤ (pI P6 b68814 (a2.toInt.toNat)).toInt ∧ (pI P6 b68814 (a2.toInt.toNat)).toInt ≤ 16; omega) W6) (h68813).1 (h68813).2 rfl rfl (by decide) (Nat.le_of_ble_eq_true rfl) (by decide) dX12_readBy_19 (fun Y68858 h68859 => ?_)
        obtain ⟨Iy68860, Xy68861, W68862, p68863⟩ := h68859
        have p68863 : (pI Y68858 a0 28).toInt ≤ 4 + a5.toInt := p68863
        have q68864 := Xy68861.keepA e68815 (by decide) rfl (a2.toInt.toNat)
        have Xz68865 : EM [28, 29, 30, 31, 33, 34, 35, 36, 37, 38] a0 P Y68858 := EM.tr ha0 X6 (Xy68861.mono (by decide))
        have e68866 := Xy68861.ref h68813 (by decide) e68815
        have h68867 := Xy68861.at h68813
        have h68868 := Xy68861.ar h68816
        have h68869 := Iy68860.rg h68867 28 rfl
        refine g_iload C dX12_readBy_22 4 rfl ?_
        have u68871 := ti_rng a4
        refine b_if_ne C 34 dX12_readBy_24 (by decide) (fun h68870 => ?_) (fun h68870 => ?_)
        · have h68870 : a4.toInt ≠ 0 := ti_ne h68870
          refine g_aload_n C dX12_readBy_34 rfl 0 rfl ?_
          refine g_callVV (rest := []) C mv_X12_346 [] (s_X12_findSolved Iy68860 W68862) (h68867).1 (h68867).2 rfl rfl (by decide) (Nat.le_of_ble_eq_true rfl) (by decide) dX12_readBy_35 (fun Y68873 h68874 => ?_)
          obtain ⟨Iy68875, Xy68876, W68877⟩ := h68874
          have q68878 := Xy68876.keepA e68866 (by decide) rfl (a2.toInt.toNat)
          have q68879 := Xy68876.keepF 28 (by decide)
          have Xz68880 : EM [28, 29, 30, 31, 33, 34, 35, 36, 37, 38] a0 P Y68873 := EM.tr ha0 Xz68865 (Xy68876.mono (by decide))
          have e68881 := Xy68876.ref h68867 (by decide) e68866
          have h68882 := Xy68876.at h68867
          have h68883 := Xy68876.ar h68868
          exact J38 Y68873 Iy68875 Xz68880 W68877 (by omega) (by omega) (fun b9 e9 => by rw [e68881] at e9; cases e9; omega)
        · have h68870 : a4.toInt = 0 := congrArg Int32.toInt h68870
          refine g_aload_n C dX12_readBy_27 rfl 0 rfl ?_
          refine g_callVV (rest := []) C mv_X12_343 [] (s_X12_findPeeled Iy68860 W68862) (h68867).1 (h68867).2 rfl rfl (by decide) (Nat.le_of_ble_eq_true rfl) (by decide) dX12_readBy_28 (fun Y68885 h68886 => ?_)
          obtain ⟨Iy68887, Xy68888, W68889⟩ := h68886
          have q68890 := Xy68888.keepA e68866 (by decide) rfl (a2.toInt.toNat)
          have q68891 := Xy68888.keepF 28 (by decide)
          have Xz68892 : EM [28, 29, 30, 31, 33, 34, 35, 36, 37, 38] a0 P Y68885 := EM.tr ha0 Xz68865 (Xy68888.mono (by decide))
          have e68893 := Xy68888.ref h68867 (by decide) e68866
          have h68894 := Xy68888.at h68867
          have h68895 := Xy68888.ar h68868
          refine g_goto C 38 dX12_readBy_31 (by decide) ?_
          exact J38 Y68885 Iy68887 Xz68892 W68889 (by omega) (by omega) (fun b9 e9 => by rw [e68893] at e9; cases e9; omega)
  obtain ⟨b68896, e68897, h68898⟩ := I.fld (ha0) 10 13 2 rfl
  have hf0 := hf0 b68896 e68897
  refine g_iconst (v := 0) C dX12_readBy_0 (by decide) ?_
  refine g_istore (lv' := [(6, .int 0), (0, .ref a0), (1, .int a1), (2, .int a2), (3, .int a3), (4, .int a4), (5, .int a5)]) C dX12_readBy_1 (by decide) rfl ?_
  refine g_iconst (v := 0) C dX12_readBy_3 (by decide) ?_
  refine g_istore (lv' := [(7, .int 0), (6, .int 0), (0, .ref a0), (1, .int a1), (2, .int a2), (3, .int a3), (4, .int a4), (5, .int a5)]) C dX12_readBy_4 (by decide) rfl ?_
  refine g_lv (lv' := [(0, .ref a0), (1, .int a1), (2, .int a2), (3, .int a3), (4, .int a4), (5, .int a5), (6, .int 0), (7, .int 0)]) [2, 3, 4, 5, 6, 7, 1, 0] rfl ?_
  exact J6 _ P 0 0 (Nat.lt_succ_self _) I EM.rf hW (by decide) (fun b9 e9 => by rw [e68897] at e9; cases e9; omega)
theorem dX12_read_39 : decode cX12_read 39 = .ok (.iconst (-1), 1) := by decide +kernel
theorem dX12_read_40 : decode cX12_read 40 = .ok (.ireturn, 1) := by decide +kernel
theorem dX12_read_60 : decode cX12_read 60 = .ok (.ireturn, 1) := by decide +kernel
set_option maxHeartbeats 4000000 in
set_option maxRecDepth 100000 in
theorem s_X12_read {P : PP} {a0 : Nat} {a1 : Int32} {a2 : Int32} {a3 : Int32} {a4 : Int32} (I : IM P a0) (hW : MW P a0) : CtrI yX12_read cX12_read 5 (some Jvm.ClassFile.FieldType.int) ({ frames := 8, cells := 0, slots := 0, locals := 512 } : Room) 0 0 P [.ref a0, .int a1, .int a2, .int a3, .int a4] (fun r P2 => IM P2 a0 ∧ EM [0, 28, 29, 30, 31, 32, 33, 34, 35, 36, 37, 38] a0 P P2 ∧ MW P2 a0 ∧ (True)) := by
  refine enI (lv := [(0, .ref a0), (1, .int a1), (2, .int a2), (3, .int a3), (4, .int a4)]) (by decide) (Nat.le_of_ble_eq_true rfl) rfl (fun E D cy C Ci0 ret => ?_)
  have ha0 := I.2.1
  have J39 : ∀ (P39 : PP), (IM P39 a0) → (EM [0, 28, 29, 30, 31, 32, 33, 34, 35, 36, 37, 38] a0 P P39) → (MW P39 a0) → (0 ≤ (pI P39 a0 0).toInt ∧ (pI P39 a0 0).toInt ≤ 0) → G E ({ frames := 8, cells := 0, slots := 0, locals := 512 } : Room) D cy 5 P39 0 0 39 [] [] := by
    intro P39 I39 X39 W39 hq39_0
    have h68963 := X39.at ha0
    refine g_iconst (v := (-1)) C dX12_read_39 (by decide) ?_
    exact ret _ _ _ _ _ _ dX12_read_40 rfl (by decide) (by decide) ⟨I39, X39, W39, trivial⟩
  refine g_aload_n C dX12_read_0 rfl 0 rfl ?_
  refine g_iconst (v := 0) C dX12_read_1 (by decide) ?_
  refine g_putI C fi_X12_1 rfl (ha0).1 (ha0).2 dX12_read_2 ?_
  refine gqW (ks := [0]) (I.setI (rgOk.of rfl (by decide))) (EM.setI I (by decide)) (fun Y68964 Iy68965 Xy68966 w68967 => ?_)
  have w68967 : (pI Y68964 a0 0).toInt = 0 := w68967
  have W68968 := hW.keep I Xy68966 (by decide) (by decide) (by decide)
  have Xz68969 : EM [0, 28, 29, 30, 31, 32, 33, 34, 35, 36, 37, 38] a0 P Y68964 := Xy68966.mono (by decide)
  have h68970 := Xy68966.at ha0
  refine g_iload_n C dX12_read_5 rfl 1 rfl ?_
  refine g_callSI (b := 0) (ci := 0) (rest := []) C ms_X12_278 [.int a1] (s_X12_isQuarter Iy68965.1) rfl rfl (by decide) (Nat.le_of_ble_eq_true rfl) (by decide) dX12_read_6 (fun r68971 Y68972 h68973 => ?_)
  obtain ⟨rfl, h68973⟩ := h68973
  obtain ⟨h68973, hi68974⟩ := h68973
  have hi68974 : r68971.toInt = 0 ∨ (((0 : Int) ≤ a1.toInt ∧ a1.toInt ≤ (3 : Int))) := hi68974
  have h68973 : 0 ≤ r68971.toInt ∧ r68971.toInt ≤ 1 := h68973
  refine b_if_eq C 39 dX12_read_9 (by decide) (fun h68975 => ?_) (fun h68975 => ?_)
  · have h68975 : r68971.toInt = 0 := congrArg Int32.toInt h68975
    clear hi68974
    refine g_lv (lv' := []) [] rfl ?_
    exact J39 Y68964 Iy68965 Xz68969 W68968 (by omega)
  · have h68975 : r68971.toInt ≠ 0 := ti_ne h68975
    replace hi68974 := hi68974.resolve_left (by omega)
    refine g_aload_n C dX12_read_12 rfl 0 rfl ?_
    refine g_iload_n C dX12_read_13 rfl 2 rfl ?_
    refine g_callVI (rest := []) C mv_X12_192 [.int a2] (s_X12_isBook Iy68965 W68968) (h68970).1 (h68970).2 rfl rfl (by decide) (Nat.le_of_ble_eq_true rfl) (by decide) dX12_read_14 (fun r68976 Y68977 h68978 => ?_)
    obtain ⟨rfl, h68978⟩ := h68978
    obtain ⟨h68978, hi68979, hi68980⟩ := h68978
    have hi68979 : r68976.toInt = 0 ∨ (((0 : Int) ≤ a2.toInt ∧ a2.toInt ≤ (1 : Int))) := hi68979
    have h68978 : 0 ≤ r68976.toInt ∧ r68976.toInt ≤ 1 := h68978
    refine b_if_eq C 39 dX12_read_17 (by decide) (fun h68981 => ?_) (fun h68981 => ?_)
    · have h68981 : r68976.toInt = 0 := congrArg Int32.toInt h68981
      clear hi68979
      refine g_lv (lv' := []) [] rfl ?_
      exact J39 Y68964 Iy68965 Xz68969 W68968 (by omega)
    · have h68981 : r68976.toInt ≠ 0 := ti_ne h68981
      replace hi68979 := hi68979.resolve_left (by omega)
      obtain ⟨b68982, e68983, h68984⟩ := Iy68965.fld (h68970) 10 13 2 rfl
      have hi68980 := (hi68980.resolve_left (by omega)) b68982 e68983
      have hi68980 : 0 < (pI Y68964 b68982 (a2.toInt.toNat)).toInt := hi68980
      have h68985 := Iy68965.arr e68983 rfl (a2.toInt.toNat)
      refine g_aload_n C dX12_read_20 rfl 0 rfl ?_
      refine g_iload_n C dX12_read_21 rfl 2 rfl ?_
      refine g_iload_n C dX12_read_22 rfl 3 rfl ?_
      refine g_callVI (rest := []) C mv_X12_352 [.int a2, .int a3] (s_X12_isPage Iy68965 (by omega) W68968) (h68970).1 (h68970).2 rfl rfl (by decide) (Nat.le_of_ble_eq_true rfl) (by decide) dX12_read_23 (fun r68986 Y68987 h68988 => ?_)
      obtain ⟨rfl, h68988⟩ := h68988
      obtain ⟨h68988, hi68989⟩ := h68988
      have hi68989 : r68986.toInt = 0 ∨ (((0 : Int) ≤ a3.toInt ∧ a3.toInt ≤ (19 : Int))) := hi68989
      have h68988 : 0 ≤ r68986.toInt ∧ r68986.toInt ≤ 1 := h68988
      refine b_if_eq C 39 dX12_read_26 (by decide) (fun h68990 => ?_) (fun h68990 => ?_)
      · have h68990 : r68986.toInt = 0 := congrArg Int32.toInt h68990
        clear hi68989
        refine g_lv (lv' := []) [] rfl ?_
        exact J39 Y68964 Iy68965 Xz68969 W68968 (by omega)
      · have h68990 : r68986.toInt ≠ 0 := ti_ne h68990
        replace hi68989 := hi68989.resolve_left (by omega)
        refine g_iload C dX12_read_29 4 rfl ?_
        refine g_iconst (v := 0) C dX12_read_31 (by decide) ?_
        refine g_iconst (v := 1) C dX12_read_32 (by decide) ?_
        refine g_callSI (b := 0) (ci := 0) (rest := []) C ms_X12_178 [.int a4, .int 0, .int 1] (s_X12_within Iy68965.1) rfl rfl (by decide) (Nat.le_of_ble_eq_true rfl) (by decide) dX12_read_33 (fun r68991 Y68992 h68993 => ?_)
        obtain ⟨rfl, h68993⟩ := h68993
        obtain ⟨h68993, hi68994⟩ := h68993
        have hi68994 : r68991.toInt = 0 ∨ (0 ≤ a4.toInt ∧ a4.toInt ≤ 1) := hi68994
        have h68993 : 0 ≤ r68991.toInt ∧ r68991.toInt ≤ 1 := h68993
        refine b_if_ne C 41 dX12_read_36 (by decide) (fun h68995 => ?_) (fun h68995 => ?_)
        · have h68995 : r68991.toInt ≠ 0 := ti_ne h68995
          replace hi68994 := hi68994.resolve_left (by omega)
          refine g_aload_n C dX12_read_41 rfl 0 rfl ?_
          refine g_callVV (rest := []) C mv_X12_336 [] (s_X12_leavesNone Iy68965 W68968) (h68970).1 (h68970).2 rfl rfl (by decide) (Nat.le_of_ble_eq_true rfl) (by decide) dX12_read_42 (fun Y68997 h68998 => ?_)
          obtain ⟨Iy68999, Xy69000, W69001⟩ := h68998
          have q69002 := Xy69000.keepF 0 (by decide)
          have q69003 := Xy69000.keepA e68983 (by decide) rfl (a2.toInt.toNat)
          have Xz69004 : EM [0, 28, 29, 30, 31, 32, 33, 34, 35, 36, 37, 38] a0 P Y68997 := EM.tr ha0 Xz68969 (Xy69000.mono (by decide))
          have e69005 := Xy69000.ref h68970 (by decide) e68983
          have h69006 := Xy69000.at h68970
          have h69007 := Xy69000.ar h68984
          refine g_aload_n C dX12_read_45 rfl 0 rfl ?_
          refine g_iload_n C dX12_read_46 rfl 1 rfl ?_
          refine g_iload_n C dX12_read_47 rfl 2 rfl ?_
          refine g_iload_n C dX12_read_48 rfl 3 rfl ?_
          refine g_iload C dX12_read_49 4 rfl ?_
          refine g_aload_n C dX12_read_51 rfl 0 rfl ?_
          obtain ⟨b69008, e69009, h69010⟩ := Iy68999.fld (h69006) 20 13 20 rfl
          refine g_getR C fi_X12_69 rfl e69009 (h69006).1 (h69006).2 dX12_read_52 ?_
          refine g_iload_n C dX12_read_55 rfl 1 rfl ?_
          refine g_iald (j := (a1.toInt.toNat)) C h69010.1 h69010.2.1 (ix_in h69010.2.2 (by omega)) dX12_read_56 ?_
          have h69011 := Iy68999.arr e69009 rfl (a1.toInt.toNat)
          refine g_callVI (rest := []) C mv_X12_355 [.int a1, .int a2, .int a3, .int a4, .int (pI Y68997 b69008 (a1.toInt.toNat))] (s_X12_readBy Iy68999 (by omega) (by omega) (by omega) (by omega) (fun b9 e9 => by rw [e69005] at e9; cases e9; show 1 ≤ (pI Y68997 b68982 (a2.toInt.toNat)).toInt ∧ (pI Y68997 b68982 (a2.toInt.toNat)).toInt ≤ 16; omega) W69001) (h69006).1 (h69006).2 rfl rfl (by decide) (Nat.le_of_ble_eq_true rfl) (by decide) dX12_read_57 (fun r69012 Y69013 h69014 => ?_)
          obtain ⟨Iy69015, Xy69016, W69017, h69014⟩ := h69014
          have q69018 := Xy69016.keepF 0 (by decide)
          have q69019 := Xy69016.keepA e69005 (by decide) rfl (a2.toInt.toNat)
          have q69020 := Xy69016.keepA e69009 (by decide) rfl (a1.toInt.toNat)
          have Xz69021 : EM [0, 28, 29, 30, 31, 32, 33, 34, 35, 36, 37, 38] a0 P Y69013 := EM.tr ha0 Xz69004 (Xy69016.mono (by decide))
          have e69022 := Xy69016.ref h69006 (by decide) e69005
          have e69023 := Xy69016.ref h69006 (by decide) e69009
          have h69024 := Xy69016.at h69006
          have h69025 := Xy69016.ar h69007
          have h69026 := Xy69016.ar h69010
          have h69014 : True := h69014
          exact ret _ _ _ _ _ _ dX12_read_60 rfl (by decide) (by decide) ⟨Iy69015, Xz69021, W69017, trivial⟩
        · have h68995 : r68991.toInt = 0 := congrArg Int32.toInt h68995
          clear hi68994
          refine g_lv (lv' := []) [] rfl ?_
          exact J39 Y68964 Iy68965 Xz68969 W68968 (by omega)
theorem dX12_readLine_0 : decode cX12_readLine 0 = .ok (.aload_n 0, 1) := by decide +kernel
theorem dX12_readLine_1 : decode cX12_readLine 1 = .ok (.iconst 1, 1) := by decide +kernel
theorem dX12_readLine_2 : decode cX12_readLine 2 = .ok (.invokevirtual 172, 3) := by decide +kernel
theorem dX12_readLine_5 : decode cX12_readLine 5 = .ok (.ifCond .eq 12, 3) := by decide +kernel
theorem dX12_readLine_8 : decode cX12_readLine 8 = .ok (.aload_n 0, 1) := by decide +kernel
theorem dX12_readLine_9 : decode cX12_readLine 9 = .ok (.getfield 54, 3) := by decide +kernel
theorem dX12_readLine_12 : decode cX12_readLine 12 = .ok (.iconst 2, 1) := by decide +kernel
theorem dX12_readLine_13 : decode cX12_readLine 13 = .ok (.iaload, 1) := by decide +kernel
theorem dX12_readLine_14 : decode cX12_readLine 14 = .ok (.ifCond .gt 20, 3) := by decide +kernel
theorem dX12_readLine_17 : decode cX12_readLine 17 = .ok (.aload_n 0, 1) := by decide +kernel
theorem dX12_readLine_18 : decode cX12_readLine 18 = .ok (.iconst 3, 1) := by decide +kernel
theorem dX12_readLine_19 : decode cX12_readLine 19 = .ok (.invokevirtual 172, 3) := by decide +kernel
theorem dX12_readLine_22 : decode cX12_readLine 22 = .ok (.ifCond .eq 16, 3) := by decide +kernel
theorem dX12_readLine_25 : decode cX12_readLine 25 = .ok (.aload_n 0, 1) := by decide +kernel
theorem dX12_readLine_26 : decode cX12_readLine 26 = .ok (.getfield 66, 3) := by decide +kernel
theorem dX12_readLine_29 : decode cX12_readLine 29 = .ok (.iconst 2, 1) := by decide +kernel
theorem dX12_readLine_30 : decode cX12_readLine 30 = .ok (.iaload, 1) := by decide +kernel
theorem dX12_readLine_31 : decode cX12_readLine 31 = .ok (.ifCond .le 7, 3) := by decide +kernel
theorem dX12_readLine_34 : decode cX12_readLine 34 = .ok (.iconst 1, 1) := by decide +kernel
theorem dX12_readLine_35 : decode cX12_readLine 35 = .ok (.goto 4, 3) := by decide +kernel
theorem dX12_readLine_38 : decode cX12_readLine 38 = .ok (.iconst 0, 1) := by decide +kernel
theorem dX12_readLine_39 : decode cX12_readLine 39 = .ok (.istore_n 1, 1) := by decide +kernel
theorem dX12_readLine_40 : decode cX12_readLine 40 = .ok (.aload_n 0, 1) := by decide +kernel
theorem dX12_readLine_41 : decode cX12_readLine 41 = .ok (.iconst 0, 1) := by decide +kernel
theorem dX12_readLine_42 : decode cX12_readLine 42 = .ok (.invokevirtual 172, 3) := by decide +kernel
theorem dX12_readLine_45 : decode cX12_readLine 45 = .ok (.ifCond .ne 35, 3) := by decide +kernel
theorem dX12_readLine_48 : decode cX12_readLine 48 = .ok (.aload_n 0, 1) := by decide +kernel
theorem dX12_readLine_49 : decode cX12_readLine 49 = .ok (.iconst 1, 1) := by decide +kernel
theorem dX12_readLine_50 : decode cX12_readLine 50 = .ok (.invokevirtual 172, 3) := by decide +kernel
theorem dX12_readLine_53 : decode cX12_readLine 53 = .ok (.ifCond .ne 27, 3) := by decide +kernel
theorem dX12_readLine_56 : decode cX12_readLine 56 = .ok (.aload_n 0, 1) := by decide +kernel
theorem dX12_readLine_57 : decode cX12_readLine 57 = .ok (.iconst 2, 1) := by decide +kernel
theorem dX12_readLine_58 : decode cX12_readLine 58 = .ok (.invokevirtual 172, 3) := by decide +kernel
theorem dX12_readLine_61 : decode cX12_readLine 61 = .ok (.ifCond .ne 19, 3) := by decide +kernel
theorem dX12_readLine_64 : decode cX12_readLine 64 = .ok (.aload_n 0, 1) := by decide +kernel
theorem dX12_readLine_65 : decode cX12_readLine 65 = .ok (.iconst 3, 1) := by decide +kernel
theorem dX12_readLine_66 : decode cX12_readLine 66 = .ok (.invokevirtual 172, 3) := by decide +kernel
theorem dX12_readLine_69 : decode cX12_readLine 69 = .ok (.ifCond .ne 11, 3) := by decide +kernel
theorem dX12_readLine_72 : decode cX12_readLine 72 = .ok (.aload_n 0, 1) := by decide +kernel
theorem dX12_readLine_73 : decode cX12_readLine 73 = .ok (.iconst 1, 1) := by decide +kernel
theorem dX12_readLine_74 : decode cX12_readLine 74 = .ok (.invokevirtual 168, 3) := by decide +kernel
theorem dX12_wrong_0 : decode cX12_wrong 0 = .ok (.aload_n 0, 1) := by decide +kernel
theorem dX12_wrong_1 : decode cX12_wrong 1 = .ok (.getfield 162, 3) := by decide +kernel
theorem dX12_wrong_4 : decode cX12_wrong 4 = .ok (.ifCond .ne 21, 3) := by decide +kernel
theorem dX12_wrong_7 : decode cX12_wrong 7 = .ok (.aload_n 0, 1) := by decide +kernel
theorem dX12_wrong_8 : decode cX12_wrong 8 = .ok (.iload_n 1, 1) := by decide +kernel
theorem dX12_wrong_9 : decode cX12_wrong 9 = .ok (.bipush 16, 2) := by decide +kernel
theorem dX12_wrong_11 : decode cX12_wrong 11 = .ok (.aload_n 0, 1) := by decide +kernel
theorem dX12_wrong_12 : decode cX12_wrong 12 = .ok (.getfield 27, 3) := by decide +kernel
theorem dX12_wrong_15 : decode cX12_wrong 15 = .ok (.aload_n 0, 1) := by decide +kernel
theorem dX12_wrong_16 : decode cX12_wrong 16 = .ok (.getfield 159, 3) := by decide +kernel
theorem dX12_wrong_19 : decode cX12_wrong 19 = .ok (.iaload, 1) := by decide +kernel
theorem dX12_wrong_20 : decode cX12_wrong 20 = .ok (.imul, 1) := by decide +kernel
theorem dX12_wrong_21 : decode cX12_wrong 21 = .ok (.iadd, 1) := by decide +kernel
theorem dX12_wrong_22 : decode cX12_wrong 22 = .ok (.putfield 162, 3) := by decide +kernel
theorem dX12_wrong_25 : decode cX12_wrong 25 = .ok (.return_, 1) := by decide +kernel
set_option maxHeartbeats 4000000 in
set_option maxRecDepth 100000 in
theorem s_X12_wrong {P : PP} {a0 : Nat} {a1 : Int32} (I : IM P a0) (ha1 : 1 ≤ a1.toInt ∧ a1.toInt ≤ 5) (hW : MW P a0) : CtrV yX12_wrong cX12_wrong 2 none ({ frames := 1, cells := 0, slots := 0, locals := 64 } : Room) 0 0 P [.ref a0, .int a1] (fun P2 => IM P2 a0 ∧ EM [8] a0 P P2 ∧ MW P2 a0) := by
  refine enV (lv := [(0, .ref a0), (1, .int a1)]) (by decide) (Nat.le_of_ble_eq_true rfl) rfl (fun E D cy C Ci0 ret => ?_)
  have ha0 := I.2.1
  refine g_aload_n C dX12_wrong_0 rfl 0 rfl ?_
  refine g_getI C fi_X12_162 (by decide) (ha0).1 (ha0).2 dX12_wrong_1 ?_
  have h69080 := I.rg (ha0) 8 rfl
  refine b_if_ne C 25 dX12_wrong_4 (by decide) (fun h69081 => ?_) (fun h69081 => ?_)
  · have h69081 : (pI P a0 8).toInt ≠ 0 := ti_ne h69081
    exact ret _ _ _ _ _ dX12_wrong_25 (by decide) (by decide) ⟨I, EM.rf, hW⟩
  · have h69081 : (pI P a0 8).toInt = 0 := congrArg Int32.toInt h69081
    refine g_aload_n C dX12_wrong_7 rfl 0 rfl ?_
    refine g_iload_n C dX12_wrong_8 rfl 1 rfl ?_
    refine g_bipush (v := 16) C dX12_wrong_9 (by decide) ?_
    refine g_aload_n C dX12_wrong_11 rfl 0 rfl ?_
    obtain ⟨b69082, e69083, h69084⟩ := I.fld (ha0) 5 13 1002 rfl
    refine g_getR C fi_X12_27 rfl e69083 (ha0).1 (ha0).2 dX12_wrong_12 ?_
    refine g_aload_n C dX12_wrong_15 rfl 0 rfl ?_
    refine g_getI C fi_X12_159 (by decide) (ha0).1 (ha0).2 dX12_wrong_16 ?_
    have h69085 := I.rg (ha0) 7 rfl
    refine g_iald (j := ((pI P a0 7).toInt.toNat)) C h69084.1 h69084.2.1 (ix_in h69084.2.2 (by omega)) dX12_wrong_19 ?_
    have h69086 := I.arr e69083 rfl ((pI P a0 7).toInt.toNat)
    refine s_imul C dX12_wrong_20 (by show -2147483648 ≤ 16 * (pI P b69082 ((pI P a0 7).toInt.toNat)).toInt ∧ 16 * (pI P b69082 ((pI P a0 7).toInt.toNat)).toInt ≤ 2147483647; omega) (fun z69087 h69088 => ?_)
    have h69088 : z69087.toInt = 16 * (pI P b69082 ((pI P a0 7).toInt.toNat)).toInt := h69088
    refine s_iadd C dX12_wrong_21 (by show -2147483648 ≤ a1.toInt + z69087.toInt ∧ a1.toInt + z69087.toInt ≤ 2147483647; omega) (fun z69089 h69090 => ?_)
    have h69090 : z69089.toInt = a1.toInt + z69087.toInt := h69090
    refine g_putI C fi_X12_162 rfl (ha0).1 (ha0).2 dX12_wrong_22 ?_
    refine gqW (ks := [8]) (I.setI (rgOk.of rfl (by omega))) (EM.setI I (by decide)) (fun Y69091 Iy69092 Xy69093 w69094 => ?_)
    have w69094 : (pI Y69091 a0 8).toInt = z69089.toInt := w69094
    have q69095 := Xy69093.keepF 7 (by decide)
    have W69096 := hW.keep I Xy69093 (by decide) (by decide) (by decide)
    have Xz69097 : EM [8] a0 P Y69091 := Xy69093.mono (by decide)
    have h69098 := Xy69093.at ha0
    exact ret _ _ _ _ _ dX12_wrong_25 (by decide) (by decide) ⟨Iy69092, Xz69097, W69096⟩
