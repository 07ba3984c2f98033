theorem dX10_init_0 : decode cX10_init 0 = .ok (.aload_n 0, 1) := by decide +kernel
theorem dX10_init_1 : decode cX10_init 1 = .ok (.invokespecial 3, 3) := by decide +kernel
theorem dX10_init_4 : decode cX10_init 4 = .ok (.aload_n 0, 1) := by decide +kernel
theorem dX10_init_5 : decode cX10_init 5 = .ok (.bipush 6, 2) := by decide +kernel
theorem dX10_init_7 : decode cX10_init 7 = .ok (.anewarray 9, 3) := by decide +kernel
theorem dX11_allHouses_0 : decode cX11_allHouses 0 = .ok (.iconst 0, 1) := by decide +kernel
theorem dX11_allHouses_1 : decode cX11_allHouses 1 = .ok (.istore_n 1, 1) := by decide +kernel
theorem dX11_allHouses_2 : decode cX11_allHouses 2 = .ok (.iconst 0, 1) := by decide +kernel
theorem dX11_allHouses_3 : decode cX11_allHouses 3 = .ok (.istore_n 2, 1) := by decide +kernel
theorem dX11_allHouses_4 : decode cX11_allHouses 4 = .ok (.iload_n 2, 1) := by decide +kernel
theorem dX11_allHouses_5 : decode cX11_allHouses 5 = .ok (.iconst 4, 1) := by decide +kernel
theorem dX11_allHouses_6 : decode cX11_allHouses 6 = .ok (.if_icmp .ge 18, 3) := by decide +kernel
theorem dX11_allHouses_9 : decode cX11_allHouses 9 = .ok (.iload_n 1, 1) := by decide +kernel
theorem dX11_allHouses_10 : decode cX11_allHouses 10 = .ok (.aload_n 0, 1) := by decide +kernel
theorem dX11_allHouses_11 : decode cX11_allHouses 11 = .ok (.getfield 32, 3) := by decide +kernel
theorem dX11_allHouses_14 : decode cX11_allHouses 14 = .ok (.iload_n 2, 1) := by decide +kernel
theorem dX11_allHouses_15 : decode cX11_allHouses 15 = .ok (.iaload, 1) := by decide +kernel
theorem dX11_allHouses_16 : decode cX11_allHouses 16 = .ok (.iadd, 1) := by decide +kernel
theorem dX11_allHouses_17 : decode cX11_allHouses 17 = .ok (.istore_n 1, 1) := by decide +kernel
theorem dX11_allHouses_18 : decode cX11_allHouses 18 = .ok (.iinc 2 1, 3) := by decide +kernel
theorem dX11_allHouses_21 : decode cX11_allHouses 21 = .ok (.goto (-17), 3) := by decide +kernel
theorem dX11_allHouses_24 : decode cX11_allHouses 24 = .ok (.iload_n 1, 1) := by decide +kernel
theorem dX11_allHouses_25 : decode cX11_allHouses 25 = .ok (.ireturn, 1) := by decide +kernel
set_option maxHeartbeats 4000000 in
set_option maxRecDepth 100000 in
theorem s_X11_allHouses {P : PP} {a0 : Nat} (I : IV P) (ha0 : At P a0 11) : CtrI yX11_allHouses cX11_allHouses 3 (some Jvm.ClassFile.FieldType.int) ({ frames := 1, cells := 0, slots := 0, locals := 64 } : Room) 0 0 P [.ref a0] (fun r P2 => P = P2 ∧ (True)) := by
  refine enI (lv := [(0, .ref a0)]) (by decide) (Nat.le_of_ble_eq_true rfl) rfl (fun E D cy C Ci0 ret => ?_)
  have J4 : ∀ (n4 : Nat) (v4_1 : Int32) (v4_2 : Int32), (4 - v4_2.toInt).toNat < n4 → (0 ≤ v4_2.toInt ∧ v4_2.toInt ≤ 4) → G E ({ frames := 1, cells := 0, slots := 0, locals := 64 } : Room) D cy 3 P 0 0 4 [(0, .ref a0), (1, .int v4_1), (2, .int v4_2)] [] := by
    intro n4
    induction n4 with
    | zero => intro v4_1 v4_2 hm4 hv4_2; omega
    | succ n4 ih4 =>
      intro v4_1 v4_2 hm4 hv4_2
      refine g_iload_n C dX11_allHouses_4 rfl 2 rfl ?_
      refine g_iconst (v := 4) C dX11_allHouses_5 (by decide) ?_
      refine b_icmp_ge C 24 dX11_allHouses_6 (by decide) (fun h4763 => ?_) (fun h4763 => ?_)
      · have h4763 : 4 ≤ v4_2.toInt := h4763
        refine g_iload_n C dX11_allHouses_24 rfl 1 rfl ?_
        exact ret _ _ _ _ _ _ dX11_allHouses_25 rfl (by decide) (by decide) ⟨rfl, trivial⟩
      · have h4763 : v4_2.toInt < 4 := h4763
        refine g_iload_n C dX11_allHouses_9 rfl 1 rfl ?_
        refine g_aload_n C dX11_allHouses_10 rfl 0 rfl ?_
        obtain ⟨b4764, e4765, h4766⟩ := I.fld (ha0) 5 13 4 rfl
        refine g_getR C fi_X11_32 rfl e4765 (ha0).1 (ha0).2 dX11_allHouses_11 ?_
        refine g_iload_n C dX11_allHouses_14 rfl 2 rfl ?_
        refine g_iald (j := (v4_2.toInt.toNat)) C h4766.1 h4766.2.1 (ix_in h4766.2.2 (by omega)) dX11_allHouses_15 ?_
        refine g_topi (fun z4767 _ => ?_)
        refine a_iadd C dX11_allHouses_16 (fun z4768 => ?_)
        refine g_istore_n (lv' := [(1, .int z4768), (0, .ref a0), (2, .int v4_2)]) C dX11_allHouses_17 rfl (by decide) rfl ?_
        refine s_iinc (lv0 := [(1, .int z4768), (0, .ref a0)]) (m := 1) C dX11_allHouses_18 2 rfl (by decide) rfl (by decide) (by omega) (fun z4770 h4771 => ?_)
        have h4771 : z4770.toInt = v4_2.toInt + 1 := h4771
        refine g_goto C 4 dX11_allHouses_21 (by decide) ?_
        refine g_lv (lv' := [(0, .ref a0), (1, .int z4768), (2, .int z4770)]) [2, 1, 0] rfl ?_
        exact ih4 z4768 z4770 (by omega) (by omega)
  refine g_iconst (v := 0) C dX11_allHouses_0 (by decide) ?_
  refine g_istore_n (lv' := [(1, .int 0), (0, .ref a0)]) C dX11_allHouses_1 rfl (by decide) rfl ?_
  refine g_iconst (v := 0) C dX11_allHouses_2 (by decide) ?_
  refine g_istore_n (lv' := [(2, .int 0), (1, .int 0), (0, .ref a0)]) C dX11_allHouses_3 rfl (by decide) rfl ?_
  refine g_lv (lv' := [(0, .ref a0), (1, .int 0), (2, .int 0)]) [2, 1, 0] rfl ?_
  exact J4 _ 0 0 (Nat.lt_succ_self _) (by decide)
theorem dX11_apart_0 : decode cX11_apart 0 = .ok (.aload_n 0, 1) := by decide +kernel
theorem dX11_apart_1 : decode cX11_apart 1 = .ok (.iload_n 1, 1) := by decide +kernel
theorem dX11_apart_2 : decode cX11_apart 2 = .ok (.iload_n 2, 1) := by decide +kernel
theorem dX11_apart_3 : decode cX11_apart 3 = .ok (.invokevirtual 185, 3) := by decide +kernel
theorem dX11_paperAt_0 : decode cX11_paperAt 0 = .ok (.iload_n 1, 1) := by decide +kernel
theorem dX11_paperAt_1 : decode cX11_paperAt 1 = .ok (.invokestatic 158, 3) := by decide +kernel
theorem dX11_isQuarter_0 : decode cX11_isQuarter 0 = .ok (.iload_n 0, 1) := by decide +kernel
theorem dX11_isQuarter_1 : decode cX11_isQuarter 1 = .ok (.ifCond .lt 12, 3) := by decide +kernel
theorem dX11_isQuarter_4 : decode cX11_isQuarter 4 = .ok (.iload_n 0, 1) := by decide +kernel
theorem dX11_isQuarter_5 : decode cX11_isQuarter 5 = .ok (.iconst 4, 1) := by decide +kernel
theorem dX11_isQuarter_6 : decode cX11_isQuarter 6 = .ok (.if_icmp .ge 7, 3) := by decide +kernel
theorem dX11_isQuarter_9 : decode cX11_isQuarter 9 = .ok (.iconst 1, 1) := by decide +kernel
theorem dX11_isQuarter_10 : decode cX11_isQuarter 10 = .ok (.goto 4, 3) := by decide +kernel
theorem dX11_isQuarter_13 : decode cX11_isQuarter 13 = .ok (.iconst 0, 1) := by decide +kernel
theorem dX11_isQuarter_14 : decode cX11_isQuarter 14 = .ok (.ireturn, 1) := by decide +kernel
set_option maxHeartbeats 4000000 in
set_option maxRecDepth 100000 in
theorem s_X11_isQuarter {P : PP} {a0 : Int32} (I : IV P) : CtrI yX11_isQuarter cX11_isQuarter 1 (some Jvm.ClassFile.FieldType.boolean) ({ frames := 1, cells := 0, slots := 0, locals := 64 } : Room) 0 0 P [.int a0] (fun r P2 => P = P2 ∧ (0 ≤ r.toInt ∧ r.toInt ≤ 1) ∧ (r.toInt = 0 ∨ (((0 : Int) ≤ a0.toInt ∧ a0.toInt ≤ (3 : Int))))) := by
  refine enI (lv := [(0, .int a0)]) (by decide) (Nat.le_of_ble_eq_true rfl) rfl (fun E D cy C Ci0 ret => ?_)
  have J13 : G E ({ frames := 1, cells := 0, slots := 0, locals := 64 } : Room) D cy 1 P 0 0 13 [] [] := by
    refine g_iconst (v := 0) C dX11_isQuarter_13 (by decide) ?_
    exact ret _ _ _ _ _ _ dX11_isQuarter_14 rfl (by decide) (by decide) ⟨rfl, (by decide), Or.inl rfl⟩
  refine g_iload_n C dX11_isQuarter_0 rfl 0 rfl ?_
  have u4777 := ti_rng a0
  refine b_if_lt C 13 dX11_isQuarter_1 (by decide) (fun h4776 => ?_) (fun h4776 => ?_)
  · have h4776 : a0.toInt < 0 := h4776
    refine g_lv (lv' := []) [] rfl ?_
    exact J13 
  · have h4776 : 0 ≤ a0.toInt := h4776
    refine g_iload_n C dX11_isQuarter_4 rfl 0 rfl ?_
    refine g_iconst (v := 4) C dX11_isQuarter_5 (by decide) ?_
    have u4779 := ti_rng a0
    refine b_icmp_ge C 13 dX11_isQuarter_6 (by decide) (fun h4778 => ?_) (fun h4778 => ?_)
    · have h4778 : 4 ≤ a0.toInt := h4778
      refine g_lv (lv' := []) [] rfl ?_
      exact J13 
    · have h4778 : a0.toInt < 4 := h4778
      refine g_iconst (v := 1) C dX11_isQuarter_9 (by decide) ?_
      refine g_goto C 14 dX11_isQuarter_10 (by decide) ?_
      exact ret _ _ _ _ _ _ dX11_isQuarter_14 rfl (by decide) (by decide) ⟨rfl, (by decide), Or.inr (by omega)⟩
theorem dX11_paperAt_4 : decode cX11_paperAt 4 = .ok (.ifCond .eq 16, 3) := by decide +kernel
theorem dX11_paperAt_7 : decode cX11_paperAt 7 = .ok (.aload_n 0, 1) := by decide +kernel
theorem dX11_paperAt_8 : decode cX11_paperAt 8 = .ok (.getfield 17, 3) := by decide +kernel
theorem dX11_paperAt_11 : decode cX11_paperAt 11 = .ok (.iload_n 1, 1) := by decide +kernel
theorem dX11_paperAt_12 : decode cX11_paperAt 12 = .ok (.aaload, 1) := by decide +kernel
theorem dX11_paperAt_13 : decode cX11_paperAt 13 = .ok (.iload_n 2, 1) := by decide +kernel
theorem dX11_paperAt_14 : decode cX11_paperAt 14 = .ok (.invokevirtual 337, 3) := by decide +kernel
theorem dX11_paperAt_17 : decode cX11_paperAt 17 = .ok (.goto 4, 3) := by decide +kernel
theorem dX11_paperAt_20 : decode cX11_paperAt 20 = .ok (.aconst_null, 1) := by decide +kernel
theorem dX11_paperAt_21 : decode cX11_paperAt 21 = .ok (.areturn, 1) := by decide +kernel
set_option maxHeartbeats 4000000 in
set_option maxRecDepth 100000 in
theorem s_X11_paperAt {P : PP} {a0 : Nat} {a1 : Int32} {a2 : Int32} (I : IV P) (ha0 : At P a0 11) : CtrQ yX11_paperAt cX11_paperAt 3 (some (Jvm.ClassFile.FieldType.object "ThousandLeaflets$Paper")) ({ frames := 2, cells := 0, slots := 0, locals := 128 } : Room) 0 0 P [.ref a0, .int a1, .int a2] (fun r P2 => P = P2 ∧ (r = none ∨ ∃ b, r = some b ∧ At P2 b 7 ∧ ((0 : Int) ≤ a1.toInt ∧ a1.toInt ≤ (3 : Int)) ∧ ((0 : Int) ≤ a2.toInt ∧ a2.toInt ≤ (39 : Int)))) := by
  refine enQ (lv := [(0, .ref a0), (1, .int a1), (2, .int a2)]) (by decide) (by first | exact Or.inl ⟨_, rfl⟩ | exact Or.inr ⟨_, rfl⟩) (Nat.le_of_ble_eq_true rfl) rfl (fun E D cy C Ci0 ret => ?_)
  refine g_iload_n C dX11_paperAt_0 rfl 1 rfl ?_
  refine g_callSI (b := 0) (ci := 0) (rest := []) C ms_X11_158 [.int a1] (s_X11_isQuarter I) rfl rfl (by decide) (Nat.le_of_ble_eq_true rfl) (by decide) dX11_paperAt_1 (fun r4796 Y4797 h4798 => ?_)
  obtain ⟨rfl, h4798⟩ := h4798
  obtain ⟨h4798, hi4799⟩ := h4798
  have hi4799 : r4796.toInt = 0 ∨ (((0 : Int) ≤ a1.toInt ∧ a1.toInt ≤ (3 : Int))) := hi4799
  have h4798 : 0 ≤ r4796.toInt ∧ r4796.toInt ≤ 1 := h4798
  refine b_if_eq C 20 dX11_paperAt_4 (by decide) (fun h4800 => ?_) (fun h4800 => ?_)
  · have h4800 : r4796.toInt = 0 := congrArg Int32.toInt h4800
    clear hi4799
    refine g_null C dX11_paperAt_20 ?_
    exact ret _ _ _ _ _ none dX11_paperAt_21 (by decide) (by decide) ⟨rfl, Or.inl rfl⟩
  · have h4800 : r4796.toInt ≠ 0 := ti_ne h4800
    replace hi4799 := hi4799.resolve_left (by omega)
    refine g_aload_n C dX11_paperAt_7 rfl 0 rfl ?_
    obtain ⟨b4801, e4802, h4803⟩ := I.fld (ha0) 1 19 4 rfl
    refine g_getR C fi_X11_17 rfl e4802 (ha0).1 (ha0).2 dX11_paperAt_8 ?_
    refine g_iload_n C dX11_paperAt_11 rfl 1 rfl ?_
    obtain ⟨b4804, e4805, h4806⟩ := I.elm h4803 (by decide) (a1.toInt.toNat) (by omega)
    refine g_aldR C h4803.1 h4803.2.1 (by decide) (ix_in h4803.2.2 (by omega)) e4805 dX11_paperAt_12 ?_
    refine g_iload_n C dX11_paperAt_13 rfl 2 rfl ?_
    refine g_callVQ (rest := []) C mv_X11_337 [.int a2] (s_X6_at I h4806) (h4806).1 (h4806).2 rfl rfl (by decide) (Nat.le_of_ble_eq_true rfl) (by decide) dX11_paperAt_14 (fun r4807 Y4808 h4809 => ?_)
    obtain ⟨rfl, h4809⟩ := h4809
    rcases h4809 with rfl | ⟨b4811, rfl, h4809, hj4810⟩
    · show G _ _ _ _ _ _ _ _ _ _ (.null :: _)
      refine g_goto C 21 dX11_paperAt_17 (by decide) ?_
      exact ret _ _ _ _ _ none dX11_paperAt_21 (by decide) (by decide) ⟨rfl, Or.inl rfl⟩
    · have hj4810 : ((0 : Int) ≤ a2.toInt ∧ a2.toInt ≤ (39 : Int)) := hj4810
      show G _ _ _ _ _ _ _ _ _ _ (.ref b4811 :: _)
      refine g_goto C 21 dX11_paperAt_17 (by decide) ?_
      exact ret _ _ _ _ _ (some b4811) dX11_paperAt_21 (by decide) (by decide) ⟨rfl, Or.inr ⟨_, rfl, h4809, by omega⟩⟩
theorem dX11_apart_6 : decode cX11_apart 6 = .ok (.astore_n 3, 1) := by decide +kernel
theorem dX11_apart_7 : decode cX11_apart 7 = .ok (.aload_n 3, 1) := by decide +kernel
theorem dX11_apart_8 : decode cX11_apart 8 = .ok (.ifnull 27, 3) := by decide +kernel
theorem dX11_apart_11 : decode cX11_apart 11 = .ok (.aload_n 3, 1) := by decide +kernel
theorem dX11_apart_12 : decode cX11_apart 12 = .ok (.getfield 191, 3) := by decide +kernel
theorem dX11_apart_15 : decode cX11_apart 15 = .ok (.iconst (-1), 1) := by decide +kernel
theorem dX11_apart_16 : decode cX11_apart 16 = .ok (.if_icmp .ne 19, 3) := by decide +kernel
theorem dX11_apart_19 : decode cX11_apart 19 = .ok (.aload_n 0, 1) := by decide +kernel
theorem dX11_apart_20 : decode cX11_apart 20 = .ok (.iconst 0, 1) := by decide +kernel
theorem dX11_apart_21 : decode cX11_apart 21 = .ok (.invokevirtual 97, 3) := by decide +kernel
theorem dX11_isTold_0 : decode cX11_isTold 0 = .ok (.iload_n 1, 1) := by decide +kernel
theorem dX11_isTold_1 : decode cX11_isTold 1 = .ok (.invokestatic 84, 3) := by decide +kernel
theorem dX11_isBook_0 : decode cX11_isBook 0 = .ok (.iload_n 0, 1) := by decide +kernel
theorem dX11_isBook_1 : decode cX11_isBook 1 = .ok (.ifCond .lt 12, 3) := by decide +kernel
theorem dX11_isBook_4 : decode cX11_isBook 4 = .ok (.iload_n 0, 1) := by decide +kernel
theorem dX11_isBook_5 : decode cX11_isBook 5 = .ok (.iconst 2, 1) := by decide +kernel
theorem dX11_isBook_6 : decode cX11_isBook 6 = .ok (.if_icmp .ge 7, 3) := by decide +kernel
theorem dX11_isBook_9 : decode cX11_isBook 9 = .ok (.iconst 1, 1) := by decide +kernel
theorem dX11_isBook_10 : decode cX11_isBook 10 = .ok (.goto 4, 3) := by decide +kernel
theorem dX11_isBook_13 : decode cX11_isBook 13 = .ok (.iconst 0, 1) := by decide +kernel
theorem dX11_isBook_14 : decode cX11_isBook 14 = .ok (.ireturn, 1) := by decide +kernel
set_option maxHeartbeats 4000000 in
set_option maxRecDepth 100000 in
theorem s_X11_isBook {P : PP} {a0 : Int32} (I : IV P) : CtrI yX11_isBook cX11_isBook 1 (some Jvm.ClassFile.FieldType.boolean) ({ frames := 1, cells := 0, slots := 0, locals := 64 } : Room) 0 0 P [.int a0] (fun r P2 => P = P2 ∧ (0 ≤ r.toInt ∧ r.toInt ≤ 1) ∧ (r.toInt = 0 ∨ (((0 : Int) ≤ a0.toInt ∧ a0.toInt ≤ (1 : Int))))) := by
  refine enI (lv := [(0, .int a0)]) (by decide) (Nat.le_of_ble_eq_true rfl) rfl (fun E D cy C Ci0 ret => ?_)
  have J13 : G E ({ frames := 1, cells := 0, slots := 0, locals := 64 } : Room) D cy 1 P 0 0 13 [] [] := by
    refine g_iconst (v := 0) C dX11_isBook_13 (by decide) ?_
    exact ret _ _ _ _ _ _ dX11_isBook_14 rfl (by decide) (by decide) ⟨rfl, (by decide), Or.inl rfl⟩
  refine g_iload_n C dX11_isBook_0 rfl 0 rfl ?_
  have u4824 := ti_rng a0
  refine b_if_lt C 13 dX11_isBook_1 (by decide) (fun h4823 => ?_) (fun h4823 => ?_)
  · have h4823 : a0.toInt < 0 := h4823
    refine g_lv (lv' := []) [] rfl ?_
    exact J13 
  · have h4823 : 0 ≤ a0.toInt := h4823
    refine g_iload_n C dX11_isBook_4 rfl 0 rfl ?_
    refine g_iconst (v := 2) C dX11_isBook_5 (by decide) ?_
    have u4826 := ti_rng a0
    refine b_icmp_ge C 13 dX11_isBook_6 (by decide) (fun h4825 => ?_) (fun h4825 => ?_)
    · have h4825 : 2 ≤ a0.toInt := h4825
      refine g_lv (lv' := []) [] rfl ?_
      exact J13 
    · have h4825 : a0.toInt < 2 := h4825
      refine g_iconst (v := 1) C dX11_isBook_9 (by decide) ?_
      refine g_goto C 14 dX11_isBook_10 (by decide) ?_
      exact ret _ _ _ _ _ _ dX11_isBook_14 rfl (by decide) (by decide) ⟨rfl, (by decide), Or.inr (by omega)⟩
theorem dX11_isTold_4 : decode cX11_isTold 4 = .ok (.ifCond .eq 19, 3) := by decide +kernel
theorem dX11_isTold_7 : decode cX11_isTold 7 = .ok (.aload_n 0, 1) := by decide +kernel
theorem dX11_isTold_8 : decode cX11_isTold 8 = .ok (.getfield 11, 3) := by decide +kernel
theorem dX11_isTold_11 : decode cX11_isTold 11 = .ok (.iload_n 1, 1) := by decide +kernel
theorem dX11_isTold_12 : decode cX11_isTold 12 = .ok (.aaload, 1) := by decide +kernel
theorem dX11_isTold_13 : decode cX11_isTold 13 = .ok (.getfield 176, 3) := by decide +kernel
theorem dX11_isTold_16 : decode cX11_isTold 16 = .ok (.ifCond .eq 7, 3) := by decide +kernel
theorem dX11_isTold_19 : decode cX11_isTold 19 = .ok (.iconst 1, 1) := by decide +kernel
theorem dX11_isTold_20 : decode cX11_isTold 20 = .ok (.goto 4, 3) := by decide +kernel
theorem dX11_isTold_23 : decode cX11_isTold 23 = .ok (.iconst 0, 1) := by decide +kernel
theorem dX11_isTold_24 : decode cX11_isTold 24 = .ok (.ireturn, 1) := by decide +kernel
set_option maxHeartbeats 4000000 in
set_option maxRecDepth 100000 in
theorem s_X11_isTold {P : PP} {a0 : Nat} {a1 : Int32} (I : IV P) (ha0 : At P a0 11) : CtrI yX11_isTold cX11_isTold 2 (some Jvm.ClassFile.FieldType.boolean) ({ frames := 2, cells := 0, slots := 0, locals := 128 } : Room) 0 0 P [.ref a0, .int a1] (fun r P2 => P = P2 ∧ (0 ≤ r.toInt ∧ r.toInt ≤ 1) ∧ (r.toInt = 0 ∨ (((0 : Int) ≤ a1.toInt ∧ a1.toInt ≤ (1 : Int))))) := by
  refine enI (lv := [(0, .ref a0), (1, .int a1)]) (by decide) (Nat.le_of_ble_eq_true rfl) rfl (fun E D cy C Ci0 ret => ?_)
  have J23 : G E ({ frames := 2, cells := 0, slots := 0, locals := 128 } : Room) D cy 2 P 0 0 23 [] [] := by
    refine g_iconst (v := 0) C dX11_isTold_23 (by decide) ?_
    exact ret _ _ _ _ _ _ dX11_isTold_24 rfl (by decide) (by decide) ⟨rfl, (by decide), Or.inl rfl⟩
  refine g_iload_n C dX11_isTold_0 rfl 1 rfl ?_
  refine g_callSI (b := 0) (ci := 0) (rest := []) C ms_X11_84 [.int a1] (s_X11_isBook I) rfl rfl (by decide) (Nat.le_of_ble_eq_true rfl) (by decide) dX11_isTold_1 (fun r4840 Y4841 h4842 => ?_)
  obtain ⟨rfl, h4842⟩ := h4842
  obtain ⟨h4842, hi4843⟩ := h4842
  have hi4843 : r4840.toInt = 0 ∨ (((0 : Int) ≤ a1.toInt ∧ a1.toInt ≤ (1 : Int))) := hi4843
  have h4842 : 0 ≤ r4840.toInt ∧ r4840.toInt ≤ 1 := h4842
  refine b_if_eq C 23 dX11_isTold_4 (by decide) (fun h4844 => ?_) (fun h4844 => ?_)
  · have h4844 : r4840.toInt = 0 := congrArg Int32.toInt h4844
    clear hi4843
    refine g_lv (lv' := []) [] rfl ?_
    exact J23 
  · have h4844 : r4840.toInt ≠ 0 := ti_ne h4844
    replace hi4843 := hi4843.resolve_left (by omega)
    refine g_aload_n C dX11_isTold_7 rfl 0 rfl ?_
    obtain ⟨b4845, e4846, h4847⟩ := I.fld (ha0) 0 17 2 rfl
    refine g_getR C fi_X11_11 rfl e4846 (ha0).1 (ha0).2 dX11_isTold_8 ?_
    refine g_iload_n C dX11_isTold_11 rfl 1 rfl ?_
    obtain ⟨b4848, e4849, h4850⟩ := I.elm h4847 (by decide) (a1.toInt.toNat) (by omega)
    refine g_aldR C h4847.1 h4847.2.1 (by decide) (ix_in h4847.2.2 (by omega)) e4849 dX11_isTold_12 ?_
    refine g_getI C fi_X11_176 (by decide) (h4850).1 (h4850).2 dX11_isTold_13 ?_
    have h4851 := I.rg (h4850) 4 rfl
    refine b_if_eq C 23 dX11_isTold_16 (by decide) (fun h4852 => ?_) (fun h4852 => ?_)
    · have h4852 : (pI P b4848 4).toInt = 0 := congrArg Int32.toInt h4852
      refine g_lv (lv' := []) [] rfl ?_
      exact J23 
    · have h4852 : (pI P b4848 4).toInt ≠ 0 := ti_ne h4852
      refine g_iconst (v := 1) C dX11_isTold_19 (by decide) ?_
      refine g_goto C 24 dX11_isTold_20 (by decide) ?_
      exact ret _ _ _ _ _ _ dX11_isTold_24 rfl (by decide) (by decide) ⟨rfl, (by decide), Or.inr (by omega)⟩
theorem dX11_apart_24 : decode cX11_apart 24 = .ok (.ifCond .eq 11, 3) := by decide +kernel
theorem dX11_apart_27 : decode cX11_apart 27 = .ok (.aload_n 0, 1) := by decide +kernel
theorem dX11_apart_28 : decode cX11_apart 28 = .ok (.iconst 1, 1) := by decide +kernel
theorem dX11_apart_29 : decode cX11_apart 29 = .ok (.invokevirtual 97, 3) := by decide +kernel
theorem dX11_apart_32 : decode cX11_apart 32 = .ok (.ifCond .ne 5, 3) := by decide +kernel
theorem dX11_apart_35 : decode cX11_apart 35 = .ok (.iconst (-1), 1) := by decide +kernel
theorem dX11_apart_36 : decode cX11_apart 36 = .ok (.ireturn, 1) := by decide +kernel
theorem dX11_apart_37 : decode cX11_apart 37 = .ok (.iconst 0, 1) := by decide +kernel
theorem dX11_apart_38 : decode cX11_apart 38 = .ok (.istore 4, 2) := by decide +kernel
theorem dX11_apart_40 : decode cX11_apart 40 = .ok (.iload 4, 2) := by decide +kernel
theorem dX11_apart_42 : decode cX11_apart 42 = .ok (.iconst 2, 1) := by decide +kernel
theorem dX11_apart_43 : decode cX11_apart 43 = .ok (.if_icmp .ge 48, 3) := by decide +kernel
theorem dX11_apart_46 : decode cX11_apart 46 = .ok (.iconst 0, 1) := by decide +kernel
theorem dX11_apart_47 : decode cX11_apart 47 = .ok (.istore 5, 2) := by decide +kernel
theorem dX11_apart_49 : decode cX11_apart 49 = .ok (.iload 5, 2) := by decide +kernel
theorem dX11_apart_51 : decode cX11_apart 51 = .ok (.iconst 2, 1) := by decide +kernel
theorem dX11_apart_52 : decode cX11_apart 52 = .ok (.if_icmp .ge 33, 3) := by decide +kernel
theorem dX11_apart_55 : decode cX11_apart 55 = .ok (.aload_n 0, 1) := by decide +kernel
theorem dX11_apart_56 : decode cX11_apart 56 = .ok (.getfield 74, 3) := by decide +kernel
theorem dX11_apart_59 : decode cX11_apart 59 = .ok (.iload 4, 2) := by decide +kernel
theorem dX11_apart_61 : decode cX11_apart 61 = .ok (.iload 5, 2) := by decide +kernel
theorem dX11_apart_63 : decode cX11_apart 63 = .ok (.invokevirtual 308, 3) := by decide +kernel
theorem dX11_apart_66 : decode cX11_apart 66 = .ok (.aload_n 0, 1) := by decide +kernel
theorem dX11_apart_67 : decode cX11_apart 67 = .ok (.iload_n 1, 1) := by decide +kernel
theorem dX11_apart_68 : decode cX11_apart 68 = .ok (.iload 4, 2) := by decide +kernel
theorem dX11_apart_70 : decode cX11_apart 70 = .ok (.iload 5, 2) := by decide +kernel
theorem dX11_apart_72 : decode cX11_apart 72 = .ok (.invokevirtual 216, 3) := by decide +kernel
theorem dX11_gather_0 : decode cX11_gather 0 = .ok (.aload_n 0, 1) := by decide +kernel
theorem dX11_gather_1 : decode cX11_gather 1 = .ok (.getfield 47, 3) := by decide +kernel
theorem dX11_gather_4 : decode cX11_gather 4 = .ok (.iload_n 3, 1) := by decide +kernel
theorem dX11_gather_5 : decode cX11_gather 5 = .ok (.aaload, 1) := by decide +kernel
theorem dX11_gather_6 : decode cX11_gather 6 = .ok (.astore 4, 2) := by decide +kernel
theorem dX11_gather_8 : decode cX11_gather 8 = .ok (.aload 4, 2) := by decide +kernel
theorem dX11_gather_10 : decode cX11_gather 10 = .ok (.aload_n 0, 1) := by decide +kernel
theorem dX11_gather_11 : decode cX11_gather 11 = .ok (.getfield 11, 3) := by decide +kernel
theorem dX11_gather_14 : decode cX11_gather 14 = .ok (.iload_n 2, 1) := by decide +kernel
theorem dX11_gather_15 : decode cX11_gather 15 = .ok (.aaload, 1) := by decide +kernel
theorem dX11_gather_16 : decode cX11_gather 16 = .ok (.invokevirtual 371, 3) := by decide +kernel
theorem dX5_startWith_0 : decode cX5_startWith 0 = .ok (.aload_n 0, 1) := by decide +kernel
theorem dX5_startWith_1 : decode cX5_startWith 1 = .ok (.iconst 0, 1) := by decide +kernel
theorem dX5_startWith_2 : decode cX5_startWith 2 = .ok (.putfield 25, 3) := by decide +kernel
theorem dX5_startWith_5 : decode cX5_startWith 5 = .ok (.iconst 0, 1) := by decide +kernel
theorem dX5_startWith_6 : decode cX5_startWith 6 = .ok (.istore_n 2, 1) := by decide +kernel
theorem dX5_startWith_7 : decode cX5_startWith 7 = .ok (.iload_n 2, 1) := by decide +kernel
theorem dX5_startWith_8 : decode cX5_startWith 8 = .ok (.aload_n 1, 1) := by decide +kernel
theorem dX5_startWith_9 : decode cX5_startWith 9 = .ok (.getfield 29, 3) := by decide +kernel
theorem dX5_startWith_12 : decode cX5_startWith 12 = .ok (.getfield 35, 3) := by decide +kernel
theorem dX5_startWith_15 : decode cX5_startWith 15 = .ok (.if_icmp .ge 32, 3) := by decide +kernel
theorem dX5_startWith_18 : decode cX5_startWith 18 = .ok (.aload_n 0, 1) := by decide +kernel
theorem dX5_startWith_19 : decode cX5_startWith 19 = .ok (.aload_n 1, 1) := by decide +kernel
theorem dX5_startWith_20 : decode cX5_startWith 20 = .ok (.getfield 29, 3) := by decide +kernel
theorem dX5_startWith_23 : decode cX5_startWith 23 = .ok (.getfield 40, 3) := by decide +kernel
theorem dX5_startWith_26 : decode cX5_startWith 26 = .ok (.iload_n 2, 1) := by decide +kernel
theorem dX5_startWith_27 : decode cX5_startWith 27 = .ok (.iaload, 1) := by decide +kernel
theorem dX5_startWith_28 : decode cX5_startWith 28 = .ok (.iconst 1, 1) := by decide +kernel
theorem dX5_startWith_29 : decode cX5_startWith 29 = .ok (.aload_n 1, 1) := by decide +kernel
theorem dX5_startWith_30 : decode cX5_startWith 30 = .ok (.getfield 43, 3) := by decide +kernel
theorem dX5_startWith_33 : decode cX5_startWith 33 = .ok (.iload_n 2, 1) := by decide +kernel
theorem dX5_startWith_34 : decode cX5_startWith 34 = .ok (.iadd, 1) := by decide +kernel
theorem dX5_startWith_35 : decode cX5_startWith 35 = .ok (.ishl, 1) := by decide +kernel
theorem dX5_startWith_36 : decode cX5_startWith 36 = .ok (.ior, 1) := by decide +kernel
theorem dX5_startWith_37 : decode cX5_startWith 37 = .ok (.iconst (-1), 1) := by decide +kernel
theorem dX5_startWith_38 : decode cX5_startWith 38 = .ok (.invokevirtual 46, 3) := by decide +kernel
theorem dX5_startWith_47 : decode cX5_startWith 47 = .ok (.aload_n 0, 1) := by decide +kernel
theorem dX5_startWith_48 : decode cX5_startWith 48 = .ok (.aload_n 0, 1) := by decide +kernel
theorem dX5_startWith_49 : decode cX5_startWith 49 = .ok (.getfield 25, 3) := by decide +kernel
theorem dX5_startWith_52 : decode cX5_startWith 52 = .ok (.putfield 50, 3) := by decide +kernel
theorem dX5_startWith_55 : decode cX5_startWith 55 = .ok (.return_, 1) := by decide +kernel
theorem dX5_add_0 : decode cX5_add 0 = .ok (.aload_n 0, 1) := by decide +kernel
theorem dX5_add_1 : decode cX5_add 1 = .ok (.getfield 25, 3) := by decide +kernel
theorem dX5_add_4 : decode cX5_add 4 = .ok (.bipush 44, 2) := by decide +kernel
theorem dX5_add_6 : decode cX5_add 6 = .ok (.if_icmp .ge 33, 3) := by decide +kernel
theorem dX5_add_9 : decode cX5_add 9 = .ok (.aload_n 0, 1) := by decide +kernel
theorem dX5_add_10 : decode cX5_add 10 = .ok (.getfield 9, 3) := by decide +kernel
theorem dX5_add_13 : decode cX5_add 13 = .ok (.aload_n 0, 1) := by decide +kernel
theorem dX5_add_14 : decode cX5_add 14 = .ok (.getfield 25, 3) := by decide +kernel
theorem dX5_add_17 : decode cX5_add 17 = .ok (.iload_n 1, 1) := by decide +kernel
theorem dX5_add_18 : decode cX5_add 18 = .ok (.iastore, 1) := by decide +kernel
theorem dX5_add_19 : decode cX5_add 19 = .ok (.aload_n 0, 1) := by decide +kernel
theorem dX5_add_20 : decode cX5_add 20 = .ok (.getfield 15, 3) := by decide +kernel
theorem dX5_add_23 : decode cX5_add 23 = .ok (.aload_n 0, 1) := by decide +kernel
theorem dX5_add_24 : decode cX5_add 24 = .ok (.getfield 25, 3) := by decide +kernel
theorem dX5_add_27 : decode cX5_add 27 = .ok (.iload_n 2, 1) := by decide +kernel
theorem dX5_add_28 : decode cX5_add 28 = .ok (.iastore, 1) := by decide +kernel
theorem dX5_add_29 : decode cX5_add 29 = .ok (.aload_n 0, 1) := by decide +kernel
theorem dX5_add_30 : decode cX5_add 30 = .ok (.dup, 1) := by decide +kernel
theorem dX5_add_31 : decode cX5_add 31 = .ok (.getfield 25, 3) := by decide +kernel
theorem dX5_add_34 : decode cX5_add 34 = .ok (.iconst 1, 1) := by decide +kernel
theorem dX5_add_35 : decode cX5_add 35 = .ok (.iadd, 1) := by decide +kernel
theorem dX5_add_36 : decode cX5_add 36 = .ok (.putfield 25, 3) := by decide +kernel
theorem dX5_add_39 : decode cX5_add 39 = .ok (.return_, 1) := by decide +kernel
set_option maxHeartbeats 4000000 in
set_option maxRecDepth 100000 in
theorem s_X5_add {P : PP} {a0 : Nat} {a1 : Int32} {a2 : Int32} (I : IV P) (ha0 : At P a0 5) : CtrV yX5_add cX5_add 3 none ({ frames := 1, cells := 0, slots := 0, locals := 64 } : Room) 0 0 P [.ref a0, .int a1, .int a2] (fun P2 => IV P2 ∧ EK [5, 13] P P2) := by
  refine enV (lv := [(0, .ref a0), (1, .int a1), (2, .int a2)]) (by decide) (Nat.le_of_ble_eq_true rfl) rfl (fun E D cy C Ci0 ret => ?_)
  refine g_aload_n C dX5_add_0 rfl 0 rfl ?_
  refine g_getI C fi_X5_25 (by decide) (ha0).1 (ha0).2 dX5_add_1 ?_
  have h4959 := I.rg (ha0) 4 rfl
  refine g_bipush (v := 44) C dX5_add_4 (by decide) ?_
  refine b_icmp_ge C 39 dX5_add_6 (by decide) (fun h4960 => ?_) (fun h4960 => ?_)
  · have h4960 : 44 ≤ (pI P a0 4).toInt := h4960
    exact ret _ _ _ _ _ dX5_add_39 (by decide) (by decide) ⟨I, EK.rf⟩
  · have h4960 : (pI P a0 4).toInt < 44 := h4960
    refine g_aload_n C dX5_add_9 rfl 0 rfl ?_
    obtain ⟨b4961, e4962, h4963⟩ := I.fld (ha0) 0 13 44 rfl
    refine g_getR C fi_X5_9 rfl e4962 (ha0).1 (ha0).2 dX5_add_10 ?_
    refine g_aload_n C dX5_add_13 rfl 0 rfl ?_
    refine g_getI C fi_X5_25 (by decide) (ha0).1 (ha0).2 dX5_add_14 ?_
    refine g_iload_n C dX5_add_17 rfl 1 rfl ?_
    refine g_iast (j := ((pI P a0 4).toInt.toNat)) C h4963.1 h4963.2.1 (ix_in h4963.2.2 (by omega)) dX5_add_18 ?_
    refine gp (ks := [13]) (I.setA h4963 (by decide)) (EK.setI h4963.2.1 (by decide)) (fun Y4964 Iy4965 Xy4966 => ?_)
    have q4967 := Xy4966.keep ha0 (by decide) 4
    have Xz4968 : EK [5, 13] P Y4964 := Xy4966.mono (by decide)
    have h4969 := Xy4966.at ha0
    refine g_aload_n C dX5_add_19 rfl 0 rfl ?_
    obtain ⟨b4970, e4971, h4972⟩ := Iy4965.fld (h4969) 1 13 44 rfl
    refine g_getR C fi_X5_15 rfl e4971 (h4969).1 (h4969).2 dX5_add_20 ?_
    refine g_aload_n C dX5_add_23 rfl 0 rfl ?_
    refine g_getI C fi_X5_25 (by decide) (h4969).1 (h4969).2 dX5_add_24 ?_
    refine g_iload_n C dX5_add_27 rfl 2 rfl ?_
    refine g_iast (j := ((pI Y4964 a0 4).toInt.toNat)) C h4972.1 h4972.2.1 (ix_in h4972.2.2 (by omega)) dX5_add_28 ?_
    refine gp (ks := [13]) (Iy4965.setA h4972 (by decide)) (EK.setI h4972.2.1 (by decide)) (fun Y4973 Iy4974 Xy4975 => ?_)
    have q4976 := Xy4975.keep h4969 (by decide) 4
    have Xz4977 : EK [5, 13] P Y4973 := Xz4968.tr (Xy4975.mono (by decide))
    have h4978 := Xy4975.at h4969
    refine g_aload_n C dX5_add_29 rfl 0 rfl ?_
    refine g_dup C dX5_add_30 rfl ?_
    refine g_getI C fi_X5_25 (by decide) (h4978).1 (h4978).2 dX5_add_31 ?_
    refine g_iconst (v := 1) C dX5_add_34 (by decide) ?_
    refine s_iadd C dX5_add_35 (by show -2147483648 ≤ (pI Y4973 a0 4).toInt + 1 ∧ (pI Y4973 a0 4).toInt + 1 ≤ 2147483647; omega) (fun z4979 h4980 => ?_)
    have h4980 : z4979.toInt = (pI Y4973 a0 4).toInt + 1 := h4980
    refine g_putI C fi_X5_25 rfl (h4978).1 (h4978).2 dX5_add_36 ?_
    refine gpW (ks := [5]) (Iy4974.setI (h4978) (rgOk.of rfl (by omega))) (EK.setI (h4978).2 (by decide)) (fun Y4981 Iy4982 Xy4983 w4984 w4985 => ?_)
    have Xz4986 : EK [5, 13] P Y4981 := Xz4977.tr (Xy4983.mono (by decide))
    have h4987 := Xy4983.at h4978
    exact ret _ _ _ _ _ dX5_add_39 (by decide) (by decide) ⟨Iy4982, Xz4986⟩
theorem dX5_startWith_41 : decode cX5_startWith 41 = .ok (.iinc 2 1, 3) := by decide +kernel
theorem dX5_startWith_44 : decode cX5_startWith 44 = .ok (.goto (-37), 3) := by decide +kernel
set_option maxHeartbeats 4000000 in
set_option maxRecDepth 100000 in
theorem s_X5_startWith {P : PP} {a0 : Nat} {a1 : Nat} (I : IV P) (ha0 : At P a0 5) (ha1 : At P a1 1) : CtrV yX5_startWith cX5_startWith 3 none ({ frames := 2, cells := 0, slots := 0, locals := 128 } : Room) 0 0 P [.ref a0, .ref a1] (fun P2 => IV P2 ∧ EK [5, 13] P P2) := by
  refine enV (lv := [(0, .ref a0), (1, .ref a1)]) (by decide) (Nat.le_of_ble_eq_true rfl) rfl (fun E D cy C Ci0 ret => ?_)
  have J7 : ∀ (n7 : Nat) (P7 : PP) (v7_2 : Int32), (4 - v7_2.toInt).toNat < n7 → (IV P7) → (EK [5, 13] P P7) → (0 ≤ v7_2.toInt ∧ v7_2.toInt ≤ 4) → G E ({ frames := 2, cells := 0, slots := 0, locals := 128 } : Room) D cy 3 P7 0 0 7 [(0, .ref a0), (1, .ref a1), (2, .int v7_2)] [] := by
    intro n7
    induction n7 with
    | zero => intro P7 v7_2 hm7 I7 X7 hv7_2; omega
    | succ n7 ih7 =>
      intro P7 v7_2 hm7 I7 X7 hv7_2
      have h5218 := X7.at ha0
      have h5219 := X7.at ha1
      refine g_iload_n C dX5_startWith_7 rfl 2 rfl ?_
      refine g_aload_n C dX5_startWith_8 rfl 1 rfl ?_
      obtain ⟨b5220, e5221, h5222⟩ := I7.fld (h5219) 2 3 0 rfl
      refine g_getR C fi_X5_29 rfl e5221 (h5219).1 (h5219).2 dX5_startWith_9 ?_
      refine g_getI C fi_X5_35 (by decide) (h5222.at).1 (h5222.at).2 dX5_startWith_12 ?_
      have h5223 := I7.rg (h5222.at) 2 rfl
      refine b_icmp_ge C 47 dX5_startWith_15 (by decide) (fun h5224 => ?_) (fun h5224 => ?_)
      · have h5224 : (pI P7 b5220 2).toInt ≤ v7_2.toInt := h5224
        refine g_aload_n C dX5_startWith_47 rfl 0 rfl ?_
        refine g_aload_n C dX5_startWith_48 rfl 0 rfl ?_
        refine g_getI C fi_X5_25 (by decide) (h5218).1 (h5218).2 dX5_startWith_49 ?_
        have h5225 := I7.rg (h5218) 4 rfl
        refine g_putI C fi_X5_50 rfl (h5218).1 (h5218).2 dX5_startWith_52 ?_
        refine gpW (ks := [5]) (I7.setI (h5218) (rgOk.of rfl (by omega))) (EK.setI (h5218).2 (by decide)) (fun Y5226 Iy5227 Xy5228 w5229 w5230 => ?_)
        have q5231 := Xy5228.keep (h5222.at) (by decide) 2
        have q5232 := w5229 4 (by decide)
        have Xz5233 : EK [5, 13] P Y5226 := X7.tr (Xy5228.mono (by decide))
        have h5234 := Xy5228.at h5218
        have h5235 := Xy5228.at h5219
        exact ret _ _ _ _ _ dX5_startWith_55 (by decide) (by decide) ⟨Iy5227, Xz5233⟩
      · have h5224 : v7_2.toInt < (pI P7 b5220 2).toInt := h5224
        refine g_aload_n C dX5_startWith_18 rfl 0 rfl ?_
        refine g_aload_n C dX5_startWith_19 rfl 1 rfl ?_
        refine g_getR C fi_X5_29 rfl e5221 (h5219).1 (h5219).2 dX5_startWith_20 ?_
        obtain ⟨b5236, e5237, h5238⟩ := I7.fld (h5222.at) 1 13 4 rfl
        refine g_getR C fi_X5_40 rfl e5237 (h5222.at).1 (h5222.at).2 dX5_startWith_23 ?_
        refine g_iload_n C dX5_startWith_26 rfl 2 rfl ?_
        refine g_iald (j := (v7_2.toInt.toNat)) C h5238.1 h5238.2.1 (ix_in h5238.2.2 (by omega)) dX5_startWith_27 ?_
        refine g_topi (fun z5239 _ => ?_)
        refine g_iconst (v := 1) C dX5_startWith_28 (by decide) ?_
        refine g_aload_n C dX5_startWith_29 rfl 1 rfl ?_
        refine g_getI C fi_X5_43 (by decide) (h5219).1 (h5219).2 dX5_startWith_30 ?_
        have h5240 := I7.rg (h5219) 5 rfl
        refine g_iload_n C dX5_startWith_33 rfl 2 rfl ?_
        refine s_iadd C dX5_startWith_34 (by show -2147483648 ≤ (pI P7 a1 5).toInt + v7_2.toInt ∧ (pI P7 a1 5).toInt + v7_2.toInt ≤ 2147483647; omega) (fun z5241 h5242 => ?_)
        have h5242 : z5241.toInt = (pI P7 a1 5).toInt + v7_2.toInt := h5242
        refine a_ishl C dX5_startWith_35 (fun z5243 => ?_)
        refine a_ior C dX5_startWith_36 (fun z5245 => ?_)
        refine g_iconst (v := (-1)) C dX5_startWith_37 (by decide) ?_
        refine g_callVV (rest := []) C mv_X5_46 [.int z5245, .int (-1)] (s_X5_add I7 h5218) (h5218).1 (h5218).2 rfl rfl (by decide) (Nat.le_of_ble_eq_true rfl) (by decide) dX5_startWith_38 (fun Y5248 h5249 => ?_)
        obtain ⟨Iy5250, Xy5251⟩ := h5249
        have q5252 := Xy5251.keep (h5222.at) (by decide) 2
        have q5253 := Xy5251.keep h5219 (by decide) 5
        have Xz5254 : EK [5, 13] P Y5248 := X7.tr (Xy5251.mono (by decide))
        have e5255 := Xy5251.ref h5219 (by decide) e5221
        have h5256 := Xy5251.at h5218
        have h5257 := Xy5251.at h5219
        have h5258 := Xy5251.ar h5222
        refine s_iinc (lv0 := [(0, .ref a0), (1, .ref a1)]) (m := 1) C dX5_startWith_41 2 rfl (by decide) rfl (by decide) (by omega) (fun z5259 h5260 => ?_)
        have h5260 : z5259.toInt = v7_2.toInt + 1 := h5260
        refine g_goto C 7 dX5_startWith_44 (by decide) ?_
        refine g_lv (lv' := [(0, .ref a0), (1, .ref a1), (2, .int z5259)]) [1, 2, 0] rfl ?_
        exact ih7 Y5248 z5259 (by omega) Iy5250 Xz5254 (by omega)
  refine g_aload_n C dX5_startWith_0 rfl 0 rfl ?_
  refine g_iconst (v := 0) C dX5_startWith_1 (by decide) ?_
  refine g_putI C fi_X5_25 rfl (ha0).1 (ha0).2 dX5_startWith_2 ?_
  refine gpW (ks := [5]) (I.setI (ha0) (rgOk.of rfl (by decide))) (EK.setI (ha0).2 (by decide)) (fun Y5261 Iy5262 Xy5263 w5264 w5265 => ?_)
  have w5265 : (pI Y5261 a0 4).toInt = 0 := w5265
  have Xz5266 : EK [5, 13] P Y5261 := Xy5263.mono (by decide)
  have h5267 := Xy5263.at ha0
  have h5268 := Xy5263.at ha1
  refine g_iconst (v := 0) C dX5_startWith_5 (by decide) ?_
  refine g_istore_n (lv' := [(2, .int 0), (0, .ref a0), (1, .ref a1)]) C dX5_startWith_6 rfl (by decide) rfl ?_
  refine g_lv (lv' := [(0, .ref a0), (1, .ref a1), (2, .int 0)]) [1, 2, 0] rfl ?_
  exact J7 _ Y5261 0 (Nat.lt_succ_self _) Iy5262 Xz5266 (by decide)
theorem dX11_gather_19 : decode cX11_gather 19 = .ok (.aload_n 0, 1) := by decide +kernel
theorem dX11_gather_20 : decode cX11_gather 20 = .ok (.getfield 17, 3) := by decide +kernel
theorem dX11_gather_23 : decode cX11_gather 23 = .ok (.iload_n 1, 1) := by decide +kernel
theorem dX11_gather_24 : decode cX11_gather 24 = .ok (.aaload, 1) := by decide +kernel
theorem dX11_gather_25 : decode cX11_gather 25 = .ok (.astore 5, 2) := by decide +kernel
theorem dX11_gather_27 : decode cX11_gather 27 = .ok (.iconst 0, 1) := by decide +kernel
theorem dX11_gather_28 : decode cX11_gather 28 = .ok (.istore 6, 2) := by decide +kernel
theorem dX11_gather_30 : decode cX11_gather 30 = .ok (.iload 6, 2) := by decide +kernel
theorem dX11_gather_32 : decode cX11_gather 32 = .ok (.aload 5, 2) := by decide +kernel
theorem dX11_gather_34 : decode cX11_gather 34 = .ok (.getfield 336, 3) := by decide +kernel
theorem dX11_gather_37 : decode cX11_gather 37 = .ok (.if_icmp .ge 55, 3) := by decide +kernel
theorem dX11_gather_40 : decode cX11_gather 40 = .ok (.aload 5, 2) := by decide +kernel
theorem dX11_gather_42 : decode cX11_gather 42 = .ok (.iload 6, 2) := by decide +kernel
theorem dX11_gather_44 : decode cX11_gather 44 = .ok (.invokevirtual 337, 3) := by decide +kernel
theorem dX11_gather_47 : decode cX11_gather 47 = .ok (.astore 7, 2) := by decide +kernel
theorem dX11_gather_49 : decode cX11_gather 49 = .ok (.aload 7, 2) := by decide +kernel
theorem dX11_gather_51 : decode cX11_gather 51 = .ok (.ifnull 35, 3) := by decide +kernel
theorem dX11_gather_54 : decode cX11_gather 54 = .ok (.aload 7, 2) := by decide +kernel
theorem dX11_gather_56 : decode cX11_gather 56 = .ok (.getfield 191, 3) := by decide +kernel
theorem dX11_gather_59 : decode cX11_gather 59 = .ok (.iload_n 2, 1) := by decide +kernel
theorem dX11_gather_60 : decode cX11_gather 60 = .ok (.if_icmp .ne 26, 3) := by decide +kernel
theorem dX11_gather_63 : decode cX11_gather 63 = .ok (.aload 7, 2) := by decide +kernel
theorem dX11_gather_65 : decode cX11_gather 65 = .ok (.iload_n 3, 1) := by decide +kernel
theorem dX11_gather_66 : decode cX11_gather 66 = .ok (.invokevirtual 365, 3) := by decide +kernel
theorem dX11_gather_92 : decode cX11_gather 92 = .ok (.aload 4, 2) := by decide +kernel
theorem dX11_gather_94 : decode cX11_gather 94 = .ok (.areturn, 1) := by decide +kernel
theorem dX7_hasOctet_0 : decode cX7_hasOctet 0 = .ok (.aload_n 0, 1) := by decide +kernel
theorem dX7_hasOctet_1 : decode cX7_hasOctet 1 = .ok (.getfield 21, 3) := by decide +kernel
theorem dX7_hasOctet_4 : decode cX7_hasOctet 4 = .ok (.iload_n 1, 1) := by decide +kernel
theorem dX7_hasOctet_5 : decode cX7_hasOctet 5 = .ok (.ishr, 1) := by decide +kernel
theorem dX7_hasOctet_6 : decode cX7_hasOctet 6 = .ok (.iconst 1, 1) := by decide +kernel
theorem dX7_hasOctet_7 : decode cX7_hasOctet 7 = .ok (.iand, 1) := by decide +kernel
theorem dX7_hasOctet_8 : decode cX7_hasOctet 8 = .ok (.ifCond .eq 7, 3) := by decide +kernel
theorem dX7_hasOctet_11 : decode cX7_hasOctet 11 = .ok (.iconst 1, 1) := by decide +kernel
theorem dX7_hasOctet_12 : decode cX7_hasOctet 12 = .ok (.goto 4, 3) := by decide +kernel
theorem dX7_hasOctet_15 : decode cX7_hasOctet 15 = .ok (.iconst 0, 1) := by decide +kernel
theorem dX7_hasOctet_16 : decode cX7_hasOctet 16 = .ok (.ireturn, 1) := by decide +kernel
set_option maxHeartbeats 4000000 in
set_option maxRecDepth 100000 in
theorem s_X7_hasOctet {P : PP} {a0 : Nat} {a1 : Int32} (I : IV P) (ha0 : At P a0 7) : CtrI yX7_hasOctet cX7_hasOctet 2 (some Jvm.ClassFile.FieldType.boolean) ({ frames := 1, cells := 0, slots := 0, locals := 64 } : Room) 0 0 P [.ref a0, .int a1] (fun r P2 => P = P2 ∧ (0 ≤ r.toInt ∧ r.toInt ≤ 1)) := by
  refine enI (lv := [(0, .ref a0), (1, .int a1)]) (by decide) (Nat.le_of_ble_eq_true rfl) rfl (fun E D cy C Ci0 ret => ?_)
  refine g_aload_n C dX7_hasOctet_0 rfl 0 rfl ?_
  refine g_getI C fi_X7_21 (by decide) (ha0).1 (ha0).2 dX7_hasOctet_1 ?_
  refine g_iload_n C dX7_hasOctet_4 rfl 1 rfl ?_
  refine a_ishr C dX7_hasOctet_5 (fun z5310 => ?_)
  refine g_iconst (v := 1) C dX7_hasOctet_6 (by decide) ?_
  refine s_iand C dX7_hasOctet_7 (by show 0 ≤ 1; omega) (fun z5312 h5313 => ?_)
  have h5313 : 0 ≤ z5312.toInt ∧ z5312.toInt ≤ 1 := h5313
  refine b_if_eq C 15 dX7_hasOctet_8 (by decide) (fun h5314 => ?_) (fun h5314 => ?_)
  · have h5314 : z5312.toInt = 0 := congrArg Int32.toInt h5314
    refine g_iconst (v := 0) C dX7_hasOctet_15 (by decide) ?_
    exact ret _ _ _ _ _ _ dX7_hasOctet_16 rfl (by decide) (by decide) ⟨rfl, (by decide)⟩
  · have h5314 : z5312.toInt ≠ 0 := ti_ne h5314
    refine g_iconst (v := 1) C dX7_hasOctet_11 (by decide) ?_
    refine g_goto C 16 dX7_hasOctet_12 (by decide) ?_
    exact ret _ _ _ _ _ _ dX7_hasOctet_16 rfl (by decide) (by decide) ⟨rfl, (by decide)⟩
theorem dX11_gather_69 : decode cX11_gather 69 = .ok (.ifCond .eq 17, 3) := by decide +kernel
theorem dX11_gather_72 : decode cX11_gather 72 = .ok (.aload 4, 2) := by decide +kernel
theorem dX11_gather_74 : decode cX11_gather 74 = .ok (.aload 7, 2) := by decide +kernel
theorem dX11_gather_76 : decode cX11_gather 76 = .ok (.iload_n 2, 1) := by decide +kernel
theorem dX11_gather_77 : decode cX11_gather 77 = .ok (.iload_n 3, 1) := by decide +kernel
theorem dX11_gather_78 : decode cX11_gather 78 = .ok (.invokevirtual 375, 3) := by decide +kernel
theorem dX11_gather_81 : decode cX11_gather 81 = .ok (.iload 6, 2) := by decide +kernel
theorem dX11_gather_83 : decode cX11_gather 83 = .ok (.invokevirtual 378, 3) := by decide +kernel
theorem dX11_gather_86 : decode cX11_gather 86 = .ok (.iinc 6 1, 3) := by decide +kernel
theorem dX11_gather_89 : decode cX11_gather 89 = .ok (.goto (-59), 3) := by decide +kernel
set_option maxHeartbeats 4000000 in
set_option maxRecDepth 100000 in
theorem s_X11_gather {P : PP} {a0 : Nat} {a1 : Int32} {a2 : Int32} {a3 : Int32} (I : IV P) (ha0 : At P a0 11) (ha1 : 0 ≤ a1.toInt ∧ a1.toInt ≤ 3) (ha2 : 0 ≤ a2.toInt ∧ a2.toInt ≤ 1) (ha3 : 0 ≤ a3.toInt ∧ a3.toInt ≤ 1) : CtrQ yX11_gather cX11_gather 8 (some (Jvm.ClassFile.FieldType.object "ThousandLeaflets$Equations")) ({ frames := 3, cells := 0, slots := 0, locals := 192 } : Room) 0 0 P [.ref a0, .int a1, .int a2, .int a3] (fun r P2 => IV P2 ∧ EK [5, 13] P P2 ∧ (∃ b, r = some b ∧ At P2 b 5)) := by
  refine enQ (lv := [(0, .ref a0), (1, .int a1), (2, .int a2), (3, .int a3)]) (by decide) (by first | exact Or.inl ⟨_, rfl⟩ | exact Or.inr ⟨_, rfl⟩) (Nat.le_of_ble_eq_true rfl) rfl (fun E D cy C Ci0 ret => ?_)
  have J30 : ∀ (n30 : Nat) (P30 : PP) (b30_4 : Nat) (b30_5 : Nat) (v30_6 : Int32), (40 - v30_6.toInt).toNat < n30 → (IV P30) → (EK [5, 13] P P30) → (At P30 b30_4 5) → (At P30 b30_5 6) → (0 ≤ v30_6.toInt ∧ v30_6.toInt ≤ 40) → G E ({ frames := 3, cells := 0, slots := 0, locals := 192 } : Room) D cy 8 P30 0 0 30 [(2, .int a2), (3, .int a3), (4, .ref b30_4), (5, .ref b30_5), (6, .int v30_6)] [] := by
    intro n30
    induction n30 with
    | zero => intro P30 b30_4 b30_5 v30_6 hm30 I30 X30 hb30_4 hb30_5 hv30_6; omega
    | succ n30 ih30 =>
      intro P30 b30_4 b30_5 v30_6 hm30 I30 X30 hb30_4 hb30_5 hv30_6
      have h5821 := X30.at ha0
      have J86 : ∀ (P86 : PP) (b86_4 : Nat) (b86_5 : Nat), (IV P86) → (EK [5, 13] P P86) → (At P86 b86_4 5) → (At P86 b86_5 6) → (0 ≤ v30_6.toInt ∧ v30_6.toInt ≤ 39) → (1 ≤ (pI P86 b86_5 1).toInt ∧ (pI P86 b86_5 1).toInt ≤ 40) → G E ({ frames := 3, cells := 0, slots := 0, locals := 192 } : Room) D cy 8 P86 0 0 86 [(2, .int a2), (3, .int a3), (4, .ref b86_4), (5, .ref b86_5), (6, .int v30_6)] [] := by
        intro P86 b86_4 b86_5 I86 X86 hb86_4 hb86_5 hv86_6 hq86_0
        have h5822 := X86.at ha0
        refine s_iinc (lv0 := [(2, .int a2), (3, .int a3), (4, .ref b86_4), (5, .ref b86_5)]) (m := 1) C dX11_gather_86 4 rfl (by decide) rfl (by decide) (by omega) (fun z5823 h5824 => ?_)
        have h5824 : z5823.toInt = v30_6.toInt + 1 := h5824
        refine g_goto C 30 dX11_gather_89 (by decide) ?_
        refine g_lv (lv' := [(2, .int a2), (3, .int a3), (4, .ref b86_4), (5, .ref b86_5), (6, .int z5823)]) [1, 2, 3, 4, 0] rfl ?_
        exact ih30 P86 b86_4 b86_5 z5823 (by omega) I86 X86 hb86_4 hb86_5 (by omega)
      refine g_iload C dX11_gather_30 4 rfl ?_
      refine g_aload C dX11_gather_32 3 rfl ?_
      refine g_getI C fi_X11_336 (by decide) (hb30_5).1 (hb30_5).2 dX11_gather_34 ?_
      have h5825 := I30.rg (hb30_5) 1 rfl
      refine b_icmp_ge C 92 dX11_gather_37 (by decide) (fun h5826 => ?_) (fun h5826 => ?_)
      · have h5826 : (pI P30 b30_5 1).toInt ≤ v30_6.toInt := h5826
        refine g_aload C dX11_gather_92 2 rfl ?_
        exact ret _ _ _ _ _ (some b30_4) dX11_gather_94 (by decide) (by decide) ⟨I30, X30, ⟨_, rfl, hb30_4⟩⟩
      · have h5826 : v30_6.toInt < (pI P30 b30_5 1).toInt := h5826
        refine g_aload C dX11_gather_40 3 rfl ?_
        refine g_iload C dX11_gather_42 4 rfl ?_
        refine g_callVQ (rest := []) C mv_X11_337 [.int v30_6] (s_X6_at I30 hb30_5) (hb30_5).1 (hb30_5).2 rfl rfl (by decide) (Nat.le_of_ble_eq_true rfl) (by decide) dX11_gather_44 (fun r5827 Y5828 h5829 => ?_)
        obtain ⟨rfl, h5829⟩ := h5829
        rcases h5829 with rfl | ⟨b5831, rfl, h5829, hj5830⟩
        · show G _ _ _ _ _ _ _ _ _ _ (.null :: _)
          refine g_astoreN (lv' := [(7, .null), (2, .int a2), (3, .int a3), (4, .ref b30_4), (5, .ref b30_5), (6, .int v30_6)]) C dX11_gather_47 (by decide) rfl ?_
          refine g_aloadN C dX11_gather_49 0 rfl ?_
          refine g_ifnullN C 86 dX11_gather_51 (by decide) ?_
          refine g_lv (lv' := [(2, .int a2), (3, .int a3), (4, .ref b30_4), (5, .ref b30_5), (6, .int v30_6)]) [1, 2, 3, 4, 5] rfl ?_
          exact J86 P30 b30_4 b30_5 I30 X30 hb30_4 hb30_5 (by omega) (by omega)
        · have hj5830 : ((0 : Int) ≤ v30_6.toInt ∧ v30_6.toInt ≤ (39 : Int)) := hj5830
          show G _ _ _ _ _ _ _ _ _ _ (.ref b5831 :: _)
          refine g_astore (lv' := [(7, .ref b5831), (2, .int a2), (3, .int a3), (4, .ref b30_4), (5, .ref b30_5), (6, .int v30_6)]) C dX11_gather_47 (by decide) rfl ?_
          refine g_aload C dX11_gather_49 0 rfl ?_
          refine g_ifnull C dX11_gather_51 ?_
          refine g_aload C dX11_gather_54 0 rfl ?_
          refine g_getI C fi_X11_191 (by decide) (h5829).1 (h5829).2 dX11_gather_56 ?_
          have h5832 := I30.rg (h5829) 0 rfl
          refine g_iload_n C dX11_gather_59 rfl 1 rfl ?_
          refine b_icmp_ne C 86 dX11_gather_60 (by decide) (fun h5833 => ?_) (fun h5833 => ?_)
          · have h5833 : (pI P30 b5831 0).toInt ≠ a2.toInt := ti_ne h5833
            refine g_lv (lv' := [(2, .int a2), (3, .int a3), (4, .ref b30_4), (5, .ref b30_5), (6, .int v30_6)]) [1, 2, 3, 4, 5] rfl ?_
            exact J86 P30 b30_4 b30_5 I30 X30 hb30_4 hb30_5 (by omega) (by omega)
          · have h5833 : (pI P30 b5831 0).toInt = a2.toInt := congrArg Int32.toInt h5833
            refine g_aload C dX11_gather_63 0 rfl ?_
            refine g_iload_n C dX11_gather_65 rfl 2 rfl ?_
            refine g_callVI (rest := []) C mv_X11_365 [.int a3] (s_X7_hasOctet I30 h5829) (h5829).1 (h5829).2 rfl rfl (by decide) (Nat.le_of_ble_eq_true rfl) (by decide) dX11_gather_66 (fun r5834 Y5835 h5836 => ?_)
            obtain ⟨rfl, h5836⟩ := h5836
            have h5836 : 0 ≤ r5834.toInt ∧ r5834.toInt ≤ 1 := h5836
            refine b_if_eq C 86 dX11_gather_69 (by decide) (fun h5837 => ?_) (fun h5837 => ?_)
            · have h5837 : r5834.toInt = 0 := congrArg Int32.toInt h5837
              refine g_lv (lv' := [(2, .int a2), (3, .int a3), (4, .ref b30_4), (5, .ref b30_5), (6, .int v30_6)]) [1, 2, 3, 4, 5] rfl ?_
              exact J86 P30 b30_4 b30_5 I30 X30 hb30_4 hb30_5 (by omega) (by omega)
            · have h5837 : r5834.toInt ≠ 0 := ti_ne h5837
              refine g_aload C dX11_gather_72 3 rfl ?_
              refine g_aload C dX11_gather_74 0 rfl ?_
              refine g_iload_n C dX11_gather_76 rfl 1 rfl ?_
              refine g_iload_n C dX11_gather_77 rfl 2 rfl ?_
              refine g_callVI (rest := [.ref b30_4]) C mv_X11_375 [.int a2, .int a3] (s_X7_equation I30 h5829) (h5829).1 (h5829).2 rfl rfl (by decide) (Nat.le_of_ble_eq_true rfl) (by decide) dX11_gather_78 (fun r5838 Y5839 h5840 => ?_)
              obtain ⟨rfl, h5840⟩ := h5840
              have h5840 : True := h5840
              refine g_iload C dX11_gather_81 5 rfl ?_
              refine g_callVV (rest := []) C mv_X11_378 [.int r5838, .int v30_6] (s_X5_add I30 hb30_4) (hb30_4).1 (hb30_4).2 rfl rfl (by decide) (Nat.le_of_ble_eq_true rfl) (by decide) dX11_gather_83 (fun Y5842 h5843 => ?_)
              obtain ⟨Iy5844, Xy5845⟩ := h5843
              have q5846 := Xy5845.keep hb30_5 (by decide) 1
              have q5847 := Xy5845.keep h5829 (by decide) 0
              have Xz5848 : EK [5, 13] P Y5842 := X30.tr (Xy5845.mono (by decide))
              have h5849 := Xy5845.at h5821
              have h5850 := Xy5845.at hb30_4
              have h5851 := Xy5845.at hb30_5
              have h5852 := Xy5845.at h5829
              refine g_lv (lv' := [(2, .int a2), (3, .int a3), (4, .ref b30_4), (5, .ref b30_5), (6, .int v30_6)]) [1, 2, 3, 4, 5] rfl ?_
              exact J86 Y5842 b30_4 b30_5 Iy5844 Xz5848 h5850 h5851 (by omega) (by omega)
  refine g_aload_n C dX11_gather_0 rfl 0 rfl ?_
  obtain ⟨b5853, e5854, h5855⟩ := I.fld (ha0) 8 18 2 rfl
  refine g_getR C fi_X11_47 rfl e5854 (ha0).1 (ha0).2 dX11_gather_1 ?_
  refine g_iload_n C dX11_gather_4 rfl 3 rfl ?_
  obtain ⟨b5856, e5857, h5858⟩ := I.elm h5855 (by decide) (a3.toInt.toNat) (by omega)
  refine g_aldR C h5855.1 h5855.2.1 (by decide) (ix_in h5855.2.2 (by omega)) e5857 dX11_gather_5 ?_
  refine g_astore (lv' := [(4, .ref b5856), (0, .ref a0), (1, .int a1), (2, .int a2), (3, .int a3)]) C dX11_gather_6 (by decide) rfl ?_
  refine g_aload C dX11_gather_8 0 rfl ?_
  refine g_aload_n C dX11_gather_10 rfl 1 rfl ?_
  obtain ⟨b5859, e5860, h5861⟩ := I.fld (ha0) 0 17 2 rfl
  refine g_getR C fi_X11_11 rfl e5860 (ha0).1 (ha0).2 dX11_gather_11 ?_
  refine g_iload_n C dX11_gather_14 rfl 3 rfl ?_
  obtain ⟨b5862, e5863, h5864⟩ := I.elm h5861 (by decide) (a2.toInt.toNat) (by omega)
  refine g_aldR C h5861.1 h5861.2.1 (by decide) (ix_in h5861.2.2 (by omega)) e5863 dX11_gather_15 ?_
  refine g_callVV (rest := []) C mv_X11_371 [.ref b5862] (s_X5_startWith I h5858 h5864) (h5858).1 (h5858).2 rfl rfl (by decide) (Nat.le_of_ble_eq_true rfl) (by decide) dX11_gather_16 (fun Y5866 h5867 => ?_)
  obtain ⟨Iy5868, Xy5869⟩ := h5867
  have Xz5870 : EK [5, 13] P Y5866 := Xy5869.mono (by decide)
  have h5871 := Xy5869.at ha0
  have h5872 := Xy5869.at h5858
  refine g_aload_n C dX11_gather_19 rfl 1 rfl ?_
  obtain ⟨b5873, e5874, h5875⟩ := Iy5868.fld (h5871) 1 19 4 rfl
  refine g_getR C fi_X11_17 rfl e5874 (h5871).1 (h5871).2 dX11_gather_20 ?_
  refine g_iload_n C dX11_gather_23 rfl 2 rfl ?_
  obtain ⟨b5876, e5877, h5878⟩ := Iy5868.elm h5875 (by decide) (a1.toInt.toNat) (by omega)
  refine g_aldR C h5875.1 h5875.2.1 (by decide) (ix_in h5875.2.2 (by omega)) e5877 dX11_gather_24 ?_
  refine g_astore (lv' := [(5, .ref b5876), (4, .ref b5856), (0, .ref a0), (1, .int a1), (2, .int a2), (3, .int a3)]) C dX11_gather_25 (by decide) rfl ?_
  refine g_iconst (v := 0) C dX11_gather_27 (by decide) ?_
  refine g_istore (lv' := [(6, .int 0), (5, .ref b5876), (4, .ref b5856), (0, .ref a0), (1, .int a1), (2, .int a2), (3, .int a3)]) C dX11_gather_28 (by decide) rfl ?_
  refine g_lv (lv' := [(2, .int a2), (3, .int a3), (4, .ref b5856), (5, .ref b5876), (6, .int 0)]) [5, 6, 2, 1, 0] rfl ?_
  exact J30 _ Y5866 b5856 b5876 0 (Nat.lt_succ_self _) Iy5868 Xz5870 h5872 h5878 (by decide)
theorem dX11_apart_75 : decode cX11_apart 75 = .ok (.iconst (-1), 1) := by decide +kernel
theorem dX11_apart_76 : decode cX11_apart 76 = .ok (.invokevirtual 236, 3) := by decide +kernel
theorem dX11_apart_79 : decode cX11_apart 79 = .ok (.iinc 5 1, 3) := by decide +kernel
theorem dX11_apart_82 : decode cX11_apart 82 = .ok (.goto (-33), 3) := by decide +kernel
theorem dX11_apart_85 : decode cX11_apart 85 = .ok (.iinc 4 1, 3) := by decide +kernel
theorem dX11_apart_88 : decode cX11_apart 88 = .ok (.goto (-48), 3) := by decide +kernel
theorem dX11_apart_91 : decode cX11_apart 91 = .ok (.aload_n 0, 1) := by decide +kernel
theorem dX11_apart_92 : decode cX11_apart 92 = .ok (.getfield 74, 3) := by decide +kernel
theorem dX11_apart_95 : decode cX11_apart 95 = .ok (.aload_n 0, 1) := by decide +kernel
theorem dX11_apart_96 : decode cX11_apart 96 = .ok (.getfield 17, 3) := by decide +kernel
theorem dX11_apart_99 : decode cX11_apart 99 = .ok (.iload_n 1, 1) := by decide +kernel
theorem dX11_apart_100 : decode cX11_apart 100 = .ok (.aaload, 1) := by decide +kernel
theorem dX11_apart_101 : decode cX11_apart 101 = .ok (.invokevirtual 312, 3) := by decide +kernel
theorem dX11_apart_104 : decode cX11_apart 104 = .ok (.aload_n 0, 1) := by decide +kernel
theorem dX11_apart_105 : decode cX11_apart 105 = .ok (.getfield 74, 3) := by decide +kernel
theorem dX11_apart_108 : decode cX11_apart 108 = .ok (.iload_n 2, 1) := by decide +kernel
theorem dX11_apart_109 : decode cX11_apart 109 = .ok (.invokevirtual 316, 3) := by decide +kernel
theorem dX11_apart_112 : decode cX11_apart 112 = .ok (.ireturn, 1) := by decide +kernel
set_option maxHeartbeats 4000000 in
set_option maxRecDepth 100000 in
theorem s_X11_apart {P : PP} {a0 : Nat} {a1 : Int32} {a2 : Int32} (I : IV P) (ha0 : At P a0 11) : CtrI yX11_apart cX11_apart 6 (some Jvm.ClassFile.FieldType.int) ({ frames := 16, cells := 0, slots := 0, locals := 1024 } : Room) 0 0 P [.ref a0, .int a1, .int a2] (fun r P2 => IV P2 ∧ EK [0, 5, 10, 13] P P2 ∧ (-1 ≤ r.toInt ∧ r.toInt ≤ 2)) := by
  refine enI (lv := [(0, .ref a0), (1, .int a1), (2, .int a2)]) (by decide) (Nat.le_of_ble_eq_true rfl) rfl (fun E D cy C Ci0 ret => ?_)
  have J40 : ∀ (n40 : Nat) (P40 : PP) (v40_4 : Int32), (2 - v40_4.toInt).toNat < n40 → (IV P40) → (EK [0, 5, 10, 13] P P40) → (0 ≤ a1.toInt ∧ a1.toInt ≤ 3) → (0 ≤ a2.toInt ∧ a2.toInt ≤ 39) → (0 ≤ v40_4.toInt ∧ v40_4.toInt ≤ 2) → G E ({ frames := 16, cells := 0, slots := 0, locals := 1024 } : Room) D cy 6 P40 0 0 40 [(0, .ref a0), (1, .int a1), (2, .int a2), (4, .int v40_4)] [] := by
    intro n40
    induction n40 with
    | zero => intro P40 v40_4 hm40 I40 X40 hv40_1 hv40_2 hv40_4; omega
    | succ n40 ih40 =>
      intro P40 v40_4 hm40 I40 X40 hv40_1 hv40_2 hv40_4
      have h6042 := X40.at ha0
      have J49 : ∀ (n49 : Nat) (P49 : PP) (v49_5 : Int32), (2 - v49_5.toInt).toNat < n49 → (IV P49) → (EK [0, 5, 10, 13] P P49) → (0 ≤ a1.toInt ∧ a1.toInt ≤ 3) → (0 ≤ a2.toInt ∧ a2.toInt ≤ 39) → (0 ≤ v40_4.toInt ∧ v40_4.toInt ≤ 1) → (0 ≤ v49_5.toInt ∧ v49_5.toInt ≤ 2) → G E ({ frames := 16, cells := 0, slots := 0, locals := 1024 } : Room) D cy 6 P49 0 0 49 [(0, .ref a0), (1, .int a1), (2, .int a2), (4, .int v40_4), (5, .int v49_5)] [] := by
        intro n49
        induction n49 with
        | zero => intro P49 v49_5 hm49 I49 X49 hv49_1 hv49_2 hv49_4 hv49_5; omega
        | succ n49 ih49 =>
          intro P49 v49_5 hm49 I49 X49 hv49_1 hv49_2 hv49_4 hv49_5
          have h6043 := X49.at ha0
          refine g_iload C dX11_apart_49 4 rfl ?_
          refine g_iconst (v := 2) C dX11_apart_51 (by decide) ?_
          refine b_icmp_ge C 85 dX11_apart_52 (by decide) (fun h6044 => ?_) (fun h6044 => ?_)
          · have h6044 : 2 ≤ v49_5.toInt := h6044
            refine s_iinc (lv0 := [(0, .ref a0), (1, .int a1), (2, .int a2), (5, .int v49_5)]) (m := 1) C dX11_apart_85 3 rfl (by decide) rfl (by decide) (by omega) (fun z6045 h6046 => ?_)
            have h6046 : z6045.toInt = v40_4.toInt + 1 := h6046
            refine g_goto C 40 dX11_apart_88 (by decide) ?_
            refine g_lv (lv' := [(0, .ref a0), (1, .int a1), (2, .int a2), (4, .int z6045)]) [1, 2, 3, 0] rfl ?_
            exact ih40 P49 z6045 (by omega) I49 X49 (by omega) (by omega) (by omega)
          · have h6044 : v49_5.toInt < 2 := h6044
            refine g_aload_n C dX11_apart_55 rfl 0 rfl ?_
            obtain ⟨b6047, e6048, h6049⟩ := I49.fld (h6043) 12 10 0 rfl
            refine g_getR C fi_X11_74 rfl e6048 (h6043).1 (h6043).2 dX11_apart_56 ?_
            refine g_iload C dX11_apart_59 3 rfl ?_
            refine g_iload C dX11_apart_61 4 rfl ?_
            refine g_callVQ (rest := []) C mv_X11_308 [.int v40_4, .int v49_5] (s_X10_basisOf I49 h6049.at (by omega) (by omega)) (h6049.at).1 (h6049.at).2 rfl rfl (by decide) (Nat.le_of_ble_eq_true rfl) (by decide) dX11_apart_63 (fun r6050 Y6051 h6052 => ?_)
            obtain ⟨rfl, h6052⟩ := h6052
            obtain ⟨b6054, rfl, h6052⟩ := h6052
            show G _ _ _ _ _ _ _ _ _ _ (.ref b6054 :: _)
            refine g_aload_n C dX11_apart_66 rfl 0 rfl ?_
            refine g_iload_n C dX11_apart_67 rfl 1 rfl ?_
            refine g_iload C dX11_apart_68 3 rfl ?_
            refine g_iload C dX11_apart_70 4 rfl ?_
            refine g_callVQ (rest := [.ref b6054]) C mv_X11_216 [.int a1, .int v40_4, .int v49_5] (s_X11_gather I49 h6043 (by omega) (by omega) (by omega)) (h6043).1 (h6043).2 rfl rfl (by decide) (Nat.le_of_ble_eq_true rfl) (by decide) dX11_apart_72 (fun r6055 Y6056 h6057 => ?_)
            obtain ⟨Iy6058, Xy6059, h6057⟩ := h6057
            have Xz6060 : EK [0, 5, 10, 13] P Y6056 := X49.tr (Xy6059.mono (by decide))
            have h6061 := Xy6059.at h6043
            have h6062 := Xy6059.at h6052
            obtain ⟨b6064, rfl, h6057⟩ := h6057
            show G _ _ _ _ _ _ _ _ _ _ (.ref b6064 :: _)
            refine g_iconst (v := (-1)) C dX11_apart_75 (by decide) ?_
            refine g_callVV (rest := []) C mv_X11_236 [.ref b6064, .int (-1)] (s_X0_take Iy6058 h6062 h6057) (h6062).1 (h6062).2 rfl rfl (by decide) (Nat.le_of_ble_eq_true rfl) (by decide) dX11_apart_76 (fun Y6066 h6067 => ?_)
            obtain ⟨Iy6068, Xy6069⟩ := h6067
            have Xz6070 : EK [0, 5, 10, 13] P Y6066 := Xz6060.tr (Xy6069.mono (by decide))
            have h6071 := Xy6069.at h6061
            refine s_iinc (lv0 := [(0, .ref a0), (1, .int a1), (2, .int a2), (4, .int v40_4)]) (m := 1) C dX11_apart_79 4 rfl (by decide) rfl (by decide) (by omega) (fun z6072 h6073 => ?_)
            have h6073 : z6072.toInt = v49_5.toInt + 1 := h6073
            refine g_goto C 49 dX11_apart_82 (by decide) ?_
            refine g_lv (lv' := [(0, .ref a0), (1, .int a1), (2, .int a2), (4, .int v40_4), (5, .int z6072)]) [1, 2, 3, 4, 0] rfl ?_
            exact ih49 Y6066 z6072 (by omega) Iy6068 Xz6070 (by omega) (by omega) (by omega) (by omega)
      refine g_iload C dX11_apart_40 3 rfl ?_
      refine g_iconst (v := 2) C dX11_apart_42 (by decide) ?_
      refine b_icmp_ge C 91 dX11_apart_43 (by decide) (fun h6074 => ?_) (fun h6074 => ?_)
      · have h6074 : 2 ≤ v40_4.toInt := h6074
        refine g_aload_n C dX11_apart_91 rfl 0 rfl ?_
        obtain ⟨b6075, e6076, h6077⟩ := I40.fld (h6042) 12 10 0 rfl
        refine g_getR C fi_X11_74 rfl e6076 (h6042).1 (h6042).2 dX11_apart_92 ?_
        refine g_aload_n C dX11_apart_95 rfl 0 rfl ?_
        obtain ⟨b6078, e6079, h6080⟩ := I40.fld (h6042) 1 19 4 rfl
        refine g_getR C fi_X11_17 rfl e6079 (h6042).1 (h6042).2 dX11_apart_96 ?_
        refine g_iload_n C dX11_apart_99 rfl 1 rfl ?_
        obtain ⟨b6081, e6082, h6083⟩ := I40.elm h6080 (by decide) (a1.toInt.toNat) (by omega)
        refine g_aldR C h6080.1 h6080.2.1 (by decide) (ix_in h6080.2.2 (by omega)) e6082 dX11_apart_100 ?_
        refine g_callVV (rest := []) C mv_X11_312 [.ref b6081] (s_X10_findAll I40 h6077.at h6083) (h6077.at).1 (h6077.at).2 rfl rfl (by decide) (Nat.le_of_ble_eq_true rfl) (by decide) dX11_apart_101 (fun Y6085 h6086 => ?_)
        obtain ⟨Iy6087, Xy6088⟩ := h6086
        have Xz6089 : EK [0, 5, 10, 13] P Y6085 := X40.tr (Xy6088.mono (by decide))
        have h6090 := Xy6088.at h6042
        refine g_aload_n C dX11_apart_104 rfl 0 rfl ?_
        obtain ⟨b6091, e6092, h6093⟩ := Iy6087.fld (h6090) 12 10 0 rfl
        refine g_getR C fi_X11_74 rfl e6092 (h6090).1 (h6090).2 dX11_apart_105 ?_
        refine g_iload_n C dX11_apart_108 rfl 2 rfl ?_
        refine g_callVI (rest := []) C mv_X11_316 [.int a2] (s_X10_bookAt Iy6087 h6093.at) (h6093.at).1 (h6093.at).2 rfl rfl (by decide) (Nat.le_of_ble_eq_true rfl) (by decide) dX11_apart_109 (fun r6094 Y6095 h6096 => ?_)
        obtain ⟨rfl, h6096⟩ := h6096
        have h6096 : -1 ≤ r6094.toInt ∧ r6094.toInt ≤ 2 := h6096
        exact ret _ _ _ _ _ _ dX11_apart_112 rfl (by decide) (by decide) ⟨Iy6087, Xz6089, (by omega)⟩
      · have h6074 : v40_4.toInt < 2 := h6074
        refine g_iconst (v := 0) C dX11_apart_46 (by decide) ?_
        refine g_istore (lv' := [(5, .int 0), (0, .ref a0), (1, .int a1), (2, .int a2), (4, .int v40_4)]) C dX11_apart_47 (by decide) rfl ?_
        refine g_lv (lv' := [(0, .ref a0), (1, .int a1), (2, .int a2), (4, .int v40_4), (5, .int 0)]) [1, 2, 3, 4, 0] rfl ?_
        exact J49 _ P40 0 (Nat.lt_succ_self _) I40 X40 (by omega) (by omega) (by omega) (by decide)
  have J35 : G E ({ frames := 16, cells := 0, slots := 0, locals := 1024 } : Room) D cy 6 P 0 0 35 [] [] := by
    refine g_iconst (v := (-1)) C dX11_apart_35 (by decide) ?_
    exact ret _ _ _ _ _ _ dX11_apart_36 rfl (by decide) (by decide) ⟨I, EK.rf, (by decide)⟩
  refine g_aload_n C dX11_apart_0 rfl 0 rfl ?_
  refine g_iload_n C dX11_apart_1 rfl 1 rfl ?_
  refine g_iload_n C dX11_apart_2 rfl 2 rfl ?_
  refine g_callVQ (rest := []) C mv_X11_185 [.int a1, .int a2] (s_X11_paperAt I ha0) (ha0).1 (ha0).2 rfl rfl (by decide) (Nat.le_of_ble_eq_true rfl) (by decide) dX11_apart_3 (fun r6097 Y6098 h6099 => ?_)
  obtain ⟨rfl, h6099⟩ := h6099
  rcases h6099 with rfl | ⟨b6101, rfl, h6099, hj6100⟩
  · show G _ _ _ _ _ _ _ _ _ _ (.null :: _)
    refine g_astore_nN (lv' := [(3, .null), (0, .ref a0), (1, .int a1), (2, .int a2)]) C dX11_apart_6 rfl (by decide) rfl ?_
    refine g_aload_nN C dX11_apart_7 rfl 0 rfl ?_
    refine g_ifnullN C 35 dX11_apart_8 (by decide) ?_
    refine g_lv (lv' := []) [] rfl ?_
    exact J35 
  · have hj6100 : ((0 : Int) ≤ a1.toInt ∧ a1.toInt ≤ (3 : Int)) ∧ ((0 : Int) ≤ a2.toInt ∧ a2.toInt ≤ (39 : Int)) := hj6100
    show G _ _ _ _ _ _ _ _ _ _ (.ref b6101 :: _)
    refine g_astore_n (lv' := [(3, .ref b6101), (0, .ref a0), (1, .int a1), (2, .int a2)]) C dX11_apart_6 rfl (by decide) rfl ?_
    refine g_aload_n C dX11_apart_7 rfl 0 rfl ?_
    refine g_ifnull C dX11_apart_8 ?_
    refine g_aload_n C dX11_apart_11 rfl 0 rfl ?_
    refine g_getI C fi_X11_191 (by decide) (h6099).1 (h6099).2 dX11_apart_12 ?_
    have h6102 := I.rg (h6099) 0 rfl
    refine g_iconst (v := (-1)) C dX11_apart_15 (by decide) ?_
    refine b_icmp_ne C 35 dX11_apart_16 (by decide) (fun h6103 => ?_) (fun h6103 => ?_)
    · have h6103 : (pI P b6101 0).toInt ≠ (-1) := ti_ne h6103
      refine g_lv (lv' := []) [] rfl ?_
      exact J35 
    · have h6103 : (pI P b6101 0).toInt = (-1) := congrArg Int32.toInt h6103
      refine g_aload_n C dX11_apart_19 rfl 1 rfl ?_
      refine g_iconst (v := 0) C dX11_apart_20 (by decide) ?_
      refine g_callVI (rest := []) C mv_X11_97 [.int 0] (s_X11_isTold I ha0) (ha0).1 (ha0).2 rfl rfl (by decide) (Nat.le_of_ble_eq_true rfl) (by decide) dX11_apart_21 (fun r6104 Y6105 h6106 => ?_)
      obtain ⟨rfl, h6106⟩ := h6106
      obtain ⟨h6106, hi6107⟩ := h6106
      have hi6107 : r6104.toInt = 0 ∨ (((0 : Int) ≤ 0 ∧ 0 ≤ (1 : Int))) := hi6107
      have h6106 : 0 ≤ r6104.toInt ∧ r6104.toInt ≤ 1 := h6106
      refine b_if_eq C 35 dX11_apart_24 (by decide) (fun h6108 => ?_) (fun h6108 => ?_)
      · have h6108 : r6104.toInt = 0 := congrArg Int32.toInt h6108
        clear hi6107
        refine g_lv (lv' := []) [] rfl ?_
        exact J35 
      · have h6108 : r6104.toInt ≠ 0 := ti_ne h6108
        replace hi6107 := hi6107.resolve_left (by omega)
        refine g_aload_n C dX11_apart_27 rfl 1 rfl ?_
        refine g_iconst (v := 1) C dX11_apart_28 (by decide) ?_
        refine g_callVI (rest := []) C mv_X11_97 [.int 1] (s_X11_isTold I ha0) (ha0).1 (ha0).2 rfl rfl (by decide) (Nat.le_of_ble_eq_true rfl) (by decide) dX11_apart_29 (fun r6109 Y6110 h6111 => ?_)
        obtain ⟨rfl, h6111⟩ := h6111
        obtain ⟨h6111, hi6112⟩ := h6111
        have hi6112 : r6109.toInt = 0 ∨ (((0 : Int) ≤ 1 ∧ 1 ≤ (1 : Int))) := hi6112
        have h6111 : 0 ≤ r6109.toInt ∧ r6109.toInt ≤ 1 := h6111
        refine b_if_ne C 37 dX11_apart_32 (by decide) (fun h6113 => ?_) (fun h6113 => ?_)
        · have h6113 : r6109.toInt ≠ 0 := ti_ne h6113
          replace hi6112 := hi6112.resolve_left (by omega)
          refine g_iconst (v := 0) C dX11_apart_37 (by decide) ?_
          refine g_istore (lv' := [(4, .int 0), (3, .ref b6101), (0, .ref a0), (1, .int a1), (2, .int a2)]) C dX11_apart_38 (by decide) rfl ?_
          refine g_lv (lv' := [(0, .ref a0), (1, .int a1), (2, .int a2), (4, .int 0)]) [2, 3, 4, 0] rfl ?_
          exact J40 _ P 0 (Nat.lt_succ_self _) I EK.rf (by omega) (by omega) (by decide)
        · have h6113 : r6109.toInt = 0 := congrArg Int32.toInt h6113
          clear hi6112
          refine g_lv (lv' := []) [] rfl ?_
          exact J35 
theorem dX11_average_0 : decode cX11_average 0 = .ok (.aload_n 0, 1) := by decide +kernel
theorem dX11_average_1 : decode cX11_average 1 = .ok (.iload_n 1, 1) := by decide +kernel
theorem dX11_average_2 : decode cX11_average 2 = .ok (.invokevirtual 97, 3) := by decide +kernel
theorem dX11_average_5 : decode cX11_average 5 = .ok (.ifCond .eq 29, 3) := by decide +kernel
theorem dX11_average_8 : decode cX11_average 8 = .ok (.iload_n 2, 1) := by decide +kernel
theorem dX11_average_9 : decode cX11_average 9 = .ok (.iconst 0, 1) := by decide +kernel
theorem dX11_average_10 : decode cX11_average 10 = .ok (.invokestatic 289, 3) := by decide +kernel
theorem dX11_isSetSize_0 : decode cX11_isSetSize 0 = .ok (.iload_n 0, 1) := by decide +kernel
theorem dX11_isSetSize_1 : decode cX11_isSetSize 1 = .ok (.iconst 1, 1) := by decide +kernel
theorem dX11_isSetSize_2 : decode cX11_isSetSize 2 = .ok (.if_icmp .lt 22, 3) := by decide +kernel
theorem dX11_isSetSize_5 : decode cX11_isSetSize 5 = .ok (.iload_n 0, 1) := by decide +kernel
theorem dX11_isSetSize_6 : decode cX11_isSetSize 6 = .ok (.bipush 11, 2) := by decide +kernel
theorem dX11_isSetSize_8 : decode cX11_isSetSize 8 = .ok (.if_icmp .gt 16, 3) := by decide +kernel
theorem dX11_isSetSize_11 : decode cX11_isSetSize 11 = .ok (.iload_n 1, 1) := by decide +kernel
theorem dX11_isSetSize_12 : decode cX11_isSetSize 12 = .ok (.ifCond .lt 12, 3) := by decide +kernel
theorem dX11_isSetSize_15 : decode cX11_isSetSize 15 = .ok (.iload_n 1, 1) := by decide +kernel
theorem dX11_isSetSize_16 : decode cX11_isSetSize 16 = .ok (.iload_n 0, 1) := by decide +kernel
theorem dX11_isSetSize_17 : decode cX11_isSetSize 17 = .ok (.if_icmp .gt 7, 3) := by decide +kernel
theorem dX11_isSetSize_20 : decode cX11_isSetSize 20 = .ok (.iconst 1, 1) := by decide +kernel
theorem dX11_isSetSize_21 : decode cX11_isSetSize 21 = .ok (.goto 4, 3) := by decide +kernel
theorem dX11_isSetSize_24 : decode cX11_isSetSize 24 = .ok (.iconst 0, 1) := by decide +kernel
theorem dX11_isSetSize_25 : decode cX11_isSetSize 25 = .ok (.ireturn, 1) := by decide +kernel
set_option maxHeartbeats 4000000 in
set_option maxRecDepth 100000 in
theorem s_X11_isSetSize {P : PP} {a0 : Int32} {a1 : Int32} (I : IV P) : CtrI yX11_isSetSize cX11_isSetSize 2 (some Jvm.ClassFile.FieldType.boolean) ({ frames := 1, cells := 0, slots := 0, locals := 64 } : Room) 0 0 P [.int a0, .int a1] (fun r P2 => P = P2 ∧ (0 ≤ r.toInt ∧ r.toInt ≤ 1) ∧ (r.toInt = 0 ∨ (((1 : Int) ≤ a0.toInt ∧ a0.toInt ≤ (11 : Int)) ∧ ((0 : Int) ≤ a1.toInt ∧ a1.toInt ≤ (11 : Int))))) := by
  refine enI (lv := [(0, .int a0), (1, .int a1)]) (by decide) (Nat.le_of_ble_eq_true rfl) rfl (fun E D cy C Ci0 ret => ?_)
  have J24 : G E ({ frames := 1, cells := 0, slots := 0, locals := 64 } : Room) D cy 2 P 0 0 24 [] [] := by
    refine g_iconst (v := 0) C dX11_isSetSize_24 (by decide) ?_
    exact ret _ _ _ _ _ _ dX11_isSetSize_25 rfl (by decide) (by decide) ⟨rfl, (by decide), Or.inl rfl⟩
  refine g_iload_n C dX11_isSetSize_0 rfl 0 rfl ?_
  refine g_iconst (v := 1) C dX11_isSetSize_1 (by decide) ?_
  have u6128 := ti_rng a0
  refine b_icmp_lt C 24 dX11_isSetSize_2 (by decide) (fun h6127 => ?_) (fun h6127 => ?_)
  · have h6127 : a0.toInt < 1 := h6127
    refine g_lv (lv' := []) [] rfl ?_
    exact J24 
  · have h6127 : 1 ≤ a0.toInt := h6127
    refine g_iload_n C dX11_isSetSize_5 rfl 0 rfl ?_
    refine g_bipush (v := 11) C dX11_isSetSize_6 (by decide) ?_
    have u6130 := ti_rng a0
    refine b_icmp_gt C 24 dX11_isSetSize_8 (by decide) (fun h6129 => ?_) (fun h6129 => ?_)
    · have h6129 : 11 < a0.toInt := h6129
      refine g_lv (lv' := []) [] rfl ?_
      exact J24 
    · have h6129 : a0.toInt ≤ 11 := h6129
      refine g_iload_n C dX11_isSetSize_11 rfl 1 rfl ?_
      have u6132 := ti_rng a1
      refine b_if_lt C 24 dX11_isSetSize_12 (by decide) (fun h6131 => ?_) (fun h6131 => ?_)
      · have h6131 : a1.toInt < 0 := h6131
        refine g_lv (lv' := []) [] rfl ?_
        exact J24 
      · have h6131 : 0 ≤ a1.toInt := h6131
        refine g_iload_n C dX11_isSetSize_15 rfl 1 rfl ?_
        refine g_iload_n C dX11_isSetSize_16 rfl 0 rfl ?_
        have u6134 := ti_rng a1
        refine b_icmp_gt C 24 dX11_isSetSize_17 (by decide) (fun h6133 => ?_) (fun h6133 => ?_)
        · have h6133 : a0.toInt < a1.toInt := h6133
          refine g_lv (lv' := []) [] rfl ?_
          exact J24 
        · have h6133 : a1.toInt ≤ a0.toInt := h6133
          refine g_iconst (v := 1) C dX11_isSetSize_20 (by decide) ?_
          refine g_goto C 25 dX11_isSetSize_21 (by decide) ?_
          exact ret _ _ _ _ _ _ dX11_isSetSize_25 rfl (by decide) (by decide) ⟨rfl, (by decide), Or.inr (by omega)⟩
theorem dX11_average_13 : decode cX11_average 13 = .ok (.ifCond .eq 21, 3) := by decide +kernel
theorem dX11_average_16 : decode cX11_average 16 = .ok (.iload_n 3, 1) := by decide +kernel
theorem dX11_average_17 : decode cX11_average 17 = .ok (.invokestatic 249, 3) := by decide +kernel
theorem dX11_isHow_0 : decode cX11_isHow 0 = .ok (.iload_n 0, 1) := by decide +kernel
theorem dX11_isHow_1 : decode cX11_isHow 1 = .ok (.ifCond .eq 8, 3) := by decide +kernel
theorem dX11_isHow_4 : decode cX11_isHow 4 = .ok (.iload_n 0, 1) := by decide +kernel
theorem dX11_isHow_5 : decode cX11_isHow 5 = .ok (.iconst 1, 1) := by decide +kernel
theorem dX11_isHow_6 : decode cX11_isHow 6 = .ok (.if_icmp .ne 7, 3) := by decide +kernel
theorem dX11_isHow_9 : decode cX11_isHow 9 = .ok (.iconst 1, 1) := by decide +kernel
theorem dX11_isHow_10 : decode cX11_isHow 10 = .ok (.goto 4, 3) := by decide +kernel
theorem dX11_isHow_13 : decode cX11_isHow 13 = .ok (.iconst 0, 1) := by decide +kernel
theorem dX11_isHow_14 : decode cX11_isHow 14 = .ok (.ireturn, 1) := by decide +kernel
set_option maxHeartbeats 4000000 in
set_option maxRecDepth 100000 in
theorem s_X11_isHow {P : PP} {a0 : Int32} (I : IV P) : CtrI yX11_isHow cX11_isHow 1 (some Jvm.ClassFile.FieldType.boolean) ({ frames := 1, cells := 0, slots := 0, locals := 64 } : Room) 0 0 P [.int a0] (fun r P2 => P = P2 ∧ (0 ≤ r.toInt ∧ r.toInt ≤ 1)) := by
  refine enI (lv := [(0, .int a0)]) (by decide) (Nat.le_of_ble_eq_true rfl) rfl (fun E D cy C Ci0 ret => ?_)
  have J9 : G E ({ frames := 1, cells := 0, slots := 0, locals := 64 } : Room) D cy 1 P 0 0 9 [] [] := by
    refine g_iconst (v := 1) C dX11_isHow_9 (by decide) ?_
    refine g_goto C 14 dX11_isHow_10 (by decide) ?_
    exact ret _ _ _ _ _ _ dX11_isHow_14 rfl (by decide) (by decide) ⟨rfl, (by decide)⟩
  refine g_iload_n C dX11_isHow_0 rfl 0 rfl ?_
  have u6150 := ti_rng a0
  refine b_if_eq C 9 dX11_isHow_1 (by decide) (fun h6149 => ?_) (fun h6149 => ?_)
  · have h6149 : a0.toInt = 0 := congrArg Int32.toInt h6149
    refine g_lv (lv' := []) [] rfl ?_
    exact J9 
  · have h6149 : a0.toInt ≠ 0 := ti_ne h6149
    refine g_iload_n C dX11_isHow_4 rfl 0 rfl ?_
    refine g_iconst (v := 1) C dX11_isHow_5 (by decide) ?_
    have u6152 := ti_rng a0
    refine b_icmp_ne C 13 dX11_isHow_6 (by decide) (fun h6151 => ?_) (fun h6151 => ?_)
    · have h6151 : a0.toInt ≠ 1 := ti_ne h6151
      refine g_iconst (v := 0) C dX11_isHow_13 (by decide) ?_
      exact ret _ _ _ _ _ _ dX11_isHow_14 rfl (by decide) (by decide) ⟨rfl, (by decide)⟩
    · have h6151 : a0.toInt = 1 := congrArg Int32.toInt h6151
      refine g_lv (lv' := []) [] rfl ?_
      exact J9 
theorem dX11_average_20 : decode cX11_average 20 = .ok (.ifCond .eq 14, 3) := by decide +kernel
theorem dX11_average_23 : decode cX11_average 23 = .ok (.iload 4, 2) := by decide +kernel
theorem dX11_average_25 : decode cX11_average 25 = .ok (.ifCond .lt 9, 3) := by decide +kernel
theorem dX11_average_28 : decode cX11_average 28 = .ok (.iload 4, 2) := by decide +kernel
theorem dX11_average_30 : decode cX11_average 30 = .ok (.iconst 1, 1) := by decide +kernel
theorem dX11_average_31 : decode cX11_average 31 = .ok (.if_icmp .le 7, 3) := by decide +kernel
theorem dX11_average_38 : decode cX11_average 38 = .ok (.aload_n 0, 1) := by decide +kernel
theorem dX11_average_39 : decode cX11_average 39 = .ok (.getfield 60, 3) := by decide +kernel
theorem dX11_average_42 : decode cX11_average 42 = .ok (.aload_n 0, 1) := by decide +kernel
theorem dX11_average_43 : decode cX11_average 43 = .ok (.getfield 11, 3) := by decide +kernel
theorem dX11_average_46 : decode cX11_average 46 = .ok (.iload_n 1, 1) := by decide +kernel
theorem dX11_average_47 : decode cX11_average 47 = .ok (.aaload, 1) := by decide +kernel
theorem dX11_average_48 : decode cX11_average 48 = .ok (.iload_n 2, 1) := by decide +kernel
theorem dX11_average_49 : decode cX11_average 49 = .ok (.iload_n 3, 1) := by decide +kernel
theorem dX11_average_50 : decode cX11_average 50 = .ok (.iconst 0, 1) := by decide +kernel
theorem dX11_average_51 : decode cX11_average 51 = .ok (.invokevirtual 292, 3) := by decide +kernel
theorem dX8_tally_0 : decode cX8_tally 0 = .ok (.aload_n 0, 1) := by decide +kernel
theorem dX8_tally_1 : decode cX8_tally 1 = .ok (.iload_n 2, 1) := by decide +kernel
theorem dX8_tally_2 : decode cX8_tally 2 = .ok (.bipush 11, 2) := by decide +kernel
theorem dX8_tally_4 : decode cX8_tally 4 = .ok (.invokestatic 32, 3) := by decide +kernel
theorem dX8_tally_7 : decode cX8_tally 7 = .ok (.putfield 38, 3) := by decide +kernel
theorem dX8_tally_10 : decode cX8_tally 10 = .ok (.aload_n 0, 1) := by decide +kernel
theorem dX8_tally_11 : decode cX8_tally 11 = .ok (.iload_n 3, 1) := by decide +kernel
theorem dX8_tally_12 : decode cX8_tally 12 = .ok (.putfield 42, 3) := by decide +kernel
theorem dX8_tally_15 : decode cX8_tally 15 = .ok (.aload_n 0, 1) := by decide +kernel
theorem dX8_tally_16 : decode cX8_tally 16 = .ok (.aload_n 1, 1) := by decide +kernel
theorem dX8_tally_17 : decode cX8_tally 17 = .ok (.invokevirtual 45, 3) := by decide +kernel
theorem dX1_all_0 : decode cX1_all 0 = .ok (.aload_n 0, 1) := by decide +kernel
theorem dX1_all_1 : decode cX1_all 1 = .ok (.getfield 29, 3) := by decide +kernel
theorem dX1_all_4 : decode cX1_all 4 = .ok (.ifCond .eq 18, 3) := by decide +kernel
theorem dX1_all_7 : decode cX1_all 7 = .ok (.aload_n 0, 1) := by decide +kernel
theorem dX1_all_8 : decode cX1_all 8 = .ok (.getfield 33, 3) := by decide +kernel
theorem dX1_all_11 : decode cX1_all 11 = .ok (.aload_n 0, 1) := by decide +kernel
theorem dX1_all_12 : decode cX1_all 12 = .ok (.getfield 18, 3) := by decide +kernel
theorem dX1_all_15 : decode cX1_all 15 = .ok (.getfield 46, 3) := by decide +kernel
theorem dX1_all_18 : decode cX1_all 18 = .ok (.iadd, 1) := by decide +kernel
theorem dX1_all_19 : decode cX1_all 19 = .ok (.goto 4, 3) := by decide +kernel
theorem dX1_all_22 : decode cX1_all 22 = .ok (.iconst 0, 1) := by decide +kernel
theorem dX1_all_23 : decode cX1_all 23 = .ok (.ireturn, 1) := by decide +kernel
set_option maxHeartbeats 4000000 in
set_option maxRecDepth 100000 in
theorem s_X1_all {P : PP} {a0 : Nat} (I : IV P) (ha0 : At P a0 1) : CtrI yX1_all cX1_all 1 (some Jvm.ClassFile.FieldType.int) ({ frames := 1, cells := 0, slots := 0, locals := 64 } : Room) 0 0 P [.ref a0] (fun r P2 => P = P2 ∧ (0 ≤ r.toInt ∧ r.toInt ≤ 20)) := by
  refine enI (lv := [(0, .ref a0)]) (by decide) (Nat.le_of_ble_eq_true rfl) rfl (fun E D cy C Ci0 ret => ?_)
  refine g_aload_n C dX1_all_0 rfl 0 rfl ?_
  refine g_getI C fi_X1_29 (by decide) (ha0).1 (ha0).2 dX1_all_1 ?_
  have h6208 := I.rg (ha0) 4 rfl
  refine b_if_eq C 22 dX1_all_4 (by decide) (fun h6209 => ?_) (fun h6209 => ?_)
  · have h6209 : (pI P a0 4).toInt = 0 := congrArg Int32.toInt h6209
    refine g_iconst (v := 0) C dX1_all_22 (by decide) ?_
    exact ret _ _ _ _ _ _ dX1_all_23 rfl (by decide) (by decide) ⟨rfl, (by decide)⟩
  · have h6209 : (pI P a0 4).toInt ≠ 0 := ti_ne h6209
    refine g_aload_n C dX1_all_7 rfl 0 rfl ?_
    refine g_getI C fi_X1_33 (by decide) (ha0).1 (ha0).2 dX1_all_8 ?_
    have h6210 := I.rg (ha0) 5 rfl
    refine g_aload_n C dX1_all_11 rfl 0 rfl ?_
    obtain ⟨b6211, e6212, h6213⟩ := I.fld (ha0) 2 3 0 rfl
    refine g_getR C fi_X1_18 rfl e6212 (ha0).1 (ha0).2 dX1_all_12 ?_
    refine g_getI C fi_X1_46 (by decide) (h6213.at).1 (h6213.at).2 dX1_all_15 ?_
    have h6214 := I.rg (h6213.at) 2 rfl
    refine s_iadd C dX1_all_18 (by show -2147483648 ≤ (pI P a0 5).toInt + (pI P b6211 2).toInt ∧ (pI P a0 5).toInt + (pI P b6211 2).toInt ≤ 2147483647; omega) (fun z6215 h6216 => ?_)
    have h6216 : z6215.toInt = (pI P a0 5).toInt + (pI P b6211 2).toInt := h6216
    refine g_goto C 23 dX1_all_19 (by decide) ?_
    exact ret _ _ _ _ _ _ dX1_all_23 rfl (by decide) (by decide) ⟨rfl, (by omega)⟩
theorem dX8_tally_20 : decode cX8_tally 20 = .ok (.putfield 51, 3) := by decide +kernel
theorem dX8_tally_23 : decode cX8_tally 23 = .ok (.aload_n 0, 1) := by decide +kernel
theorem dX8_tally_24 : decode cX8_tally 24 = .ok (.aload_n 1, 1) := by decide +kernel
theorem dX8_tally_25 : decode cX8_tally 25 = .ok (.invokevirtual 53, 3) := by decide +kernel
theorem dX1_allBits_0 : decode cX1_allBits 0 = .ok (.iconst 1, 1) := by decide +kernel
theorem dX1_allBits_1 : decode cX1_allBits 1 = .ok (.aload_n 0, 1) := by decide +kernel
theorem dX1_allBits_2 : decode cX1_allBits 2 = .ok (.invokevirtual 49, 3) := by decide +kernel
theorem dX1_allBits_5 : decode cX1_allBits 5 = .ok (.ishl, 1) := by decide +kernel
theorem dX1_allBits_6 : decode cX1_allBits 6 = .ok (.iconst 1, 1) := by decide +kernel
theorem dX1_allBits_7 : decode cX1_allBits 7 = .ok (.isub, 1) := by decide +kernel
theorem dX1_allBits_8 : decode cX1_allBits 8 = .ok (.ireturn, 1) := by decide +kernel
set_option maxHeartbeats 4000000 in
set_option maxRecDepth 100000 in
theorem s_X1_allBits {P : PP} {a0 : Nat} (I : IV P) (ha0 : At P a0 1) : CtrI yX1_allBits cX1_allBits 1 (some Jvm.ClassFile.FieldType.int) ({ frames := 2, cells := 0, slots := 0, locals := 128 } : Room) 0 0 P [.ref a0] (fun r P2 => P = P2 ∧ (True)) := by
  refine enI (lv := [(0, .ref a0)]) (by decide) (Nat.le_of_ble_eq_true rfl) rfl (fun E D cy C Ci0 ret => ?_)
  refine g_iconst (v := 1) C dX1_allBits_0 (by decide) ?_
  refine g_aload_n C dX1_allBits_1 rfl 0 rfl ?_
  refine g_callVI (rest := [.int 1]) C mv_X1_49 [] (s_X1_all I ha0) (ha0).1 (ha0).2 rfl rfl (by decide) (Nat.le_of_ble_eq_true rfl) (by decide) dX1_allBits_2 (fun r6256 Y6257 h6258 => ?_)
  obtain ⟨rfl, h6258⟩ := h6258
  have h6258 : 0 ≤ r6256.toInt ∧ r6256.toInt ≤ 20 := h6258
  refine a_ishl C dX1_allBits_5 (fun z6259 => ?_)
  refine g_iconst (v := 1) C dX1_allBits_6 (by decide) ?_
  refine a_isub C dX1_allBits_7 (fun z6261 => ?_)
  exact ret _ _ _ _ _ _ dX1_allBits_8 rfl (by decide) (by decide) ⟨rfl, trivial⟩
theorem dX8_tally_28 : decode cX8_tally 28 = .ok (.putfield 56, 3) := by decide +kernel
theorem dX8_tally_31 : decode cX8_tally 31 = .ok (.iconst 0, 1) := by decide +kernel
theorem dX8_tally_32 : decode cX8_tally 32 = .ok (.istore 5, 2) := by decide +kernel
theorem dX8_tally_34 : decode cX8_tally 34 = .ok (.iload 5, 2) := by decide +kernel
theorem dX8_tally_36 : decode cX8_tally 36 = .ok (.bipush 11, 2) := by decide +kernel
theorem dX8_tally_38 : decode cX8_tally 38 = .ok (.if_icmp .gt 17, 3) := by decide +kernel
theorem dX8_tally_41 : decode cX8_tally 41 = .ok (.aload_n 0, 1) := by decide +kernel
theorem dX8_tally_42 : decode cX8_tally 42 = .ok (.getfield 9, 3) := by decide +kernel
theorem dX8_tally_45 : decode cX8_tally 45 = .ok (.iload 5, 2) := by decide +kernel
theorem dX8_tally_47 : decode cX8_tally 47 = .ok (.iconst 0, 1) := by decide +kernel
theorem dX8_tally_48 : decode cX8_tally 48 = .ok (.iastore, 1) := by decide +kernel
theorem dX8_tally_49 : decode cX8_tally 49 = .ok (.iinc 5 1, 3) := by decide +kernel
theorem dX8_tally_52 : decode cX8_tally 52 = .ok (.goto (-18), 3) := by decide +kernel
theorem dX8_tally_55 : decode cX8_tally 55 = .ok (.iconst 0, 1) := by decide +kernel
theorem dX8_tally_56 : decode cX8_tally 56 = .ok (.istore 5, 2) := by decide +kernel
theorem dX8_tally_58 : decode cX8_tally 58 = .ok (.iload 5, 2) := by decide +kernel
theorem dX8_tally_60 : decode cX8_tally 60 = .ok (.aload_n 0, 1) := by decide +kernel
theorem dX8_tally_61 : decode cX8_tally 61 = .ok (.getfield 38, 3) := by decide +kernel
theorem dX8_tally_64 : decode cX8_tally 64 = .ok (.if_icmp .ge 38, 3) := by decide +kernel
theorem dX8_tally_67 : decode cX8_tally 67 = .ok (.aload_n 0, 1) := by decide +kernel
theorem dX8_tally_68 : decode cX8_tally 68 = .ok (.getfield 15, 3) := by decide +kernel
theorem dX8_tally_71 : decode cX8_tally 71 = .ok (.iload 5, 2) := by decide +kernel
theorem dX8_tally_73 : decode cX8_tally 73 = .ok (.iload 4, 2) := by decide +kernel
theorem dX8_tally_75 : decode cX8_tally 75 = .ok (.ifCond .le 14, 3) := by decide +kernel
theorem dX8_tally_89 : decode cX8_tally 89 = .ok (.aload_n 1, 1) := by decide +kernel
theorem dX8_tally_90 : decode cX8_tally 90 = .ok (.iload 5, 2) := by decide +kernel
theorem dX8_tally_92 : decode cX8_tally 92 = .ok (.invokevirtual 61, 3) := by decide +kernel
theorem dX1_pagesOf_0 : decode cX1_pagesOf 0 = .ok (.iload_n 1, 1) := by decide +kernel
theorem dX1_pagesOf_1 : decode cX1_pagesOf 1 = .ok (.ifCond .lt 9, 3) := by decide +kernel
theorem dX1_pagesOf_4 : decode cX1_pagesOf 4 = .ok (.iload_n 1, 1) := by decide +kernel
theorem dX1_pagesOf_5 : decode cX1_pagesOf 5 = .ok (.bipush 60, 2) := by decide +kernel
theorem dX1_pagesOf_7 : decode cX1_pagesOf 7 = .ok (.if_icmp .lt 10, 3) := by decide +kernel
theorem dX1_pagesOf_17 : decode cX1_pagesOf 17 = .ok (.aload_n 0, 1) := by decide +kernel
theorem dX1_pagesOf_18 : decode cX1_pagesOf 18 = .ok (.getfield 22, 3) := by decide +kernel
theorem dX1_pagesOf_21 : decode cX1_pagesOf 21 = .ok (.iload_n 1, 1) := by decide +kernel
theorem dX1_pagesOf_22 : decode cX1_pagesOf 22 = .ok (.iaload, 1) := by decide +kernel
theorem dX1_pagesOf_23 : decode cX1_pagesOf 23 = .ok (.ifCond .ne 15, 3) := by decide +kernel
theorem dX1_pagesOf_26 : decode cX1_pagesOf 26 = .ok (.aload_n 0, 1) := by decide +kernel
theorem dX1_pagesOf_27 : decode cX1_pagesOf 27 = .ok (.getfield 22, 3) := by decide +kernel
theorem dX1_pagesOf_30 : decode cX1_pagesOf 30 = .ok (.iload_n 1, 1) := by decide +kernel
theorem dX1_pagesOf_31 : decode cX1_pagesOf 31 = .ok (.aload_n 0, 1) := by decide +kernel
theorem dX1_pagesOf_32 : decode cX1_pagesOf 32 = .ok (.iload_n 1, 1) := by decide +kernel
theorem dX1_pagesOf_33 : decode cX1_pagesOf 33 = .ok (.iconst 0, 1) := by decide +kernel
theorem dX1_pagesOf_34 : decode cX1_pagesOf 34 = .ok (.invokevirtual 63, 3) := by decide +kernel
theorem dX1_drawPages_0 : decode cX1_drawPages 0 = .ok (.aload_n 0, 1) := by decide +kernel
theorem dX1_drawPages_1 : decode cX1_drawPages 1 = .ok (.iload_n 1, 1) := by decide +kernel
theorem dX1_drawPages_2 : decode cX1_drawPages 2 = .ok (.sipush 7919, 3) := by decide +kernel
theorem dX1_drawPages_5 : decode cX1_drawPages 5 = .ok (.imul, 1) := by decide +kernel
theorem dX1_drawPages_6 : decode cX1_drawPages 6 = .ok (.aload_n 0, 1) := by decide +kernel
theorem dX1_drawPages_7 : decode cX1_drawPages 7 = .ok (.getfield 25, 3) := by decide +kernel
theorem dX1_drawPages_10 : decode cX1_drawPages 10 = .ok (.ldc 67, 2) := by decide +kernel
theorem dX1_drawPages_12 : decode cX1_drawPages 12 = .ok (.imul, 1) := by decide +kernel
theorem dX1_drawPages_13 : decode cX1_drawPages 13 = .ok (.iadd, 1) := by decide +kernel
theorem dX1_drawPages_14 : decode cX1_drawPages 14 = .ok (.iconst 1, 1) := by decide +kernel
theorem dX1_drawPages_15 : decode cX1_drawPages 15 = .ok (.iadd, 1) := by decide +kernel
theorem dX1_drawPages_16 : decode cX1_drawPages 16 = .ok (.putfield 68, 3) := by decide +kernel
theorem dX1_drawPages_19 : decode cX1_drawPages 19 = .ok (.aload_n 0, 1) := by decide +kernel
theorem dX1_drawPages_20 : decode cX1_drawPages 20 = .ok (.invokevirtual 49, 3) := by decide +kernel
theorem dX1_drawPages_23 : decode cX1_drawPages 23 = .ok (.istore_n 3, 1) := by decide +kernel
theorem dX1_drawPages_24 : decode cX1_drawPages 24 = .ok (.iload_n 2, 1) := by decide +kernel
theorem dX1_drawPages_25 : decode cX1_drawPages 25 = .ok (.ifCond .le 11, 3) := by decide +kernel
theorem dX1_drawPages_36 : decode cX1_drawPages 36 = .ok (.aload_n 0, 1) := by decide +kernel
theorem dX1_drawPages_37 : decode cX1_drawPages 37 = .ok (.iload_n 3, 1) := by decide +kernel
theorem dX1_drawPages_38 : decode cX1_drawPages 38 = .ok (.invokevirtual 74, 3) := by decide +kernel
theorem dX1_howMany_0 : decode cX1_howMany 0 = .ok (.iconst 0, 1) := by decide +kernel
theorem dX1_howMany_1 : decode cX1_howMany 1 = .ok (.istore_n 2, 1) := by decide +kernel
theorem dX1_howMany_2 : decode cX1_howMany 2 = .ok (.iconst 1, 1) := by decide +kernel
theorem dX1_howMany_3 : decode cX1_howMany 3 = .ok (.istore_n 3, 1) := by decide +kernel
theorem dX1_howMany_4 : decode cX1_howMany 4 = .ok (.iload_n 3, 1) := by decide +kernel
theorem dX1_howMany_5 : decode cX1_howMany 5 = .ok (.iload_n 1, 1) := by decide +kernel
theorem dX1_howMany_6 : decode cX1_howMany 6 = .ok (.if_icmp .gt 20, 3) := by decide +kernel
theorem dX1_howMany_9 : decode cX1_howMany 9 = .ok (.iload_n 2, 1) := by decide +kernel
theorem dX1_howMany_10 : decode cX1_howMany 10 = .ok (.aload_n 0, 1) := by decide +kernel
theorem dX1_howMany_11 : decode cX1_howMany 11 = .ok (.getfield 18, 3) := by decide +kernel
theorem dX1_howMany_14 : decode cX1_howMany 14 = .ok (.iload_n 3, 1) := by decide +kernel
theorem dX1_howMany_15 : decode cX1_howMany 15 = .ok (.invokevirtual 89, 3) := by decide +kernel
theorem dX1_howMany_26 : decode cX1_howMany 26 = .ok (.iload_n 2, 1) := by decide +kernel
theorem dX1_howMany_27 : decode cX1_howMany 27 = .ok (.ifCond .ne 5, 3) := by decide +kernel
theorem dX1_howMany_30 : decode cX1_howMany 30 = .ok (.iconst 1, 1) := by decide +kernel
theorem dX1_howMany_31 : decode cX1_howMany 31 = .ok (.ireturn, 1) := by decide +kernel
theorem dX3_oddsOf_0 : decode cX3_oddsOf 0 = .ok (.iload_n 1, 1) := by decide +kernel
theorem dX3_oddsOf_1 : decode cX3_oddsOf 1 = .ok (.iconst 1, 1) := by decide +kernel
theorem dX3_oddsOf_2 : decode cX3_oddsOf 2 = .ok (.if_icmp .lt 27, 3) := by decide +kernel
theorem dX3_oddsOf_5 : decode cX3_oddsOf 5 = .ok (.iload_n 1, 1) := by decide +kernel
theorem dX3_oddsOf_6 : decode cX3_oddsOf 6 = .ok (.bipush 20, 2) := by decide +kernel
theorem dX3_oddsOf_8 : decode cX3_oddsOf 8 = .ok (.if_icmp .gt 21, 3) := by decide +kernel
theorem dX3_oddsOf_11 : decode cX3_oddsOf 11 = .ok (.aload_n 0, 1) := by decide +kernel
theorem dX3_oddsOf_12 : decode cX3_oddsOf 12 = .ok (.getfield 9, 3) := by decide +kernel
theorem dX3_oddsOf_15 : decode cX3_oddsOf 15 = .ok (.iload_n 1, 1) := by decide +kernel
theorem dX3_oddsOf_16 : decode cX3_oddsOf 16 = .ok (.iaload, 1) := by decide +kernel
theorem dX3_oddsOf_17 : decode cX3_oddsOf 17 = .ok (.ifCond .le 12, 3) := by decide +kernel
theorem dX3_oddsOf_20 : decode cX3_oddsOf 20 = .ok (.aload_n 0, 1) := by decide +kernel
theorem dX3_oddsOf_21 : decode cX3_oddsOf 21 = .ok (.getfield 9, 3) := by decide +kernel
theorem dX3_oddsOf_24 : decode cX3_oddsOf 24 = .ok (.iload_n 1, 1) := by decide +kernel
theorem dX3_oddsOf_25 : decode cX3_oddsOf 25 = .ok (.iaload, 1) := by decide +kernel
theorem dX3_oddsOf_26 : decode cX3_oddsOf 26 = .ok (.goto 4, 3) := by decide +kernel
theorem dX3_oddsOf_29 : decode cX3_oddsOf 29 = .ok (.iconst 0, 1) := by decide +kernel
theorem dX3_oddsOf_30 : decode cX3_oddsOf 30 = .ok (.ireturn, 1) := by decide +kernel
set_option maxHeartbeats 4000000 in
set_option maxRecDepth 100000 in
theorem s_X3_oddsOf {P : PP} {a0 : Nat} {a1 : Int32} (I : IV P) (ha0 : At P a0 3) : CtrI yX3_oddsOf cX3_oddsOf 2 (some Jvm.ClassFile.FieldType.int) ({ frames := 1, cells := 0, slots := 0, locals := 64 } : Room) 0 0 P [.ref a0, .int a1] (fun r P2 => P = P2 ∧ (True)) := by
  refine enI (lv := [(0, .ref a0), (1, .int a1)]) (by decide) (Nat.le_of_ble_eq_true rfl) rfl (fun E D cy C Ci0 ret => ?_)
  have J29 : G E ({ frames := 1, cells := 0, slots := 0, locals := 64 } : Room) D cy 2 P 0 0 29 [] [] := by
    refine g_iconst (v := 0) C dX3_oddsOf_29 (by decide) ?_
    exact ret _ _ _ _ _ _ dX3_oddsOf_30 rfl (by decide) (by decide) ⟨rfl, trivial⟩
  refine g_iload_n C dX3_oddsOf_0 rfl 1 rfl ?_
  refine g_iconst (v := 1) C dX3_oddsOf_1 (by decide) ?_
  have u6514 := ti_rng a1
  refine b_icmp_lt C 29 dX3_oddsOf_2 (by decide) (fun h6513 => ?_) (fun h6513 => ?_)
  · have h6513 : a1.toInt < 1 := h6513
    refine g_lv (lv' := []) [] rfl ?_
    exact J29 
  · have h6513 : 1 ≤ a1.toInt := h6513
    refine g_iload_n C dX3_oddsOf_5 rfl 1 rfl ?_
    refine g_bipush (v := 20) C dX3_oddsOf_6 (by decide) ?_
    have u6516 := ti_rng a1
    refine b_icmp_gt C 29 dX3_oddsOf_8 (by decide) (fun h6515 => ?_) (fun h6515 => ?_)
    · have h6515 : 20 < a1.toInt := h6515
      refine g_lv (lv' := []) [] rfl ?_
      exact J29 
    · have h6515 : a1.toInt ≤ 20 := h6515
      refine g_aload_n C dX3_oddsOf_11 rfl 0 rfl ?_
      obtain ⟨b6517, e6518, h6519⟩ := I.fld (ha0) 0 13 21 rfl
      refine g_getR C fi_X3_9 rfl e6518 (ha0).1 (ha0).2 dX3_oddsOf_12 ?_
      refine g_iload_n C dX3_oddsOf_15 rfl 1 rfl ?_
      refine g_iald (j := (a1.toInt.toNat)) C h6519.1 h6519.2.1 (ix_in h6519.2.2 (by omega)) dX3_oddsOf_16 ?_
      refine g_topi (fun z6520 _ => ?_)
      have u6522 := ti_rng z6520
      refine b_if_le C 29 dX3_oddsOf_17 (by decide) (fun h6521 => ?_) (fun h6521 => ?_)
      · have h6521 : z6520.toInt ≤ 0 := h6521
        refine g_lv (lv' := []) [] rfl ?_
        exact J29 
      · have h6521 : 0 < z6520.toInt := h6521
        refine g_aload_n C dX3_oddsOf_20 rfl 0 rfl ?_
        refine g_getR C fi_X3_9 rfl e6518 (ha0).1 (ha0).2 dX3_oddsOf_21 ?_
        refine g_iload_n C dX3_oddsOf_24 rfl 1 rfl ?_
        refine g_iald (j := (a1.toInt.toNat)) C h6519.1 h6519.2.1 (ix_in h6519.2.2 (by omega)) dX3_oddsOf_25 ?_
        refine g_topi (fun z6523 _ => ?_)
        refine g_goto C 30 dX3_oddsOf_26 (by decide) ?_
        exact ret _ _ _ _ _ _ dX3_oddsOf_30 rfl (by decide) (by decide) ⟨rfl, trivial⟩
theorem dX1_howMany_18 : decode cX1_howMany 18 = .ok (.iadd, 1) := by decide +kernel
theorem dX1_howMany_19 : decode cX1_howMany 19 = .ok (.istore_n 2, 1) := by decide +kernel
theorem dX1_howMany_20 : decode cX1_howMany 20 = .ok (.iinc 3 1, 3) := by decide +kernel
theorem dX1_howMany_23 : decode cX1_howMany 23 = .ok (.goto (-19), 3) := by decide +kernel
theorem dX1_howMany_32 : decode cX1_howMany 32 = .ok (.aload_n 0, 1) := by decide +kernel
theorem dX1_howMany_33 : decode cX1_howMany 33 = .ok (.iload_n 2, 1) := by decide +kernel
theorem dX1_howMany_34 : decode cX1_howMany 34 = .ok (.invokevirtual 80, 3) := by decide +kernel
theorem dX1_cast_0 : decode cX1_cast 0 = .ok (.aload_n 0, 1) := by decide +kernel
theorem dX1_cast_1 : decode cX1_cast 1 = .ok (.aload_n 0, 1) := by decide +kernel
theorem dX1_cast_2 : decode cX1_cast 2 = .ok (.getfield 68, 3) := by decide +kernel
theorem dX1_cast_5 : decode cX1_cast 5 = .ok (.ldc 87, 2) := by decide +kernel
theorem dX1_cast_7 : decode cX1_cast 7 = .ok (.imul, 1) := by decide +kernel
theorem dX1_cast_8 : decode cX1_cast 8 = .ok (.sipush 12345, 3) := by decide +kernel
theorem dX1_cast_11 : decode cX1_cast 11 = .ok (.iadd, 1) := by decide +kernel
theorem dX1_cast_12 : decode cX1_cast 12 = .ok (.ldc 88, 2) := by decide +kernel
theorem dX1_cast_14 : decode cX1_cast 14 = .ok (.iand, 1) := by decide +kernel
theorem dX1_cast_15 : decode cX1_cast 15 = .ok (.putfield 68, 3) := by decide +kernel
theorem dX1_cast_18 : decode cX1_cast 18 = .ok (.iload_n 1, 1) := by decide +kernel
theorem dX1_cast_19 : decode cX1_cast 19 = .ok (.ifCond .le 15, 3) := by decide +kernel
theorem dX1_cast_22 : decode cX1_cast 22 = .ok (.aload_n 0, 1) := by decide +kernel
theorem dX1_cast_23 : decode cX1_cast 23 = .ok (.getfield 68, 3) := by decide +kernel
theorem dX1_cast_26 : decode cX1_cast 26 = .ok (.bipush 16, 2) := by decide +kernel
theorem dX1_cast_28 : decode cX1_cast 28 = .ok (.ishr, 1) := by decide +kernel
theorem dX1_cast_29 : decode cX1_cast 29 = .ok (.iload_n 1, 1) := by decide +kernel
theorem dX1_cast_30 : decode cX1_cast 30 = .ok (.irem, 1) := by decide +kernel
theorem dX1_cast_31 : decode cX1_cast 31 = .ok (.goto 4, 3) := by decide +kernel
theorem dX1_cast_34 : decode cX1_cast 34 = .ok (.iconst 0, 1) := by decide +kernel
theorem dX1_cast_35 : decode cX1_cast 35 = .ok (.ireturn, 1) := by decide +kernel
set_option maxHeartbeats 4000000 in
set_option maxRecDepth 100000 in
theorem s_X1_cast {P : PP} {a0 : Nat} {a1 : Int32} (I : IV P) (ha0 : At P a0 1) : CtrI yX1_cast cX1_cast 2 (some Jvm.ClassFile.FieldType.int) ({ frames := 1, cells := 0, slots := 0, locals := 64 } : Room) 0 0 P [.ref a0, .int a1] (fun r P2 => IV P2 ∧ EK [1] P P2 ∧ (True)) := by
  refine enI (lv := [(0, .ref a0), (1, .int a1)]) (by decide) (Nat.le_of_ble_eq_true rfl) rfl (fun E D cy C Ci0 ret => ?_)
  refine g_aload_n C dX1_cast_0 rfl 0 rfl ?_
  refine g_aload_n C dX1_cast_1 rfl 0 rfl ?_
  refine g_getI C fi_X1_68 (by decide) (ha0).1 (ha0).2 dX1_cast_2 ?_
  refine g_ldc (v := 1103515245) C kc_X1_87 dX1_cast_5 ?_
  refine a_imul C dX1_cast_7 (fun z6558 => ?_)
  refine g_sipush (v := 12345) C dX1_cast_8 (by decide) ?_
  refine a_iadd C dX1_cast_11 (fun z6560 => ?_)
  refine g_ldc (v := 2147483647) C kc_X1_88 dX1_cast_12 ?_
  refine s_iand C dX1_cast_14 (by show 0 ≤ 2147483647; omega) (fun z6562 h6563 => ?_)
  have h6563 : 0 ≤ z6562.toInt ∧ z6562.toInt ≤ 2147483647 := h6563
  refine g_putI C fi_X1_68 rfl (ha0).1 (ha0).2 dX1_cast_15 ?_
  refine gpW (ks := [1]) (I.setI (ha0) (rgOk.none rfl)) (EK.setI (ha0).2 (by decide)) (fun Y6564 Iy6565 Xy6566 w6567 w6568 => ?_)
  have Xz6569 : EK [1] P Y6564 := Xy6566.mono (by decide)
  have h6570 := Xy6566.at ha0
  refine g_iload_n C dX1_cast_18 rfl 1 rfl ?_
  have u6572 := ti_rng a1
  refine b_if_le C 34 dX1_cast_19 (by decide) (fun h6571 => ?_) (fun h6571 => ?_)
  · have h6571 : a1.toInt ≤ 0 := h6571
    refine g_iconst (v := 0) C dX1_cast_34 (by decide) ?_
    exact ret _ _ _ _ _ _ dX1_cast_35 rfl (by decide) (by decide) ⟨Iy6565, Xz6569, trivial⟩
  · have h6571 : 0 < a1.toInt := h6571
    refine g_aload_n C dX1_cast_22 rfl 0 rfl ?_
    refine g_getI C fi_X1_68 (by decide) (h6570).1 (h6570).2 dX1_cast_23 ?_
    refine g_bipush (v := 16) C dX1_cast_26 (by decide) ?_
    refine a_ishr C dX1_cast_28 (fun z6573 => ?_)
    refine g_iload_n C dX1_cast_29 rfl 1 rfl ?_
    refine a_irem C dX1_cast_30 (by show a1.toInt ≠ 0; omega) (fun z6575 => ?_)
    refine g_goto C 35 dX1_cast_31 (by decide) ?_
    exact ret _ _ _ _ _ _ dX1_cast_35 rfl (by decide) (by decide) ⟨Iy6565, Xz6569, trivial⟩
theorem dX1_howMany_37 : decode cX1_howMany 37 = .ok (.istore_n 3, 1) := by decide +kernel
theorem dX1_howMany_38 : decode cX1_howMany 38 = .ok (.iconst 0, 1) := by decide +kernel
theorem dX1_howMany_39 : decode cX1_howMany 39 = .ok (.istore 4, 2) := by decide +kernel
theorem dX1_howMany_41 : decode cX1_howMany 41 = .ok (.iconst 1, 1) := by decide +kernel
theorem dX1_howMany_42 : decode cX1_howMany 42 = .ok (.istore 5, 2) := by decide +kernel
theorem dX1_howMany_44 : decode cX1_howMany 44 = .ok (.iload 5, 2) := by decide +kernel
theorem dX1_howMany_46 : decode cX1_howMany 46 = .ok (.iload_n 1, 1) := by decide +kernel
theorem dX1_howMany_47 : decode cX1_howMany 47 = .ok (.if_icmp .gt 32, 3) := by decide +kernel
theorem dX1_howMany_50 : decode cX1_howMany 50 = .ok (.iload 4, 2) := by decide +kernel
theorem dX1_howMany_52 : decode cX1_howMany 52 = .ok (.aload_n 0, 1) := by decide +kernel
theorem dX1_howMany_53 : decode cX1_howMany 53 = .ok (.getfield 18, 3) := by decide +kernel
theorem dX1_howMany_56 : decode cX1_howMany 56 = .ok (.iload 5, 2) := by decide +kernel
theorem dX1_howMany_58 : decode cX1_howMany 58 = .ok (.invokevirtual 89, 3) := by decide +kernel
theorem dX1_howMany_61 : decode cX1_howMany 61 = .ok (.iadd, 1) := by decide +kernel
theorem dX1_howMany_62 : decode cX1_howMany 62 = .ok (.istore 4, 2) := by decide +kernel
theorem dX1_howMany_64 : decode cX1_howMany 64 = .ok (.iload 4, 2) := by decide +kernel
theorem dX1_howMany_66 : decode cX1_howMany 66 = .ok (.iload_n 3, 1) := by decide +kernel
theorem dX1_howMany_67 : decode cX1_howMany 67 = .ok (.if_icmp .le 6, 3) := by decide +kernel
theorem dX1_howMany_70 : decode cX1_howMany 70 = .ok (.iload 5, 2) := by decide +kernel
theorem dX1_howMany_72 : decode cX1_howMany 72 = .ok (.ireturn, 1) := by decide +kernel
theorem dX1_howMany_73 : decode cX1_howMany 73 = .ok (.iinc 5 1, 3) := by decide +kernel
theorem dX1_howMany_76 : decode cX1_howMany 76 = .ok (.goto (-32), 3) := by decide +kernel
theorem dX1_howMany_79 : decode cX1_howMany 79 = .ok (.iconst 1, 1) := by decide +kernel
theorem dX1_howMany_80 : decode cX1_howMany 80 = .ok (.ireturn, 1) := by decide +kernel
set_option maxHeartbeats 4000000 in
set_option maxRecDepth 100000 in
theorem s_X1_howMany {P : PP} {a0 : Nat} {a1 : Int32} (I : IV P) (ha0 : At P a0 1) (ha1 : 0 ≤ a1.toInt ∧ a1.toInt ≤ 20) : CtrI yX1_howMany cX1_howMany 6 (some Jvm.ClassFile.FieldType.int) ({ frames := 2, cells := 0, slots := 0, locals := 128 } : Room) 0 0 P [.ref a0, .int a1] (fun r P2 => IV P2 ∧ EK [1] P P2 ∧ (1 ≤ r.toInt ∧ r.toInt ≤ 20)) := by
  refine enI (lv := [(0, .ref a0), (1, .int a1)]) (by decide) (Nat.le_of_ble_eq_true rfl) rfl (fun E D cy C Ci0 ret => ?_)
  have J44 : ∀ (n44 : Nat) (P44 : PP) (v44_3 : Int32) (v44_4 : Int32) (v44_5 : Int32), (21 - v44_5.toInt).toNat < n44 → (IV P44) → (EK [1] P P44) → (1 ≤ v44_5.toInt ∧ v44_5.toInt ≤ 21) → G E ({ frames := 2, cells := 0, slots := 0, locals := 128 } : Room) D cy 6 P44 0 0 44 [(0, .ref a0), (1, .int a1), (3, .int v44_3), (4, .int v44_4), (5, .int v44_5)] [] := by
    intro n44
    induction n44 with
    | zero => intro P44 v44_3 v44_4 v44_5 hm44 I44 X44 hv44_5; omega
    | succ n44 ih44 =>
      intro P44 v44_3 v44_4 v44_5 hm44 I44 X44 hv44_5
      have h7024 := X44.at ha0
      refine g_iload C dX1_howMany_44 4 rfl ?_
      refine g_iload_n C dX1_howMany_46 rfl 1 rfl ?_
      refine b_icmp_gt C 79 dX1_howMany_47 (by decide) (fun h7025 => ?_) (fun h7025 => ?_)
      · have h7025 : a1.toInt < v44_5.toInt := h7025
        refine g_iconst (v := 1) C dX1_howMany_79 (by decide) ?_
        exact ret _ _ _ _ _ _ dX1_howMany_80 rfl (by decide) (by decide) ⟨I44, X44, (by decide)⟩
      · have h7025 : v44_5.toInt ≤ a1.toInt := h7025
        refine g_iload C dX1_howMany_50 3 rfl ?_
        refine g_aload_n C dX1_howMany_52 rfl 0 rfl ?_
        obtain ⟨b7026, e7027, h7028⟩ := I44.fld (h7024) 2 3 0 rfl
        refine g_getR C fi_X1_18 rfl e7027 (h7024).1 (h7024).2 dX1_howMany_53 ?_
        refine g_iload C dX1_howMany_56 4 rfl ?_
        refine g_callVI (rest := [.int v44_4]) C mv_X1_89 [.int v44_5] (s_X3_oddsOf I44 h7028.at) (h7028.at).1 (h7028.at).2 rfl rfl (by decide) (Nat.le_of_ble_eq_true rfl) (by decide) dX1_howMany_58 (fun r7029 Y7030 h7031 => ?_)
        obtain ⟨rfl, h7031⟩ := h7031
        have h7031 : True := h7031
        refine a_iadd C dX1_howMany_61 (fun z7032 => ?_)
        refine g_istore (lv' := [(4, .int z7032), (0, .ref a0), (1, .int a1), (3, .int v44_3), (5, .int v44_5)]) C dX1_howMany_62 (by decide) rfl ?_
        refine g_iload C dX1_howMany_64 0 rfl ?_
        refine g_iload_n C dX1_howMany_66 rfl 3 rfl ?_
        have u7035 := ti_rng z7032
        have u7036 := ti_rng v44_3
        refine b_icmp_le C 73 dX1_howMany_67 (by decide) (fun h7034 => ?_) (fun h7034 => ?_)
        · have h7034 : z7032.toInt ≤ v44_3.toInt := h7034
          refine s_iinc (lv0 := [(4, .int z7032), (0, .ref a0), (1, .int a1), (3, .int v44_3)]) (m := 1) C dX1_howMany_73 4 rfl (by decide) rfl (by decide) (by omega) (fun z7037 h7038 => ?_)
          have h7038 : z7037.toInt = v44_5.toInt + 1 := h7038
          refine g_goto C 44 dX1_howMany_76 (by decide) ?_
          refine g_lv (lv' := [(0, .ref a0), (1, .int a1), (3, .int v44_3), (4, .int z7032), (5, .int z7037)]) [2, 3, 4, 1, 0] rfl ?_
          exact ih44 P44 v44_3 z7032 z7037 (by omega) I44 X44 (by omega)
        · have h7034 : v44_3.toInt < z7032.toInt := h7034
          refine g_iload C dX1_howMany_70 4 rfl ?_
          exact ret _ _ _ _ _ _ dX1_howMany_72 rfl (by decide) (by decide) ⟨I44, X44, (by omega)⟩
  have J4 : ∀ (n4 : Nat) (v4_2 : Int32) (v4_3 : Int32), (21 - v4_3.toInt).toNat < n4 → (1 ≤ v4_3.toInt ∧ v4_3.toInt ≤ 21) → G E ({ frames := 2, cells := 0, slots := 0, locals := 128 } : Room) D cy 6 P 0 0 4 [(0, .ref a0), (1, .int a1), (2, .int v4_2), (3, .int v4_3)] [] := by
    intro n4
    induction n4 with
    | zero => intro v4_2 v4_3 hm4 hv4_3; omega
    | succ n4 ih4 =>
      intro v4_2 v4_3 hm4 hv4_3
      refine g_iload_n C dX1_howMany_4 rfl 3 rfl ?_
      refine g_iload_n C dX1_howMany_5 rfl 1 rfl ?_
      refine b_icmp_gt C 26 dX1_howMany_6 (by decide) (fun h7039 => ?_) (fun h7039 => ?_)
      · have h7039 : a1.toInt < v4_3.toInt := h7039
        refine g_iload_n C dX1_howMany_26 rfl 2 rfl ?_
        have u7041 := ti_rng v4_2
        refine b_if_ne C 32 dX1_howMany_27 (by decide) (fun h7040 => ?_) (fun h7040 => ?_)
        · have h7040 : v4_2.toInt ≠ 0 := ti_ne h7040
          refine g_aload_n C dX1_howMany_32 rfl 0 rfl ?_
          refine g_iload_n C dX1_howMany_33 rfl 2 rfl ?_
          refine g_callVI (rest := []) C mv_X1_80 [.int v4_2] (s_X1_cast I ha0) (ha0).1 (ha0).2 rfl rfl (by decide) (Nat.le_of_ble_eq_true rfl) (by decide) dX1_howMany_34 (fun r7042 Y7043 h7044 => ?_)
          obtain ⟨Iy7045, Xy7046, h7044⟩ := h7044
          have Xz7047 : EK [1] P Y7043 := Xy7046.mono (by decide)
          have h7048 := Xy7046.at ha0
          have h7044 : True := h7044
          refine g_istore_n (lv' := [(3, .int r7042), (0, .ref a0), (1, .int a1), (2, .int v4_2)]) C dX1_howMany_37 rfl (by decide) rfl ?_
          refine g_iconst (v := 0) C dX1_howMany_38 (by decide) ?_
          refine g_istore (lv' := [(4, .int 0), (3, .int r7042), (0, .ref a0), (1, .int a1), (2, .int v4_2)]) C dX1_howMany_39 (by decide) rfl ?_
          refine g_iconst (v := 1) C dX1_howMany_41 (by decide) ?_
          refine g_istore (lv' := [(5, .int 1), (4, .int 0), (3, .int r7042), (0, .ref a0), (1, .int a1), (2, .int v4_2)]) C dX1_howMany_42 (by decide) rfl ?_
          refine g_lv (lv' := [(0, .ref a0), (1, .int a1), (3, .int r7042), (4, .int 0), (5, .int 1)]) [3, 4, 2, 1, 0] rfl ?_
          exact J44 _ Y7043 r7042 0 1 (Nat.lt_succ_self _) Iy7045 Xz7047 (by decide)
        · have h7040 : v4_2.toInt = 0 := congrArg Int32.toInt h7040
          refine g_iconst (v := 1) C dX1_howMany_30 (by decide) ?_
          exact ret _ _ _ _ _ _ dX1_howMany_31 rfl (by decide) (by decide) ⟨I, EK.rf, (by decide)⟩
      · have h7039 : v4_3.toInt ≤ a1.toInt := h7039
        refine g_iload_n C dX1_howMany_9 rfl 2 rfl ?_
        refine g_aload_n C dX1_howMany_10 rfl 0 rfl ?_
        obtain ⟨b7049, e7050, h7051⟩ := I.fld (ha0) 2 3 0 rfl
        refine g_getR C fi_X1_18 rfl e7050 (ha0).1 (ha0).2 dX1_howMany_11 ?_
        refine g_iload_n C dX1_howMany_14 rfl 3 rfl ?_
        refine g_callVI (rest := [.int v4_2]) C mv_X1_89 [.int v4_3] (s_X3_oddsOf I h7051.at) (h7051.at).1 (h7051.at).2 rfl rfl (by decide) (Nat.le_of_ble_eq_true rfl) (by decide) dX1_howMany_15 (fun r7052 Y7053 h7054 => ?_)
        obtain ⟨rfl, h7054⟩ := h7054
        have h7054 : True := h7054
        refine a_iadd C dX1_howMany_18 (fun z7055 => ?_)
        refine g_istore_n (lv' := [(2, .int z7055), (0, .ref a0), (1, .int a1), (3, .int v4_3)]) C dX1_howMany_19 rfl (by decide) rfl ?_
        refine s_iinc (lv0 := [(2, .int z7055), (0, .ref a0), (1, .int a1)]) (m := 1) C dX1_howMany_20 3 rfl (by decide) rfl (by decide) (by omega) (fun z7057 h7058 => ?_)
        have h7058 : z7057.toInt = v4_3.toInt + 1 := h7058
        refine g_goto C 4 dX1_howMany_23 (by decide) ?_
        refine g_lv (lv' := [(0, .ref a0), (1, .int a1), (2, .int z7055), (3, .int z7057)]) [2, 3, 1, 0] rfl ?_
        exact ih4 z7055 z7057 (by omega) (by omega)
  refine g_iconst (v := 0) C dX1_howMany_0 (by decide) ?_
  refine g_istore_n (lv' := [(2, .int 0), (0, .ref a0), (1, .int a1)]) C dX1_howMany_1 rfl (by decide) rfl ?_
  refine g_iconst (v := 1) C dX1_howMany_2 (by decide) ?_
  refine g_istore_n (lv' := [(3, .int 1), (2, .int 0), (0, .ref a0), (1, .int a1)]) C dX1_howMany_3 rfl (by decide) rfl ?_
  refine g_lv (lv' := [(0, .ref a0), (1, .int a1), (2, .int 0), (3, .int 1)]) [2, 3, 1, 0] rfl ?_
  exact J4 _ 0 1 (Nat.lt_succ_self _) (by decide)
theorem dX1_drawPages_28 : decode cX1_drawPages 28 = .ok (.aload_n 0, 1) := by decide +kernel
theorem dX1_drawPages_29 : decode cX1_drawPages 29 = .ok (.iload_n 2, 1) := by decide +kernel
theorem dX1_drawPages_30 : decode cX1_drawPages 30 = .ok (.invokevirtual 71, 3) := by decide +kernel
theorem dX1_castDegree_0 : decode cX1_castDegree 0 = .ok (.aload_n 0, 1) := by decide +kernel
theorem dX1_castDegree_1 : decode cX1_castDegree 1 = .ok (.iconst 1, 1) := by decide +kernel
theorem dX1_castDegree_2 : decode cX1_castDegree 2 = .ok (.invokevirtual 80, 3) := by decide +kernel
theorem dX1_castDegree_5 : decode cX1_castDegree 5 = .ok (.pop, 1) := by decide +kernel
theorem dX1_castDegree_6 : decode cX1_castDegree 6 = .ok (.iload_n 1, 1) := by decide +kernel
theorem dX1_castDegree_7 : decode cX1_castDegree 7 = .ok (.ireturn, 1) := by decide +kernel
set_option maxHeartbeats 4000000 in
set_option maxRecDepth 100000 in
theorem s_X1_castDegree {P : PP} {a0 : Nat} {a1 : Int32} (I : IV P) (ha0 : At P a0 1) (ha1 : 0 ≤ a1.toInt ∧ a1.toInt ≤ 20) : CtrI yX1_castDegree cX1_castDegree 2 (some Jvm.ClassFile.FieldType.int) ({ frames := 2, cells := 0, slots := 0, locals := 128 } : Room) 0 0 P [.ref a0, .int a1] (fun r P2 => IV P2 ∧ EK [1] P P2 ∧ (0 ≤ r.toInt ∧ r.toInt ≤ 20)) := by
  refine enI (lv := [(0, .ref a0), (1, .int a1)]) (by decide) (Nat.le_of_ble_eq_true rfl) rfl (fun E D cy C Ci0 ret => ?_)
  refine g_aload_n C dX1_castDegree_0 rfl 0 rfl ?_
  refine g_iconst (v := 1) C dX1_castDegree_1 (by decide) ?_
  refine g_callVI (rest := []) C mv_X1_80 [.int 1] (s_X1_cast I ha0) (ha0).1 (ha0).2 rfl rfl (by decide) (Nat.le_of_ble_eq_true rfl) (by decide) dX1_castDegree_2 (fun r7094 Y7095 h7096 => ?_)
  obtain ⟨Iy7097, Xy7098, h7096⟩ := h7096
  have Xz7099 : EK [1] P Y7095 := Xy7098.mono (by decide)
  have h7100 := Xy7098.at ha0
  have h7096 : True := h7096
  refine g_pop C dX1_castDegree_5 rfl ?_
  refine g_iload_n C dX1_castDegree_6 rfl 1 rfl ?_
  exact ret _ _ _ _ _ _ dX1_castDegree_7 rfl (by decide) (by decide) ⟨Iy7097, Xz7099, (by omega)⟩
theorem dX1_drawPages_33 : decode cX1_drawPages 33 = .ok (.goto 8, 3) := by decide +kernel
theorem dX1_drawPages_41 : decode cX1_drawPages 41 = .ok (.istore 4, 2) := by decide +kernel
theorem dX1_drawPages_43 : decode cX1_drawPages 43 = .ok (.iconst 0, 1) := by decide +kernel
theorem dX1_drawPages_44 : decode cX1_drawPages 44 = .ok (.istore 5, 2) := by decide +kernel
theorem dX1_drawPages_46 : decode cX1_drawPages 46 = .ok (.iconst 0, 1) := by decide +kernel
theorem dX1_drawPages_47 : decode cX1_drawPages 47 = .ok (.istore 6, 2) := by decide +kernel
theorem dX1_drawPages_49 : decode cX1_drawPages 49 = .ok (.iload 6, 2) := by decide +kernel
theorem dX1_drawPages_51 : decode cX1_drawPages 51 = .ok (.iload_n 3, 1) := by decide +kernel
theorem dX1_drawPages_52 : decode cX1_drawPages 52 = .ok (.if_icmp .ge 20, 3) := by decide +kernel
theorem dX1_drawPages_55 : decode cX1_drawPages 55 = .ok (.iload 5, 2) := by decide +kernel
theorem dX1_drawPages_57 : decode cX1_drawPages 57 = .ok (.aload_n 0, 1) := by decide +kernel
theorem dX1_drawPages_58 : decode cX1_drawPages 58 = .ok (.iload 6, 2) := by decide +kernel
theorem dX1_drawPages_60 : decode cX1_drawPages 60 = .ok (.invokevirtual 77, 3) := by decide +kernel
theorem dX1_drawPages_72 : decode cX1_drawPages 72 = .ok (.iconst 0, 1) := by decide +kernel
theorem dX1_drawPages_73 : decode cX1_drawPages 73 = .ok (.istore 6, 2) := by decide +kernel
theorem dX1_drawPages_75 : decode cX1_drawPages 75 = .ok (.iconst 0, 1) := by decide +kernel
theorem dX1_drawPages_76 : decode cX1_drawPages 76 = .ok (.istore 7, 2) := by decide +kernel
theorem dX1_weightOf_0 : decode cX1_weightOf 0 = .ok (.iload_n 1, 1) := by decide +kernel
theorem dX1_weightOf_1 : decode cX1_weightOf 1 = .ok (.aload_n 0, 1) := by decide +kernel
theorem dX1_weightOf_2 : decode cX1_weightOf 2 = .ok (.getfield 33, 3) := by decide +kernel
theorem dX1_weightOf_5 : decode cX1_weightOf 5 = .ok (.if_icmp .ge 24, 3) := by decide +kernel
theorem dX1_weightOf_8 : decode cX1_weightOf 8 = .ok (.iload_n 1, 1) := by decide +kernel
theorem dX1_weightOf_9 : decode cX1_weightOf 9 = .ok (.aload_n 0, 1) := by decide +kernel
theorem dX1_weightOf_10 : decode cX1_weightOf 10 = .ok (.getfield 18, 3) := by decide +kernel
theorem dX1_weightOf_13 : decode cX1_weightOf 13 = .ok (.getfield 92, 3) := by decide +kernel
theorem dX1_weightOf_16 : decode cX1_weightOf 16 = .ok (.if_icmp .ge 13, 3) := by decide +kernel
theorem dX1_weightOf_19 : decode cX1_weightOf 19 = .ok (.aload_n 0, 1) := by decide +kernel
theorem dX1_weightOf_20 : decode cX1_weightOf 20 = .ok (.getfield 18, 3) := by decide +kernel
theorem dX1_weightOf_23 : decode cX1_weightOf 23 = .ok (.getfield 95, 3) := by decide +kernel
theorem dX1_weightOf_26 : decode cX1_weightOf 26 = .ok (.goto 4, 3) := by decide +kernel
theorem dX1_weightOf_29 : decode cX1_weightOf 29 = .ok (.iconst 1, 1) := by decide +kernel
theorem dX1_weightOf_30 : decode cX1_weightOf 30 = .ok (.ireturn, 1) := by decide +kernel
set_option maxHeartbeats 4000000 in
set_option maxRecDepth 100000 in
theorem s_X1_weightOf {P : PP} {a0 : Nat} {a1 : Int32} (I : IV P) (ha0 : At P a0 1) : CtrI yX1_weightOf cX1_weightOf 2 (some Jvm.ClassFile.FieldType.int) ({ frames := 1, cells := 0, slots := 0, locals := 64 } : Room) 0 0 P [.ref a0, .int a1] (fun r P2 => P = P2 ∧ (True)) := by
  refine enI (lv := [(0, .ref a0), (1, .int a1)]) (by decide) (Nat.le_of_ble_eq_true rfl) rfl (fun E D cy C Ci0 ret => ?_)
  have J29 : G E ({ frames := 1, cells := 0, slots := 0, locals := 64 } : Room) D cy 2 P 0 0 29 [] [] := by
    refine g_iconst (v := 1) C dX1_weightOf_29 (by decide) ?_
    exact ret _ _ _ _ _ _ dX1_weightOf_30 rfl (by decide) (by decide) ⟨rfl, trivial⟩
  refine g_iload_n C dX1_weightOf_0 rfl 1 rfl ?_
  refine g_aload_n C dX1_weightOf_1 rfl 0 rfl ?_
  refine g_getI C fi_X1_33 (by decide) (ha0).1 (ha0).2 dX1_weightOf_2 ?_
  have h7148 := I.rg (ha0) 5 rfl
  have u7150 := ti_rng a1
  refine b_icmp_ge C 29 dX1_weightOf_5 (by decide) (fun h7149 => ?_) (fun h7149 => ?_)
  · have h7149 : (pI P a0 5).toInt ≤ a1.toInt := h7149
    refine g_lv (lv' := []) [] rfl ?_
    exact J29 
  · have h7149 : a1.toInt < (pI P a0 5).toInt := h7149
    refine g_iload_n C dX1_weightOf_8 rfl 1 rfl ?_
    refine g_aload_n C dX1_weightOf_9 rfl 0 rfl ?_
    obtain ⟨b7151, e7152, h7153⟩ := I.fld (ha0) 2 3 0 rfl
    refine g_getR C fi_X1_18 rfl e7152 (ha0).1 (ha0).2 dX1_weightOf_10 ?_
    refine g_getI C fi_X1_92 (by decide) (h7153.at).1 (h7153.at).2 dX1_weightOf_13 ?_
    have u7155 := ti_rng a1
    have u7156 := ti_rng (pI P b7151 3)
    refine b_icmp_ge C 29 dX1_weightOf_16 (by decide) (fun h7154 => ?_) (fun h7154 => ?_)
    · have h7154 : (pI P b7151 3).toInt ≤ a1.toInt := h7154
      refine g_lv (lv' := []) [] rfl ?_
      exact J29 
    · have h7154 : a1.toInt < (pI P b7151 3).toInt := h7154
      refine g_aload_n C dX1_weightOf_19 rfl 0 rfl ?_
      refine g_getR C fi_X1_18 rfl e7152 (ha0).1 (ha0).2 dX1_weightOf_20 ?_
      refine g_getI C fi_X1_95 (by decide) (h7153.at).1 (h7153.at).2 dX1_weightOf_23 ?_
      refine g_goto C 30 dX1_weightOf_26 (by decide) ?_
      exact ret _ _ _ _ _ _ dX1_weightOf_30 rfl (by decide) (by decide) ⟨rfl, trivial⟩
theorem dX1_drawPages_63 : decode cX1_drawPages 63 = .ok (.iadd, 1) := by decide +kernel
theorem dX1_drawPages_64 : decode cX1_drawPages 64 = .ok (.istore 5, 2) := by decide +kernel
theorem dX1_drawPages_66 : decode cX1_drawPages 66 = .ok (.iinc 6 1, 3) := by decide +kernel
theorem dX1_drawPages_69 : decode cX1_drawPages 69 = .ok (.goto (-20), 3) := by decide +kernel
theorem dX1_drawPages_78 : decode cX1_drawPages 78 = .ok (.iload 7, 2) := by decide +kernel
theorem dX1_drawPages_80 : decode cX1_drawPages 80 = .ok (.iload 4, 2) := by decide +kernel
theorem dX1_drawPages_82 : decode cX1_drawPages 82 = .ok (.if_icmp .ge 44, 3) := by decide +kernel
theorem dX1_drawPages_85 : decode cX1_drawPages 85 = .ok (.aload_n 0, 1) := by decide +kernel
theorem dX1_drawPages_86 : decode cX1_drawPages 86 = .ok (.iload 6, 2) := by decide +kernel
theorem dX1_drawPages_88 : decode cX1_drawPages 88 = .ok (.iload_n 3, 1) := by decide +kernel
theorem dX1_drawPages_89 : decode cX1_drawPages 89 = .ok (.aload_n 0, 1) := by decide +kernel
theorem dX1_drawPages_90 : decode cX1_drawPages 90 = .ok (.iload 5, 2) := by decide +kernel
theorem dX1_drawPages_92 : decode cX1_drawPages 92 = .ok (.invokevirtual 80, 3) := by decide +kernel
theorem dX1_drawPages_95 : decode cX1_drawPages 95 = .ok (.invokevirtual 83, 3) := by decide +kernel
theorem dX1_drawPages_126 : decode cX1_drawPages 126 = .ok (.iload 6, 2) := by decide +kernel
theorem dX1_drawPages_128 : decode cX1_drawPages 128 = .ok (.ireturn, 1) := by decide +kernel
theorem dX1_pickBeside_0 : decode cX1_pickBeside 0 = .ok (.iconst 0, 1) := by decide +kernel
theorem dX1_pickBeside_1 : decode cX1_pickBeside 1 = .ok (.istore 4, 2) := by decide +kernel
theorem dX1_pickBeside_3 : decode cX1_pickBeside 3 = .ok (.iconst 0, 1) := by decide +kernel
theorem dX1_pickBeside_4 : decode cX1_pickBeside 4 = .ok (.istore 5, 2) := by decide +kernel
theorem dX1_pickBeside_6 : decode cX1_pickBeside 6 = .ok (.iload 5, 2) := by decide +kernel
theorem dX1_pickBeside_8 : decode cX1_pickBeside 8 = .ok (.iload_n 2, 1) := by decide +kernel
theorem dX1_pickBeside_9 : decode cX1_pickBeside 9 = .ok (.if_icmp .ge 38, 3) := by decide +kernel
theorem dX1_pickBeside_12 : decode cX1_pickBeside 12 = .ok (.iload_n 1, 1) := by decide +kernel
theorem dX1_pickBeside_13 : decode cX1_pickBeside 13 = .ok (.iload 5, 2) := by decide +kernel
theorem dX1_pickBeside_15 : decode cX1_pickBeside 15 = .ok (.ishr, 1) := by decide +kernel
theorem dX1_pickBeside_16 : decode cX1_pickBeside 16 = .ok (.iconst 1, 1) := by decide +kernel
theorem dX1_pickBeside_17 : decode cX1_pickBeside 17 = .ok (.iand, 1) := by decide +kernel
theorem dX1_pickBeside_18 : decode cX1_pickBeside 18 = .ok (.ifCond .ne 23, 3) := by decide +kernel
theorem dX1_pickBeside_21 : decode cX1_pickBeside 21 = .ok (.iload 4, 2) := by decide +kernel
theorem dX1_pickBeside_23 : decode cX1_pickBeside 23 = .ok (.aload_n 0, 1) := by decide +kernel
theorem dX1_pickBeside_24 : decode cX1_pickBeside 24 = .ok (.iload 5, 2) := by decide +kernel
theorem dX1_pickBeside_26 : decode cX1_pickBeside 26 = .ok (.invokevirtual 77, 3) := by decide +kernel
theorem dX1_pickBeside_29 : decode cX1_pickBeside 29 = .ok (.iadd, 1) := by decide +kernel
theorem dX1_pickBeside_30 : decode cX1_pickBeside 30 = .ok (.istore 4, 2) := by decide +kernel
theorem dX1_pickBeside_32 : decode cX1_pickBeside 32 = .ok (.iload 4, 2) := by decide +kernel
theorem dX1_pickBeside_34 : decode cX1_pickBeside 34 = .ok (.iload_n 3, 1) := by decide +kernel
theorem dX1_pickBeside_35 : decode cX1_pickBeside 35 = .ok (.if_icmp .le 6, 3) := by decide +kernel
theorem dX1_pickBeside_38 : decode cX1_pickBeside 38 = .ok (.iload 5, 2) := by decide +kernel
theorem dX1_pickBeside_40 : decode cX1_pickBeside 40 = .ok (.ireturn, 1) := by decide +kernel
theorem dX1_pickBeside_41 : decode cX1_pickBeside 41 = .ok (.iinc 5 1, 3) := by decide +kernel
theorem dX1_pickBeside_44 : decode cX1_pickBeside 44 = .ok (.goto (-38), 3) := by decide +kernel
theorem dX1_pickBeside_47 : decode cX1_pickBeside 47 = .ok (.iconst 0, 1) := by decide +kernel
theorem dX1_pickBeside_48 : decode cX1_pickBeside 48 = .ok (.ireturn, 1) := by decide +kernel
set_option maxHeartbeats 4000000 in
set_option maxRecDepth 100000 in
theorem s_X1_pickBeside {P : PP} {a0 : Nat} {a1 : Int32} {a2 : Int32} {a3 : Int32} (I : IV P) (ha0 : At P a0 1) (ha2 : 0 ≤ a2.toInt ∧ a2.toInt ≤ 20) : CtrI yX1_pickBeside cX1_pickBeside 6 (some Jvm.ClassFile.FieldType.int) ({ frames := 2, cells := 0, slots := 0, locals := 128 } : Room) 0 0 P [.ref a0, .int a1, .int a2, .int a3] (fun r P2 => P = P2 ∧ (0 ≤ r.toInt ∧ r.toInt ≤ 19)) := by
  refine enI (lv := [(0, .ref a0), (1, .int a1), (2, .int a2), (3, .int a3)]) (by decide) (Nat.le_of_ble_eq_true rfl) rfl (fun E D cy C Ci0 ret => ?_)
  have J6 : ∀ (n6 : Nat) (v6_4 : Int32) (v6_5 : Int32), (20 - v6_5.toInt).toNat < n6 → (0 ≤ v6_5.toInt ∧ v6_5.toInt ≤ 20) → G E ({ frames := 2, cells := 0, slots := 0, locals := 128 } : Room) D cy 6 P 0 0 6 [(0, .ref a0), (1, .int a1), (2, .int a2), (3, .int a3), (4, .int v6_4), (5, .int v6_5)] [] := by
    intro n6
    induction n6 with
    | zero => intro v6_4 v6_5 hm6 hv6_5; omega
    | succ n6 ih6 =>
      intro v6_4 v6_5 hm6 hv6_5
      have J41 : ∀ (v41_4 : Int32), (1 ≤ a2.toInt ∧ a2.toInt ≤ 20) → (0 ≤ v6_5.toInt ∧ v6_5.toInt ≤ 19) → G E ({ frames := 2, cells := 0, slots := 0, locals := 128 } : Room) D cy 6 P 0 0 41 [(0, .ref a0), (1, .int a1), (2, .int a2), (3, .int a3), (4, .int v41_4), (5, .int v6_5)] [] := by
        intro v41_4 hv41_2 hv41_5
        refine s_iinc (lv0 := [(0, .ref a0), (1, .int a1), (2, .int a2), (3, .int a3), (4, .int v41_4)]) (m := 1) C dX1_pickBeside_41 5 rfl (by decide) rfl (by decide) (by omega) (fun z7419 h7420 => ?_)
        have h7420 : z7419.toInt = v6_5.toInt + 1 := h7420
        refine g_goto C 6 dX1_pickBeside_44 (by decide) ?_
        refine g_lv (lv' := [(0, .ref a0), (1, .int a1), (2, .int a2), (3, .int a3), (4, .int v41_4), (5, .int z7419)]) [1, 2, 3, 4, 5, 0] rfl ?_
        exact ih6 v41_4 z7419 (by omega) (by omega)
      refine g_iload C dX1_pickBeside_6 5 rfl ?_
      refine g_iload_n C dX1_pickBeside_8 rfl 2 rfl ?_
      refine b_icmp_ge C 47 dX1_pickBeside_9 (by decide) (fun h7421 => ?_) (fun h7421 => ?_)
      · have h7421 : a2.toInt ≤ v6_5.toInt := h7421
        refine g_iconst (v := 0) C dX1_pickBeside_47 (by decide) ?_
        exact ret _ _ _ _ _ _ dX1_pickBeside_48 rfl (by decide) (by decide) ⟨rfl, (by decide)⟩
      · have h7421 : v6_5.toInt < a2.toInt := h7421
        refine g_iload_n C dX1_pickBeside_12 rfl 1 rfl ?_
        refine g_iload C dX1_pickBeside_13 5 rfl ?_
        refine a_ishr C dX1_pickBeside_15 (fun z7422 => ?_)
        refine g_iconst (v := 1) C dX1_pickBeside_16 (by decide) ?_
        refine s_iand C dX1_pickBeside_17 (by show 0 ≤ 1; omega) (fun z7424 h7425 => ?_)
        have h7425 : 0 ≤ z7424.toInt ∧ z7424.toInt ≤ 1 := h7425
        refine b_if_ne C 41 dX1_pickBeside_18 (by decide) (fun h7426 => ?_) (fun h7426 => ?_)
        · have h7426 : z7424.toInt ≠ 0 := ti_ne h7426
          exact J41 v6_4 (by omega) (by omega)
        · have h7426 : z7424.toInt = 0 := congrArg Int32.toInt h7426
          refine g_iload C dX1_pickBeside_21 4 rfl ?_
          refine g_aload_n C dX1_pickBeside_23 rfl 0 rfl ?_
          refine g_iload C dX1_pickBeside_24 5 rfl ?_
          refine g_callVI (rest := [.int v6_4]) C mv_X1_77 [.int v6_5] (s_X1_weightOf I ha0) (ha0).1 (ha0).2 rfl rfl (by decide) (Nat.le_of_ble_eq_true rfl) (by decide) dX1_pickBeside_26 (fun r7427 Y7428 h7429 => ?_)
          obtain ⟨rfl, h7429⟩ := h7429
          have h7429 : True := h7429
          refine a_iadd C dX1_pickBeside_29 (fun z7430 => ?_)
          refine g_istore (lv' := [(4, .int z7430), (0, .ref a0), (1, .int a1), (2, .int a2), (3, .int a3), (5, .int v6_5)]) C dX1_pickBeside_30 (by decide) rfl ?_
          refine g_iload C dX1_pickBeside_32 0 rfl ?_
          refine g_iload_n C dX1_pickBeside_34 rfl 4 rfl ?_
          have u7433 := ti_rng z7430
          have u7434 := ti_rng a3
          refine b_icmp_le C 41 dX1_pickBeside_35 (by decide) (fun h7432 => ?_) (fun h7432 => ?_)
          · have h7432 : z7430.toInt ≤ a3.toInt := h7432
            refine g_lv (lv' := [(0, .ref a0), (1, .int a1), (2, .int a2), (3, .int a3), (4, .int z7430), (5, .int v6_5)]) [1, 2, 3, 4, 0, 5] rfl ?_
            exact J41 z7430 (by omega) (by omega)
          · have h7432 : a3.toInt < z7430.toInt := h7432
            refine g_iload C dX1_pickBeside_38 5 rfl ?_
            exact ret _ _ _ _ _ _ dX1_pickBeside_40 rfl (by decide) (by decide) ⟨rfl, (by omega)⟩
  refine g_iconst (v := 0) C dX1_pickBeside_0 (by decide) ?_
  refine g_istore (lv' := [(4, .int 0), (0, .ref a0), (1, .int a1), (2, .int a2), (3, .int a3)]) C dX1_pickBeside_1 (by decide) rfl ?_
  refine g_iconst (v := 0) C dX1_pickBeside_3 (by decide) ?_
  refine g_istore (lv' := [(5, .int 0), (4, .int 0), (0, .ref a0), (1, .int a1), (2, .int a2), (3, .int a3)]) C dX1_pickBeside_4 (by decide) rfl ?_
  refine g_lv (lv' := [(0, .ref a0), (1, .int a1), (2, .int a2), (3, .int a3), (4, .int 0), (5, .int 0)]) [2, 3, 4, 5, 1, 0] rfl ?_
  exact J6 _ 0 0 (Nat.lt_succ_self _) (by decide)
theorem dX1_drawPages_98 : decode cX1_drawPages 98 = .ok (.istore 8, 2) := by decide +kernel
theorem dX1_drawPages_100 : decode cX1_drawPages 100 = .ok (.iload 6, 2) := by decide +kernel
theorem dX1_drawPages_102 : decode cX1_drawPages 102 = .ok (.iconst 1, 1) := by decide +kernel
theorem dX1_drawPages_103 : decode cX1_drawPages 103 = .ok (.iload 8, 2) := by decide +kernel
theorem dX1_drawPages_105 : decode cX1_drawPages 105 = .ok (.ishl, 1) := by decide +kernel
theorem dX1_drawPages_106 : decode cX1_drawPages 106 = .ok (.ior, 1) := by decide +kernel
theorem dX1_drawPages_107 : decode cX1_drawPages 107 = .ok (.istore 6, 2) := by decide +kernel
theorem dX1_drawPages_109 : decode cX1_drawPages 109 = .ok (.iload 5, 2) := by decide +kernel
theorem dX1_drawPages_111 : decode cX1_drawPages 111 = .ok (.aload_n 0, 1) := by decide +kernel
theorem dX1_drawPages_112 : decode cX1_drawPages 112 = .ok (.iload 8, 2) := by decide +kernel
theorem dX1_drawPages_114 : decode cX1_drawPages 114 = .ok (.invokevirtual 77, 3) := by decide +kernel
theorem dX1_drawPages_117 : decode cX1_drawPages 117 = .ok (.isub, 1) := by decide +kernel
theorem dX1_drawPages_118 : decode cX1_drawPages 118 = .ok (.istore 5, 2) := by decide +kernel
theorem dX1_drawPages_120 : decode cX1_drawPages 120 = .ok (.iinc 7 1, 3) := by decide +kernel
theorem dX1_drawPages_123 : decode cX1_drawPages 123 = .ok (.goto (-45), 3) := by decide +kernel
set_option maxHeartbeats 4000000 in
set_option maxRecDepth 100000 in
theorem s_X1_drawPages {P : PP} {a0 : Nat} {a1 : Int32} {a2 : Int32} (I : IV P) (ha0 : At P a0 1) (ha2 : 0 ≤ a2.toInt ∧ a2.toInt ≤ 20) : CtrI yX1_drawPages cX1_drawPages 9 (some Jvm.ClassFile.FieldType.int) ({ frames := 3, cells := 0, slots := 0, locals := 192 } : Room) 0 0 P [.ref a0, .int a1, .int a2] (fun r P2 => IV P2 ∧ EK [1] P P2 ∧ (True)) := by
  refine enI (lv := [(0, .ref a0), (1, .int a1), (2, .int a2)]) (by decide) (Nat.le_of_ble_eq_true rfl) rfl (fun E D cy C Ci0 ret => ?_)
  have J78 : ∀ (n78 : Nat) (P78 : PP) (v78_3 : Int32) (v78_4 : Int32) (v78_5 : Int32) (v78_6 : Int32) (v78_7 : Int32), (20 - v78_7.toInt).toNat < n78 → (IV P78) → (EK [1] P P78) → (0 ≤ v78_3.toInt ∧ v78_3.toInt ≤ 20) → (0 ≤ v78_4.toInt ∧ v78_4.toInt ≤ 20) → (0 ≤ v78_7.toInt ∧ v78_7.toInt ≤ 20) → G E ({ frames := 3, cells := 0, slots := 0, locals := 192 } : Room) D cy 9 P78 0 0 78 [(0, .ref a0), (3, .int v78_3), (4, .int v78_4), (5, .int v78_5), (6, .int v78_6), (7, .int v78_7)] [] := by
    intro n78
    induction n78 with
    | zero => intro P78 v78_3 v78_4 v78_5 v78_6 v78_7 hm78 I78 X78 hv78_3 hv78_4 hv78_7; omega
    | succ n78 ih78 =>
      intro P78 v78_3 v78_4 v78_5 v78_6 v78_7 hm78 I78 X78 hv78_3 hv78_4 hv78_7
      have h7887 := X78.at ha0
      refine g_iload C dX1_drawPages_78 5 rfl ?_
      refine g_iload C dX1_drawPages_80 2 rfl ?_
      refine b_icmp_ge C 126 dX1_drawPages_82 (by decide) (fun h7888 => ?_) (fun h7888 => ?_)
      · have h7888 : v78_4.toInt ≤ v78_7.toInt := h7888
        refine g_iload C dX1_drawPages_126 4 rfl ?_
        exact ret _ _ _ _ _ _ dX1_drawPages_128 rfl (by decide) (by decide) ⟨I78, X78, trivial⟩
      · have h7888 : v78_7.toInt < v78_4.toInt := h7888
        refine g_aload_n C dX1_drawPages_85 rfl 0 rfl ?_
        refine g_iload C dX1_drawPages_86 4 rfl ?_
        refine g_iload_n C dX1_drawPages_88 rfl 1 rfl ?_
        refine g_aload_n C dX1_drawPages_89 rfl 0 rfl ?_
        refine g_iload C dX1_drawPages_90 3 rfl ?_
        refine g_callVI (rest := [.int v78_3, .int v78_6, .ref a0]) C mv_X1_80 [.int v78_5] (s_X1_cast I78 h7887) (h7887).1 (h7887).2 rfl rfl (by decide) (Nat.le_of_ble_eq_true rfl) (by decide) dX1_drawPages_92 (fun r7889 Y7890 h7891 => ?_)
        obtain ⟨Iy7892, Xy7893, h7891⟩ := h7891
        have Xz7894 : EK [1] P Y7890 := X78.tr (Xy7893.mono (by decide))
        have h7895 := Xy7893.at h7887
        have h7891 : True := h7891
        refine g_callVI (rest := []) C mv_X1_83 [.int v78_6, .int v78_3, .int r7889] (s_X1_pickBeside Iy7892 h7895 (by omega)) (h7895).1 (h7895).2 rfl rfl (by decide) (Nat.le_of_ble_eq_true rfl) (by decide) dX1_drawPages_95 (fun r7896 Y7897 h7898 => ?_)
        obtain ⟨rfl, h7898⟩ := h7898
        have h7898 : 0 ≤ r7896.toInt ∧ r7896.toInt ≤ 19 := h7898
        refine g_istore (lv' := [(8, .int r7896), (0, .ref a0), (3, .int v78_3), (4, .int v78_4), (5, .int v78_5), (6, .int v78_6), (7, .int v78_7)]) C dX1_drawPages_98 (by decide) rfl ?_
        refine g_iload C dX1_drawPages_100 5 rfl ?_
        refine g_iconst (v := 1) C dX1_drawPages_102 (by decide) ?_
        refine g_iload C dX1_drawPages_103 0 rfl ?_
        refine a_ishl C dX1_drawPages_105 (fun z7899 => ?_)
        refine a_ior C dX1_drawPages_106 (fun z7901 => ?_)
        refine g_istore (lv' := [(6, .int z7901), (8, .int r7896), (0, .ref a0), (3, .int v78_3), (4, .int v78_4), (5, .int v78_5), (7, .int v78_7)]) C dX1_drawPages_107 (by decide) rfl ?_
        refine g_iload C dX1_drawPages_109 5 rfl ?_
        refine g_aload_n C dX1_drawPages_111 rfl 2 rfl ?_
        refine g_iload C dX1_drawPages_112 1 rfl ?_
        refine g_callVI (rest := [.int v78_5]) C mv_X1_77 [.int r7896] (s_X1_weightOf Iy7892 h7895) (h7895).1 (h7895).2 rfl rfl (by decide) (Nat.le_of_ble_eq_true rfl) (by decide) dX1_drawPages_114 (fun r7903 Y7904 h7905 => ?_)
        obtain ⟨rfl, h7905⟩ := h7905
        have h7905 : True := h7905
        refine a_isub C dX1_drawPages_117 (fun z7906 => ?_)
        refine g_istore (lv' := [(5, .int z7906), (6, .int z7901), (8, .int r7896), (0, .ref a0), (3, .int v78_3), (4, .int v78_4), (7, .int v78_7)]) C dX1_drawPages_118 (by decide) rfl ?_
        refine s_iinc (lv0 := [(5, .int z7906), (6, .int z7901), (8, .int r7896), (0, .ref a0), (3, .int v78_3), (4, .int v78_4)]) (m := 1) C dX1_drawPages_120 6 rfl (by decide) rfl (by decide) (by omega) (fun z7908 h7909 => ?_)
        have h7909 : z7908.toInt = v78_7.toInt + 1 := h7909
        refine g_goto C 78 dX1_drawPages_123 (by decide) ?_
        refine g_lv (lv' := [(0, .ref a0), (3, .int v78_3), (4, .int v78_4), (5, .int z7906), (6, .int z7901), (7, .int z7908)]) [4, 5, 6, 1, 2, 0] rfl ?_
        exact ih78 Y7890 v78_3 v78_4 z7906 z7901 z7908 (by omega) Iy7892 Xz7894 (by omega) (by omega) (by omega)
  have J49 : ∀ (n49 : Nat) (P49 : PP) (v49_3 : Int32) (v49_4 : Int32) (v49_5 : Int32) (v49_6 : Int32), (20 - v49_6.toInt).toNat < n49 → (IV P49) → (EK [1] P P49) → (0 ≤ v49_3.toInt ∧ v49_3.toInt ≤ 20) → (0 ≤ v49_4.toInt ∧ v49_4.toInt ≤ 20) → (0 ≤ v49_6.toInt ∧ v49_6.toInt ≤ 20) → G E ({ frames := 3, cells := 0, slots := 0, locals := 192 } : Room) D cy 9 P49 0 0 49 [(0, .ref a0), (3, .int v49_3), (4, .int v49_4), (5, .int v49_5), (6, .int v49_6)] [] := by
    intro n49
    induction n49 with
    | zero => intro P49 v49_3 v49_4 v49_5 v49_6 hm49 I49 X49 hv49_3 hv49_4 hv49_6; omega
    | succ n49 ih49 =>
      intro P49 v49_3 v49_4 v49_5 v49_6 hm49 I49 X49 hv49_3 hv49_4 hv49_6
      have h7910 := X49.at ha0
      refine g_iload C dX1_drawPages_49 4 rfl ?_
      refine g_iload_n C dX1_drawPages_51 rfl 1 rfl ?_
      refine b_icmp_ge C 72 dX1_drawPages_52 (by decide) (fun h7911 => ?_) (fun h7911 => ?_)
      · have h7911 : v49_3.toInt ≤ v49_6.toInt := h7911
        refine g_iconst (v := 0) C dX1_drawPages_72 (by decide) ?_
        refine g_istore (lv' := [(6, .int 0), (0, .ref a0), (3, .int v49_3), (4, .int v49_4), (5, .int v49_5)]) C dX1_drawPages_73 (by decide) rfl ?_
        refine g_iconst (v := 0) C dX1_drawPages_75 (by decide) ?_
        refine g_istore (lv' := [(7, .int 0), (6, .int 0), (0, .ref a0), (3, .int v49_3), (4, .int v49_4), (5, .int v49_5)]) C dX1_drawPages_76 (by decide) rfl ?_
        refine g_lv (lv' := [(0, .ref a0), (3, .int v49_3), (4, .int v49_4), (5, .int v49_5), (6, .int 0), (7, .int 0)]) [2, 3, 4, 5, 1, 0] rfl ?_
        exact J78 _ P49 v49_3 v49_4 v49_5 0 0 (Nat.lt_succ_self _) I49 X49 (by omega) (by omega) (by decide)
      · have h7911 : v49_6.toInt < v49_3.toInt := h7911
        refine g_iload C dX1_drawPages_55 3 rfl ?_
        refine g_aload_n C dX1_drawPages_57 rfl 0 rfl ?_
        refine g_iload C dX1_drawPages_58 4 rfl ?_
        refine g_callVI (rest := [.int v49_5]) C mv_X1_77 [.int v49_6] (s_X1_weightOf I49 h7910) (h7910).1 (h7910).2 rfl rfl (by decide) (Nat.le_of_ble_eq_true rfl) (by decide) dX1_drawPages_60 (fun r7912 Y7913 h7914 => ?_)
        obtain ⟨rfl, h7914⟩ := h7914
        have h7914 : True := h7914
        refine a_iadd C dX1_drawPages_63 (fun z7915 => ?_)
        refine g_istore (lv' := [(5, .int z7915), (0, .ref a0), (3, .int v49_3), (4, .int v49_4), (6, .int v49_6)]) C dX1_drawPages_64 (by decide) rfl ?_
        refine s_iinc (lv0 := [(5, .int z7915), (0, .ref a0), (3, .int v49_3), (4, .int v49_4)]) (m := 1) C dX1_drawPages_66 4 rfl (by decide) rfl (by decide) (by omega) (fun z7917 h7918 => ?_)
        have h7918 : z7917.toInt = v49_6.toInt + 1 := h7918
        refine g_goto C 49 dX1_drawPages_69 (by decide) ?_
        refine g_lv (lv' := [(0, .ref a0), (3, .int v49_3), (4, .int v49_4), (5, .int z7915), (6, .int z7917)]) [2, 3, 4, 1, 0] rfl ?_
        exact ih49 P49 v49_3 v49_4 z7915 z7917 (by omega) I49 X49 (by omega) (by omega) (by omega)
  have J41 : ∀ (P41 : PP) (v41_3 : Int32) (v41_s0 : Int32), (IV P41) → (EK [1] P P41) → (0 ≤ v41_3.toInt ∧ v41_3.toInt ≤ 20) → (0 ≤ v41_s0.toInt ∧ v41_s0.toInt ≤ 20) → G E ({ frames := 3, cells := 0, slots := 0, locals := 192 } : Room) D cy 9 P41 0 0 41 [(0, .ref a0), (3, .int v41_3)] [.int v41_s0] := by
    intro P41 v41_3 v41_s0 I41 X41 hv41_3 hv41_s0
    have h7919 := X41.at ha0
    refine g_istore (lv' := [(4, .int v41_s0), (0, .ref a0), (3, .int v41_3)]) C dX1_drawPages_41 (by decide) rfl ?_
    refine g_iconst (v := 0) C dX1_drawPages_43 (by decide) ?_
    refine g_istore (lv' := [(5, .int 0), (4, .int v41_s0), (0, .ref a0), (3, .int v41_3)]) C dX1_drawPages_44 (by decide) rfl ?_
    refine g_iconst (v := 0) C dX1_drawPages_46 (by decide) ?_
    refine g_istore (lv' := [(6, .int 0), (5, .int 0), (4, .int v41_s0), (0, .ref a0), (3, .int v41_3)]) C dX1_drawPages_47 (by decide) rfl ?_
    refine g_lv (lv' := [(0, .ref a0), (3, .int v41_3), (4, .int v41_s0), (5, .int 0), (6, .int 0)]) [3, 4, 2, 1, 0] rfl ?_
    exact J49 _ P41 v41_3 v41_s0 0 0 (Nat.lt_succ_self _) I41 X41 (by omega) (by omega) (by decide)
  refine g_aload_n C dX1_drawPages_0 rfl 0 rfl ?_
  refine g_iload_n C dX1_drawPages_1 rfl 1 rfl ?_
  refine g_sipush (v := 7919) C dX1_drawPages_2 (by decide) ?_
  refine a_imul C dX1_drawPages_5 (fun z7920 => ?_)
  refine g_aload_n C dX1_drawPages_6 rfl 0 rfl ?_
  refine g_getI C fi_X1_25 (by decide) (ha0).1 (ha0).2 dX1_drawPages_7 ?_
  have h7922 := I.rg (ha0) 0 rfl
  refine g_ldc (v := 104729) C kc_X1_67 dX1_drawPages_10 ?_
  refine s_imul C dX1_drawPages_12 (by show -2147483648 ≤ (pI P a0 0).toInt * 104729 ∧ (pI P a0 0).toInt * 104729 ≤ 2147483647; omega) (fun z7923 h7924 => ?_)
  have h7924 : z7923.toInt = (pI P a0 0).toInt * 104729 := h7924
  refine a_iadd C dX1_drawPages_13 (fun z7925 => ?_)
  refine g_iconst (v := 1) C dX1_drawPages_14 (by decide) ?_
  refine a_iadd C dX1_drawPages_15 (fun z7927 => ?_)
  refine g_putI C fi_X1_68 rfl (ha0).1 (ha0).2 dX1_drawPages_16 ?_
  refine gpW (ks := [1]) (I.setI (ha0) (rgOk.none rfl)) (EK.setI (ha0).2 (by decide)) (fun Y7929 Iy7930 Xy7931 w7932 w7933 => ?_)
  have q7934 := w7932 0 (by decide)
  have Xz7935 : EK [1] P Y7929 := Xy7931.mono (by decide)
  have h7936 := Xy7931.at ha0
  refine g_aload_n C dX1_drawPages_19 rfl 0 rfl ?_
  refine g_callVI (rest := []) C mv_X1_49 [] (s_X1_all Iy7930 h7936) (h7936).1 (h7936).2 rfl rfl (by decide) (Nat.le_of_ble_eq_true rfl) (by decide) dX1_drawPages_20 (fun r7937 Y7938 h7939 => ?_)
  obtain ⟨rfl, h7939⟩ := h7939
  have h7939 : 0 ≤ r7937.toInt ∧ r7937.toInt ≤ 20 := h7939
  refine g_istore_n (lv' := [(3, .int r7937), (0, .ref a0), (1, .int a1), (2, .int a2)]) C dX1_drawPages_23 rfl (by decide) rfl ?_
  refine g_iload_n C dX1_drawPages_24 rfl 3 rfl ?_
  refine b_if_le C 36 dX1_drawPages_25 (by decide) (fun h7940 => ?_) (fun h7940 => ?_)
  · have h7940 : a2.toInt ≤ 0 := h7940
    refine g_aload_n C dX1_drawPages_36 rfl 1 rfl ?_
    refine g_iload_n C dX1_drawPages_37 rfl 0 rfl ?_
    refine g_callVI (rest := []) C mv_X1_74 [.int r7937] (s_X1_howMany Iy7930 h7936 (by omega)) (h7936).1 (h7936).2 rfl rfl (by decide) (Nat.le_of_ble_eq_true rfl) (by decide) dX1_drawPages_38 (fun r7941 Y7942 h7943 => ?_)
    obtain ⟨Iy7944, Xy7945, h7943⟩ := h7943
    have Xz7946 : EK [1] P Y7942 := Xz7935.tr (Xy7945.mono (by decide))
    have h7947 := Xy7945.at h7936
    have h7943 : 1 ≤ r7941.toInt ∧ r7941.toInt ≤ 20 := h7943
    refine g_lv (lv' := [(0, .ref a0), (3, .int r7937)]) [1, 0] rfl ?_
    exact J41 Y7942 r7937 r7941 Iy7944 Xz7946 (by omega) (by omega)
  · have h7940 : 0 < a2.toInt := h7940
    refine g_aload_n C dX1_drawPages_28 rfl 1 rfl ?_
    refine g_iload_n C dX1_drawPages_29 rfl 3 rfl ?_
    refine g_callVI (rest := []) C mv_X1_71 [.int a2] (s_X1_castDegree Iy7930 h7936 (by omega)) (h7936).1 (h7936).2 rfl rfl (by decide) (Nat.le_of_ble_eq_true rfl) (by decide) dX1_drawPages_30 (fun r7948 Y7949 h7950 => ?_)
    obtain ⟨Iy7951, Xy7952, h7950⟩ := h7950
    have Xz7953 : EK [1] P Y7949 := Xz7935.tr (Xy7952.mono (by decide))
    have h7954 := Xy7952.at h7936
    have h7950 : 0 ≤ r7948.toInt ∧ r7948.toInt ≤ 20 := h7950
    refine g_goto C 41 dX1_drawPages_33 (by decide) ?_
    refine g_lv (lv' := [(0, .ref a0), (3, .int r7937)]) [1, 0] rfl ?_
    exact J41 Y7949 r7937 r7948 Iy7951 Xz7953 (by omega) (by omega)
theorem dX1_pagesOf_10 : decode cX1_pagesOf 10 = .ok (.aload_n 0, 1) := by decide +kernel
theorem dX1_pagesOf_11 : decode cX1_pagesOf 11 = .ok (.iload_n 1, 1) := by decide +kernel
theorem dX1_pagesOf_12 : decode cX1_pagesOf 12 = .ok (.iconst 0, 1) := by decide +kernel
theorem dX1_pagesOf_13 : decode cX1_pagesOf 13 = .ok (.invokevirtual 63, 3) := by decide +kernel
theorem dX1_pagesOf_16 : decode cX1_pagesOf 16 = .ok (.ireturn, 1) := by decide +kernel
theorem dX1_pagesOf_37 : decode cX1_pagesOf 37 = .ok (.iastore, 1) := by decide +kernel
theorem dX1_pagesOf_38 : decode cX1_pagesOf 38 = .ok (.aload_n 0, 1) := by decide +kernel
theorem dX1_pagesOf_39 : decode cX1_pagesOf 39 = .ok (.getfield 22, 3) := by decide +kernel
theorem dX1_pagesOf_42 : decode cX1_pagesOf 42 = .ok (.iload_n 1, 1) := by decide +kernel
theorem dX1_pagesOf_43 : decode cX1_pagesOf 43 = .ok (.iaload, 1) := by decide +kernel
theorem dX1_pagesOf_44 : decode cX1_pagesOf 44 = .ok (.ireturn, 1) := by decide +kernel
set_option maxHeartbeats 4000000 in
set_option maxRecDepth 100000 in
theorem s_X1_pagesOf {P : PP} {a0 : Nat} {a1 : Int32} (I : IV P) (ha0 : At P a0 1) : CtrI yX1_pagesOf cX1_pagesOf 2 (some Jvm.ClassFile.FieldType.int) ({ frames := 4, cells := 0, slots := 0, locals := 256 } : Room) 0 0 P [.ref a0, .int a1] (fun r P2 => IV P2 ∧ EK [1, 13] P P2 ∧ (True)) := by
  refine enI (lv := [(0, .ref a0), (1, .int a1)]) (by decide) (Nat.le_of_ble_eq_true rfl) rfl (fun E D cy C Ci0 ret => ?_)
  have J38 : ∀ (P38 : PP), (IV P38) → (EK [1, 13] P P38) → (0 ≤ a1.toInt ∧ a1.toInt ≤ 59) → G E ({ frames := 4, cells := 0, slots := 0, locals := 256 } : Room) D cy 2 P38 0 0 38 [(0, .ref a0), (1, .int a1)] [] := by
    intro P38 I38 X38 hv38_1
    have h7991 := X38.at ha0
    refine g_aload_n C dX1_pagesOf_38 rfl 0 rfl ?_
    obtain ⟨b7992, e7993, h7994⟩ := I38.fld (h7991) 3 13 60 rfl
    refine g_getR C fi_X1_22 rfl e7993 (h7991).1 (h7991).2 dX1_pagesOf_39 ?_
    refine g_iload_n C dX1_pagesOf_42 rfl 1 rfl ?_
    refine g_iald (j := (a1.toInt.toNat)) C h7994.1 h7994.2.1 (ix_in h7994.2.2 (by omega)) dX1_pagesOf_43 ?_
    refine g_topi (fun z7995 _ => ?_)
    exact ret _ _ _ _ _ _ dX1_pagesOf_44 rfl (by decide) (by decide) ⟨I38, X38, trivial⟩
  have J10 : G E ({ frames := 4, cells := 0, slots := 0, locals := 256 } : Room) D cy 2 P 0 0 10 [(0, .ref a0), (1, .int a1)] [] := by
    refine g_aload_n C dX1_pagesOf_10 rfl 0 rfl ?_
    refine g_iload_n C dX1_pagesOf_11 rfl 1 rfl ?_
    refine g_iconst (v := 0) C dX1_pagesOf_12 (by decide) ?_
    refine g_callVI (rest := []) C mv_X1_63 [.int a1, .int 0] (s_X1_drawPages I ha0 (by decide)) (ha0).1 (ha0).2 rfl rfl (by decide) (Nat.le_of_ble_eq_true rfl) (by decide) dX1_pagesOf_13 (fun r7996 Y7997 h7998 => ?_)
    obtain ⟨Iy7999, Xy8000, h7998⟩ := h7998
    have Xz8001 : EK [1, 13] P Y7997 := Xy8000.mono (by decide)
    have h8002 := Xy8000.at ha0
    have h7998 : True := h7998
    exact ret _ _ _ _ _ _ dX1_pagesOf_16 rfl (by decide) (by decide) ⟨Iy7999, Xz8001, trivial⟩
  refine g_iload_n C dX1_pagesOf_0 rfl 1 rfl ?_
  have u8004 := ti_rng a1
  refine b_if_lt C 10 dX1_pagesOf_1 (by decide) (fun h8003 => ?_) (fun h8003 => ?_)
  · have h8003 : a1.toInt < 0 := h8003
    exact J10 
  · have h8003 : 0 ≤ a1.toInt := h8003
    refine g_iload_n C dX1_pagesOf_4 rfl 1 rfl ?_
    refine g_bipush (v := 60) C dX1_pagesOf_5 (by decide) ?_
    have u8006 := ti_rng a1
    refine b_icmp_lt C 17 dX1_pagesOf_7 (by decide) (fun h8005 => ?_) (fun h8005 => ?_)
    · have h8005 : a1.toInt < 60 := h8005
      refine g_aload_n C dX1_pagesOf_17 rfl 0 rfl ?_
      obtain ⟨b8007, e8008, h8009⟩ := I.fld (ha0) 3 13 60 rfl
      refine g_getR C fi_X1_22 rfl e8008 (ha0).1 (ha0).2 dX1_pagesOf_18 ?_
      refine g_iload_n C dX1_pagesOf_21 rfl 1 rfl ?_
      refine g_iald (j := (a1.toInt.toNat)) C h8009.1 h8009.2.1 (ix_in h8009.2.2 (by omega)) dX1_pagesOf_22 ?_
      refine g_topi (fun z8010 _ => ?_)
      have u8012 := ti_rng z8010
      refine b_if_ne C 38 dX1_pagesOf_23 (by decide) (fun h8011 => ?_) (fun h8011 => ?_)
      · have h8011 : z8010.toInt ≠ 0 := ti_ne h8011
        exact J38 P I EK.rf (by omega)
      · have h8011 : z8010.toInt = 0 := congrArg Int32.toInt h8011
        refine g_aload_n C dX1_pagesOf_26 rfl 0 rfl ?_
        refine g_getR C fi_X1_22 rfl e8008 (ha0).1 (ha0).2 dX1_pagesOf_27 ?_
        refine g_iload_n C dX1_pagesOf_30 rfl 1 rfl ?_
        refine g_aload_n C dX1_pagesOf_31 rfl 0 rfl ?_
        refine g_iload_n C dX1_pagesOf_32 rfl 1 rfl ?_
        refine g_iconst (v := 0) C dX1_pagesOf_33 (by decide) ?_
        refine g_callVI (rest := [.int a1, .ref b8007]) C mv_X1_63 [.int a1, .int 0] (s_X1_drawPages I ha0 (by decide)) (ha0).1 (ha0).2 rfl rfl (by decide) (Nat.le_of_ble_eq_true rfl) (by decide) dX1_pagesOf_34 (fun r8013 Y8014 h8015 => ?_)
        obtain ⟨Iy8016, Xy8017, h8015⟩ := h8015
        have Xz8018 : EK [1, 13] P Y8014 := Xy8017.mono (by decide)
        have e8019 := Xy8017.ref ha0 (by decide) e8008
        have h8020 := Xy8017.at ha0
        have h8021 := Xy8017.ar h8009
        have h8015 : True := h8015
        refine g_iast (j := (a1.toInt.toNat)) C h8021.1 h8021.2.1 (ix_in h8021.2.2 (by omega)) dX1_pagesOf_37 ?_
        refine gp (ks := [13]) (Iy8016.setA h8021 (by decide)) (EK.setI h8021.2.1 (by decide)) (fun Y8022 Iy8023 Xy8024 => ?_)
        have Xz8025 : EK [1, 13] P Y8022 := Xz8018.tr (Xy8024.mono (by decide))
        have h8026 := Xy8024.at h8020
        exact J38 Y8022 Iy8023 Xz8025 (by omega)
    · have h8005 : 60 ≤ a1.toInt := h8005
      exact J10 
theorem dX8_tally_78 : decode cX8_tally 78 = .ok (.aload_n 1, 1) := by decide +kernel
theorem dX8_tally_79 : decode cX8_tally 79 = .ok (.iload 5, 2) := by decide +kernel
theorem dX8_tally_81 : decode cX8_tally 81 = .ok (.iload 4, 2) := by decide +kernel
theorem dX8_tally_83 : decode cX8_tally 83 = .ok (.invokevirtual 58, 3) := by decide +kernel
theorem dX8_tally_86 : decode cX8_tally 86 = .ok (.goto 9, 3) := by decide +kernel
theorem dX8_tally_95 : decode cX8_tally 95 = .ok (.iastore, 1) := by decide +kernel
theorem dX8_tally_96 : decode cX8_tally 96 = .ok (.iinc 5 1, 3) := by decide +kernel
theorem dX8_tally_99 : decode cX8_tally 99 = .ok (.goto (-41), 3) := by decide +kernel
theorem dX8_tally_102 : decode cX8_tally 102 = .ok (.aload_n 0, 1) := by decide +kernel
theorem dX8_tally_103 : decode cX8_tally 103 = .ok (.getfield 21, 3) := by decide +kernel
theorem dX8_tally_106 : decode cX8_tally 106 = .ok (.aload_n 1, 1) := by decide +kernel
theorem dX8_tally_107 : decode cX8_tally 107 = .ok (.invokevirtual 65, 3) := by decide +kernel
theorem dX8_tally_110 : decode cX8_tally 110 = .ok (.aload_n 0, 1) := by decide +kernel
theorem dX8_tally_111 : decode cX8_tally 111 = .ok (.getfield 28, 3) := by decide +kernel
theorem dX8_tally_114 : decode cX8_tally 114 = .ok (.aload_n 0, 1) := by decide +kernel
theorem dX8_tally_115 : decode cX8_tally 115 = .ok (.getfield 21, 3) := by decide +kernel
theorem dX8_tally_118 : decode cX8_tally 118 = .ok (.iconst (-1), 1) := by decide +kernel
theorem dX8_tally_119 : decode cX8_tally 119 = .ok (.invokevirtual 69, 3) := by decide +kernel
theorem dX8_tally_122 : decode cX8_tally 122 = .ok (.aload_n 0, 1) := by decide +kernel
theorem dX8_tally_123 : decode cX8_tally 123 = .ok (.iconst 0, 1) := by decide +kernel
theorem dX8_tally_124 : decode cX8_tally 124 = .ok (.iconst 0, 1) := by decide +kernel
theorem dX8_tally_125 : decode cX8_tally 125 = .ok (.iconst 0, 1) := by decide +kernel
theorem dX8_tally_126 : decode cX8_tally 126 = .ok (.invokevirtual 73, 3) := by decide +kernel
theorem dX8_walk_0 : decode cX8_walk 0 = .ok (.aload_n 0, 1) := by decide +kernel
theorem dX8_walk_1 : decode cX8_walk 1 = .ok (.getfield 42, 3) := by decide +kernel
theorem dX8_walk_4 : decode cX8_walk 4 = .ok (.ifCond .ne 14, 3) := by decide +kernel
theorem dX8_walk_7 : decode cX8_walk 7 = .ok (.iload_n 3, 1) := by decide +kernel
theorem dX8_walk_8 : decode cX8_walk 8 = .ok (.aload_n 0, 1) := by decide +kernel
theorem dX8_walk_9 : decode cX8_walk 9 = .ok (.getfield 56, 3) := by decide +kernel
theorem dX8_walk_12 : decode cX8_walk 12 = .ok (.if_icmp .ne 32, 3) := by decide +kernel
theorem dX8_walk_15 : decode cX8_walk 15 = .ok (.goto 17, 3) := by decide +kernel
theorem dX8_walk_18 : decode cX8_walk 18 = .ok (.aload_n 0, 1) := by decide +kernel
theorem dX8_walk_19 : decode cX8_walk 19 = .ok (.getfield 28, 3) := by decide +kernel
theorem dX8_walk_22 : decode cX8_walk 22 = .ok (.getfield 77, 3) := by decide +kernel
theorem dX8_walk_25 : decode cX8_walk 25 = .ok (.aload_n 0, 1) := by decide +kernel
theorem dX8_walk_26 : decode cX8_walk 26 = .ok (.getfield 51, 3) := by decide +kernel
theorem dX8_walk_29 : decode cX8_walk 29 = .ok (.if_icmp .ne 15, 3) := by decide +kernel
theorem dX8_walk_32 : decode cX8_walk 32 = .ok (.aload_n 0, 1) := by decide +kernel
theorem dX8_walk_33 : decode cX8_walk 33 = .ok (.aload_n 0, 1) := by decide +kernel
theorem dX8_walk_34 : decode cX8_walk 34 = .ok (.getfield 38, 3) := by decide +kernel
theorem dX8_walk_37 : decode cX8_walk 37 = .ok (.iload_n 1, 1) := by decide +kernel
theorem dX8_walk_38 : decode cX8_walk 38 = .ok (.isub, 1) := by decide +kernel
theorem dX8_walk_39 : decode cX8_walk 39 = .ok (.iload_n 2, 1) := by decide +kernel
theorem dX8_walk_40 : decode cX8_walk 40 = .ok (.invokevirtual 80, 3) := by decide +kernel
theorem dX8_walk_44 : decode cX8_walk 44 = .ok (.iload_n 1, 1) := by decide +kernel
theorem dX8_walk_45 : decode cX8_walk 45 = .ok (.aload_n 0, 1) := by decide +kernel
theorem dX8_walk_46 : decode cX8_walk 46 = .ok (.getfield 38, 3) := by decide +kernel
theorem dX8_walk_49 : decode cX8_walk 49 = .ok (.if_icmp .ge 30, 3) := by decide +kernel
theorem dX8_walk_79 : decode cX8_walk 79 = .ok (.return_, 1) := by decide +kernel
theorem dX8_addAllWith_0 : decode cX8_addAllWith 0 = .ok (.iconst 0, 1) := by decide +kernel
theorem dX8_addAllWith_1 : decode cX8_addAllWith 1 = .ok (.istore_n 3, 1) := by decide +kernel
theorem dX8_addAllWith_2 : decode cX8_addAllWith 2 = .ok (.iload_n 3, 1) := by decide +kernel
theorem dX8_addAllWith_3 : decode cX8_addAllWith 3 = .ok (.iload_n 1, 1) := by decide +kernel
theorem dX8_addAllWith_4 : decode cX8_addAllWith 4 = .ok (.if_icmp .gt 33, 3) := by decide +kernel
theorem dX8_addAllWith_7 : decode cX8_addAllWith 7 = .ok (.iload_n 2, 1) := by decide +kernel
theorem dX8_addAllWith_8 : decode cX8_addAllWith 8 = .ok (.iload_n 3, 1) := by decide +kernel
theorem dX8_addAllWith_9 : decode cX8_addAllWith 9 = .ok (.iadd, 1) := by decide +kernel
theorem dX8_addAllWith_10 : decode cX8_addAllWith 10 = .ok (.bipush 11, 2) := by decide +kernel
theorem dX8_addAllWith_12 : decode cX8_addAllWith 12 = .ok (.if_icmp .gt 25, 3) := by decide +kernel
theorem dX8_addAllWith_15 : decode cX8_addAllWith 15 = .ok (.aload_n 0, 1) := by decide +kernel
theorem dX8_addAllWith_16 : decode cX8_addAllWith 16 = .ok (.getfield 9, 3) := by decide +kernel
theorem dX8_addAllWith_19 : decode cX8_addAllWith 19 = .ok (.iload_n 2, 1) := by decide +kernel
theorem dX8_addAllWith_20 : decode cX8_addAllWith 20 = .ok (.iload_n 3, 1) := by decide +kernel
theorem dX8_addAllWith_21 : decode cX8_addAllWith 21 = .ok (.iadd, 1) := by decide +kernel
theorem dX8_addAllWith_22 : decode cX8_addAllWith 22 = .ok (.dup2, 1) := by decide +kernel
theorem dX8_addAllWith_23 : decode cX8_addAllWith 23 = .ok (.iaload, 1) := by decide +kernel
theorem dX8_addAllWith_24 : decode cX8_addAllWith 24 = .ok (.iload_n 1, 1) := by decide +kernel
theorem dX8_addAllWith_25 : decode cX8_addAllWith 25 = .ok (.iload_n 3, 1) := by decide +kernel
theorem dX8_addAllWith_26 : decode cX8_addAllWith 26 = .ok (.invokestatic 100, 3) := by decide +kernel
theorem dX8_addAllWith_37 : decode cX8_addAllWith 37 = .ok (.return_, 1) := by decide +kernel
theorem dX11_choose_0 : decode cX11_choose 0 = .ok (.iconst 1, 1) := by decide +kernel
theorem dX11_choose_1 : decode cX11_choose 1 = .ok (.istore_n 2, 1) := by decide +kernel
theorem dX11_choose_2 : decode cX11_choose 2 = .ok (.iconst 1, 1) := by decide +kernel
theorem dX11_choose_3 : decode cX11_choose 3 = .ok (.istore_n 3, 1) := by decide +kernel
theorem dX11_choose_4 : decode cX11_choose 4 = .ok (.iload_n 3, 1) := by decide +kernel
theorem dX11_choose_5 : decode cX11_choose 5 = .ok (.iload_n 1, 1) := by decide +kernel
theorem dX11_choose_6 : decode cX11_choose 6 = .ok (.if_icmp .gt 19, 3) := by decide +kernel
theorem dX11_choose_9 : decode cX11_choose 9 = .ok (.iload_n 2, 1) := by decide +kernel
theorem dX11_choose_10 : decode cX11_choose 10 = .ok (.iload_n 0, 1) := by decide +kernel
theorem dX11_choose_11 : decode cX11_choose 11 = .ok (.iload_n 1, 1) := by decide +kernel
theorem dX11_choose_12 : decode cX11_choose 12 = .ok (.isub, 1) := by decide +kernel
theorem dX11_choose_13 : decode cX11_choose 13 = .ok (.iload_n 3, 1) := by decide +kernel
theorem dX11_choose_14 : decode cX11_choose 14 = .ok (.iadd, 1) := by decide +kernel
theorem dX11_choose_15 : decode cX11_choose 15 = .ok (.imul, 1) := by decide +kernel
theorem dX11_choose_16 : decode cX11_choose 16 = .ok (.iload_n 3, 1) := by decide +kernel
theorem dX11_choose_17 : decode cX11_choose 17 = .ok (.idiv, 1) := by decide +kernel
theorem dX11_choose_18 : decode cX11_choose 18 = .ok (.istore_n 2, 1) := by decide +kernel
theorem dX11_choose_19 : decode cX11_choose 19 = .ok (.iinc 3 1, 3) := by decide +kernel
theorem dX11_choose_22 : decode cX11_choose 22 = .ok (.goto (-18), 3) := by decide +kernel
theorem dX11_choose_25 : decode cX11_choose 25 = .ok (.iload_n 2, 1) := by decide +kernel
theorem dX11_choose_26 : decode cX11_choose 26 = .ok (.ireturn, 1) := by decide +kernel
set_option maxHeartbeats 4000000 in
set_option maxRecDepth 100000 in
theorem s_X11_choose {P : PP} {a0 : Int32} {a1 : Int32} (I : IV P) (ha0 : -20 ≤ a0.toInt ∧ a0.toInt ≤ 20) (ha1 : 0 ≤ a1.toInt ∧ a1.toInt ≤ 12) : CtrI yX11_choose cX11_choose 4 (some Jvm.ClassFile.FieldType.int) ({ frames := 1, cells := 0, slots := 0, locals := 64 } : Room) 0 0 P [.int a0, .int a1] (fun r P2 => P = P2 ∧ (True)) := by
  refine enI (lv := [(0, .int a0), (1, .int a1)]) (by decide) (Nat.le_of_ble_eq_true rfl) rfl (fun E D cy C Ci0 ret => ?_)
  have J4 : ∀ (n4 : Nat) (v4_2 : Int32) (v4_3 : Int32), (16 - v4_3.toInt).toNat < n4 → (1 ≤ v4_3.toInt ∧ v4_3.toInt ≤ 16) → G E ({ frames := 1, cells := 0, slots := 0, locals := 64 } : Room) D cy 4 P 0 0 4 [(0, .int a0), (1, .int a1), (2, .int v4_2), (3, .int v4_3)] [] := by
    intro n4
    induction n4 with
    | zero => intro v4_2 v4_3 hm4 hv4_3; omega
    | succ n4 ih4 =>
      intro v4_2 v4_3 hm4 hv4_3
      refine g_iload_n C dX11_choose_4 rfl 3 rfl ?_
      refine g_iload_n C dX11_choose_5 rfl 1 rfl ?_
      refine b_icmp_gt C 25 dX11_choose_6 (by decide) (fun h8429 => ?_) (fun h8429 => ?_)
      · have h8429 : a1.toInt < v4_3.toInt := h8429
        refine g_iload_n C dX11_choose_25 rfl 2 rfl ?_
        exact ret _ _ _ _ _ _ dX11_choose_26 rfl (by decide) (by decide) ⟨rfl, trivial⟩
      · have h8429 : v4_3.toInt ≤ a1.toInt := h8429
        refine g_iload_n C dX11_choose_9 rfl 2 rfl ?_
        refine g_iload_n C dX11_choose_10 rfl 0 rfl ?_
        refine g_iload_n C dX11_choose_11 rfl 1 rfl ?_
        refine s_isub C dX11_choose_12 (by show -2147483648 ≤ a0.toInt - a1.toInt ∧ a0.toInt - a1.toInt ≤ 2147483647; omega) (fun z8430 h8431 => ?_)
        have h8431 : z8430.toInt = a0.toInt - a1.toInt := h8431
        refine g_iload_n C dX11_choose_13 rfl 3 rfl ?_
        refine s_iadd C dX11_choose_14 (by show -2147483648 ≤ z8430.toInt + v4_3.toInt ∧ z8430.toInt + v4_3.toInt ≤ 2147483647; omega) (fun z8432 h8433 => ?_)
        have h8433 : z8432.toInt = z8430.toInt + v4_3.toInt := h8433
        refine a_imul C dX11_choose_15 (fun z8434 => ?_)
        refine g_iload_n C dX11_choose_16 rfl 3 rfl ?_
        refine a_idiv C dX11_choose_17 (by show v4_3.toInt ≠ 0; omega) (fun z8436 => ?_)
        refine g_istore_n (lv' := [(2, .int z8436), (0, .int a0), (1, .int a1), (3, .int v4_3)]) C dX11_choose_18 rfl (by decide) rfl ?_
        refine s_iinc (lv0 := [(2, .int z8436), (0, .int a0), (1, .int a1)]) (m := 1) C dX11_choose_19 3 rfl (by decide) rfl (by decide) (by omega) (fun z8438 h8439 => ?_)
        have h8439 : z8438.toInt = v4_3.toInt + 1 := h8439
        refine g_goto C 4 dX11_choose_22 (by decide) ?_
        refine g_lv (lv' := [(0, .int a0), (1, .int a1), (2, .int z8436), (3, .int z8438)]) [2, 3, 1, 0] rfl ?_
        exact ih4 z8436 z8438 (by omega) (by omega)
  refine g_iconst (v := 1) C dX11_choose_0 (by decide) ?_
  refine g_istore_n (lv' := [(2, .int 1), (0, .int a0), (1, .int a1)]) C dX11_choose_1 rfl (by decide) rfl ?_
  refine g_iconst (v := 1) C dX11_choose_2 (by decide) ?_
  refine g_istore_n (lv' := [(3, .int 1), (2, .int 1), (0, .int a0), (1, .int a1)]) C dX11_choose_3 rfl (by decide) rfl ?_
  refine g_lv (lv' := [(0, .int a0), (1, .int a1), (2, .int 1), (3, .int 1)]) [2, 3, 1, 0] rfl ?_
  exact J4 _ 1 1 (Nat.lt_succ_self _) (by decide)
theorem dX8_addAllWith_29 : decode cX8_addAllWith 29 = .ok (.iadd, 1) := by decide +kernel
theorem dX8_addAllWith_30 : decode cX8_addAllWith 30 = .ok (.iastore, 1) := by decide +kernel
theorem dX8_addAllWith_31 : decode cX8_addAllWith 31 = .ok (.iinc 3 1, 3) := by decide +kernel
theorem dX8_addAllWith_34 : decode cX8_addAllWith 34 = .ok (.goto (-32), 3) := by decide +kernel
set_option maxHeartbeats 4000000 in
set_option maxRecDepth 100000 in
theorem s_X8_addAllWith {P : PP} {a0 : Nat} {a1 : Int32} {a2 : Int32} (I : IV P) (ha0 : At P a0 8) (ha1 : -11 ≤ a1.toInt ∧ a1.toInt ≤ 11) (ha2 : 0 ≤ a2.toInt ∧ a2.toInt ≤ 12) : CtrV yX8_addAllWith cX8_addAllWith 4 none ({ frames := 2, cells := 0, slots := 0, locals := 128 } : Room) 0 0 P [.ref a0, .int a1, .int a2] (fun P2 => IV P2 ∧ EK [13] P P2) := by
  refine enV (lv := [(0, .ref a0), (1, .int a1), (2, .int a2)]) (by decide) (Nat.le_of_ble_eq_true rfl) rfl (fun E D cy C Ci0 ret => ?_)
  have J2 : ∀ (n2 : Nat) (P2 : PP) (v2_3 : Int32), (12 - v2_3.toInt).toNat < n2 → (IV P2) → (EK [13] P P2) → (0 ≤ v2_3.toInt ∧ v2_3.toInt ≤ 12) → G E ({ frames := 2, cells := 0, slots := 0, locals := 128 } : Room) D cy 4 P2 0 0 2 [(0, .ref a0), (1, .int a1), (2, .int a2), (3, .int v2_3)] [] := by
    intro n2
    induction n2 with
    | zero => intro P2 v2_3 hm2 I2 X2 hv2_3; omega
    | succ n2 ih2 =>
      intro P2 v2_3 hm2 I2 X2 hv2_3
      have h8669 := X2.at ha0
      refine g_iload_n C dX8_addAllWith_2 rfl 3 rfl ?_
      refine g_iload_n C dX8_addAllWith_3 rfl 1 rfl ?_
      refine b_icmp_gt C 37 dX8_addAllWith_4 (by decide) (fun h8670 => ?_) (fun h8670 => ?_)
      · have h8670 : a1.toInt < v2_3.toInt := h8670
        exact ret _ _ _ _ _ dX8_addAllWith_37 (by decide) (by decide) ⟨I2, X2⟩
      · have h8670 : v2_3.toInt ≤ a1.toInt := h8670
        refine g_iload_n C dX8_addAllWith_7 rfl 2 rfl ?_
        refine g_iload_n C dX8_addAllWith_8 rfl 3 rfl ?_
        refine s_iadd C dX8_addAllWith_9 (by show -2147483648 ≤ a2.toInt + v2_3.toInt ∧ a2.toInt + v2_3.toInt ≤ 2147483647; omega) (fun z8671 h8672 => ?_)
        have h8672 : z8671.toInt = a2.toInt + v2_3.toInt := h8672
        refine g_bipush (v := 11) C dX8_addAllWith_10 (by decide) ?_
        refine b_icmp_gt C 37 dX8_addAllWith_12 (by decide) (fun h8673 => ?_) (fun h8673 => ?_)
        · have h8673 : 11 < z8671.toInt := h8673
          exact ret _ _ _ _ _ dX8_addAllWith_37 (by decide) (by decide) ⟨I2, X2⟩
        · have h8673 : z8671.toInt ≤ 11 := h8673
          refine g_aload_n C dX8_addAllWith_15 rfl 0 rfl ?_
          obtain ⟨b8674, e8675, h8676⟩ := I2.fld (h8669) 0 13 12 rfl
          refine g_getR C fi_X8_9 rfl e8675 (h8669).1 (h8669).2 dX8_addAllWith_16 ?_
          refine g_iload_n C dX8_addAllWith_19 rfl 2 rfl ?_
          refine g_iload_n C dX8_addAllWith_20 rfl 3 rfl ?_
          refine s_iadd C dX8_addAllWith_21 (by show -2147483648 ≤ a2.toInt + v2_3.toInt ∧ a2.toInt + v2_3.toInt ≤ 2147483647; omega) (fun z8677 h8678 => ?_)
          have h8678 : z8677.toInt = a2.toInt + v2_3.toInt := h8678
          refine g_dup2_11 C dX8_addAllWith_22 rfl rfl ?_
          refine g_iald (j := (z8677.toInt.toNat)) C h8676.1 h8676.2.1 (ix_in h8676.2.2 (by omega)) dX8_addAllWith_23 ?_
          refine g_topi (fun z8679 _ => ?_)
          refine g_iload_n C dX8_addAllWith_24 rfl 1 rfl ?_
          refine g_iload_n C dX8_addAllWith_25 rfl 3 rfl ?_
          refine g_callSNI (b := 0) (ci := 0) (rest := [.int z8679, .int z8677, .ref b8674]) C mz_X8_100 [.int a1, .int v2_3] (s_X11_choose I2 (by omega) (by omega)) rfl rfl (by decide) (Nat.le_of_ble_eq_true rfl) (by decide) dX8_addAllWith_26 (fun r8680 Y8681 h8682 => ?_)
          obtain ⟨rfl, h8682⟩ := h8682
          have h8682 : True := h8682
          refine a_iadd C dX8_addAllWith_29 (fun z8683 => ?_)
          refine g_iast (j := (z8677.toInt.toNat)) C h8676.1 h8676.2.1 (ix_in h8676.2.2 (by omega)) dX8_addAllWith_30 ?_
          refine gp (ks := [13]) (I2.setA h8676 (by decide)) (EK.setI h8676.2.1 (by decide)) (fun Y8685 Iy8686 Xy8687 => ?_)
          have Xz8688 : EK [13] P Y8685 := X2.tr (Xy8687.mono (by decide))
          have h8689 := Xy8687.at h8669
          refine s_iinc (lv0 := [(0, .ref a0), (1, .int a1), (2, .int a2)]) (m := 1) C dX8_addAllWith_31 3 rfl (by decide) rfl (by decide) (by omega) (fun z8690 h8691 => ?_)
          have h8691 : z8690.toInt = v2_3.toInt + 1 := h8691
          refine g_goto C 2 dX8_addAllWith_34 (by decide) ?_
          refine g_lv (lv' := [(0, .ref a0), (1, .int a1), (2, .int a2), (3, .int z8690)]) [1, 2, 3, 0] rfl ?_
          exact ih2 Y8685 z8690 (by omega) Iy8686 Xz8688 (by omega)
  refine g_iconst (v := 0) C dX8_addAllWith_0 (by decide) ?_
  refine g_istore_n (lv' := [(3, .int 0), (0, .ref a0), (1, .int a1), (2, .int a2)]) C dX8_addAllWith_1 rfl (by decide) rfl ?_
  refine g_lv (lv' := [(0, .ref a0), (1, .int a1), (2, .int a2), (3, .int 0)]) [1, 2, 3, 0] rfl ?_
  exact J2 _ P 0 (Nat.lt_succ_self _) I EK.rf (by decide)
theorem dX8_walk_52 : decode cX8_walk 52 = .ok (.iload_n 1, 1) := by decide +kernel
theorem dX8_walk_53 : decode cX8_walk 53 = .ok (.bipush 11, 2) := by decide +kernel
theorem dX8_walk_55 : decode cX8_walk 55 = .ok (.if_icmp .ge 24, 3) := by decide +kernel
theorem dX8_walk_58 : decode cX8_walk 58 = .ok (.aload_n 0, 1) := by decide +kernel
theorem dX8_walk_59 : decode cX8_walk 59 = .ok (.getfield 28, 3) := by decide +kernel
theorem dX8_walk_62 : decode cX8_walk 62 = .ok (.getfield 77, 3) := by decide +kernel
theorem dX8_walk_65 : decode cX8_walk 65 = .ok (.aload_n 0, 1) := by decide +kernel
theorem dX8_walk_66 : decode cX8_walk 66 = .ok (.getfield 38, 3) := by decide +kernel
theorem dX8_walk_69 : decode cX8_walk 69 = .ok (.iadd, 1) := by decide +kernel
theorem dX8_walk_70 : decode cX8_walk 70 = .ok (.iload_n 1, 1) := by decide +kernel
theorem dX8_walk_71 : decode cX8_walk 71 = .ok (.isub, 1) := by decide +kernel
theorem dX8_walk_72 : decode cX8_walk 72 = .ok (.aload_n 0, 1) := by decide +kernel
theorem dX8_walk_73 : decode cX8_walk 73 = .ok (.getfield 51, 3) := by decide +kernel
theorem dX8_walk_76 : decode cX8_walk 76 = .ok (.if_icmp .ge 4, 3) := by decide +kernel
theorem dX8_walk_80 : decode cX8_walk 80 = .ok (.aload_n 0, 1) := by decide +kernel
theorem dX8_walk_81 : decode cX8_walk 81 = .ok (.iload_n 1, 1) := by decide +kernel
theorem dX8_walk_82 : decode cX8_walk 82 = .ok (.iconst 1, 1) := by decide +kernel
theorem dX8_walk_83 : decode cX8_walk 83 = .ok (.iadd, 1) := by decide +kernel
theorem dX8_walk_84 : decode cX8_walk 84 = .ok (.iload_n 2, 1) := by decide +kernel
theorem dX8_walk_85 : decode cX8_walk 85 = .ok (.iload_n 3, 1) := by decide +kernel
theorem dX8_walk_86 : decode cX8_walk 86 = .ok (.invokevirtual 73, 3) := by decide +kernel
theorem dX8_walk_89 : decode cX8_walk 89 = .ok (.aload_n 0, 1) := by decide +kernel
theorem dX8_walk_90 : decode cX8_walk 90 = .ok (.getfield 28, 3) := by decide +kernel
theorem dX8_walk_93 : decode cX8_walk 93 = .ok (.getfield 77, 3) := by decide +kernel
theorem dX8_walk_96 : decode cX8_walk 96 = .ok (.istore 4, 2) := by decide +kernel
theorem dX8_walk_98 : decode cX8_walk 98 = .ok (.aload_n 0, 1) := by decide +kernel
theorem dX8_walk_99 : decode cX8_walk 99 = .ok (.getfield 21, 3) := by decide +kernel
theorem dX8_walk_102 : decode cX8_walk 102 = .ok (.getfield 84, 3) := by decide +kernel
theorem dX8_walk_105 : decode cX8_walk 105 = .ok (.istore 5, 2) := by decide +kernel
theorem dX8_walk_107 : decode cX8_walk 107 = .ok (.aload_n 0, 1) := by decide +kernel
theorem dX8_walk_108 : decode cX8_walk 108 = .ok (.getfield 28, 3) := by decide +kernel
theorem dX8_walk_111 : decode cX8_walk 111 = .ok (.aload_n 0, 1) := by decide +kernel
theorem dX8_walk_112 : decode cX8_walk 112 = .ok (.getfield 15, 3) := by decide +kernel
theorem dX8_walk_115 : decode cX8_walk 115 = .ok (.iload_n 1, 1) := by decide +kernel
theorem dX8_walk_116 : decode cX8_walk 116 = .ok (.iaload, 1) := by decide +kernel
theorem dX8_walk_117 : decode cX8_walk 117 = .ok (.invokevirtual 87, 3) := by decide +kernel
theorem dX8_walk_120 : decode cX8_walk 120 = .ok (.aload_n 0, 1) := by decide +kernel
theorem dX8_walk_121 : decode cX8_walk 121 = .ok (.getfield 21, 3) := by decide +kernel
theorem dX8_walk_124 : decode cX8_walk 124 = .ok (.aload_n 0, 1) := by decide +kernel
theorem dX8_walk_125 : decode cX8_walk 125 = .ok (.getfield 15, 3) := by decide +kernel
theorem dX8_walk_128 : decode cX8_walk 128 = .ok (.iload_n 1, 1) := by decide +kernel
theorem dX8_walk_129 : decode cX8_walk 129 = .ok (.iaload, 1) := by decide +kernel
theorem dX8_walk_130 : decode cX8_walk 130 = .ok (.iload_n 1, 1) := by decide +kernel
theorem dX8_walk_131 : decode cX8_walk 131 = .ok (.invokevirtual 91, 3) := by decide +kernel
theorem dX8_walk_134 : decode cX8_walk 134 = .ok (.aload_n 0, 1) := by decide +kernel
theorem dX8_walk_135 : decode cX8_walk 135 = .ok (.iload_n 1, 1) := by decide +kernel
theorem dX8_walk_136 : decode cX8_walk 136 = .ok (.iconst 1, 1) := by decide +kernel
theorem dX8_walk_137 : decode cX8_walk 137 = .ok (.iadd, 1) := by decide +kernel
theorem dX8_walk_138 : decode cX8_walk 138 = .ok (.iload_n 2, 1) := by decide +kernel
theorem dX8_walk_139 : decode cX8_walk 139 = .ok (.iconst 1, 1) := by decide +kernel
theorem dX8_walk_140 : decode cX8_walk 140 = .ok (.iadd, 1) := by decide +kernel
theorem dX8_walk_141 : decode cX8_walk 141 = .ok (.aload_n 0, 1) := by decide +kernel
theorem dX8_walk_142 : decode cX8_walk 142 = .ok (.getfield 42, 3) := by decide +kernel
theorem dX8_walk_145 : decode cX8_walk 145 = .ok (.ifCond .ne 14, 3) := by decide +kernel
theorem dX8_walk_148 : decode cX8_walk 148 = .ok (.aload_n 0, 1) := by decide +kernel
theorem dX8_walk_149 : decode cX8_walk 149 = .ok (.getfield 21, 3) := by decide +kernel
theorem dX8_walk_152 : decode cX8_walk 152 = .ok (.iload_n 3, 1) := by decide +kernel
theorem dX8_walk_153 : decode cX8_walk 153 = .ok (.invokevirtual 93, 3) := by decide +kernel
theorem dX8_walk_159 : decode cX8_walk 159 = .ok (.iload_n 3, 1) := by decide +kernel
theorem dX5_spread_0 : decode cX5_spread 0 = .ok (.iload_n 1, 1) := by decide +kernel
theorem dX5_spread_1 : decode cX5_spread 1 = .ok (.istore_n 2, 1) := by decide +kernel
theorem dX5_spread_2 : decode cX5_spread 2 = .ok (.iconst 0, 1) := by decide +kernel
theorem dX5_spread_3 : decode cX5_spread 3 = .ok (.istore_n 3, 1) := by decide +kernel
theorem dX5_spread_4 : decode cX5_spread 4 = .ok (.iload_n 3, 1) := by decide +kernel
theorem dX5_spread_5 : decode cX5_spread 5 = .ok (.bipush 20, 2) := by decide +kernel
theorem dX5_spread_7 : decode cX5_spread 7 = .ok (.if_icmp .gt 62, 3) := by decide +kernel
theorem dX5_spread_10 : decode cX5_spread 10 = .ok (.iload_n 2, 1) := by decide +kernel
theorem dX5_spread_11 : decode cX5_spread 11 = .ok (.istore 4, 2) := by decide +kernel
theorem dX5_spread_13 : decode cX5_spread 13 = .ok (.iconst 0, 1) := by decide +kernel
theorem dX5_spread_14 : decode cX5_spread 14 = .ok (.istore 5, 2) := by decide +kernel
theorem dX5_spread_16 : decode cX5_spread 16 = .ok (.iload 5, 2) := by decide +kernel
theorem dX5_spread_18 : decode cX5_spread 18 = .ok (.aload_n 0, 1) := by decide +kernel
theorem dX5_spread_19 : decode cX5_spread 19 = .ok (.getfield 25, 3) := by decide +kernel
theorem dX5_spread_22 : decode cX5_spread 22 = .ok (.if_icmp .ge 33, 3) := by decide +kernel
theorem dX5_spread_25 : decode cX5_spread 25 = .ok (.aload_n 0, 1) := by decide +kernel
theorem dX5_spread_26 : decode cX5_spread 26 = .ok (.iload 5, 2) := by decide +kernel
theorem dX5_spread_28 : decode cX5_spread 28 = .ok (.iload_n 2, 1) := by decide +kernel
theorem dX5_spread_29 : decode cX5_spread 29 = .ok (.invokevirtual 54, 3) := by decide +kernel
theorem dX5_spread_55 : decode cX5_spread 55 = .ok (.iload_n 2, 1) := by decide +kernel
theorem dX5_spread_56 : decode cX5_spread 56 = .ok (.iload 4, 2) := by decide +kernel
theorem dX5_spread_58 : decode cX5_spread 58 = .ok (.if_icmp .ne 5, 3) := by decide +kernel
theorem dX5_spread_61 : decode cX5_spread 61 = .ok (.iload_n 2, 1) := by decide +kernel
theorem dX5_spread_62 : decode cX5_spread 62 = .ok (.ireturn, 1) := by decide +kernel
theorem dX5_spread_63 : decode cX5_spread 63 = .ok (.iinc 3 1, 3) := by decide +kernel
theorem dX5_spread_66 : decode cX5_spread 66 = .ok (.goto (-62), 3) := by decide +kernel
theorem dX5_unknownOf_0 : decode cX5_unknownOf 0 = .ok (.aload_n 0, 1) := by decide +kernel
theorem dX5_unknownOf_1 : decode cX5_unknownOf 1 = .ok (.getfield 9, 3) := by decide +kernel
theorem dX5_unknownOf_4 : decode cX5_unknownOf 4 = .ok (.iload_n 1, 1) := by decide +kernel
theorem dX5_unknownOf_5 : decode cX5_unknownOf 5 = .ok (.iaload, 1) := by decide +kernel
theorem dX5_unknownOf_6 : decode cX5_unknownOf 6 = .ok (.ldc 53, 2) := by decide +kernel
theorem dX5_unknownOf_8 : decode cX5_unknownOf 8 = .ok (.iand, 1) := by decide +kernel
theorem dX5_unknownOf_9 : decode cX5_unknownOf 9 = .ok (.iload_n 2, 1) := by decide +kernel
theorem dX5_unknownOf_10 : decode cX5_unknownOf 10 = .ok (.iconst (-1), 1) := by decide +kernel
theorem dX5_unknownOf_11 : decode cX5_unknownOf 11 = .ok (.ixor, 1) := by decide +kernel
theorem dX5_unknownOf_12 : decode cX5_unknownOf 12 = .ok (.iand, 1) := by decide +kernel
theorem dX5_unknownOf_13 : decode cX5_unknownOf 13 = .ok (.ireturn, 1) := by decide +kernel
set_option maxHeartbeats 4000000 in
set_option maxRecDepth 100000 in
theorem s_X5_unknownOf {P : PP} {a0 : Nat} {a1 : Int32} {a2 : Int32} (I : IV P) (ha0 : At P a0 5) (ha1 : 0 ≤ a1.toInt ∧ a1.toInt ≤ 43) : CtrI yX5_unknownOf cX5_unknownOf 3 (some Jvm.ClassFile.FieldType.int) ({ frames := 1, cells := 0, slots := 0, locals := 64 } : Room) 0 0 P [.ref a0, .int a1, .int a2] (fun r P2 => P = P2 ∧ (True)) := by
  refine enI (lv := [(0, .ref a0), (1, .int a1), (2, .int a2)]) (by decide) (Nat.le_of_ble_eq_true rfl) rfl (fun E D cy C Ci0 ret => ?_)
  refine g_aload_n C dX5_unknownOf_0 rfl 0 rfl ?_
  obtain ⟨b8845, e8846, h8847⟩ := I.fld (ha0) 0 13 44 rfl
  refine g_getR C fi_X5_9 rfl e8846 (ha0).1 (ha0).2 dX5_unknownOf_1 ?_
  refine g_iload_n C dX5_unknownOf_4 rfl 1 rfl ?_
  refine g_iald (j := (a1.toInt.toNat)) C h8847.1 h8847.2.1 (ix_in h8847.2.2 (by omega)) dX5_unknownOf_5 ?_
  refine g_topi (fun z8848 _ => ?_)
  refine g_ldc (v := 1048575) C kc_X5_53 dX5_unknownOf_6 ?_
  refine s_iand C dX5_unknownOf_8 (by show 0 ≤ 1048575; omega) (fun z8849 h8850 => ?_)
  have h8850 : 0 ≤ z8849.toInt ∧ z8849.toInt ≤ 1048575 := h8850
  refine g_iload_n C dX5_unknownOf_9 rfl 2 rfl ?_
  refine g_iconst (v := (-1)) C dX5_unknownOf_10 (by decide) ?_
  refine a_ixor C dX5_unknownOf_11 (fun z8851 => ?_)
  refine a_iand C dX5_unknownOf_12 (fun z8853 => ?_)
  exact ret _ _ _ _ _ _ dX5_unknownOf_13 rfl (by decide) (by decide) ⟨rfl, trivial⟩
theorem dX5_spread_32 : decode cX5_spread 32 = .ok (.istore 6, 2) := by decide +kernel
theorem dX5_spread_34 : decode cX5_spread 34 = .ok (.iload 6, 2) := by decide +kernel
theorem dX5_spread_36 : decode cX5_spread 36 = .ok (.iload 6, 2) := by decide +kernel
theorem dX5_spread_38 : decode cX5_spread 38 = .ok (.iconst 1, 1) := by decide +kernel
theorem dX5_spread_39 : decode cX5_spread 39 = .ok (.isub, 1) := by decide +kernel
theorem dX5_spread_40 : decode cX5_spread 40 = .ok (.iand, 1) := by decide +kernel
theorem dX5_spread_41 : decode cX5_spread 41 = .ok (.ifCond .ne 8, 3) := by decide +kernel
theorem dX5_spread_44 : decode cX5_spread 44 = .ok (.iload_n 2, 1) := by decide +kernel
theorem dX5_spread_45 : decode cX5_spread 45 = .ok (.iload 6, 2) := by decide +kernel
theorem dX5_spread_47 : decode cX5_spread 47 = .ok (.ior, 1) := by decide +kernel
theorem dX5_spread_48 : decode cX5_spread 48 = .ok (.istore_n 2, 1) := by decide +kernel
theorem dX5_spread_49 : decode cX5_spread 49 = .ok (.iinc 5 1, 3) := by decide +kernel
theorem dX5_spread_52 : decode cX5_spread 52 = .ok (.goto (-36), 3) := by decide +kernel
theorem dX5_spread_69 : decode cX5_spread 69 = .ok (.iload_n 2, 1) := by decide +kernel
theorem dX5_spread_70 : decode cX5_spread 70 = .ok (.ireturn, 1) := by decide +kernel
set_option maxHeartbeats 4000000 in
set_option maxRecDepth 100000 in
theorem s_X5_spread {P : PP} {a0 : Nat} {a1 : Int32} (I : IV P) (ha0 : At P a0 5) : CtrI yX5_spread cX5_spread 7 (some Jvm.ClassFile.FieldType.int) ({ frames := 2, cells := 0, slots := 0, locals := 128 } : Room) 0 0 P [.ref a0, .int a1] (fun r P2 => P = P2 ∧ (True)) := by
  refine enI (lv := [(0, .ref a0), (1, .int a1)]) (by decide) (Nat.le_of_ble_eq_true rfl) rfl (fun E D cy C Ci0 ret => ?_)
  have J4 : ∀ (n4 : Nat) (v4_2 : Int32) (v4_3 : Int32), (21 - v4_3.toInt).toNat < n4 → (0 ≤ v4_3.toInt ∧ v4_3.toInt ≤ 21) → G E ({ frames := 2, cells := 0, slots := 0, locals := 128 } : Room) D cy 7 P 0 0 4 [(0, .ref a0), (2, .int v4_2), (3, .int v4_3)] [] := by
    intro n4
    induction n4 with
    | zero => intro v4_2 v4_3 hm4 hv4_3; omega
    | succ n4 ih4 =>
      intro v4_2 v4_3 hm4 hv4_3
      have J16 : ∀ (n16 : Nat) (v16_2 : Int32) (v16_5 : Int32), (44 - v16_5.toInt).toNat < n16 → (0 ≤ v4_3.toInt ∧ v4_3.toInt ≤ 20) → (0 ≤ v16_5.toInt ∧ v16_5.toInt ≤ 44) → G E ({ frames := 2, cells := 0, slots := 0, locals := 128 } : Room) D cy 7 P 0 0 16 [(0, .ref a0), (2, .int v16_2), (3, .int v4_3), (4, .int v4_2), (5, .int v16_5)] [] := by
        intro n16
        induction n16 with
        | zero => intro v16_2 v16_5 hm16 hv16_3 hv16_5; omega
        | succ n16 ih16 =>
          intro v16_2 v16_5 hm16 hv16_3 hv16_5
          have J49 : ∀ (v49_2 : Int32), (0 ≤ v4_3.toInt ∧ v4_3.toInt ≤ 20) → (0 ≤ v16_5.toInt ∧ v16_5.toInt ≤ 43) → (1 ≤ (pI P a0 4).toInt ∧ (pI P a0 4).toInt ≤ 44) → G E ({ frames := 2, cells := 0, slots := 0, locals := 128 } : Room) D cy 7 P 0 0 49 [(0, .ref a0), (2, .int v49_2), (3, .int v4_3), (4, .int v4_2), (5, .int v16_5)] [] := by
            intro v49_2 hv49_3 hv49_5 hq49_0
            refine s_iinc (lv0 := [(0, .ref a0), (2, .int v49_2), (3, .int v4_3), (4, .int v4_2)]) (m := 1) C dX5_spread_49 4 rfl (by decide) rfl (by decide) (by omega) (fun z9209 h9210 => ?_)
            have h9210 : z9209.toInt = v16_5.toInt + 1 := h9210
            refine g_goto C 16 dX5_spread_52 (by decide) ?_
            refine g_lv (lv' := [(0, .ref a0), (2, .int v49_2), (3, .int v4_3), (4, .int v4_2), (5, .int z9209)]) [1, 2, 3, 4, 0] rfl ?_
            exact ih16 v49_2 z9209 (by omega) (by omega) (by omega)
          refine g_iload C dX5_spread_16 4 rfl ?_
          refine g_aload_n C dX5_spread_18 rfl 0 rfl ?_
          refine g_getI C fi_X5_25 (by decide) (ha0).1 (ha0).2 dX5_spread_19 ?_
          have h9211 := I.rg (ha0) 4 rfl
          refine b_icmp_ge C 55 dX5_spread_22 (by decide) (fun h9212 => ?_) (fun h9212 => ?_)
          · have h9212 : (pI P a0 4).toInt ≤ v16_5.toInt := h9212
            refine g_iload_n C dX5_spread_55 rfl 1 rfl ?_
            refine g_iload C dX5_spread_56 3 rfl ?_
            have u9214 := ti_rng v16_2
            have u9215 := ti_rng v4_2
            refine b_icmp_ne C 63 dX5_spread_58 (by decide) (fun h9213 => ?_) (fun h9213 => ?_)
            · have h9213 : v16_2.toInt ≠ v4_2.toInt := ti_ne h9213
              refine s_iinc (lv0 := [(0, .ref a0), (2, .int v16_2), (4, .int v4_2), (5, .int v16_5)]) (m := 1) C dX5_spread_63 2 rfl (by decide) rfl (by decide) (by omega) (fun z9216 h9217 => ?_)
              have h9217 : z9216.toInt = v4_3.toInt + 1 := h9217
              refine g_goto C 4 dX5_spread_66 (by decide) ?_
              refine g_lv (lv' := [(0, .ref a0), (2, .int v16_2), (3, .int z9216)]) [1, 2, 0] rfl ?_
              exact ih4 v16_2 z9216 (by omega) (by omega)
            · have h9213 : v16_2.toInt = v4_2.toInt := congrArg Int32.toInt h9213
              refine g_iload_n C dX5_spread_61 rfl 1 rfl ?_
              exact ret _ _ _ _ _ _ dX5_spread_62 rfl (by decide) (by decide) ⟨rfl, trivial⟩
          · have h9212 : v16_5.toInt < (pI P a0 4).toInt := h9212
            refine g_aload_n C dX5_spread_25 rfl 0 rfl ?_
            refine g_iload C dX5_spread_26 4 rfl ?_
            refine g_iload_n C dX5_spread_28 rfl 1 rfl ?_
            refine g_callVI (rest := []) C mv_X5_54 [.int v16_5, .int v16_2] (s_X5_unknownOf I ha0 (by omega)) (ha0).1 (ha0).2 rfl rfl (by decide) (Nat.le_of_ble_eq_true rfl) (by decide) dX5_spread_29 (fun r9218 Y9219 h9220 => ?_)
            obtain ⟨rfl, h9220⟩ := h9220
            have h9220 : True := h9220
            refine g_istore (lv' := [(6, .int r9218), (0, .ref a0), (2, .int v16_2), (3, .int v4_3), (4, .int v4_2), (5, .int v16_5)]) C dX5_spread_32 (by decide) rfl ?_
            refine g_iload C dX5_spread_34 0 rfl ?_
            refine g_iload C dX5_spread_36 0 rfl ?_
            refine g_iconst (v := 1) C dX5_spread_38 (by decide) ?_
            refine a_isub C dX5_spread_39 (fun z9221 => ?_)
            refine a_iand C dX5_spread_40 (fun z9223 => ?_)
            have u9226 := ti_rng z9223
            refine b_if_ne C 49 dX5_spread_41 (by decide) (fun h9225 => ?_) (fun h9225 => ?_)
            · have h9225 : z9223.toInt ≠ 0 := ti_ne h9225
              refine g_lv (lv' := [(0, .ref a0), (2, .int v16_2), (3, .int v4_3), (4, .int v4_2), (5, .int v16_5)]) [1, 2, 3, 4, 5] rfl ?_
              exact J49 v16_2 (by omega) (by omega) (by omega)
            · have h9225 : z9223.toInt = 0 := congrArg Int32.toInt h9225
              refine g_iload_n C dX5_spread_44 rfl 2 rfl ?_
              refine g_iload C dX5_spread_45 0 rfl ?_
              refine a_ior C dX5_spread_47 (fun z9227 => ?_)
              refine g_istore_n (lv' := [(2, .int z9227), (6, .int r9218), (0, .ref a0), (3, .int v4_3), (4, .int v4_2), (5, .int v16_5)]) C dX5_spread_48 rfl (by decide) rfl ?_
              refine g_lv (lv' := [(0, .ref a0), (2, .int z9227), (3, .int v4_3), (4, .int v4_2), (5, .int v16_5)]) [2, 0, 3, 4, 5] rfl ?_
              exact J49 z9227 (by omega) (by omega) (by omega)
      refine g_iload_n C dX5_spread_4 rfl 2 rfl ?_
      refine g_bipush (v := 20) C dX5_spread_5 (by decide) ?_
      refine b_icmp_gt C 69 dX5_spread_7 (by decide) (fun h9229 => ?_) (fun h9229 => ?_)
      · have h9229 : 20 < v4_3.toInt := h9229
        refine g_iload_n C dX5_spread_69 rfl 1 rfl ?_
        exact ret _ _ _ _ _ _ dX5_spread_70 rfl (by decide) (by decide) ⟨rfl, trivial⟩
      · have h9229 : v4_3.toInt ≤ 20 := h9229
        refine g_iload_n C dX5_spread_10 rfl 1 rfl ?_
        refine g_istore (lv' := [(4, .int v4_2), (0, .ref a0), (2, .int v4_2), (3, .int v4_3)]) C dX5_spread_11 (by decide) rfl ?_
        refine g_iconst (v := 0) C dX5_spread_13 (by decide) ?_
        refine g_istore (lv' := [(5, .int 0), (4, .int v4_2), (0, .ref a0), (2, .int v4_2), (3, .int v4_3)]) C dX5_spread_14 (by decide) rfl ?_
        refine g_lv (lv' := [(0, .ref a0), (2, .int v4_2), (3, .int v4_3), (4, .int v4_2), (5, .int 0)]) [2, 3, 4, 1, 0] rfl ?_
        exact J16 _ v4_2 0 (Nat.lt_succ_self _) (by omega) (by decide)
  refine g_iload_n C dX5_spread_0 rfl 1 rfl ?_
  refine g_istore_n (lv' := [(2, .int a1), (0, .ref a0), (1, .int a1)]) C dX5_spread_1 rfl (by decide) rfl ?_
  refine g_iconst (v := 0) C dX5_spread_2 (by decide) ?_
  refine g_istore_n (lv' := [(3, .int 0), (2, .int a1), (0, .ref a0), (1, .int a1)]) C dX5_spread_3 rfl (by decide) rfl ?_
  refine g_lv (lv' := [(0, .ref a0), (2, .int a1), (3, .int 0)]) [2, 1, 0] rfl ?_
  exact J4 _ a1 0 (Nat.lt_succ_self _) (by decide)
theorem dX8_walk_156 : decode cX8_walk 156 = .ok (.goto 4, 3) := by decide +kernel
theorem dX8_walk_160 : decode cX8_walk 160 = .ok (.invokevirtual 73, 3) := by decide +kernel
theorem dX8_walk_163 : decode cX8_walk 163 = .ok (.aload_n 0, 1) := by decide +kernel
theorem dX8_walk_164 : decode cX8_walk 164 = .ok (.getfield 28, 3) := by decide +kernel
theorem dX8_walk_167 : decode cX8_walk 167 = .ok (.iload 4, 2) := by decide +kernel
theorem dX8_walk_169 : decode cX8_walk 169 = .ok (.invokevirtual 96, 3) := by decide +kernel
theorem dX8_walk_172 : decode cX8_walk 172 = .ok (.aload_n 0, 1) := by decide +kernel
theorem dX8_walk_173 : decode cX8_walk 173 = .ok (.getfield 21, 3) := by decide +kernel
theorem dX8_walk_176 : decode cX8_walk 176 = .ok (.iload 5, 2) := by decide +kernel
theorem dX8_walk_178 : decode cX8_walk 178 = .ok (.invokevirtual 99, 3) := by decide +kernel
theorem dX5_cut_0 : decode cX5_cut 0 = .ok (.aload_n 0, 1) := by decide +kernel
theorem dX5_cut_1 : decode cX5_cut 1 = .ok (.iload_n 1, 1) := by decide +kernel
theorem dX5_cut_2 : decode cX5_cut 2 = .ok (.ifCond .lt 15, 3) := by decide +kernel
theorem dX5_cut_5 : decode cX5_cut 5 = .ok (.iload_n 1, 1) := by decide +kernel
theorem dX5_cut_6 : decode cX5_cut 6 = .ok (.aload_n 0, 1) := by decide +kernel
theorem dX5_cut_7 : decode cX5_cut 7 = .ok (.getfield 25, 3) := by decide +kernel
theorem dX5_cut_10 : decode cX5_cut 10 = .ok (.if_icmp .ge 7, 3) := by decide +kernel
theorem dX5_cut_13 : decode cX5_cut 13 = .ok (.iload_n 1, 1) := by decide +kernel
theorem dX5_cut_14 : decode cX5_cut 14 = .ok (.goto 7, 3) := by decide +kernel
theorem dX5_cut_17 : decode cX5_cut 17 = .ok (.aload_n 0, 1) := by decide +kernel
theorem dX5_cut_18 : decode cX5_cut 18 = .ok (.getfield 25, 3) := by decide +kernel
theorem dX5_cut_21 : decode cX5_cut 21 = .ok (.putfield 25, 3) := by decide +kernel
theorem dX5_cut_24 : decode cX5_cut 24 = .ok (.return_, 1) := by decide +kernel
set_option maxHeartbeats 4000000 in
set_option maxRecDepth 100000 in
theorem s_X5_cut {P : PP} {a0 : Nat} {a1 : Int32} (I : IV P) (ha0 : At P a0 5) : CtrV yX5_cut cX5_cut 2 none ({ frames := 1, cells := 0, slots := 0, locals := 64 } : Room) 0 0 P [.ref a0, .int a1] (fun P2 => IV P2 ∧ EK [5] P P2) := by
  refine enV (lv := [(0, .ref a0), (1, .int a1)]) (by decide) (Nat.le_of_ble_eq_true rfl) rfl (fun E D cy C Ci0 ret => ?_)
  have J21 : ∀ (v21_s0 : Int32), (0 ≤ v21_s0.toInt ∧ v21_s0.toInt ≤ 44) → G E ({ frames := 1, cells := 0, slots := 0, locals := 64 } : Room) D cy 2 P 0 0 21 [] [.int v21_s0, .ref a0] := by
    intro v21_s0 hv21_s0
    refine g_putI C fi_X5_25 rfl (ha0).1 (ha0).2 dX5_cut_21 ?_
    refine gpW (ks := [5]) (I.setI (ha0) (rgOk.of rfl (by omega))) (EK.setI (ha0).2 (by decide)) (fun Y9367 Iy9368 Xy9369 w9370 w9371 => ?_)
    have Xz9372 : EK [5] P Y9367 := Xy9369.mono (by decide)
    have h9373 := Xy9369.at ha0
    exact ret _ _ _ _ _ dX5_cut_24 (by decide) (by decide) ⟨Iy9368, Xz9372⟩
  have J17 : G E ({ frames := 1, cells := 0, slots := 0, locals := 64 } : Room) D cy 2 P 0 0 17 [(0, .ref a0)] [.ref a0] := by
    refine g_aload_n C dX5_cut_17 rfl 0 rfl ?_
    refine g_getI C fi_X5_25 (by decide) (ha0).1 (ha0).2 dX5_cut_18 ?_
    have h9374 := I.rg (ha0) 4 rfl
    refine g_lv (lv' := []) [] rfl ?_
    exact J21 (pI P a0 4) (by omega)
  refine g_aload_n C dX5_cut_0 rfl 0 rfl ?_
  refine g_iload_n C dX5_cut_1 rfl 1 rfl ?_
  have u9376 := ti_rng a1
  refine b_if_lt C 17 dX5_cut_2 (by decide) (fun h9375 => ?_) (fun h9375 => ?_)
  · have h9375 : a1.toInt < 0 := h9375
    refine g_lv (lv' := [(0, .ref a0)]) [0] rfl ?_
    exact J17 
  · have h9375 : 0 ≤ a1.toInt := h9375
    refine g_iload_n C dX5_cut_5 rfl 1 rfl ?_
    refine g_aload_n C dX5_cut_6 rfl 0 rfl ?_
    refine g_getI C fi_X5_25 (by decide) (ha0).1 (ha0).2 dX5_cut_7 ?_
    have h9377 := I.rg (ha0) 4 rfl
    have u9379 := ti_rng a1
    refine b_icmp_ge C 17 dX5_cut_10 (by decide) (fun h9378 => ?_) (fun h9378 => ?_)
    · have h9378 : (pI P a0 4).toInt ≤ a1.toInt := h9378
      refine g_lv (lv' := [(0, .ref a0)]) [0] rfl ?_
      exact J17 
    · have h9378 : a1.toInt < (pI P a0 4).toInt := h9378
      refine g_iload_n C dX5_cut_13 rfl 1 rfl ?_
      refine g_goto C 21 dX5_cut_14 (by decide) ?_
      refine g_lv (lv' := []) [] rfl ?_
      exact J21 a1 (by omega)
