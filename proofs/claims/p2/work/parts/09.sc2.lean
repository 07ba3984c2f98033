theorem dX10_init_0 : decode cX10_init 0 = .ok (.aload_n 0, 1) := by decide +kernel
theorem dX10_init_1 : decode cX10_init 1 = .ok (.invokespecial 3, 3) := by decide +kernel
theorem dX10_init_4 : decode cX10_init 4 = .ok (.aload_n 0, 1) := by decide +kernel
theorem dX10_init_5 : decode cX10_init 5 = .ok (.bipush 6, 2) := by decide +kernel
theorem dX10_init_7 : decode cX10_init 7 = .ok (.anewarray 9, 3) := by decide +kernel
theorem dX11_allHouses_0 : decode cX11_allHouses 0 = .ok (.iconst 0, 1) := by decide +kernel
theorem dX11_allHouses_1 : decode cX11_allHouses 1 = .ok (.istore_n 1, 1) := by decide +kernel
theorem dX11_allHouses_2 : decode cX11_allHouses 2 = .ok (.iconst 0, 1) := by decide +kernel
theorem dX11_allHouses_3 : decode cX11_allHouses 3 = .ok (.istore_n 2, 1) := by decide +kernel
theorem dX11_allHouses_4 : decode cX11_allHouses 4 = .ok (.iload_n 2, 1) := by decide +kernel
theorem dX11_allHouses_5 : decode cX11_allHouses 5 = .ok (.iconst 4, 1) := by decide +kernel
theorem dX11_allHouses_6 : decode cX11_allHouses 6 = .ok (.if_icmp .ge 18, 3) := by decide +kernel
theorem dX11_allHouses_9 : decode cX11_allHouses 9 = .ok (.iload_n 1, 1) := by decide +kernel
theorem dX11_allHouses_10 : decode cX11_allHouses 10 = .ok (.aload_n 0, 1) := by decide +kernel
theorem dX11_allHouses_11 : decode cX11_allHouses 11 = .ok (.getfield 32, 3) := by decide +kernel
theorem dX11_allHouses_14 : decode cX11_allHouses 14 = .ok (.iload_n 2, 1) := by decide +kernel
theorem dX11_allHouses_15 : decode cX11_allHouses 15 = .ok (.iaload, 1) := by decide +kernel
theorem dX11_allHouses_16 : decode cX11_allHouses 16 = .ok (.iadd, 1) := by decide +kernel
theorem dX11_allHouses_17 : decode cX11_allHouses 17 = .ok (.istore_n 1, 1) := by decide +kernel
theorem dX11_allHouses_18 : decode cX11_allHouses 18 = .ok (.iinc 2 1, 3) := by decide +kernel
theorem dX11_allHouses_21 : decode cX11_allHouses 21 = .ok (.goto (-17), 3) := by decide +kernel
theorem dX11_allHouses_24 : decode cX11_allHouses 24 = .ok (.iload_n 1, 1) := by decide +kernel
theorem dX11_allHouses_25 : decode cX11_allHouses 25 = .ok (.ireturn, 1) := by decide +kernel
set_option maxHeartbeats 4000000 in
set_option maxRecDepth 100000 in
theorem s_X11_allHouses {P : PP} {a0 : Nat} (I : IV P) (ha0 : At P a0 11) : CtrI yX11_allHouses cX11_allHouses 3 (some Jvm.ClassFile.FieldType.int) ({ frames := 1, cells := 0, slots := 0, locals := 64 } : Room) 0 0 P [.ref a0] (fun r P2 => P = P2 ∧ (True)) := by
  refine enI (lv := [(0, .ref a0)]) (by decide) (Nat.le_of_ble_eq_true rfl) rfl (fun E D cy C Ci0 ret => ?_)
  have J4 : ∀ (n4 : Nat) (v4_1 : Int32) (v4_2 : Int32), (4 - v4_2.toInt).toNat < n4 → (0 ≤ v4_2.toInt ∧ v4_2.toInt ≤ 4) → G E ({ frames := 1, cells := 0, slots := 0, locals := 64 } : Room) D cy 3 P 0 0 4 [(0, .ref a0), (1, .int v4_1), (2, .int v4_2)] [] := by
    intro n4
    induction n4 with
    | zero => intro v4_1 v4_2 hm4 hv4_2; omega
    | succ n4 ih4 =>
      intro v4_1 v4_2 hm4 hv4_2
      refine g_iload_n C dX11_allHouses_4 rfl 2 rfl ?_
      refine g_iconst (v := 4) C dX11_allHouses_5 (by decide) ?_
      refine b_icmp_ge C 24 dX11_allHouses_6 (by decide) (fun h4750 => ?_) (fun h4750 => ?_)
      · have h4750 : 4 ≤ v4_2.toInt := h4750
        refine g_iload_n C dX11_allHouses_24 rfl 1 rfl ?_
        exact ret _ _ _ _ _ _ dX11_allHouses_25 rfl (by decide) (by decide) ⟨rfl, trivial⟩
      · have h4750 : v4_2.toInt < 4 := h4750
        refine g_iload_n C dX11_allHouses_9 rfl 1 rfl ?_
        refine g_aload_n C dX11_allHouses_10 rfl 0 rfl ?_
        obtain ⟨b4751, e4752, h4753⟩ := I.fld (ha0) 5 13 4 rfl
        refine g_getR C fi_X11_32 rfl e4752 (ha0).1 (ha0).2 dX11_allHouses_11 ?_
        refine g_iload_n C dX11_allHouses_14 rfl 2 rfl ?_
        refine g_iald (j := (v4_2.toInt.toNat)) C h4753.1 h4753.2.1 (ix_in h4753.2.2 (by omega)) dX11_allHouses_15 ?_
        refine g_topi (fun z4754 _ => ?_)
        refine a_iadd C dX11_allHouses_16 (fun z4755 => ?_)
        refine g_istore_n (lv' := [(1, .int z4755), (0, .ref a0), (2, .int v4_2)]) C dX11_allHouses_17 rfl (by decide) rfl ?_
        refine s_iinc (lv0 := [(1, .int z4755), (0, .ref a0)]) (m := 1) C dX11_allHouses_18 2 rfl (by decide) rfl (by decide) (by omega) (fun z4757 h4758 => ?_)
        have h4758 : z4757.toInt = v4_2.toInt + 1 := h4758
        refine g_goto C 4 dX11_allHouses_21 (by decide) ?_
        refine g_lv (lv' := [(0, .ref a0), (1, .int z4755), (2, .int z4757)]) [2, 1, 0] rfl ?_
        exact ih4 z4755 z4757 (by omega) (by omega)
  refine g_iconst (v := 0) C dX11_allHouses_0 (by decide) ?_
  refine g_istore_n (lv' := [(1, .int 0), (0, .ref a0)]) C dX11_allHouses_1 rfl (by decide) rfl ?_
  refine g_iconst (v := 0) C dX11_allHouses_2 (by decide) ?_
  refine g_istore_n (lv' := [(2, .int 0), (1, .int 0), (0, .ref a0)]) C dX11_allHouses_3 rfl (by decide) rfl ?_
  refine g_lv (lv' := [(0, .ref a0), (1, .int 0), (2, .int 0)]) [2, 1, 0] rfl ?_
  exact J4 _ 0 0 (Nat.lt_succ_self _) (by decide)
theorem dX11_apart_0 : decode cX11_apart 0 = .ok (.aload_n 0, 1) := by decide +kernel
theorem dX11_apart_1 : decode cX11_apart 1 = .ok (.iload_n 1, 1) := by decide +kernel
theorem dX11_apart_2 : decode cX11_apart 2 = .ok (.iload_n 2, 1) := by decide +kernel
theorem dX11_apart_3 : decode cX11_apart 3 = .ok (.invokevirtual 185, 3) := by decide +kernel
theorem dX11_paperAt_0 : decode cX11_paperAt 0 = .ok (.iload_n 1, 1) := by decide +kernel
theorem dX11_paperAt_1 : decode cX11_paperAt 1 = .ok (.invokestatic 158, 3) := by decide +kernel
theorem dX11_isQuarter_0 : decode cX11_isQuarter 0 = .ok (.iload_n 0, 1) := by decide +kernel
theorem dX11_isQuarter_1 : decode cX11_isQuarter 1 = .ok (.ifCond .lt 12, 3) := by decide +kernel
theorem dX11_isQuarter_4 : decode cX11_isQuarter 4 = .ok (.iload_n 0, 1) := by decide +kernel
theorem dX11_isQuarter_5 : decode cX11_isQuarter 5 = .ok (.iconst 4, 1) := by decide +kernel
theorem dX11_isQuarter_6 : decode cX11_isQuarter 6 = .ok (.if_icmp .ge 7, 3) := by decide +kernel
theorem dX11_isQuarter_9 : decode cX11_isQuarter 9 = .ok (.iconst 1, 1) := by decide +kernel
theorem dX11_isQuarter_10 : decode cX11_isQuarter 10 = .ok (.goto 4, 3) := by decide +kernel
theorem dX11_isQuarter_13 : decode cX11_isQuarter 13 = .ok (.iconst 0, 1) := by decide +kernel
theorem dX11_isQuarter_14 : decode cX11_isQuarter 14 = .ok (.ireturn, 1) := by decide +kernel
set_option maxHeartbeats 4000000 in
set_option maxRecDepth 100000 in
theorem s_X11_isQuarter {P : PP} {a0 : Int32} (I : IV P) : CtrI yX11_isQuarter cX11_isQuarter 1 (some Jvm.ClassFile.FieldType.boolean) ({ frames := 1, cells := 0, slots := 0, locals := 64 } : Room) 0 0 P [.int a0] (fun r P2 => P = P2 ∧ (0 ≤ r.toInt ∧ r.toInt ≤ 1) ∧ (r.toInt = 0 ∨ (((0 : Int) ≤ a0.toInt ∧ a0.toInt ≤ (3 : Int))))) := by
  refine enI (lv := [(0, .int a0)]) (by decide) (Nat.le_of_ble_eq_true rfl) rfl (fun E D cy C Ci0 ret => ?_)
  have J13 : G E ({ frames := 1, cells := 0, slots := 0, locals := 64 } : Room) D cy 1 P 0 0 13 [] [] := by
    refine g_iconst (v := 0) C dX11_isQuarter_13 (by decide) ?_
    exact ret _ _ _ _ _ _ dX11_isQuarter_14 rfl (by decide) (by decide) ⟨rfl, (by decide), Or.inl rfl⟩
  refine g_iload_n C dX11_isQuarter_0 rfl 0 rfl ?_
  have u4764 := ti_rng a0
  refine b_if_lt C 13 dX11_isQuarter_1 (by decide) (fun h4763 => ?_) (fun h4763 => ?_)
  · have h4763 : a0.toInt < 0 := h4763
    refine g_lv (lv' := []) [] rfl ?_
    exact J13 
  · have h4763 : 0 ≤ a0.toInt := h4763
    refine g_iload_n C dX11_isQuarter_4 rfl 0 rfl ?_
    refine g_iconst (v := 4) C dX11_isQuarter_5 (by decide) ?_
    have u4766 := ti_rng a0
    refine b_icmp_ge C 13 dX11_isQuarter_6 (by decide) (fun h4765 => ?_) (fun h4765 => ?_)
    · have h4765 : 4 ≤ a0.toInt := h4765
      refine g_lv (lv' := []) [] rfl ?_
      exact J13 
    · have h4765 : a0.toInt < 4 := h4765
      refine g_iconst (v := 1) C dX11_isQuarter_9 (by decide) ?_
      refine g_goto C 14 dX11_isQuarter_10 (by decide) ?_
      exact ret _ _ _ _ _ _ dX11_isQuarter_14 rfl (by decide) (by decide) ⟨rfl, (by decide), Or.inr (by omega)⟩
theorem dX11_paperAt_4 : decode cX11_paperAt 4 = .ok (.ifCond .eq 16, 3) := by decide +kernel
theorem dX11_paperAt_7 : decode cX11_paperAt 7 = .ok (.aload_n 0, 1) := by decide +kernel
theorem dX11_paperAt_8 : decode cX11_paperAt 8 = .ok (.getfield 17, 3) := by decide +kernel
theorem dX11_paperAt_11 : decode cX11_paperAt 11 = .ok (.iload_n 1, 1) := by decide +kernel
theorem dX11_paperAt_12 : decode cX11_paperAt 12 = .ok (.aaload, 1) := by decide +kernel
theorem dX11_paperAt_13 : decode cX11_paperAt 13 = .ok (.iload_n 2, 1) := by decide +kernel
theorem dX11_paperAt_14 : decode cX11_paperAt 14 = .ok (.invokevirtual 337, 3) := by decide +kernel
theorem dX11_paperAt_17 : decode cX11_paperAt 17 = .ok (.goto 4, 3) := by decide +kernel
theorem dX11_paperAt_20 : decode cX11_paperAt 20 = .ok (.aconst_null, 1) := by decide +kernel
theorem dX11_paperAt_21 : decode cX11_paperAt 21 = .ok (.areturn, 1) := by decide +kernel
set_option maxHeartbeats 4000000 in
set_option maxRecDepth 100000 in
theorem s_X11_paperAt {P : PP} {a0 : Nat} {a1 : Int32} {a2 : Int32} (I : IV P) (ha0 : At P a0 11) : CtrQ yX11_paperAt cX11_paperAt 3 (some (Jvm.ClassFile.FieldType.object "ThousandLeaflets$Paper")) ({ frames := 2, cells := 0, slots := 0, locals := 128 } : Room) 0 0 P [.ref a0, .int a1, .int a2] (fun r P2 => P = P2 ∧ (r = none ∨ ∃ b, r = some b ∧ At P2 b 7 ∧ ((0 : Int) ≤ a1.toInt ∧ a1.toInt ≤ (3 : Int)) ∧ ((0 : Int) ≤ a2.toInt ∧ a2.toInt ≤ (39 : Int)))) := by
  refine enQ (lv := [(0, .ref a0), (1, .int a1), (2, .int a2)]) (by decide) (by first | exact Or.inl ⟨_, rfl⟩ | exact Or.inr ⟨_, rfl⟩) (Nat.le_of_ble_eq_true rfl) rfl (fun E D cy C Ci0 ret => ?_)
  refine g_iload_n C dX11_paperAt_0 rfl 1 rfl ?_
  refine g_callSI (b := 0) (ci := 0) (rest := []) C ms_X11_158 [.int a1] (s_X11_isQuarter I) rfl rfl (by decide) (Nat.le_of_ble_eq_true rfl) (by decide) dX11_paperAt_1 (fun r4783 Y4784 h4785 => ?_)
  obtain ⟨rfl, h4785⟩ := h4785
  obtain ⟨h4785, hi4786⟩ := h4785
  have hi4786 : r4783.toInt = 0 ∨ (((0 : Int) ≤ a1.toInt ∧ a1.toInt ≤ (3 : Int))) := hi4786
  have h4785 : 0 ≤ r4783.toInt ∧ r4783.toInt ≤ 1 := h4785
  refine b_if_eq C 20 dX11_paperAt_4 (by decide) (fun h4787 => ?_) (fun h4787 => ?_)
  · have h4787 : r4783.toInt = 0 := congrArg Int32.toInt h4787
    clear hi4786
    refine g_null C dX11_paperAt_20 ?_
    exact ret _ _ _ _ _ none dX11_paperAt_21 (by decide) (by decide) ⟨rfl, Or.inl rfl⟩
  · have h4787 : r4783.toInt ≠ 0 := ti_ne h4787
    replace hi4786 := hi4786.resolve_left (by omega)
    refine g_aload_n C dX11_paperAt_7 rfl 0 rfl ?_
    obtain ⟨b4788, e4789, h4790⟩ := I.fld (ha0) 1 19 4 rfl
    refine g_getR C fi_X11_17 rfl e4789 (ha0).1 (ha0).2 dX11_paperAt_8 ?_
    refine g_iload_n C dX11_paperAt_11 rfl 1 rfl ?_
    obtain ⟨b4791, e4792, h4793⟩ := I.elm h4790 (by decide) (a1.toInt.toNat) (by omega)
    refine g_aldR C h4790.1 h4790.2.1 (by decide) (ix_in h4790.2.2 (by omega)) e4792 dX11_paperAt_12 ?_
    refine g_iload_n C dX11_paperAt_13 rfl 2 rfl ?_
    refine g_callVQ (rest := []) C mv_X11_337 [.int a2] (s_X6_at I h4793) (h4793).1 (h4793).2 rfl rfl (by decide) (Nat.le_of_ble_eq_true rfl) (by decide) dX11_paperAt_14 (fun r4794 Y4795 h4796 => ?_)
    obtain ⟨rfl, h4796⟩ := h4796
    rcases h4796 with rfl | ⟨b4798, rfl, h4796, hj4797⟩
    · show G _ _ _ _ _ _ _ _ _ _ (.null :: _)
      refine g_goto C 21 dX11_paperAt_17 (by decide) ?_
      exact ret _ _ _ _ _ none dX11_paperAt_21 (by decide) (by decide) ⟨rfl, Or.inl rfl⟩
    · have hj4797 : ((0 : Int) ≤ a2.toInt ∧ a2.toInt ≤ (39 : Int)) := hj4797
      show G _ _ _ _ _ _ _ _ _ _ (.ref b4798 :: _)
      refine g_goto C 21 dX11_paperAt_17 (by decide) ?_
      exact ret _ _ _ _ _ (some b4798) dX11_paperAt_21 (by decide) (by decide) ⟨rfl, Or.inr ⟨_, rfl, h4796, by omega⟩⟩
theorem dX11_apart_6 : decode cX11_apart 6 = .ok (.astore_n 3, 1) := by decide +kernel
theorem dX11_apart_7 : decode cX11_apart 7 = .ok (.aload_n 3, 1) := by decide +kernel
theorem dX11_apart_8 : decode cX11_apart 8 = .ok (.ifnull 27, 3) := by decide +kernel
theorem dX11_apart_11 : decode cX11_apart 11 = .ok (.aload_n 3, 1) := by decide +kernel
theorem dX11_apart_12 : decode cX11_apart 12 = .ok (.getfield 191, 3) := by decide +kernel
theorem dX11_apart_15 : decode cX11_apart 15 = .ok (.iconst (-1), 1) := by decide +kernel
theorem dX11_apart_16 : decode cX11_apart 16 = .ok (.if_icmp .ne 19, 3) := by decide +kernel
theorem dX11_apart_19 : decode cX11_apart 19 = .ok (.aload_n 0, 1) := by decide +kernel
theorem dX11_apart_20 : decode cX11_apart 20 = .ok (.iconst 0, 1) := by decide +kernel
theorem dX11_apart_21 : decode cX11_apart 21 = .ok (.invokevirtual 97, 3) := by decide +kernel
theorem dX11_isTold_0 : decode cX11_isTold 0 = .ok (.iload_n 1, 1) := by decide +kernel
theorem dX11_isTold_1 : decode cX11_isTold 1 = .ok (.invokestatic 84, 3) := by decide +kernel
theorem dX11_isBook_0 : decode cX11_isBook 0 = .ok (.iload_n 0, 1) := by decide +kernel
theorem dX11_isBook_1 : decode cX11_isBook 1 = .ok (.ifCond .lt 12, 3) := by decide +kernel
theorem dX11_isBook_4 : decode cX11_isBook 4 = .ok (.iload_n 0, 1) := by decide +kernel
theorem dX11_isBook_5 : decode cX11_isBook 5 = .ok (.iconst 2, 1) := by decide +kernel
theorem dX11_isBook_6 : decode cX11_isBook 6 = .ok (.if_icmp .ge 7, 3) := by decide +kernel
theorem dX11_isBook_9 : decode cX11_isBook 9 = .ok (.iconst 1, 1) := by decide +kernel
theorem dX11_isBook_10 : decode cX11_isBook 10 = .ok (.goto 4, 3) := by decide +kernel
theorem dX11_isBook_13 : decode cX11_isBook 13 = .ok (.iconst 0, 1) := by decide +kernel
theorem dX11_isBook_14 : decode cX11_isBook 14 = .ok (.ireturn, 1) := by decide +kernel
set_option maxHeartbeats 4000000 in
set_option maxRecDepth 100000 in
theorem s_X11_isBook {P : PP} {a0 : Int32} (I : IV P) : CtrI yX11_isBook cX11_isBook 1 (some Jvm.ClassFile.FieldType.boolean) ({ frames := 1, cells := 0, slots := 0, locals := 64 } : Room) 0 0 P [.int a0] (fun r P2 => P = P2 ∧ (0 ≤ r.toInt ∧ r.toInt ≤ 1) ∧ (r.toInt = 0 ∨ (((0 : Int) ≤ a0.toInt ∧ a0.toInt ≤ (1 : Int))))) := by
  refine enI (lv := [(0, .int a0)]) (by decide) (Nat.le_of_ble_eq_true rfl) rfl (fun E D cy C Ci0 ret => ?_)
  have J13 : G E ({ frames := 1, cells := 0, slots := 0, locals := 64 } : Room) D cy 1 P 0 0 13 [] [] := by
    refine g_iconst (v := 0) C dX11_isBook_13 (by decide) ?_
    exact ret _ _ _ _ _ _ dX11_isBook_14 rfl (by decide) (by decide) ⟨rfl, (by decide), Or.inl rfl⟩
  refine g_iload_n C dX11_isBook_0 rfl 0 rfl ?_
  have u4811 := ti_rng a0
  refine b_if_lt C 13 dX11_isBook_1 (by decide) (fun h4810 => ?_) (fun h4810 => ?_)
  · have h4810 : a0.toInt < 0 := h4810
    refine g_lv (lv' := []) [] rfl ?_
    exact J13 
  · have h4810 : 0 ≤ a0.toInt := h4810
    refine g_iload_n C dX11_isBook_4 rfl 0 rfl ?_
    refine g_iconst (v := 2) C dX11_isBook_5 (by decide) ?_
    have u4813 := ti_rng a0
    refine b_icmp_ge C 13 dX11_isBook_6 (by decide) (fun h4812 => ?_) (fun h4812 => ?_)
    · have h4812 : 2 ≤ a0.toInt := h4812
      refine g_lv (lv' := []) [] rfl ?_
      exact J13 
    · have h4812 : a0.toInt < 2 := h4812
      refine g_iconst (v := 1) C dX11_isBook_9 (by decide) ?_
      refine g_goto C 14 dX11_isBook_10 (by decide) ?_
      exact ret _ _ _ _ _ _ dX11_isBook_14 rfl (by decide) (by decide) ⟨rfl, (by decide), Or.inr (by omega)⟩
theorem dX11_isTold_4 : decode cX11_isTold 4 = .ok (.ifCond .eq 19, 3) := by decide +kernel
theorem dX11_isTold_7 : decode cX11_isTold 7 = .ok (.aload_n 0, 1) := by decide +kernel
theorem dX11_isTold_8 : decode cX11_isTold 8 = .ok (.getfield 11, 3) := by decide +kernel
theorem dX11_isTold_11 : decode cX11_isTold 11 = .ok (.iload_n 1, 1) := by decide +kernel
theorem dX11_isTold_12 : decode cX11_isTold 12 = .ok (.aaload, 1) := by decide +kernel
theorem dX11_isTold_13 : decode cX11_isTold 13 = .ok (.getfield 176, 3) := by decide +kernel
theorem dX11_isTold_16 : decode cX11_isTold 16 = .ok (.ifCond .eq 7, 3) := by decide +kernel
theorem dX11_isTold_19 : decode cX11_isTold 19 = .ok (.iconst 1, 1) := by decide +kernel
theorem dX11_isTold_20 : decode cX11_isTold 20 = .ok (.goto 4, 3) := by decide +kernel
theorem dX11_isTold_23 : decode cX11_isTold 23 = .ok (.iconst 0, 1) := by decide +kernel
theorem dX11_isTold_24 : decode cX11_isTold 24 = .ok (.ireturn, 1) := by decide +kernel
set_option maxHeartbeats 4000000 in
set_option maxRecDepth 100000 in
theorem s_X11_isTold {P : PP} {a0 : Nat} {a1 : Int32} (I : IV P) (ha0 : At P a0 11) : CtrI yX11_isTold cX11_isTold 2 (some Jvm.ClassFile.FieldType.boolean) ({ frames := 2, cells := 0, slots := 0, locals := 128 } : Room) 0 0 P [.ref a0, .int a1] (fun r P2 => P = P2 ∧ (0 ≤ r.toInt ∧ r.toInt ≤ 1) ∧ (r.toInt = 0 ∨ (((0 : Int) ≤ a1.toInt ∧ a1.toInt ≤ (1 : Int))))) := by
  refine enI (lv := [(0, .ref a0), (1, .int a1)]) (by decide) (Nat.le_of_ble_eq_true rfl) rfl (fun E D cy C Ci0 ret => ?_)
  have J23 : G E ({ frames := 2, cells := 0, slots := 0, locals := 128 } : Room) D cy 2 P 0 0 23 [] [] := by
    refine g_iconst (v := 0) C dX11_isTold_23 (by decide) ?_
    exact ret _ _ _ _ _ _ dX11_isTold_24 rfl (by decide) (by decide) ⟨rfl, (by decide), Or.inl rfl⟩
  refine g_iload_n C dX11_isTold_0 rfl 1 rfl ?_
  refine g_callSI (b := 0) (ci := 0) (rest := []) C ms_X11_84 [.int a1] (s_X11_isBook I) rfl rfl (by decide) (Nat.le_of_ble_eq_true rfl) (by decide) dX11_isTold_1 (fun r4827 Y4828 h4829 => ?_)
  obtain ⟨rfl, h4829⟩ := h4829
  obtain ⟨h4829, hi4830⟩ := h4829
  have hi4830 : r4827.toInt = 0 ∨ (((0 : Int) ≤ a1.toInt ∧ a1.toInt ≤ (1 : Int))) := hi4830
  have h4829 : 0 ≤ r4827.toInt ∧ r4827.toInt ≤ 1 := h4829
  refine b_if_eq C 23 dX11_isTold_4 (by decide) (fun h4831 => ?_) (fun h4831 => ?_)
  · have h4831 : r4827.toInt = 0 := congrArg Int32.toInt h4831
    clear hi4830
    refine g_lv (lv' := []) [] rfl ?_
    exact J23 
  · have h4831 : r4827.toInt ≠ 0 := ti_ne h4831
    replace hi4830 := hi4830.resolve_left (by omega)
    refine g_aload_n C dX11_isTold_7 rfl 0 rfl ?_
    obtain ⟨b4832, e4833, h4834⟩ := I.fld (ha0) 0 17 2 rfl
    refine g_getR C fi_X11_11 rfl e4833 (ha0).1 (ha0).2 dX11_isTold_8 ?_
    refine g_iload_n C dX11_isTold_11 rfl 1 rfl ?_
    obtain ⟨b4835, e4836, h4837⟩ := I.elm h4834 (by decide) (a1.toInt.toNat) (by omega)
    refine g_aldR C h4834.1 h4834.2.1 (by decide) (ix_in h4834.2.2 (by omega)) e4836 dX11_isTold_12 ?_
    refine g_getI C fi_X11_176 (by decide) (h4837).1 (h4837).2 dX11_isTold_13 ?_
    have h4838 := I.rg (h4837) 4 rfl
    refine b_if_eq C 23 dX11_isTold_16 (by decide) (fun h4839 => ?_) (fun h4839 => ?_)
    · have h4839 : (pI P b4835 4).toInt = 0 := congrArg Int32.toInt h4839
      refine g_lv (lv' := []) [] rfl ?_
      exact J23 
    · have h4839 : (pI P b4835 4).toInt ≠ 0 := ti_ne h4839
      refine g_iconst (v := 1) C dX11_isTold_19 (by decide) ?_
      refine g_goto C 24 dX11_isTold_20 (by decide) ?_
      exact ret _ _ _ _ _ _ dX11_isTold_24 rfl (by decide) (by decide) ⟨rfl, (by decide), Or.inr (by omega)⟩
theorem dX11_apart_24 : decode cX11_apart 24 = .ok (.ifCond .eq 11, 3) := by decide +kernel
theorem dX11_apart_27 : decode cX11_apart 27 = .ok (.aload_n 0, 1) := by decide +kernel
theorem dX11_apart_28 : decode cX11_apart 28 = .ok (.iconst 1, 1) := by decide +kernel
theorem dX11_apart_29 : decode cX11_apart 29 = .ok (.invokevirtual 97, 3) := by decide +kernel
theorem dX11_apart_32 : decode cX11_apart 32 = .ok (.ifCond .ne 5, 3) := by decide +kernel
theorem dX11_apart_35 : decode cX11_apart 35 = .ok (.iconst (-1), 1) := by decide +kernel
theorem dX11_apart_36 : decode cX11_apart 36 = .ok (.ireturn, 1) := by decide +kernel
theorem dX11_apart_37 : decode cX11_apart 37 = .ok (.iconst 0, 1) := by decide +kernel
theorem dX11_apart_38 : decode cX11_apart 38 = .ok (.istore 4, 2) := by decide +kernel
theorem dX11_apart_40 : decode cX11_apart 40 = .ok (.iload 4, 2) := by decide +kernel
theorem dX11_apart_42 : decode cX11_apart 42 = .ok (.iconst 2, 1) := by decide +kernel
theorem dX11_apart_43 : decode cX11_apart 43 = .ok (.if_icmp .ge 48, 3) := by decide +kernel
theorem dX11_apart_46 : decode cX11_apart 46 = .ok (.iconst 0, 1) := by decide +kernel
theorem dX11_apart_47 : decode cX11_apart 47 = .ok (.istore 5, 2) := by decide +kernel
theorem dX11_apart_49 : decode cX11_apart 49 = .ok (.iload 5, 2) := by decide +kernel
theorem dX11_apart_51 : decode cX11_apart 51 = .ok (.iconst 2, 1) := by decide +kernel
theorem dX11_apart_52 : decode cX11_apart 52 = .ok (.if_icmp .ge 33, 3) := by decide +kernel
theorem dX11_apart_55 : decode cX11_apart 55 = .ok (.aload_n 0, 1) := by decide +kernel
theorem dX11_apart_56 : decode cX11_apart 56 = .ok (.getfield 74, 3) := by decide +kernel
theorem dX11_apart_59 : decode cX11_apart 59 = .ok (.iload 4, 2) := by decide +kernel
theorem dX11_apart_61 : decode cX11_apart 61 = .ok (.iload 5, 2) := by decide +kernel
theorem dX11_apart_63 : decode cX11_apart 63 = .ok (.invokevirtual 308, 3) := by decide +kernel
theorem dX11_apart_66 : decode cX11_apart 66 = .ok (.aload_n 0, 1) := by decide +kernel
theorem dX11_apart_67 : decode cX11_apart 67 = .ok (.iload_n 1, 1) := by decide +kernel
theorem dX11_apart_68 : decode cX11_apart 68 = .ok (.iload 4, 2) := by decide +kernel
theorem dX11_apart_70 : decode cX11_apart 70 = .ok (.iload 5, 2) := by decide +kernel
theorem dX11_apart_72 : decode cX11_apart 72 = .ok (.invokevirtual 216, 3) := by decide +kernel
theorem dX11_gather_0 : decode cX11_gather 0 = .ok (.aload_n 0, 1) := by decide +kernel
theorem dX11_gather_1 : decode cX11_gather 1 = .ok (.getfield 47, 3) := by decide +kernel
theorem dX11_gather_4 : decode cX11_gather 4 = .ok (.iload_n 3, 1) := by decide +kernel
theorem dX11_gather_5 : decode cX11_gather 5 = .ok (.aaload, 1) := by decide +kernel
theorem dX11_gather_6 : decode cX11_gather 6 = .ok (.astore 4, 2) := by decide +kernel
theorem dX11_gather_8 : decode cX11_gather 8 = .ok (.aload 4, 2) := by decide +kernel
theorem dX11_gather_10 : decode cX11_gather 10 = .ok (.aload_n 0, 1) := by decide +kernel
theorem dX11_gather_11 : decode cX11_gather 11 = .ok (.getfield 11, 3) := by decide +kernel
theorem dX11_gather_14 : decode cX11_gather 14 = .ok (.iload_n 2, 1) := by decide +kernel
theorem dX11_gather_15 : decode cX11_gather 15 = .ok (.aaload, 1) := by decide +kernel
theorem dX11_gather_16 : decode cX11_gather 16 = .ok (.invokevirtual 371, 3) := by decide +kernel
theorem dX5_startWith_0 : decode cX5_startWith 0 = .ok (.aload_n 0, 1) := by decide +kernel
theorem dX5_startWith_1 : decode cX5_startWith 1 = .ok (.iconst 0, 1) := by decide +kernel
theorem dX5_startWith_2 : decode cX5_startWith 2 = .ok (.putfield 25, 3) := by decide +kernel
theorem dX5_startWith_5 : decode cX5_startWith 5 = .ok (.iconst 0, 1) := by decide +kernel
theorem dX5_startWith_6 : decode cX5_startWith 6 = .ok (.istore_n 2, 1) := by decide +kernel
theorem dX5_startWith_7 : decode cX5_startWith 7 = .ok (.iload_n 2, 1) := by decide +kernel
theorem dX5_startWith_8 : decode cX5_startWith 8 = .ok (.aload_n 1, 1) := by decide +kernel
theorem dX5_startWith_9 : decode cX5_startWith 9 = .ok (.getfield 29, 3) := by decide +kernel
theorem dX5_startWith_12 : decode cX5_startWith 12 = .ok (.getfield 35, 3) := by decide +kernel
theorem dX5_startWith_15 : decode cX5_startWith 15 = .ok (.if_icmp .ge 32, 3) := by decide +kernel
theorem dX5_startWith_18 : decode cX5_startWith 18 = .ok (.aload_n 0, 1) := by decide +kernel
theorem dX5_startWith_19 : decode cX5_startWith 19 = .ok (.aload_n 1, 1) := by decide +kernel
theorem dX5_startWith_20 : decode cX5_startWith 20 = .ok (.getfield 29, 3) := by decide +kernel
theorem dX5_startWith_23 : decode cX5_startWith 23 = .ok (.getfield 40, 3) := by decide +kernel
theorem dX5_startWith_26 : decode cX5_startWith 26 = .ok (.iload_n 2, 1) := by decide +kernel
theorem dX5_startWith_27 : decode cX5_startWith 27 = .ok (.iaload, 1) := by decide +kernel
theorem dX5_startWith_28 : decode cX5_startWith 28 = .ok (.iconst 1, 1) := by decide +kernel
theorem dX5_startWith_29 : decode cX5_startWith 29 = .ok (.aload_n 1, 1) := by decide +kernel
theorem dX5_startWith_30 : decode cX5_startWith 30 = .ok (.getfield 43, 3) := by decide +kernel
theorem dX5_startWith_33 : decode cX5_startWith 33 = .ok (.iload_n 2, 1) := by decide +kernel
theorem dX5_startWith_34 : decode cX5_startWith 34 = .ok (.iadd, 1) := by decide +kernel
theorem dX5_startWith_35 : decode cX5_startWith 35 = .ok (.ishl, 1) := by decide +kernel
theorem dX5_startWith_36 : decode cX5_startWith 36 = .ok (.ior, 1) := by decide +kernel
theorem dX5_startWith_37 : decode cX5_startWith 37 = .ok (.iconst (-1), 1) := by decide +kernel
theorem dX5_startWith_38 : decode cX5_startWith 38 = .ok (.invokevirtual 46, 3) := by decide +kernel
theorem dX5_startWith_47 : decode cX5_startWith 47 = .ok (.aload_n 0, 1) := by decide +kernel
theorem dX5_startWith_48 : decode cX5_startWith 48 = .ok (.aload_n 0, 1) := by decide +kernel
theorem dX5_startWith_49 : decode cX5_startWith 49 = .ok (.getfield 25, 3) := by decide +kernel
theorem dX5_startWith_52 : decode cX5_startWith 52 = .ok (.putfield 50, 3) := by decide +kernel
theorem dX5_startWith_55 : decode cX5_startWith 55 = .ok (.return_, 1) := by decide +kernel
theorem dX5_add_0 : decode cX5_add 0 = .ok (.aload_n 0, 1) := by decide +kernel
theorem dX5_add_1 : decode cX5_add 1 = .ok (.getfield 25, 3) := by decide +kernel
theorem dX5_add_4 : decode cX5_add 4 = .ok (.bipush 44, 2) := by decide +kernel
theorem dX5_add_6 : decode cX5_add 6 = .ok (.if_icmp .ge 33, 3) := by decide +kernel
theorem dX5_add_9 : decode cX5_add 9 = .ok (.aload_n 0, 1) := by decide +kernel
theorem dX5_add_10 : decode cX5_add 10 = .ok (.getfield 9, 3) := by decide +kernel
theorem dX5_add_13 : decode cX5_add 13 = .ok (.aload_n 0, 1) := by decide +kernel
theorem dX5_add_14 : decode cX5_add 14 = .ok (.getfield 25, 3) := by decide +kernel
theorem dX5_add_17 : decode cX5_add 17 = .ok (.iload_n 1, 1) := by decide +kernel
theorem dX5_add_18 : decode cX5_add 18 = .ok (.iastore, 1) := by decide +kernel
theorem dX5_add_19 : decode cX5_add 19 = .ok (.aload_n 0, 1) := by decide +kernel
theorem dX5_add_20 : decode cX5_add 20 = .ok (.getfield 15, 3) := by decide +kernel
theorem dX5_add_23 : decode cX5_add 23 = .ok (.aload_n 0, 1) := by decide +kernel
theorem dX5_add_24 : decode cX5_add 24 = .ok (.getfield 25, 3) := by decide +kernel
theorem dX5_add_27 : decode cX5_add 27 = .ok (.iload_n 2, 1) := by decide +kernel
theorem dX5_add_28 : decode cX5_add 28 = .ok (.iastore, 1) := by decide +kernel
theorem dX5_add_29 : decode cX5_add 29 = .ok (.aload_n 0, 1) := by decide +kernel
theorem dX5_add_30 : decode cX5_add 30 = .ok (.dup, 1) := by decide +kernel
theorem dX5_add_31 : decode cX5_add 31 = .ok (.getfield 25, 3) := by decide +kernel
theorem dX5_add_34 : decode cX5_add 34 = .ok (.iconst 1, 1) := by decide +kernel
theorem dX5_add_35 : decode cX5_add 35 = .ok (.iadd, 1) := by decide +kernel
theorem dX5_add_36 : decode cX5_add 36 = .ok (.putfield 25, 3) := by decide +kernel
theorem dX5_add_39 : decode cX5_add 39 = .ok (.return_, 1) := by decide +kernel
set_option maxHeartbeats 4000000 in
set_option maxRecDepth 100000 in
theorem s_X5_add {P : PP} {a0 : Nat} {a1 : Int32} {a2 : Int32} (I : IV P) (ha0 : At P a0 5) : CtrV yX5_add cX5_add 3 none ({ frames := 1, cells := 0, slots := 0, locals := 64 } : Room) 0 0 P [.ref a0, .int a1, .int a2] (fun P2 => IV P2 ∧ EK [5, 13] P P2) := by
  refine enV (lv := [(0, .ref a0), (1, .int a1), (2, .int a2)]) (by decide) (Nat.le_of_ble_eq_true rfl) rfl (fun E D cy C Ci0 ret => ?_)
  refine g_aload_n C dX5_add_0 rfl 0 rfl ?_
  refine g_getI C fi_X5_25 (by decide) (ha0).1 (ha0).2 dX5_add_1 ?_
  have h4946 := I.rg (ha0) 4 rfl
  refine g_bipush (v := 44) C dX5_add_4 (by decide) ?_
  refine b_icmp_ge C 39 dX5_add_6 (by decide) (fun h4947 => ?_) (fun h4947 => ?_)
  · have h4947 : 44 ≤ (pI P a0 4).toInt := h4947
    exact ret _ _ _ _ _ dX5_add_39 (by decide) (by decide) ⟨I, EK.rf⟩
  · have h4947 : (pI P a0 4).toInt < 44 := h4947
    refine g_aload_n C dX5_add_9 rfl 0 rfl ?_
    obtain ⟨b4948, e4949, h4950⟩ := I.fld (ha0) 0 13 44 rfl
    refine g_getR C fi_X5_9 rfl e4949 (ha0).1 (ha0).2 dX5_add_10 ?_
    refine g_aload_n C dX5_add_13 rfl 0 rfl ?_
    refine g_getI C fi_X5_25 (by decide) (ha0).1 (ha0).2 dX5_add_14 ?_
    refine g_iload_n C dX5_add_17 rfl 1 rfl ?_
    refine g_iast (j := ((pI P a0 4).toInt.toNat)) C h4950.1 h4950.2.1 (ix_in h4950.2.2 (by omega)) dX5_add_18 ?_
    refine gp (ks := [13]) (I.setA h4950 (by decide)) (EK.setI h4950.2.1 (by decide)) (fun Y4951 Iy4952 Xy4953 => ?_)
    have q4954 := Xy4953.keep ha0 (by decide) 4
    have Xz4955 : EK [5, 13] P Y4951 := Xy4953.mono (by decide)
    have h4956 := Xy4953.at ha0
    refine g_aload_n C dX5_add_19 rfl 0 rfl ?_
    obtain ⟨b4957, e4958, h4959⟩ := Iy4952.fld (h4956) 1 13 44 rfl
    refine g_getR C fi_X5_15 rfl e4958 (h4956).1 (h4956).2 dX5_add_20 ?_
    refine g_aload_n C dX5_add_23 rfl 0 rfl ?_
    refine g_getI C fi_X5_25 (by decide) (h4956).1 (h4956).2 dX5_add_24 ?_
    refine g_iload_n C dX5_add_27 rfl 2 rfl ?_
    refine g_iast (j := ((pI Y4951 a0 4).toInt.toNat)) C h4959.1 h4959.2.1 (ix_in h4959.2.2 (by omega)) dX5_add_28 ?_
    refine gp (ks := [13]) (Iy4952.setA h4959 (by decide)) (EK.setI h4959.2.1 (by decide)) (fun Y4960 Iy4961 Xy4962 => ?_)
    have q4963 := Xy4962.keep h4956 (by decide) 4
    have Xz4964 : EK [5, 13] P Y4960 := Xz4955.tr (Xy4962.mono (by decide))
    have h4965 := Xy4962.at h4956
    refine g_aload_n C dX5_add_29 rfl 0 rfl ?_
    refine g_dup C dX5_add_30 rfl ?_
    refine g_getI C fi_X5_25 (by decide) (h4965).1 (h4965).2 dX5_add_31 ?_
    refine g_iconst (v := 1) C dX5_add_34 (by decide) ?_
    refine s_iadd C dX5_add_35 (by show -2147483648 ≤ (pI Y4960 a0 4).toInt + 1 ∧ (pI Y4960 a0 4).toInt + 1 ≤ 2147483647; omega) (fun z4966 h4967 => ?_)
    have h4967 : z4966.toInt = (pI Y4960 a0 4).toInt + 1 := h4967
    refine g_putI C fi_X5_25 rfl (h4965).1 (h4965).2 dX5_add_36 ?_
    refine gpW (ks := [5]) (Iy4961.setI (h4965) (rgOk.of rfl (by omega))) (EK.setI (h4965).2 (by decide)) (fun Y4968 Iy4969 Xy4970 w4971 w4972 => ?_)
    have Xz4973 : EK [5, 13] P Y4968 := Xz4964.tr (Xy4970.mono (by decide))
    have h4974 := Xy4970.at h4965
    exact ret _ _ _ _ _ dX5_add_39 (by decide) (by decide) ⟨Iy4969, Xz4973⟩
theorem dX5_startWith_41 : decode cX5_startWith 41 = .ok (.iinc 2 1, 3) := by decide +kernel
theorem dX5_startWith_44 : decode cX5_startWith 44 = .ok (.goto (-37), 3) := by decide +kernel
set_option maxHeartbeats 4000000 in
set_option maxRecDepth 100000 in
theorem s_X5_startWith {P : PP} {a0 : Nat} {a1 : Nat} (I : IV P) (ha0 : At P a0 5) (ha1 : At P a1 1) : CtrV yX5_startWith cX5_startWith 3 none ({ frames := 2, cells := 0, slots := 0, locals := 128 } : Room) 0 0 P [.ref a0, .ref a1] (fun P2 => IV P2 ∧ EK [5, 13] P P2) := by
  refine enV (lv := [(0, .ref a0), (1, .ref a1)]) (by decide) (Nat.le_of_ble_eq_true rfl) rfl (fun E D cy C Ci0 ret => ?_)
  have J7 : ∀ (n7 : Nat) (P7 : PP) (v7_2 : Int32), (4 - v7_2.toInt).toNat < n7 → (IV P7) → (EK [5, 13] P P7) → (0 ≤ v7_2.toInt ∧ v7_2.toInt ≤ 4) → G E ({ frames := 2, cells := 0, slots := 0, locals := 128 } : Room) D cy 3 P7 0 0 7 [(0, .ref a0), (1, .ref a1), (2, .int v7_2)] [] := by
    intro n7
    induction n7 with
    | zero => intro P7 v7_2 hm7 I7 X7 hv7_2; omega
    | succ n7 ih7 =>
      intro P7 v7_2 hm7 I7 X7 hv7_2
      have h5205 := X7.at ha0
      have h5206 := X7.at ha1
      refine g_iload_n C dX5_startWith_7 rfl 2 rfl ?_
      refine g_aload_n C dX5_startWith_8 rfl 1 rfl ?_
      obtain ⟨b5207, e5208, h5209⟩ := I7.fld (h5206) 2 3 0 rfl
      refine g_getR C fi_X5_29 rfl e5208 (h5206).1 (h5206).2 dX5_startWith_9 ?_
      refine g_getI C fi_X5_35 (by decide) (h5209.at).1 (h5209.at).2 dX5_startWith_12 ?_
      have h5210 := I7.rg (h5209.at) 2 rfl
      refine b_icmp_ge C 47 dX5_startWith_15 (by decide) (fun h5211 => ?_) (fun h5211 => ?_)
      · have h5211 : (pI P7 b5207 2).toInt ≤ v7_2.toInt := h5211
        refine g_aload_n C dX5_startWith_47 rfl 0 rfl ?_
        refine g_aload_n C dX5_startWith_48 rfl 0 rfl ?_
        refine g_getI C fi_X5_25 (by decide) (h5205).1 (h5205).2 dX5_startWith_49 ?_
        have h5212 := I7.rg (h5205) 4 rfl
        refine g_putI C fi_X5_50 rfl (h5205).1 (h5205).2 dX5_startWith_52 ?_
        refine gpW (ks := [5]) (I7.setI (h5205) (rgOk.of rfl (by omega))) (EK.setI (h5205).2 (by decide)) (fun Y5213 Iy5214 Xy5215 w5216 w5217 => ?_)
        have q5218 := Xy5215.keep (h5209.at) (by decide) 2
        have q5219 := w5216 4 (by decide)
        have Xz5220 : EK [5, 13] P Y5213 := X7.tr (Xy5215.mono (by decide))
        have h5221 := Xy5215.at h5205
        have h5222 := Xy5215.at h5206
        exact ret _ _ _ _ _ dX5_startWith_55 (by decide) (by decide) ⟨Iy5214, Xz5220⟩
      · have h5211 : v7_2.toInt < (pI P7 b5207 2).toInt := h5211
        refine g_aload_n C dX5_startWith_18 rfl 0 rfl ?_
        refine g_aload_n C dX5_startWith_19 rfl 1 rfl ?_
        refine g_getR C fi_X5_29 rfl e5208 (h5206).1 (h5206).2 dX5_startWith_20 ?_
        obtain ⟨b5223, e5224, h5225⟩ := I7.fld (h5209.at) 1 13 4 rfl
        refine g_getR C fi_X5_40 rfl e5224 (h5209.at).1 (h5209.at).2 dX5_startWith_23 ?_
        refine g_iload_n C dX5_startWith_26 rfl 2 rfl ?_
        refine g_iald (j := (v7_2.toInt.toNat)) C h5225.1 h5225.2.1 (ix_in h5225.2.2 (by omega)) dX5_startWith_27 ?_
        refine g_topi (fun z5226 _ => ?_)
        refine g_iconst (v := 1) C dX5_startWith_28 (by decide) ?_
        refine g_aload_n C dX5_startWith_29 rfl 1 rfl ?_
        refine g_getI C fi_X5_43 (by decide) (h5206).1 (h5206).2 dX5_startWith_30 ?_
        have h5227 := I7.rg (h5206) 5 rfl
        refine g_iload_n C dX5_startWith_33 rfl 2 rfl ?_
        refine s_iadd C dX5_startWith_34 (by show -2147483648 ≤ (pI P7 a1 5).toInt + v7_2.toInt ∧ (pI P7 a1 5).toInt + v7_2.toInt ≤ 2147483647; omega) (fun z5228 h5229 => ?_)
        have h5229 : z5228.toInt = (pI P7 a1 5).toInt + v7_2.toInt := h5229
        refine a_ishl C dX5_startWith_35 (fun z5230 => ?_)
        refine a_ior C dX5_startWith_36 (fun z5232 => ?_)
        refine g_iconst (v := (-1)) C dX5_startWith_37 (by decide) ?_
        refine g_callVV (rest := []) C mv_X5_46 [.int z5232, .int (-1)] (s_X5_add I7 h5205) (h5205).1 (h5205).2 rfl rfl (by decide) (Nat.le_of_ble_eq_true rfl) (by decide) dX5_startWith_38 (fun Y5235 h5236 => ?_)
        obtain ⟨Iy5237, Xy5238⟩ := h5236
        have q5239 := Xy5238.keep (h5209.at) (by decide) 2
        have q5240 := Xy5238.keep h5206 (by decide) 5
        have Xz5241 : EK [5, 13] P Y5235 := X7.tr (Xy5238.mono (by decide))
        have e5242 := Xy5238.ref h5206 (by decide) e5208
        have h5243 := Xy5238.at h5205
        have h5244 := Xy5238.at h5206
        have h5245 := Xy5238.ar h5209
        refine s_iinc (lv0 := [(0, .ref a0), (1, .ref a1)]) (m := 1) C dX5_startWith_41 2 rfl (by decide) rfl (by decide) (by omega) (fun z5246 h5247 => ?_)
        have h5247 : z5246.toInt = v7_2.toInt + 1 := h5247
        refine g_goto C 7 dX5_startWith_44 (by decide) ?_
        refine g_lv (lv' := [(0, .ref a0), (1, .ref a1), (2, .int z5246)]) [1, 2, 0] rfl ?_
        exact ih7 Y5235 z5246 (by omega) Iy5237 Xz5241 (by omega)
  refine g_aload_n C dX5_startWith_0 rfl 0 rfl ?_
  refine g_iconst (v := 0) C dX5_startWith_1 (by decide) ?_
  refine g_putI C fi_X5_25 rfl (ha0).1 (ha0).2 dX5_startWith_2 ?_
  refine gpW (ks := [5]) (I.setI (ha0) (rgOk.of rfl (by decide))) (EK.setI (ha0).2 (by decide)) (fun Y5248 Iy5249 Xy5250 w5251 w5252 => ?_)
  have w5252 : (pI Y5248 a0 4).toInt = 0 := w5252
  have Xz5253 : EK [5, 13] P Y5248 := Xy5250.mono (by decide)
  have h5254 := Xy5250.at ha0
  have h5255 := Xy5250.at ha1
  refine g_iconst (v := 0) C dX5_startWith_5 (by decide) ?_
  refine g_istore_n (lv' := [(2, .int 0), (0, .ref a0), (1, .ref a1)]) C dX5_startWith_6 rfl (by decide) rfl ?_
  refine g_lv (lv' := [(0, .ref a0), (1, .ref a1), (2, .int 0)]) [1, 2, 0] rfl ?_
  exact J7 _ Y5248 0 (Nat.lt_succ_self _) Iy5249 Xz5253 (by decide)
theorem dX11_gather_19 : decode cX11_gather 19 = .ok (.aload_n 0, 1) := by decide +kernel
theorem dX11_gather_20 : decode cX11_gather 20 = .ok (.getfield 17, 3) := by decide +kernel
theorem dX11_gather_23 : decode cX11_gather 23 = .ok (.iload_n 1, 1) := by decide +kernel
theorem dX11_gather_24 : decode cX11_gather 24 = .ok (.aaload, 1) := by decide +kernel
theorem dX11_gather_25 : decode cX11_gather 25 = .ok (.astore 5, 2) := by decide +kernel
theorem dX11_gather_27 : decode cX11_gather 27 = .ok (.iconst 0, 1) := by decide +kernel
theorem dX11_gather_28 : decode cX11_gather 28 = .ok (.istore 6, 2) := by decide +kernel
theorem dX11_gather_30 : decode cX11_gather 30 = .ok (.iload 6, 2) := by decide +kernel
theorem dX11_gather_32 : decode cX11_gather 32 = .ok (.aload 5, 2) := by decide +kernel
theorem dX11_gather_34 : decode cX11_gather 34 = .ok (.getfield 336, 3) := by decide +kernel
theorem dX11_gather_37 : decode cX11_gather 37 = .ok (.if_icmp .ge 55, 3) := by decide +kernel
theorem dX11_gather_40 : decode cX11_gather 40 = .ok (.aload 5, 2) := by decide +kernel
theorem dX11_gather_42 : decode cX11_gather 42 = .ok (.iload 6, 2) := by decide +kernel
theorem dX11_gather_44 : decode cX11_gather 44 = .ok (.invokevirtual 337, 3) := by decide +kernel
theorem dX11_gather_47 : decode cX11_gather 47 = .ok (.astore 7, 2) := by decide +kernel
theorem dX11_gather_49 : decode cX11_gather 49 = .ok (.aload 7, 2) := by decide +kernel
theorem dX11_gather_51 : decode cX11_gather 51 = .ok (.ifnull 35, 3) := by decide +kernel
theorem dX11_gather_54 : decode cX11_gather 54 = .ok (.aload 7, 2) := by decide +kernel
theorem dX11_gather_56 : decode cX11_gather 56 = .ok (.getfield 191, 3) := by decide +kernel
theorem dX11_gather_59 : decode cX11_gather 59 = .ok (.iload_n 2, 1) := by decide +kernel
theorem dX11_gather_60 : decode cX11_gather 60 = .ok (.if_icmp .ne 26, 3) := by decide +kernel
theorem dX11_gather_63 : decode cX11_gather 63 = .ok (.aload 7, 2) := by decide +kernel
theorem dX11_gather_65 : decode cX11_gather 65 = .ok (.iload_n 3, 1) := by decide +kernel
theorem dX11_gather_66 : decode cX11_gather 66 = .ok (.invokevirtual 365, 3) := by decide +kernel
theorem dX11_gather_92 : decode cX11_gather 92 = .ok (.aload 4, 2) := by decide +kernel
theorem dX11_gather_94 : decode cX11_gather 94 = .ok (.areturn, 1) := by decide +kernel
theorem dX7_hasOctet_0 : decode cX7_hasOctet 0 = .ok (.aload_n 0, 1) := by decide +kernel
theorem dX7_hasOctet_1 : decode cX7_hasOctet 1 = .ok (.getfield 21, 3) := by decide +kernel
theorem dX7_hasOctet_4 : decode cX7_hasOctet 4 = .ok (.iload_n 1, 1) := by decide +kernel
theorem dX7_hasOctet_5 : decode cX7_hasOctet 5 = .ok (.ishr, 1) := by decide +kernel
theorem dX7_hasOctet_6 : decode cX7_hasOctet 6 = .ok (.iconst 1, 1) := by decide +kernel
theorem dX7_hasOctet_7 : decode cX7_hasOctet 7 = .ok (.iand, 1) := by decide +kernel
theorem dX7_hasOctet_8 : decode cX7_hasOctet 8 = .ok (.ifCond .eq 7, 3) := by decide +kernel
theorem dX7_hasOctet_11 : decode cX7_hasOctet 11 = .ok (.iconst 1, 1) := by decide +kernel
theorem dX7_hasOctet_12 : decode cX7_hasOctet 12 = .ok (.goto 4, 3) := by decide +kernel
theorem dX7_hasOctet_15 : decode cX7_hasOctet 15 = .ok (.iconst 0, 1) := by decide +kernel
theorem dX7_hasOctet_16 : decode cX7_hasOctet 16 = .ok (.ireturn, 1) := by decide +kernel
set_option maxHeartbeats 4000000 in
set_option maxRecDepth 100000 in
theorem s_X7_hasOctet {P : PP} {a0 : Nat} {a1 : Int32} (I : IV P) (ha0 : At P a0 7) : CtrI yX7_hasOctet cX7_hasOctet 2 (some Jvm.ClassFile.FieldType.boolean) ({ frames := 1, cells := 0, slots := 0, locals := 64 } : Room) 0 0 P [.ref a0, .int a1] (fun r P2 => P = P2 ∧ (0 ≤ r.toInt ∧ r.toInt ≤ 1)) := by
  refine enI (lv := [(0, .ref a0), (1, .int a1)]) (by decide) (Nat.le_of_ble_eq_true rfl) rfl (fun E D cy C Ci0 ret => ?_)
  refine g_aload_n C dX7_hasOctet_0 rfl 0 rfl ?_
  refine g_getI C fi_X7_21 (by decide) (ha0).1 (ha0).2 dX7_hasOctet_1 ?_
  refine g_iload_n C dX7_hasOctet_4 rfl 1 rfl ?_
  refine a_ishr C dX7_hasOctet_5 (fun z5297 => ?_)
  refine g_iconst (v := 1) C dX7_hasOctet_6 (by decide) ?_
  refine s_iand C dX7_hasOctet_7 (by show 0 ≤ 1; omega) (fun z5299 h5300 => ?_)
  have h5300 : 0 ≤ z5299.toInt ∧ z5299.toInt ≤ 1 := h5300
  refine b_if_eq C 15 dX7_hasOctet_8 (by decide) (fun h5301 => ?_) (fun h5301 => ?_)
  · have h5301 : z5299.toInt = 0 := congrArg Int32.toInt h5301
    refine g_iconst (v := 0) C dX7_hasOctet_15 (by decide) ?_
    exact ret _ _ _ _ _ _ dX7_hasOctet_16 rfl (by decide) (by decide) ⟨rfl, (by decide)⟩
  · have h5301 : z5299.toInt ≠ 0 := ti_ne h5301
    refine g_iconst (v := 1) C dX7_hasOctet_11 (by decide) ?_
    refine g_goto C 16 dX7_hasOctet_12 (by decide) ?_
    exact ret _ _ _ _ _ _ dX7_hasOctet_16 rfl (by decide) (by decide) ⟨rfl, (by decide)⟩
theorem dX11_gather_69 : decode cX11_gather 69 = .ok (.ifCond .eq 17, 3) := by decide +kernel
theorem dX11_gather_72 : decode cX11_gather 72 = .ok (.aload 4, 2) := by decide +kernel
theorem dX11_gather_74 : decode cX11_gather 74 = .ok (.aload 7, 2) := by decide +kernel
theorem dX11_gather_76 : decode cX11_gather 76 = .ok (.iload_n 2, 1) := by decide +kernel
theorem dX11_gather_77 : decode cX11_gather 77 = .ok (.iload_n 3, 1) := by decide +kernel
theorem dX11_gather_78 : decode cX11_gather 78 = .ok (.invokevirtual 375, 3) := by decide +kernel
theorem dX11_gather_81 : decode cX11_gather 81 = .ok (.iload 6, 2) := by decide +kernel
theorem dX11_gather_83 : decode cX11_gather 83 = .ok (.invokevirtual 378, 3) := by decide +kernel
theorem dX11_gather_86 : decode cX11_gather 86 = .ok (.iinc 6 1, 3) := by decide +kernel
theorem dX11_gather_89 : decode cX11_gather 89 = .ok (.goto (-59), 3) := by decide +kernel
set_option maxHeartbeats 4000000 in
set_option maxRecDepth 100000 in
theorem s_X11_gather {P : PP} {a0 : Nat} {a1 : Int32} {a2 : Int32} {a3 : Int32} (I : IV P) (ha0 : At P a0 11) (ha1 : 0 ≤ a1.toInt ∧ a1.toInt ≤ 3) (ha2 : 0 ≤ a2.toInt ∧ a2.toInt ≤ 1) (ha3 : 0 ≤ a3.toInt ∧ a3.toInt ≤ 1) : CtrQ yX11_gather cX11_gather 8 (some (Jvm.ClassFile.FieldType.object "ThousandLeaflets$Equations")) ({ frames := 3, cells := 0, slots := 0, locals := 192 } : Room) 0 0 P [.ref a0, .int a1, .int a2, .int a3] (fun r P2 => IV P2 ∧ EK [5, 13] P P2 ∧ (∃ b, r = some b ∧ At P2 b 5)) := by
  refine enQ (lv := [(0, .ref a0), (1, .int a1), (2, .int a2), (3, .int a3)]) (by decide) (by first | exact Or.inl ⟨_, rfl⟩ | exact Or.inr ⟨_, rfl⟩) (Nat.le_of_ble_eq_true rfl) rfl (fun E D cy C Ci0 ret => ?_)
  have J30 : ∀ (n30 : Nat) (P30 : PP) (b30_4 : Nat) (b30_5 : Nat) (v30_6 : Int32), (40 - v30_6.toInt).toNat < n30 → (IV P30) → (EK [5, 13] P P30) → (At P30 b30_4 5) → (At P30 b30_5 6) → (0 ≤ v30_6.toInt ∧ v30_6.toInt ≤ 40) → G E ({ frames := 3, cells := 0, slots := 0, locals := 192 } : Room) D cy 8 P30 0 0 30 [(2, .int a2), (3, .int a3), (4, .ref b30_4), (5, .ref b30_5), (6, .int v30_6)] [] := by
    intro n30
    induction n30 with
    | zero => intro P30 b30_4 b30_5 v30_6 hm30 I30 X30 hb30_4 hb30_5 hv30_6; omega
    | succ n30 ih30 =>
      intro P30 b30_4 b30_5 v30_6 hm30 I30 X30 hb30_4 hb30_5 hv30_6
      have h5808 := X30.at ha0
      have J86 : ∀ (P86 : PP) (b86_4 : Nat) (b86_5 : Nat), (IV P86) → (EK [5, 13] P P86) → (At P86 b86_4 5) → (At P86 b86_5 6) → (0 ≤ v30_6.toInt ∧ v30_6.toInt ≤ 39) → (1 ≤ (pI P86 b86_5 1).toInt ∧ (pI P86 b86_5 1).toInt ≤ 40) → G E ({ frames := 3, cells := 0, slots := 0, locals := 192 } : Room) D cy 8 P86 0 0 86 [(2, .int a2), (3, .int a3), (4, .ref b86_4), (5, .ref b86_5), (6, .int v30_6)] [] := by
        intro P86 b86_4 b86_5 I86 X86 hb86_4 hb86_5 hv86_6 hq86_0
        have h5809 := X86.at ha0
        refine s_iinc (lv0 := [(2, .int a2), (3, .int a3), (4, .ref b86_4), (5, .ref b86_5)]) (m := 1) C dX11_gather_86 4 rfl (by decide) rfl (by decide) (by omega) (fun z5810 h5811 => ?_)
        have h5811 : z5810.toInt = v30_6.toInt + 1 := h5811
        refine g_goto C 30 dX11_gather_89 (by decide) ?_
        refine g_lv (lv' := [(2, .int a2), (3, .int a3), (4, .ref b86_4), (5, .ref b86_5), (6, .int z5810)]) [1, 2, 3, 4, 0] rfl ?_
        exact ih30 P86 b86_4 b86_5 z5810 (by omega) I86 X86 hb86_4 hb86_5 (by omega)
      refine g_iload C dX11_gather_30 4 rfl ?_
      refine g_aload C dX11_gather_32 3 rfl ?_
      refine g_getI C fi_X11_336 (by decide) (hb30_5).1 (hb30_5).2 dX11_gather_34 ?_
      have h5812 := I30.rg (hb30_5) 1 rfl
      refine b_icmp_ge C 92 dX11_gather_37 (by decide) (fun h5813 => ?_) (fun h5813 => ?_)
      · have h5813 : (pI P30 b30_5 1).toInt ≤ v30_6.toInt := h5813
        refine g_aload C dX11_gather_92 2 rfl ?_
        exact ret _ _ _ _ _ (some b30_4) dX11_gather_94 (by decide) (by decide) ⟨I30, X30, ⟨_, rfl, hb30_4⟩⟩
      · have h5813 : v30_6.toInt < (pI P30 b30_5 1).toInt := h5813
        refine g_aload C dX11_gather_40 3 rfl ?_
        refine g_iload C dX11_gather_42 4 rfl ?_
        refine g_callVQ (rest := []) C mv_X11_337 [.int v30_6] (s_X6_at I30 hb30_5) (hb30_5).1 (hb30_5).2 rfl rfl (by decide) (Nat.le_of_ble_eq_true rfl) (by decide) dX11_gather_44 (fun r5814 Y5815 h5816 => ?_)
        obtain ⟨rfl, h5816⟩ := h5816
        rcases h5816 with rfl | ⟨b5818, rfl, h5816, hj5817⟩
        · show G _ _ _ _ _ _ _ _ _ _ (.null :: _)
          refine g_astoreN (lv' := [(7, .null), (2, .int a2), (3, .int a3), (4, .ref b30_4), (5, .ref b30_5), (6, .int v30_6)]) C dX11_gather_47 (by decide) rfl ?_
          refine g_aloadN C dX11_gather_49 0 rfl ?_
          refine g_ifnullN C 86 dX11_gather_51 (by decide) ?_
          refine g_lv (lv' := [(2, .int a2), (3, .int a3), (4, .ref b30_4), (5, .ref b30_5), (6, .int v30_6)]) [1, 2, 3, 4, 5] rfl ?_
          exact J86 P30 b30_4 b30_5 I30 X30 hb30_4 hb30_5 (by omega) (by omega)
        · have hj5817 : ((0 : Int) ≤ v30_6.toInt ∧ v30_6.toInt ≤ (39 : Int)) := hj5817
          show G _ _ _ _ _ _ _ _ _ _ (.ref b5818 :: _)
          refine g_astore (lv' := [(7, .ref b5818), (2, .int a2), (3, .int a3), (4, .ref b30_4), (5, .ref b30_5), (6, .int v30_6)]) C dX11_gather_47 (by decide) rfl ?_
          refine g_aload C dX11_gather_49 0 rfl ?_
          refine g_ifnull C dX11_gather_51 ?_
          refine g_aload C dX11_gather_54 0 rfl ?_
          refine g_getI C fi_X11_191 (by decide) (h5816).1 (h5816).2 dX11_gather_56 ?_
          have h5819 := I30.rg (h5816) 0 rfl
          refine g_iload_n C dX11_gather_59 rfl 1 rfl ?_
          refine b_icmp_ne C 86 dX11_gather_60 (by decide) (fun h5820 => ?_) (fun h5820 => ?_)
          · have h5820 : (pI P30 b5818 0).toInt ≠ a2.toInt := ti_ne h5820
            refine g_lv (lv' := [(2, .int a2), (3, .int a3), (4, .ref b30_4), (5, .ref b30_5), (6, .int v30_6)]) [1, 2, 3, 4, 5] rfl ?_
            exact J86 P30 b30_4 b30_5 I30 X30 hb30_4 hb30_5 (by omega) (by omega)
          · have h5820 : (pI P30 b5818 0).toInt = a2.toInt := congrArg Int32.toInt h5820
            refine g_aload C dX11_gather_63 0 rfl ?_
            refine g_iload_n C dX11_gather_65 rfl 2 rfl ?_
            refine g_callVI (rest := []) C mv_X11_365 [.int a3] (s_X7_hasOctet I30 h5816) (h5816).1 (h5816).2 rfl rfl (by decide) (Nat.le_of_ble_eq_true rfl) (by decide) dX11_gather_66 (fun r5821 Y5822 h5823 => ?_)
            obtain ⟨rfl, h5823⟩ := h5823
            have h5823 : 0 ≤ r5821.toInt ∧ r5821.toInt ≤ 1 := h5823
            refine b_if_eq C 86 dX11_gather_69 (by decide) (fun h5824 => ?_) (fun h5824 => ?_)
            · have h5824 : r5821.toInt = 0 := congrArg Int32.toInt h5824
              refine g_lv (lv' := [(2, .int a2), (3, .int a3), (4, .ref b30_4), (5, .ref b30_5), (6, .int v30_6)]) [1, 2, 3, 4, 5] rfl ?_
              exact J86 P30 b30_4 b30_5 I30 X30 hb30_4 hb30_5 (by omega) (by omega)
            · have h5824 : r5821.toInt ≠ 0 := ti_ne h5824
              refine g_aload C dX11_gather_72 3 rfl ?_
              refine g_aload C dX11_gather_74 0 rfl ?_
              refine g_iload_n C dX11_gather_76 rfl 1 rfl ?_
              refine g_iload_n C dX11_gather_77 rfl 2 rfl ?_
              refine g_callVI (rest := [.ref b30_4]) C mv_X11_375 [.int a2, .int a3] (s_X7_equation I30 h5816) (h5816).1 (h5816).2 rfl rfl (by decide) (Nat.le_of_ble_eq_true rfl) (by decide) dX11_gather_78 (fun r5825 Y5826 h5827 => ?_)
              obtain ⟨rfl, h5827⟩ := h5827
              have h5827 : True := h5827
              refine g_iload C dX11_gather_81 5 rfl ?_
              refine g_callVV (rest := []) C mv_X11_378 [.int r5825, .int v30_6] (s_X5_add I30 hb30_4) (hb30_4).1 (hb30_4).2 rfl rfl (by decide) (Nat.le_of_ble_eq_true rfl) (by decide) dX11_gather_83 (fun Y5829 h5830 => ?_)
              obtain ⟨Iy5831, Xy5832⟩ := h5830
              have q5833 := Xy5832.keep hb30_5 (by decide) 1
              have q5834 := Xy5832.keep h5816 (by decide) 0
              have Xz5835 : EK [5, 13] P Y5829 := X30.tr (Xy5832.mono (by decide))
              have h5836 := Xy5832.at h5808
              have h5837 := Xy5832.at hb30_4
              have h5838 := Xy5832.at hb30_5
              have h5839 := Xy5832.at h5816
              refine g_lv (lv' := [(2, .int a2), (3, .int a3), (4, .ref b30_4), (5, .ref b30_5), (6, .int v30_6)]) [1, 2, 3, 4, 5] rfl ?_
              exact J86 Y5829 b30_4 b30_5 Iy5831 Xz5835 h5837 h5838 (by omega) (by omega)
  refine g_aload_n C dX11_gather_0 rfl 0 rfl ?_
  obtain ⟨b5840, e5841, h5842⟩ := I.fld (ha0) 8 18 2 rfl
  refine g_getR C fi_X11_47 rfl e5841 (ha0).1 (ha0).2 dX11_gather_1 ?_
  refine g_iload_n C dX11_gather_4 rfl 3 rfl ?_
  obtain ⟨b5843, e5844, h5845⟩ := I.elm h5842 (by decide) (a3.toInt.toNat) (by omega)
  refine g_aldR C h5842.1 h5842.2.1 (by decide) (ix_in h5842.2.2 (by omega)) e5844 dX11_gather_5 ?_
  refine g_astore (lv' := [(4, .ref b5843), (0, .ref a0), (1, .int a1), (2, .int a2), (3, .int a3)]) C dX11_gather_6 (by decide) rfl ?_
  refine g_aload C dX11_gather_8 0 rfl ?_
  refine g_aload_n C dX11_gather_10 rfl 1 rfl ?_
  obtain ⟨b5846, e5847, h5848⟩ := I.fld (ha0) 0 17 2 rfl
  refine g_getR C fi_X11_11 rfl e5847 (ha0).1 (ha0).2 dX11_gather_11 ?_
  refine g_iload_n C dX11_gather_14 rfl 3 rfl ?_
  obtain ⟨b5849, e5850, h5851⟩ := I.elm h5848 (by decide) (a2.toInt.toNat) (by omega)
  refine g_aldR C h5848.1 h5848.2.1 (by decide) (ix_in h5848.2.2 (by omega)) e5850 dX11_gather_15 ?_
  refine g_callVV (rest := []) C mv_X11_371 [.ref b5849] (s_X5_startWith I h5845 h5851) (h5845).1 (h5845).2 rfl rfl (by decide) (Nat.le_of_ble_eq_true rfl) (by decide) dX11_gather_16 (fun Y5853 h5854 => ?_)
  obtain ⟨Iy5855, Xy5856⟩ := h5854
  have Xz5857 : EK [5, 13] P Y5853 := Xy5856.mono (by decide)
  have h5858 := Xy5856.at ha0
  have h5859 := Xy5856.at h5845
  refine g_aload_n C dX11_gather_19 rfl 1 rfl ?_
  obtain ⟨b5860, e5861, h5862⟩ := Iy5855.fld (h5858) 1 19 4 rfl
  refine g_getR C fi_X11_17 rfl e5861 (h5858).1 (h5858).2 dX11_gather_20 ?_
  refine g_iload_n C dX11_gather_23 rfl 2 rfl ?_
  obtain ⟨b5863, e5864, h5865⟩ := Iy5855.elm h5862 (by decide) (a1.toInt.toNat) (by omega)
  refine g_aldR C h5862.1 h5862.2.1 (by decide) (ix_in h5862.2.2 (by omega)) e5864 dX11_gather_24 ?_
  refine g_astore (lv' := [(5, .ref b5863), (4, .ref b5843), (0, .ref a0), (1, .int a1), (2, .int a2), (3, .int a3)]) C dX11_gather_25 (by decide) rfl ?_
  refine g_iconst (v := 0) C dX11_gather_27 (by decide) ?_
  refine g_istore (lv' := [(6, .int 0), (5, .ref b5863), (4, .ref b5843), (0, .ref a0), (1, .int a1), (2, .int a2), (3, .int a3)]) C dX11_gather_28 (by decide) rfl ?_
  refine g_lv (lv' := [(2, .int a2), (3, .int a3), (4, .ref b5843), (5, .ref b5863), (6, .int 0)]) [5, 6, 2, 1, 0] rfl ?_
  exact J30 _ Y5853 b5843 b5863 0 (Nat.lt_succ_self _) Iy5855 Xz5857 h5859 h5865 (by decide)
theorem dX11_apart_75 : decode cX11_apart 75 = .ok (.iconst (-1), 1) := by decide +kernel
theorem dX11_apart_76 : decode cX11_apart 76 = .ok (.invokevirtual 236, 3) := by decide +kernel
theorem dX11_apart_79 : decode cX11_apart 79 = .ok (.iinc 5 1, 3) := by decide +kernel
theorem dX11_apart_82 : decode cX11_apart 82 = .ok (.goto (-33), 3) := by decide +kernel
theorem dX11_apart_85 : decode cX11_apart 85 = .ok (.iinc 4 1, 3) := by decide +kernel
theorem dX11_apart_88 : decode cX11_apart 88 = .ok (.goto (-48), 3) := by decide +kernel
theorem dX11_apart_91 : decode cX11_apart 91 = .ok (.aload_n 0, 1) := by decide +kernel
theorem dX11_apart_92 : decode cX11_apart 92 = .ok (.getfield 74, 3) := by decide +kernel
theorem dX11_apart_95 : decode cX11_apart 95 = .ok (.aload_n 0, 1) := by decide +kernel
theorem dX11_apart_96 : decode cX11_apart 96 = .ok (.getfield 17, 3) := by decide +kernel
theorem dX11_apart_99 : decode cX11_apart 99 = .ok (.iload_n 1, 1) := by decide +kernel
theorem dX11_apart_100 : decode cX11_apart 100 = .ok (.aaload, 1) := by decide +kernel
theorem dX11_apart_101 : decode cX11_apart 101 = .ok (.invokevirtual 312, 3) := by decide +kernel
theorem dX11_apart_104 : decode cX11_apart 104 = .ok (.aload_n 0, 1) := by decide +kernel
theorem dX11_apart_105 : decode cX11_apart 105 = .ok (.getfield 74, 3) := by decide +kernel
theorem dX11_apart_108 : decode cX11_apart 108 = .ok (.iload_n 2, 1) := by decide +kernel
theorem dX11_apart_109 : decode cX11_apart 109 = .ok (.invokevirtual 316, 3) := by decide +kernel
theorem dX11_apart_112 : decode cX11_apart 112 = .ok (.ireturn, 1) := by decide +kernel
set_option maxHeartbeats 4000000 in
set_option maxRecDepth 100000 in
theorem s_X11_apart {P : PP} {a0 : Nat} {a1 : Int32} {a2 : Int32} (I : IV P) (ha0 : At P a0 11) : CtrI yX11_apart cX11_apart 6 (some Jvm.ClassFile.FieldType.int) ({ frames := 16, cells := 0, slots := 0, locals := 1024 } : Room) 0 0 P [.ref a0, .int a1, .int a2] (fun r P2 => IV P2 ∧ EK [0, 5, 10, 13] P P2 ∧ (-1 ≤ r.toInt ∧ r.toInt ≤ 2)) := by
  refine enI (lv := [(0, .ref a0), (1, .int a1), (2, .int a2)]) (by decide) (Nat.le_of_ble_eq_true rfl) rfl (fun E D cy C Ci0 ret => ?_)
  have J40 : ∀ (n40 : Nat) (P40 : PP) (v40_4 : Int32), (2 - v40_4.toInt).toNat < n40 → (IV P40) → (EK [0, 5, 10, 13] P P40) → (0 ≤ a1.toInt ∧ a1.toInt ≤ 3) → (0 ≤ a2.toInt ∧ a2.toInt ≤ 39) → (0 ≤ v40_4.toInt ∧ v40_4.toInt ≤ 2) → G E ({ frames := 16, cells := 0, slots := 0, locals := 1024 } : Room) D cy 6 P40 0 0 40 [(0, .ref a0), (1, .int a1), (2, .int a2), (4, .int v40_4)] [] := by
    intro n40
    induction n40 with
    | zero => intro P40 v40_4 hm40 I40 X40 hv40_1 hv40_2 hv40_4; omega
    | succ n40 ih40 =>
      intro P40 v40_4 hm40 I40 X40 hv40_1 hv40_2 hv40_4
      have h6029 := X40.at ha0
      have J49 : ∀ (n49 : Nat) (P49 : PP) (v49_5 : Int32), (2 - v49_5.toInt).toNat < n49 → (IV P49) → (EK [0, 5, 10, 13] P P49) → (0 ≤ a1.toInt ∧ a1.toInt ≤ 3) → (0 ≤ a2.toInt ∧ a2.toInt ≤ 39) → (0 ≤ v40_4.toInt ∧ v40_4.toInt ≤ 1) → (0 ≤ v49_5.toInt ∧ v49_5.toInt ≤ 2) → G E ({ frames := 16, cells := 0, slots := 0, locals := 1024 } : Room) D cy 6 P49 0 0 49 [(0, .ref a0), (1, .int a1), (2, .int a2), (4, .int v40_4), (5, .int v49_5)] [] := by
        intro n49
        induction n49 with
        | zero => intro P49 v49_5 hm49 I49 X49 hv49_1 hv49_2 hv49_4 hv49_5; omega
        | succ n49 ih49 =>
          intro P49 v49_5 hm49 I49 X49 hv49_1 hv49_2 hv49_4 hv49_5
          have h6030 := X49.at ha0
          refine g_iload C dX11_apart_49 4 rfl ?_
          refine g_iconst (v := 2) C dX11_apart_51 (by decide) ?_
          refine b_icmp_ge C 85 dX11_apart_52 (by decide) (fun h6031 => ?_) (fun h6031 => ?_)
          · have h6031 : 2 ≤ v49_5.toInt := h6031
            refine s_iinc (lv0 := [(0, .ref a0), (1, .int a1), (2, .int a2), (5, .int v49_5)]) (m := 1) C dX11_apart_85 3 rfl (by decide) rfl (by decide) (by omega) (fun z6032 h6033 => ?_)
            have h6033 : z6032.toInt = v40_4.toInt + 1 := h6033
            refine g_goto C 40 dX11_apart_88 (by decide) ?_
            refine g_lv (lv' := [(0, .ref a0), (1, .int a1), (2, .int a2), (4, .int z6032)]) [1, 2, 3, 0] rfl ?_
            exact ih40 P49 z6032 (by omega) I49 X49 (by omega) (by omega) (by omega)
          · have h6031 : v49_5.toInt < 2 := h6031
            refine g_aload_n C dX11_apart_55 rfl 0 rfl ?_
            obtain ⟨b6034, e6035, h6036⟩ := I49.fld (h6030) 12 10 0 rfl
            refine g_getR C fi_X11_74 rfl e6035 (h6030).1 (h6030).2 dX11_apart_56 ?_
            refine g_iload C dX11_apart_59 3 rfl ?_
            refine g_iload C dX11_apart_61 4 rfl ?_
            refine g_callVQ (rest := []) C mv_X11_308 [.int v40_4, .int v49_5] (s_X10_basisOf I49 h6036.at (by omega) (by omega)) (h6036.at).1 (h6036.at).2 rfl rfl (by decide) (Nat.le_of_ble_eq_true rfl) (by decide) dX11_apart_63 (fun r6037 Y6038 h6039 => ?_)
            obtain ⟨rfl, h6039⟩ := h6039
            obtain ⟨b6041, rfl, h6039⟩ := h6039
            show G _ _ _ _ _ _ _ _ _ _ (.ref b6041 :: _)
            refine g_aload_n C dX11_apart_66 rfl 0 rfl ?_
            refine g_iload_n C dX11_apart_67 rfl 1 rfl ?_
            refine g_iload C dX11_apart_68 3 rfl ?_
            refine g_iload C dX11_apart_70 4 rfl ?_
            refine g_callVQ (rest := [.ref b6041]) C mv_X11_216 [.int a1, .int v40_4, .int v49_5] (s_X11_gather I49 h6030 (by omega) (by omega) (by omega)) (h6030).1 (h6030).2 rfl rfl (by decide) (Nat.le_of_ble_eq_true rfl) (by decide) dX11_apart_72 (fun r6042 Y6043 h6044 => ?_)
            obtain ⟨Iy6045, Xy6046, h6044⟩ := h6044
            have Xz6047 : EK [0, 5, 10, 13] P Y6043 := X49.tr (Xy6046.mono (by decide))
            have h6048 := Xy6046.at h6030
            have h6049 := Xy6046.at h6039
            obtain ⟨b6051, rfl, h6044⟩ := h6044
            show G _ _ _ _ _ _ _ _ _ _ (.ref b6051 :: _)
            refine g_iconst (v := (-1)) C dX11_apart_75 (by decide) ?_
            refine g_callVV (rest := []) C mv_X11_236 [.ref b6051, .int (-1)] (s_X0_take Iy6045 h6049 h6044) (h6049).1 (h6049).2 rfl rfl (by decide) (Nat.le_of_ble_eq_true rfl) (by decide) dX11_apart_76 (fun Y6053 h6054 => ?_)
            obtain ⟨Iy6055, Xy6056⟩ := h6054
            have Xz6057 : EK [0, 5, 10, 13] P Y6053 := Xz6047.tr (Xy6056.mono (by decide))
            have h6058 := Xy6056.at h6048
            refine s_iinc (lv0 := [(0, .ref a0), (1, .int a1), (2, .int a2), (4, .int v40_4)]) (m := 1) C dX11_apart_79 4 rfl (by decide) rfl (by decide) (by omega) (fun z6059 h6060 => ?_)
            have h6060 : z6059.toInt = v49_5.toInt + 1 := h6060
            refine g_goto C 49 dX11_apart_82 (by decide) ?_
            refine g_lv (lv' := [(0, .ref a0), (1, .int a1), (2, .int a2), (4, .int v40_4), (5, .int z6059)]) [1, 2, 3, 4, 0] rfl ?_
            exact ih49 Y6053 z6059 (by omega) Iy6055 Xz6057 (by omega) (by omega) (by omega) (by omega)
      refine g_iload C dX11_apart_40 3 rfl ?_
      refine g_iconst (v := 2) C dX11_apart_42 (by decide) ?_
      refine b_icmp_ge C 91 dX11_apart_43 (by decide) (fun h6061 => ?_) (fun h6061 => ?_)
      · have h6061 : 2 ≤ v40_4.toInt := h6061
        refine g_aload_n C dX11_apart_91 rfl 0 rfl ?_
        obtain ⟨b6062, e6063, h6064⟩ := I40.fld (h6029) 12 10 0 rfl
        refine g_getR C fi_X11_74 rfl e6063 (h6029).1 (h6029).2 dX11_apart_92 ?_
        refine g_aload_n C dX11_apart_95 rfl 0 rfl ?_
        obtain ⟨b6065, e6066, h6067⟩ := I40.fld (h6029) 1 19 4 rfl
        refine g_getR C fi_X11_17 rfl e6066 (h6029).1 (h6029).2 dX11_apart_96 ?_
        refine g_iload_n C dX11_apart_99 rfl 1 rfl ?_
        obtain ⟨b6068, e6069, h6070⟩ := I40.elm h6067 (by decide) (a1.toInt.toNat) (by omega)
        refine g_aldR C h6067.1 h6067.2.1 (by decide) (ix_in h6067.2.2 (by omega)) e6069 dX11_apart_100 ?_
        refine g_callVV (rest := []) C mv_X11_312 [.ref b6068] (s_X10_findAll I40 h6064.at h6070) (h6064.at).1 (h6064.at).2 rfl rfl (by decide) (Nat.le_of_ble_eq_true rfl) (by decide) dX11_apart_101 (fun Y6072 h6073 => ?_)
        obtain ⟨Iy6074, Xy6075⟩ := h6073
        have Xz6076 : EK [0, 5, 10, 13] P Y6072 := X40.tr (Xy6075.mono (by decide))
        have h6077 := Xy6075.at h6029
        refine g_aload_n C dX11_apart_104 rfl 0 rfl ?_
        obtain ⟨b6078, e6079, h6080⟩ := Iy6074.fld (h6077) 12 10 0 rfl
        refine g_getR C fi_X11_74 rfl e6079 (h6077).1 (h6077).2 dX11_apart_105 ?_
        refine g_iload_n C dX11_apart_108 rfl 2 rfl ?_
        refine g_callVI (rest := []) C mv_X11_316 [.int a2] (s_X10_bookAt Iy6074 h6080.at) (h6080.at).1 (h6080.at).2 rfl rfl (by decide) (Nat.le_of_ble_eq_true rfl) (by decide) dX11_apart_109 (fun r6081 Y6082 h6083 => ?_)
        obtain ⟨rfl, h6083⟩ := h6083
        have h6083 : -1 ≤ r6081.toInt ∧ r6081.toInt ≤ 2 := h6083
        exact ret _ _ _ _ _ _ dX11_apart_112 rfl (by decide) (by decide) ⟨Iy6074, Xz6076, (by omega)⟩
      · have h6061 : v40_4.toInt < 2 := h6061
        refine g_iconst (v := 0) C dX11_apart_46 (by decide) ?_
        refine g_istore (lv' := [(5, .int 0), (0, .ref a0), (1, .int a1), (2, .int a2), (4, .int v40_4)]) C dX11_apart_47 (by decide) rfl ?_
        refine g_lv (lv' := [(0, .ref a0), (1, .int a1), (2, .int a2), (4, .int v40_4), (5, .int 0)]) [1, 2, 3, 4, 0] rfl ?_
        exact J49 _ P40 0 (Nat.lt_succ_self _) I40 X40 (by omega) (by omega) (by omega) (by decide)
  have J35 : G E ({ frames := 16, cells := 0, slots := 0, locals := 1024 } : Room) D cy 6 P 0 0 35 [] [] := by
    refine g_iconst (v := (-1)) C dX11_apart_35 (by decide) ?_
    exact ret _ _ _ _ _ _ dX11_apart_36 rfl (by decide) (by decide) ⟨I, EK.rf, (by decide)⟩
  refine g_aload_n C dX11_apart_0 rfl 0 rfl ?_
  refine g_iload_n C dX11_apart_1 rfl 1 rfl ?_
  refine g_iload_n C dX11_apart_2 rfl 2 rfl ?_
  refine g_callVQ (rest := []) C mv_X11_185 [.int a1, .int a2] (s_X11_paperAt I ha0) (ha0).1 (ha0).2 rfl rfl (by decide) (Nat.le_of_ble_eq_true rfl) (by decide) dX11_apart_3 (fun r6084 Y6085 h6086 => ?_)
  obtain ⟨rfl, h6086⟩ := h6086
  rcases h6086 with rfl | ⟨b6088, rfl, h6086, hj6087⟩
  · show G _ _ _ _ _ _ _ _ _ _ (.null :: _)
    refine g_astore_nN (lv' := [(3, .null), (0, .ref a0), (1, .int a1), (2, .int a2)]) C dX11_apart_6 rfl (by decide) rfl ?_
    refine g_aload_nN C dX11_apart_7 rfl 0 rfl ?_
    refine g_ifnullN C 35 dX11_apart_8 (by decide) ?_
    refine g_lv (lv' := []) [] rfl ?_
    exact J35 
  · have hj6087 : ((0 : Int) ≤ a1.toInt ∧ a1.toInt ≤ (3 : Int)) ∧ ((0 : Int) ≤ a2.toInt ∧ a2.toInt ≤ (39 : Int)) := hj6087
    show G _ _ _ _ _ _ _ _ _ _ (.ref b6088 :: _)
    refine g_astore_n (lv' := [(3, .ref b6088), (0, .ref a0), (1, .int a1), (2, .int a2)]) C dX11_apart_6 rfl (by decide) rfl ?_
    refine g_aload_n C dX11_apart_7 rfl 0 rfl ?_
    refine g_ifnull C dX11_apart_8 ?_
    refine g_aload_n C dX11_apart_11 rfl 0 rfl ?_
    refine g_getI C fi_X11_191 (by decide) (h6086).1 (h6086).2 dX11_apart_12 ?_
    have h6089 := I.rg (h6086) 0 rfl
    refine g_iconst (v := (-1)) C dX11_apart_15 (by decide) ?_
    refine b_icmp_ne C 35 dX11_apart_16 (by decide) (fun h6090 => ?_) (fun h6090 => ?_)
    · have h6090 : (pI P b6088 0).toInt ≠ (-1) := ti_ne h6090
      refine g_lv (lv' := []) [] rfl ?_
      exact J35 
    · have h6090 : (pI P b6088 0).toInt = (-1) := congrArg Int32.toInt h6090
      refine g_aload_n C dX11_apart_19 rfl 1 rfl ?_
      refine g_iconst (v := 0) C dX11_apart_20 (by decide) ?_
      refine g_callVI (rest := []) C mv_X11_97 [.int 0] (s_X11_isTold I ha0) (ha0).1 (ha0).2 rfl rfl (by decide) (Nat.le_of_ble_eq_true rfl) (by decide) dX11_apart_21 (fun r6091 Y6092 h6093 => ?_)
      obtain ⟨rfl, h6093⟩ := h6093
      obtain ⟨h6093, hi6094⟩ := h6093
      have hi6094 : r6091.toInt = 0 ∨ (((0 : Int) ≤ 0 ∧ 0 ≤ (1 : Int))) := hi6094
      have h6093 : 0 ≤ r6091.toInt ∧ r6091.toInt ≤ 1 := h6093
      refine b_if_eq C 35 dX11_apart_24 (by decide) (fun h6095 => ?_) (fun h6095 => ?_)
      · have h6095 : r6091.toInt = 0 := congrArg Int32.toInt h6095
        clear hi6094
        refine g_lv (lv' := []) [] rfl ?_
        exact J35 
      · have h6095 : r6091.toInt ≠ 0 := ti_ne h6095
        replace hi6094 := hi6094.resolve_left (by omega)
        refine g_aload_n C dX11_apart_27 rfl 1 rfl ?_
        refine g_iconst (v := 1) C dX11_apart_28 (by decide) ?_
        refine g_callVI (rest := []) C mv_X11_97 [.int 1] (s_X11_isTold I ha0) (ha0).1 (ha0).2 rfl rfl (by decide) (Nat.le_of_ble_eq_true rfl) (by decide) dX11_apart_29 (fun r6096 Y6097 h6098 => ?_)
        obtain ⟨rfl, h6098⟩ := h6098
        obtain ⟨h6098, hi6099⟩ := h6098
        have hi6099 : r6096.toInt = 0 ∨ (((0 : Int) ≤ 1 ∧ 1 ≤ (1 : Int))) := hi6099
        have h6098 : 0 ≤ r6096.toInt ∧ r6096.toInt ≤ 1 := h6098
        refine b_if_ne C 37 dX11_apart_32 (by decide) (fun h6100 => ?_) (fun h6100 => ?_)
        · have h6100 : r6096.toInt ≠ 0 := ti_ne h6100
          replace hi6099 := hi6099.resolve_left (by omega)
          refine g_iconst (v := 0) C dX11_apart_37 (by decide) ?_
          refine g_istore (lv' := [(4, .int 0), (3, .ref b6088), (0, .ref a0), (1, .int a1), (2, .int a2)]) C dX11_apart_38 (by decide) rfl ?_
          refine g_lv (lv' := [(0, .ref a0), (1, .int a1), (2, .int a2), (4, .int 0)]) [2, 3, 4, 0] rfl ?_
          exact J40 _ P 0 (Nat.lt_succ_self _) I EK.rf (by omega) (by omega) (by decide)
        · have h6100 : r6096.toInt = 0 := congrArg Int32.toInt h6100
          clear hi6099
          refine g_lv (lv' := []) [] rfl ?_
          exact J35 
theorem dX11_average_0 : decode cX11_average 0 = .ok (.aload_n 0, 1) := by decide +kernel
theorem dX11_average_1 : decode cX11_average 1 = .ok (.iload_n 1, 1) := by decide +kernel
theorem dX11_average_2 : decode cX11_average 2 = .ok (.invokevirtual 97, 3) := by decide +kernel
theorem dX11_average_5 : decode cX11_average 5 = .ok (.ifCond .eq 29, 3) := by decide +kernel
theorem dX11_average_8 : decode cX11_average 8 = .ok (.iload_n 2, 1) := by decide +kernel
theorem dX11_average_9 : decode cX11_average 9 = .ok (.iconst 0, 1) := by decide +kernel
theorem dX11_average_10 : decode cX11_average 10 = .ok (.invokestatic 289, 3) := by decide +kernel
theorem dX11_isSetSize_0 : decode cX11_isSetSize 0 = .ok (.iload_n 0, 1) := by decide +kernel
theorem dX11_isSetSize_1 : decode cX11_isSetSize 1 = .ok (.iconst 1, 1) := by decide +kernel
theorem dX11_isSetSize_2 : decode cX11_isSetSize 2 = .ok (.if_icmp .lt 22, 3) := by decide +kernel
theorem dX11_isSetSize_5 : decode cX11_isSetSize 5 = .ok (.iload_n 0, 1) := by decide +kernel
theorem dX11_isSetSize_6 : decode cX11_isSetSize 6 = .ok (.bipush 11, 2) := by decide +kernel
theorem dX11_isSetSize_8 : decode cX11_isSetSize 8 = .ok (.if_icmp .gt 16, 3) := by decide +kernel
theorem dX11_isSetSize_11 : decode cX11_isSetSize 11 = .ok (.iload_n 1, 1) := by decide +kernel
theorem dX11_isSetSize_12 : decode cX11_isSetSize 12 = .ok (.ifCond .lt 12, 3) := by decide +kernel
theorem dX11_isSetSize_15 : decode cX11_isSetSize 15 = .ok (.iload_n 1, 1) := by decide +kernel
theorem dX11_isSetSize_16 : decode cX11_isSetSize 16 = .ok (.iload_n 0, 1) := by decide +kernel
theorem dX11_isSetSize_17 : decode cX11_isSetSize 17 = .ok (.if_icmp .gt 7, 3) := by decide +kernel
theorem dX11_isSetSize_20 : decode cX11_isSetSize 20 = .ok (.iconst 1, 1) := by decide +kernel
theorem dX11_isSetSize_21 : decode cX11_isSetSize 21 = .ok (.goto 4, 3) := by decide +kernel
theorem dX11_isSetSize_24 : decode cX11_isSetSize 24 = .ok (.iconst 0, 1) := by decide +kernel
theorem dX11_isSetSize_25 : decode cX11_isSetSize 25 = .ok (.ireturn, 1) := by decide +kernel
set_option maxHeartbeats 4000000 in
set_option maxRecDepth 100000 in
theorem s_X11_isSetSize {P : PP} {a0 : Int32} {a1 : Int32} (I : IV P) : CtrI yX11_isSetSize cX11_isSetSize 2 (some Jvm.ClassFile.FieldType.boolean) ({ frames := 1, cells := 0, slots := 0, locals := 64 } : Room) 0 0 P [.int a0, .int a1] (fun r P2 => P = P2 ∧ (0 ≤ r.toInt ∧ r.toInt ≤ 1) ∧ (r.toInt = 0 ∨ (((1 : Int) ≤ a0.toInt ∧ a0.toInt ≤ (11 : Int)) ∧ ((0 : Int) ≤ a1.toInt ∧ a1.toInt ≤ (11 : Int))))) := by
  refine enI (lv := [(0, .int a0), (1, .int a1)]) (by decide) (Nat.le_of_ble_eq_true rfl) rfl (fun E D cy C Ci0 ret => ?_)
  have J24 : G E ({ frames := 1, cells := 0, slots := 0, locals := 64 } : Room) D cy 2 P 0 0 24 [] [] := by
    refine g_iconst (v := 0) C dX11_isSetSize_24 (by decide) ?_
    exact ret _ _ _ _ _ _ dX11_isSetSize_25 rfl (by decide) (by decide) ⟨rfl, (by decide), Or.inl rfl⟩
  refine g_iload_n C dX11_isSetSize_0 rfl 0 rfl ?_
  refine g_iconst (v := 1) C dX11_isSetSize_1 (by decide) ?_
  have u6115 := ti_rng a0
  refine b_icmp_lt C 24 dX11_isSetSize_2 (by decide) (fun h6114 => ?_) (fun h6114 => ?_)
  · have h6114 : a0.toInt < 1 := h6114
    refine g_lv (lv' := []) [] rfl ?_
    exact J24 
  · have h6114 : 1 ≤ a0.toInt := h6114
    refine g_iload_n C dX11_isSetSize_5 rfl 0 rfl ?_
    refine g_bipush (v := 11) C dX11_isSetSize_6 (by decide) ?_
    have u6117 := ti_rng a0
    refine b_icmp_gt C 24 dX11_isSetSize_8 (by decide) (fun h6116 => ?_) (fun h6116 => ?_)
    · have h6116 : 11 < a0.toInt := h6116
      refine g_lv (lv' := []) [] rfl ?_
      exact J24 
    · have h6116 : a0.toInt ≤ 11 := h6116
      refine g_iload_n C dX11_isSetSize_11 rfl 1 rfl ?_
      have u6119 := ti_rng a1
      refine b_if_lt C 24 dX11_isSetSize_12 (by decide) (fun h6118 => ?_) (fun h6118 => ?_)
      · have h6118 : a1.toInt < 0 := h6118
        refine g_lv (lv' := []) [] rfl ?_
        exact J24 
      · have h6118 : 0 ≤ a1.toInt := h6118
        refine g_iload_n C dX11_isSetSize_15 rfl 1 rfl ?_
        refine g_iload_n C dX11_isSetSize_16 rfl 0 rfl ?_
        have u6121 := ti_rng a1
        refine b_icmp_gt C 24 dX11_isSetSize_17 (by decide) (fun h6120 => ?_) (fun h6120 => ?_)
        · have h6120 : a0.toInt < a1.toInt := h6120
          refine g_lv (lv' := []) [] rfl ?_
          exact J24 
        · have h6120 : a1.toInt ≤ a0.toInt := h6120
          refine g_iconst (v := 1) C dX11_isSetSize_20 (by decide) ?_
          refine g_goto C 25 dX11_isSetSize_21 (by decide) ?_
          exact ret _ _ _ _ _ _ dX11_isSetSize_25 rfl (by decide) (by decide) ⟨rfl, (by decide), Or.inr (by omega)⟩
theorem dX11_average_13 : decode cX11_average 13 = .ok (.ifCond .eq 21, 3) := by decide +kernel
theorem dX11_average_16 : decode cX11_average 16 = .ok (.iload_n 3, 1) := by decide +kernel
theorem dX11_average_17 : decode cX11_average 17 = .ok (.invokestatic 249, 3) := by decide +kernel
theorem dX11_isHow_0 : decode cX11_isHow 0 = .ok (.iload_n 0, 1) := by decide +kernel
theorem dX11_isHow_1 : decode cX11_isHow 1 = .ok (.ifCond .eq 8, 3) := by decide +kernel
theorem dX11_isHow_4 : decode cX11_isHow 4 = .ok (.iload_n 0, 1) := by decide +kernel
theorem dX11_isHow_5 : decode cX11_isHow 5 = .ok (.iconst 1, 1) := by decide +kernel
theorem dX11_isHow_6 : decode cX11_isHow 6 = .ok (.if_icmp .ne 7, 3) := by decide +kernel
theorem dX11_isHow_9 : decode cX11_isHow 9 = .ok (.iconst 1, 1) := by decide +kernel
theorem dX11_isHow_10 : decode cX11_isHow 10 = .ok (.goto 4, 3) := by decide +kernel
theorem dX11_isHow_13 : decode cX11_isHow 13 = .ok (.iconst 0, 1) := by decide +kernel
theorem dX11_isHow_14 : decode cX11_isHow 14 = .ok (.ireturn, 1) := by decide +kernel
set_option maxHeartbeats 4000000 in
set_option maxRecDepth 100000 in
theorem s_X11_isHow {P : PP} {a0 : Int32} (I : IV P) : CtrI yX11_isHow cX11_isHow 1 (some Jvm.ClassFile.FieldType.boolean) ({ frames := 1, cells := 0, slots := 0, locals := 64 } : Room) 0 0 P [.int a0] (fun r P2 => P = P2 ∧ (0 ≤ r.toInt ∧ r.toInt ≤ 1)) := by
  refine enI (lv := [(0, .int a0)]) (by decide) (Nat.le_of_ble_eq_true rfl) rfl (fun E D cy C Ci0 ret => ?_)
  have J9 : G E ({ frames := 1, cells := 0, slots := 0, locals := 64 } : Room) D cy 1 P 0 0 9 [] [] := by
    refine g_iconst (v := 1) C dX11_isHow_9 (by decide) ?_
    refine g_goto C 14 dX11_isHow_10 (by decide) ?_
    exact ret _ _ _ _ _ _ dX11_isHow_14 rfl (by decide) (by decide) ⟨rfl, (by decide)⟩
  refine g_iload_n C dX11_isHow_0 rfl 0 rfl ?_
  have u6137 := ti_rng a0
  refine b_if_eq C 9 dX11_isHow_1 (by decide) (fun h6136 => ?_) (fun h6136 => ?_)
  · have h6136 : a0.toInt = 0 := congrArg Int32.toInt h6136
    refine g_lv (lv' := []) [] rfl ?_
    exact J9 
  · have h6136 : a0.toInt ≠ 0 := ti_ne h6136
    refine g_iload_n C dX11_isHow_4 rfl 0 rfl ?_
    refine g_iconst (v := 1) C dX11_isHow_5 (by decide) ?_
    have u6139 := ti_rng a0
    refine b_icmp_ne C 13 dX11_isHow_6 (by decide) (fun h6138 => ?_) (fun h6138 => ?_)
    · have h6138 : a0.toInt ≠ 1 := ti_ne h6138
      refine g_iconst (v := 0) C dX11_isHow_13 (by decide) ?_
      exact ret _ _ _ _ _ _ dX11_isHow_14 rfl (by decide) (by decide) ⟨rfl, (by decide)⟩
    · have h6138 : a0.toInt = 1 := congrArg Int32.toInt h6138
      refine g_lv (lv' := []) [] rfl ?_
      exact J9 
theorem dX11_average_20 : decode cX11_average 20 = .ok (.ifCond .eq 14, 3) := by decide +kernel
theorem dX11_average_23 : decode cX11_average 23 = .ok (.iload 4, 2) := by decide +kernel
theorem dX11_average_25 : decode cX11_average 25 = .ok (.ifCond .lt 9, 3) := by decide +kernel
theorem dX11_average_28 : decode cX11_average 28 = .ok (.iload 4, 2) := by decide +kernel
theorem dX11_average_30 : decode cX11_average 30 = .ok (.iconst 1, 1) := by decide +kernel
theorem dX11_average_31 : decode cX11_average 31 = .ok (.if_icmp .le 7, 3) := by decide +kernel
theorem dX11_average_38 : decode cX11_average 38 = .ok (.aload_n 0, 1) := by decide +kernel
theorem dX11_average_39 : decode cX11_average 39 = .ok (.getfield 60, 3) := by decide +kernel
theorem dX11_average_42 : decode cX11_average 42 = .ok (.aload_n 0, 1) := by decide +kernel
theorem dX11_average_43 : decode cX11_average 43 = .ok (.getfield 11, 3) := by decide +kernel
theorem dX11_average_46 : decode cX11_average 46 = .ok (.iload_n 1, 1) := by decide +kernel
theorem dX11_average_47 : decode cX11_average 47 = .ok (.aaload, 1) := by decide +kernel
theorem dX11_average_48 : decode cX11_average 48 = .ok (.iload_n 2, 1) := by decide +kernel
theorem dX11_average_49 : decode cX11_average 49 = .ok (.iload_n 3, 1) := by decide +kernel
theorem dX11_average_50 : decode cX11_average 50 = .ok (.iconst 0, 1) := by decide +kernel
theorem dX11_average_51 : decode cX11_average 51 = .ok (.invokevirtual 292, 3) := by decide +kernel
theorem dX8_tally_0 : decode cX8_tally 0 = .ok (.aload_n 0, 1) := by decide +kernel
theorem dX8_tally_1 : decode cX8_tally 1 = .ok (.iload_n 2, 1) := by decide +kernel
theorem dX8_tally_2 : decode cX8_tally 2 = .ok (.bipush 11, 2) := by decide +kernel
theorem dX8_tally_4 : decode cX8_tally 4 = .ok (.invokestatic 32, 3) := by decide +kernel
theorem dX8_tally_7 : decode cX8_tally 7 = .ok (.putfield 38, 3) := by decide +kernel
theorem dX8_tally_10 : decode cX8_tally 10 = .ok (.aload_n 0, 1) := by decide +kernel
theorem dX8_tally_11 : decode cX8_tally 11 = .ok (.iload_n 3, 1) := by decide +kernel
theorem dX8_tally_12 : decode cX8_tally 12 = .ok (.putfield 42, 3) := by decide +kernel
theorem dX8_tally_15 : decode cX8_tally 15 = .ok (.aload_n 0, 1) := by decide +kernel
theorem dX8_tally_16 : decode cX8_tally 16 = .ok (.aload_n 1, 1) := by decide +kernel
theorem dX8_tally_17 : decode cX8_tally 17 = .ok (.invokevirtual 45, 3) := by decide +kernel
theorem dX1_all_0 : decode cX1_all 0 = .ok (.aload_n 0, 1) := by decide +kernel
theorem dX1_all_1 : decode cX1_all 1 = .ok (.getfield 29, 3) := by decide +kernel
theorem dX1_all_4 : decode cX1_all 4 = .ok (.ifCond .eq 18, 3) := by decide +kernel
theorem dX1_all_7 : decode cX1_all 7 = .ok (.aload_n 0, 1) := by decide +kernel
theorem dX1_all_8 : decode cX1_all 8 = .ok (.getfield 33, 3) := by decide +kernel
theorem dX1_all_11 : decode cX1_all 11 = .ok (.aload_n 0, 1) := by decide +kernel
theorem dX1_all_12 : decode cX1_all 12 = .ok (.getfield 18, 3) := by decide +kernel
theorem dX1_all_15 : decode cX1_all 15 = .ok (.getfield 46, 3) := by decide +kernel
theorem dX1_all_18 : decode cX1_all 18 = .ok (.iadd, 1) := by decide +kernel
theorem dX1_all_19 : decode cX1_all 19 = .ok (.goto 4, 3) := by decide +kernel
theorem dX1_all_22 : decode cX1_all 22 = .ok (.iconst 0, 1) := by decide +kernel
theorem dX1_all_23 : decode cX1_all 23 = .ok (.ireturn, 1) := by decide +kernel
set_option maxHeartbeats 4000000 in
set_option maxRecDepth 100000 in
theorem s_X1_all {P : PP} {a0 : Nat} (I : IV P) (ha0 : At P a0 1) : CtrI yX1_all cX1_all 1 (some Jvm.ClassFile.FieldType.int) ({ frames := 1, cells := 0, slots := 0, locals := 64 } : Room) 0 0 P [.ref a0] (fun r P2 => P = P2 ∧ (0 ≤ r.toInt ∧ r.toInt ≤ 20)) := by
  refine enI (lv := [(0, .ref a0)]) (by decide) (Nat.le_of_ble_eq_true rfl) rfl (fun E D cy C Ci0 ret => ?_)
  refine g_aload_n C dX1_all_0 rfl 0 rfl ?_
  refine g_getI C fi_X1_29 (by decide) (ha0).1 (ha0).2 dX1_all_1 ?_
  have h6195 := I.rg (ha0) 4 rfl
  refine b_if_eq C 22 dX1_all_4 (by decide) (fun h6196 => ?_) (fun h6196 => ?_)
  · have h6196 : (pI P a0 4).toInt = 0 := congrArg Int32.toInt h6196
    refine g_iconst (v := 0) C dX1_all_22 (by decide) ?_
    exact ret _ _ _ _ _ _ dX1_all_23 rfl (by decide) (by decide) ⟨rfl, (by decide)⟩
  · have h6196 : (pI P a0 4).toInt ≠ 0 := ti_ne h6196
    refine g_aload_n C dX1_all_7 rfl 0 rfl ?_
    refine g_getI C fi_X1_33 (by decide) (ha0).1 (ha0).2 dX1_all_8 ?_
    have h6197 := I.rg (ha0) 5 rfl
    refine g_aload_n C dX1_all_11 rfl 0 rfl ?_
    obtain ⟨b6198, e6199, h6200⟩ := I.fld (ha0) 2 3 0 rfl
    refine g_getR C fi_X1_18 rfl e6199 (ha0).1 (ha0).2 dX1_all_12 ?_
    refine g_getI C fi_X1_46 (by decide) (h6200.at).1 (h6200.at).2 dX1_all_15 ?_
    have h6201 := I.rg (h6200.at) 2 rfl
    refine s_iadd C dX1_all_18 (by show -2147483648 ≤ (pI P a0 5).toInt + (pI P b6198 2).toInt ∧ (pI P a0 5).toInt + (pI P b6198 2).toInt ≤ 2147483647; omega) (fun z6202 h6203 => ?_)
    have h6203 : z6202.toInt = (pI P a0 5).toInt + (pI P b6198 2).toInt := h6203
    refine g_goto C 23 dX1_all_19 (by decide) ?_
    exact ret _ _ _ _ _ _ dX1_all_23 rfl (by decide) (by decide) ⟨rfl, (by omega)⟩
theorem dX8_tally_20 : decode cX8_tally 20 = .ok (.putfield 51, 3) := by decide +kernel
theorem dX8_tally_23 : decode cX8_tally 23 = .ok (.aload_n 0, 1) := by decide +kernel
theorem dX8_tally_24 : decode cX8_tally 24 = .ok (.aload_n 1, 1) := by decide +kernel
theorem dX8_tally_25 : decode cX8_tally 25 = .ok (.invokevirtual 53, 3) := by decide +kernel
theorem dX1_allBits_0 : decode cX1_allBits 0 = .ok (.iconst 1, 1) := by decide +kernel
theorem dX1_allBits_1 : decode cX1_allBits 1 = .ok (.aload_n 0, 1) := by decide +kernel
theorem dX1_allBits_2 : decode cX1_allBits 2 = .ok (.invokevirtual 49, 3) := by decide +kernel
theorem dX1_allBits_5 : decode cX1_allBits 5 = .ok (.ishl, 1) := by decide +kernel
theorem dX1_allBits_6 : decode cX1_allBits 6 = .ok (.iconst 1, 1) := by decide +kernel
theorem dX1_allBits_7 : decode cX1_allBits 7 = .ok (.isub, 1) := by decide +kernel
theorem dX1_allBits_8 : decode cX1_allBits 8 = .ok (.ireturn, 1) := by decide +kernel
set_option maxHeartbeats 4000000 in
set_option maxRecDepth 100000 in
theorem s_X1_allBits {P : PP} {a0 : Nat} (I : IV P) (ha0 : At P a0 1) : CtrI yX1_allBits cX1_allBits 1 (some Jvm.ClassFile.FieldType.int) ({ frames := 2, cells := 0, slots := 0, locals := 128 } : Room) 0 0 P [.ref a0] (fun r P2 => P = P2 ∧ (True)) := by
  refine enI (lv := [(0, .ref a0)]) (by decide) (Nat.le_of_ble_eq_true rfl) rfl (fun E D cy C Ci0 ret => ?_)
  refine g_iconst (v := 1) C dX1_allBits_0 (by decide) ?_
  refine g_aload_n C dX1_allBits_1 rfl 0 rfl ?_
  refine g_callVI (rest := [.int 1]) C mv_X1_49 [] (s_X1_all I ha0) (ha0).1 (ha0).2 rfl rfl (by decide) (Nat.le_of_ble_eq_true rfl) (by decide) dX1_allBits_2 (fun r6243 Y6244 h6245 => ?_)
  obtain ⟨rfl, h6245⟩ := h6245
  have h6245 : 0 ≤ r6243.toInt ∧ r6243.toInt ≤ 20 := h6245
  refine a_ishl C dX1_allBits_5 (fun z6246 => ?_)
  refine g_iconst (v := 1) C dX1_allBits_6 (by decide) ?_
  refine a_isub C dX1_allBits_7 (fun z6248 => ?_)
  exact ret _ _ _ _ _ _ dX1_allBits_8 rfl (by decide) (by decide) ⟨rfl, trivial⟩
theorem dX8_tally_28 : decode cX8_tally 28 = .ok (.putfield 56, 3) := by decide +kernel
theorem dX8_tally_31 : decode cX8_tally 31 = .ok (.iconst 0, 1) := by decide +kernel
theorem dX8_tally_32 : decode cX8_tally 32 = .ok (.istore 5, 2) := by decide +kernel
theorem dX8_tally_34 : decode cX8_tally 34 = .ok (.iload 5, 2) := by decide +kernel
theorem dX8_tally_36 : decode cX8_tally 36 = .ok (.bipush 11, 2) := by decide +kernel
theorem dX8_tally_38 : decode cX8_tally 38 = .ok (.if_icmp .gt 17, 3) := by decide +kernel
theorem dX8_tally_41 : decode cX8_tally 41 = .ok (.aload_n 0, 1) := by decide +kernel
theorem dX8_tally_42 : decode cX8_tally 42 = .ok (.getfield 9, 3) := by decide +kernel
theorem dX8_tally_45 : decode cX8_tally 45 = .ok (.iload 5, 2) := by decide +kernel
theorem dX8_tally_47 : decode cX8_tally 47 = .ok (.iconst 0, 1) := by decide +kernel
theorem dX8_tally_48 : decode cX8_tally 48 = .ok (.iastore, 1) := by decide +kernel
theorem dX8_tally_49 : decode cX8_tally 49 = .ok (.iinc 5 1, 3) := by decide +kernel
theorem dX8_tally_52 : decode cX8_tally 52 = .ok (.goto (-18), 3) := by decide +kernel
theorem dX8_tally_55 : decode cX8_tally 55 = .ok (.iconst 0, 1) := by decide +kernel
theorem dX8_tally_56 : decode cX8_tally 56 = .ok (.istore 5, 2) := by decide +kernel
theorem dX8_tally_58 : decode cX8_tally 58 = .ok (.iload 5, 2) := by decide +kernel
theorem dX8_tally_60 : decode cX8_tally 60 = .ok (.aload_n 0, 1) := by decide +kernel
theorem dX8_tally_61 : decode cX8_tally 61 = .ok (.getfield 38, 3) := by decide +kernel
theorem dX8_tally_64 : decode cX8_tally 64 = .ok (.if_icmp .ge 38, 3) := by decide +kernel
theorem dX8_tally_67 : decode cX8_tally 67 = .ok (.aload_n 0, 1) := by decide +kernel
theorem dX8_tally_68 : decode cX8_tally 68 = .ok (.getfield 15, 3) := by decide +kernel
theorem dX8_tally_71 : decode cX8_tally 71 = .ok (.iload 5, 2) := by decide +kernel
theorem dX8_tally_73 : decode cX8_tally 73 = .ok (.iload 4, 2) := by decide +kernel
theorem dX8_tally_75 : decode cX8_tally 75 = .ok (.ifCond .le 14, 3) := by decide +kernel
theorem dX8_tally_89 : decode cX8_tally 89 = .ok (.aload_n 1, 1) := by decide +kernel
theorem dX8_tally_90 : decode cX8_tally 90 = .ok (.iload 5, 2) := by decide +kernel
theorem dX8_tally_92 : decode cX8_tally 92 = .ok (.invokevirtual 61, 3) := by decide +kernel
theorem dX1_pagesOf_0 : decode cX1_pagesOf 0 = .ok (.iload_n 1, 1) := by decide +kernel
theorem dX1_pagesOf_1 : decode cX1_pagesOf 1 = .ok (.ifCond .lt 9, 3) := by decide +kernel
theorem dX1_pagesOf_4 : decode cX1_pagesOf 4 = .ok (.iload_n 1, 1) := by decide +kernel
theorem dX1_pagesOf_5 : decode cX1_pagesOf 5 = .ok (.bipush 60, 2) := by decide +kernel
theorem dX1_pagesOf_7 : decode cX1_pagesOf 7 = .ok (.if_icmp .lt 10, 3) := by decide +kernel
theorem dX1_pagesOf_17 : decode cX1_pagesOf 17 = .ok (.aload_n 0, 1) := by decide +kernel
theorem dX1_pagesOf_18 : decode cX1_pagesOf 18 = .ok (.getfield 22, 3) := by decide +kernel
theorem dX1_pagesOf_21 : decode cX1_pagesOf 21 = .ok (.iload_n 1, 1) := by decide +kernel
theorem dX1_pagesOf_22 : decode cX1_pagesOf 22 = .ok (.iaload, 1) := by decide +kernel
theorem dX1_pagesOf_23 : decode cX1_pagesOf 23 = .ok (.ifCond .ne 15, 3) := by decide +kernel
theorem dX1_pagesOf_26 : decode cX1_pagesOf 26 = .ok (.aload_n 0, 1) := by decide +kernel
theorem dX1_pagesOf_27 : decode cX1_pagesOf 27 = .ok (.getfield 22, 3) := by decide +kernel
theorem dX1_pagesOf_30 : decode cX1_pagesOf 30 = .ok (.iload_n 1, 1) := by decide +kernel
theorem dX1_pagesOf_31 : decode cX1_pagesOf 31 = .ok (.aload_n 0, 1) := by decide +kernel
theorem dX1_pagesOf_32 : decode cX1_pagesOf 32 = .ok (.iload_n 1, 1) := by decide +kernel
theorem dX1_pagesOf_33 : decode cX1_pagesOf 33 = .ok (.iconst 0, 1) := by decide +kernel
theorem dX1_pagesOf_34 : decode cX1_pagesOf 34 = .ok (.invokevirtual 63, 3) := by decide +kernel
theorem dX1_drawPages_0 : decode cX1_drawPages 0 = .ok (.aload_n 0, 1) := by decide +kernel
theorem dX1_drawPages_1 : decode cX1_drawPages 1 = .ok (.iload_n 1, 1) := by decide +kernel
theorem dX1_drawPages_2 : decode cX1_drawPages 2 = .ok (.sipush 7919, 3) := by decide +kernel
theorem dX1_drawPages_5 : decode cX1_drawPages 5 = .ok (.imul, 1) := by decide +kernel
theorem dX1_drawPages_6 : decode cX1_drawPages 6 = .ok (.aload_n 0, 1) := by decide +kernel
theorem dX1_drawPages_7 : decode cX1_drawPages 7 = .ok (.getfield 25, 3) := by decide +kernel
theorem dX1_drawPages_10 : decode cX1_drawPages 10 = .ok (.ldc 67, 2) := by decide +kernel
theorem dX1_drawPages_12 : decode cX1_drawPages 12 = .ok (.imul, 1) := by decide +kernel
theorem dX1_drawPages_13 : decode cX1_drawPages 13 = .ok (.iadd, 1) := by decide +kernel
theorem dX1_drawPages_14 : decode cX1_drawPages 14 = .ok (.iconst 1, 1) := by decide +kernel
theorem dX1_drawPages_15 : decode cX1_drawPages 15 = .ok (.iadd, 1) := by decide +kernel
theorem dX1_drawPages_16 : decode cX1_drawPages 16 = .ok (.putfield 68, 3) := by decide +kernel
theorem dX1_drawPages_19 : decode cX1_drawPages 19 = .ok (.aload_n 0, 1) := by decide +kernel
theorem dX1_drawPages_20 : decode cX1_drawPages 20 = .ok (.invokevirtual 49, 3) := by decide +kernel
theorem dX1_drawPages_23 : decode cX1_drawPages 23 = .ok (.istore_n 3, 1) := by decide +kernel
theorem dX1_drawPages_24 : decode cX1_drawPages 24 = .ok (.iload_n 2, 1) := by decide +kernel
theorem dX1_drawPages_25 : decode cX1_drawPages 25 = .ok (.ifCond .le 11, 3) := by decide +kernel
theorem dX1_drawPages_36 : decode cX1_drawPages 36 = .ok (.aload_n 0, 1) := by decide +kernel
theorem dX1_drawPages_37 : decode cX1_drawPages 37 = .ok (.iload_n 3, 1) := by decide +kernel
theorem dX1_drawPages_38 : decode cX1_drawPages 38 = .ok (.invokevirtual 74, 3) := by decide +kernel
theorem dX1_howMany_0 : decode cX1_howMany 0 = .ok (.iconst 0, 1) := by decide +kernel
theorem dX1_howMany_1 : decode cX1_howMany 1 = .ok (.istore_n 2, 1) := by decide +kernel
theorem dX1_howMany_2 : decode cX1_howMany 2 = .ok (.iconst 1, 1) := by decide +kernel
theorem dX1_howMany_3 : decode cX1_howMany 3 = .ok (.istore_n 3, 1) := by decide +kernel
theorem dX1_howMany_4 : decode cX1_howMany 4 = .ok (.iload_n 3, 1) := by decide +kernel
theorem dX1_howMany_5 : decode cX1_howMany 5 = .ok (.iload_n 1, 1) := by decide +kernel
theorem dX1_howMany_6 : decode cX1_howMany 6 = .ok (.if_icmp .gt 20, 3) := by decide +kernel
theorem dX1_howMany_9 : decode cX1_howMany 9 = .ok (.iload_n 2, 1) := by decide +kernel
theorem dX1_howMany_10 : decode cX1_howMany 10 = .ok (.aload_n 0, 1) := by decide +kernel
theorem dX1_howMany_11 : decode cX1_howMany 11 = .ok (.getfield 18, 3) := by decide +kernel
theorem dX1_howMany_14 : decode cX1_howMany 14 = .ok (.iload_n 3, 1) := by decide +kernel
theorem dX1_howMany_15 : decode cX1_howMany 15 = .ok (.invokevirtual 89, 3) := by decide +kernel
theorem dX1_howMany_26 : decode cX1_howMany 26 = .ok (.iload_n 2, 1) := by decide +kernel
theorem dX1_howMany_27 : decode cX1_howMany 27 = .ok (.ifCond .ne 5, 3) := by decide +kernel
theorem dX1_howMany_30 : decode cX1_howMany 30 = .ok (.iconst 1, 1) := by decide +kernel
theorem dX1_howMany_31 : decode cX1_howMany 31 = .ok (.ireturn, 1) := by decide +kernel
theorem dX3_oddsOf_0 : decode cX3_oddsOf 0 = .ok (.iload_n 1, 1) := by decide +kernel
theorem dX3_oddsOf_1 : decode cX3_oddsOf 1 = .ok (.iconst 1, 1) := by decide +kernel
theorem dX3_oddsOf_2 : decode cX3_oddsOf 2 = .ok (.if_icmp .lt 27, 3) := by decide +kernel
theorem dX3_oddsOf_5 : decode cX3_oddsOf 5 = .ok (.iload_n 1, 1) := by decide +kernel
theorem dX3_oddsOf_6 : decode cX3_oddsOf 6 = .ok (.bipush 20, 2) := by decide +kernel
theorem dX3_oddsOf_8 : decode cX3_oddsOf 8 = .ok (.if_icmp .gt 21, 3) := by decide +kernel
theorem dX3_oddsOf_11 : decode cX3_oddsOf 11 = .ok (.aload_n 0, 1) := by decide +kernel
theorem dX3_oddsOf_12 : decode cX3_oddsOf 12 = .ok (.getfield 9, 3) := by decide +kernel
theorem dX3_oddsOf_15 : decode cX3_oddsOf 15 = .ok (.iload_n 1, 1) := by decide +kernel
theorem dX3_oddsOf_16 : decode cX3_oddsOf 16 = .ok (.iaload, 1) := by decide +kernel
theorem dX3_oddsOf_17 : decode cX3_oddsOf 17 = .ok (.ifCond .le 12, 3) := by decide +kernel
theorem dX3_oddsOf_20 : decode cX3_oddsOf 20 = .ok (.aload_n 0, 1) := by decide +kernel
theorem dX3_oddsOf_21 : decode cX3_oddsOf 21 = .ok (.getfield 9, 3) := by decide +kernel
theorem dX3_oddsOf_24 : decode cX3_oddsOf 24 = .ok (.iload_n 1, 1) := by decide +kernel
theorem dX3_oddsOf_25 : decode cX3_oddsOf 25 = .ok (.iaload, 1) := by decide +kernel
theorem dX3_oddsOf_26 : decode cX3_oddsOf 26 = .ok (.goto 4, 3) := by decide +kernel
theorem dX3_oddsOf_29 : decode cX3_oddsOf 29 = .ok (.iconst 0, 1) := by decide +kernel
theorem dX3_oddsOf_30 : decode cX3_oddsOf 30 = .ok (.ireturn, 1) := by decide +kernel
set_option maxHeartbeats 4000000 in
set_option maxRecDepth 100000 in
theorem s_X3_oddsOf {P : PP} {a0 : Nat} {a1 : Int32} (I : IV P) (ha0 : At P a0 3) : CtrI yX3_oddsOf cX3_oddsOf 2 (some Jvm.ClassFile.FieldType.int) ({ frames := 1, cells := 0, slots := 0, locals := 64 } : Room) 0 0 P [.ref a0, .int a1] (fun r P2 => P = P2 ∧ (True)) := by
  refine enI (lv := [(0, .ref a0), (1, .int a1)]) (by decide) (Nat.le_of_ble_eq_true rfl) rfl (fun E D cy C Ci0 ret => ?_)
  have J29 : G E ({ frames := 1, cells := 0, slots := 0, locals := 64 } : Room) D cy 2 P 0 0 29 [] [] := by
    refine g_iconst (v := 0) C dX3_oddsOf_29 (by decide) ?_
    exact ret _ _ _ _ _ _ dX3_oddsOf_30 rfl (by decide) (by decide) ⟨rfl, trivial⟩
  refine g_iload_n C dX3_oddsOf_0 rfl 1 rfl ?_
  refine g_iconst (v := 1) C dX3_oddsOf_1 (by decide) ?_
  have u6501 := ti_rng a1
  refine b_icmp_lt C 29 dX3_oddsOf_2 (by decide) (fun h6500 => ?_) (fun h6500 => ?_)
  · have h6500 : a1.toInt < 1 := h6500
    refine g_lv (lv' := []) [] rfl ?_
    exact J29 
  · have h6500 : 1 ≤ a1.toInt := h6500
    refine g_iload_n C dX3_oddsOf_5 rfl 1 rfl ?_
    refine g_bipush (v := 20) C dX3_oddsOf_6 (by decide) ?_
    have u6503 := ti_rng a1
    refine b_icmp_gt C 29 dX3_oddsOf_8 (by decide) (fun h6502 => ?_) (fun h6502 => ?_)
    · have h6502 : 20 < a1.toInt := h6502
      refine g_lv (lv' := []) [] rfl ?_
      exact J29 
    · have h6502 : a1.toInt ≤ 20 := h6502
      refine g_aload_n C dX3_oddsOf_11 rfl 0 rfl ?_
      obtain ⟨b6504, e6505, h6506⟩ := I.fld (ha0) 0 13 21 rfl
      refine g_getR C fi_X3_9 rfl e6505 (ha0).1 (ha0).2 dX3_oddsOf_12 ?_
      refine g_iload_n C dX3_oddsOf_15 rfl 1 rfl ?_
      refine g_iald (j := (a1.toInt.toNat)) C h6506.1 h6506.2.1 (ix_in h6506.2.2 (by omega)) dX3_oddsOf_16 ?_
      refine g_topi (fun z6507 _ => ?_)
      have u6509 := ti_rng z6507
      refine b_if_le C 29 dX3_oddsOf_17 (by decide) (fun h6508 => ?_) (fun h6508 => ?_)
      · have h6508 : z6507.toInt ≤ 0 := h6508
        refine g_lv (lv' := []) [] rfl ?_
        exact J29 
      · have h6508 : 0 < z6507.toInt := h6508
        refine g_aload_n C dX3_oddsOf_20 rfl 0 rfl ?_
        refine g_getR C fi_X3_9 rfl e6505 (ha0).1 (ha0).2 dX3_oddsOf_21 ?_
        refine g_iload_n C dX3_oddsOf_24 rfl 1 rfl ?_
        refine g_iald (j := (a1.toInt.toNat)) C h6506.1 h6506.2.1 (ix_in h6506.2.2 (by omega)) dX3_oddsOf_25 ?_
        refine g_topi (fun z6510 _ => ?_)
        refine g_goto C 30 dX3_oddsOf_26 (by decide) ?_
        exact ret _ _ _ _ _ _ dX3_oddsOf_30 rfl (by decide) (by decide) ⟨rfl, trivial⟩
theorem dX1_howMany_18 : decode cX1_howMany 18 = .ok (.iadd, 1) := by decide +kernel
theorem dX1_howMany_19 : decode cX1_howMany 19 = .ok (.istore_n 2, 1) := by decide +kernel
theorem dX1_howMany_20 : decode cX1_howMany 20 = .ok (.iinc 3 1, 3) := by decide +kernel
theorem dX1_howMany_23 : decode cX1_howMany 23 = .ok (.goto (-19), 3) := by decide +kernel
theorem dX1_howMany_32 : decode cX1_howMany 32 = .ok (.aload_n 0, 1) := by decide +kernel
theorem dX1_howMany_33 : decode cX1_howMany 33 = .ok (.iload_n 2, 1) := by decide +kernel
theorem dX1_howMany_34 : decode cX1_howMany 34 = .ok (.invokevirtual 80, 3) := by decide +kernel
theorem dX1_cast_0 : decode cX1_cast 0 = .ok (.aload_n 0, 1) := by decide +kernel
theorem dX1_cast_1 : decode cX1_cast 1 = .ok (.aload_n 0, 1) := by decide +kernel
theorem dX1_cast_2 : decode cX1_cast 2 = .ok (.getfield 68, 3) := by decide +kernel
theorem dX1_cast_5 : decode cX1_cast 5 = .ok (.ldc 87, 2) := by decide +kernel
theorem dX1_cast_7 : decode cX1_cast 7 = .ok (.imul, 1) := by decide +kernel
theorem dX1_cast_8 : decode cX1_cast 8 = .ok (.sipush 12345, 3) := by decide +kernel
theorem dX1_cast_11 : decode cX1_cast 11 = .ok (.iadd, 1) := by decide +kernel
theorem dX1_cast_12 : decode cX1_cast 12 = .ok (.ldc 88, 2) := by decide +kernel
theorem dX1_cast_14 : decode cX1_cast 14 = .ok (.iand, 1) := by decide +kernel
theorem dX1_cast_15 : decode cX1_cast 15 = .ok (.putfield 68, 3) := by decide +kernel
theorem dX1_cast_18 : decode cX1_cast 18 = .ok (.iload_n 1, 1) := by decide +kernel
theorem dX1_cast_19 : decode cX1_cast 19 = .ok (.ifCond .le 15, 3) := by decide +kernel
theorem dX1_cast_22 : decode cX1_cast 22 = .ok (.aload_n 0, 1) := by decide +kernel
theorem dX1_cast_23 : decode cX1_cast 23 = .ok (.getfield 68, 3) := by decide +kernel
theorem dX1_cast_26 : decode cX1_cast 26 = .ok (.bipush 16, 2) := by decide +kernel
theorem dX1_cast_28 : decode cX1_cast 28 = .ok (.ishr, 1) := by decide +kernel
theorem dX1_cast_29 : decode cX1_cast 29 = .ok (.iload_n 1, 1) := by decide +kernel
theorem dX1_cast_30 : decode cX1_cast 30 = .ok (.irem, 1) := by decide +kernel
theorem dX1_cast_31 : decode cX1_cast 31 = .ok (.goto 4, 3) := by decide +kernel
theorem dX1_cast_34 : decode cX1_cast 34 = .ok (.iconst 0, 1) := by decide +kernel
theorem dX1_cast_35 : decode cX1_cast 35 = .ok (.ireturn, 1) := by decide +kernel
set_option maxHeartbeats 4000000 in
set_option maxRecDepth 100000 in
theorem s_X1_cast {P : PP} {a0 : Nat} {a1 : Int32} (I : IV P) (ha0 : At P a0 1) : CtrI yX1_cast cX1_cast 2 (some Jvm.ClassFile.FieldType.int) ({ frames := 1, cells := 0, slots := 0, locals := 64 } : Room) 0 0 P [.ref a0, .int a1] (fun r P2 => IV P2 ∧ EK [1] P P2 ∧ (True)) := by
  refine enI (lv := [(0, .ref a0), (1, .int a1)]) (by decide) (Nat.le_of_ble_eq_true rfl) rfl (fun E D cy C Ci0 ret => ?_)
  refine g_aload_n C dX1_cast_0 rfl 0 rfl ?_
  refine g_aload_n C dX1_cast_1 rfl 0 rfl ?_
  refine g_getI C fi_X1_68 (by decide) (ha0).1 (ha0).2 dX1_cast_2 ?_
  refine g_ldc (v := 1103515245) C kc_X1_87 dX1_cast_5 ?_
  refine a_imul C dX1_cast_7 (fun z6545 => ?_)
  refine g_sipush (v := 12345) C dX1_cast_8 (by decide) ?_
  refine a_iadd C dX1_cast_11 (fun z6547 => ?_)
  refine g_ldc (v := 2147483647) C kc_X1_88 dX1_cast_12 ?_
  refine s_iand C dX1_cast_14 (by show 0 ≤ 2147483647; omega) (fun z6549 h6550 => ?_)
  have h6550 : 0 ≤ z6549.toInt ∧ z6549.toInt ≤ 2147483647 := h6550
  refine g_putI C fi_X1_68 rfl (ha0).1 (ha0).2 dX1_cast_15 ?_
  refine gpW (ks := [1]) (I.setI (ha0) (rgOk.none rfl)) (EK.setI (ha0).2 (by decide)) (fun Y6551 Iy6552 Xy6553 w6554 w6555 => ?_)
  have Xz6556 : EK [1] P Y6551 := Xy6553.mono (by decide)
  have h6557 := Xy6553.at ha0
  refine g_iload_n C dX1_cast_18 rfl 1 rfl ?_
  have u6559 := ti_rng a1
  refine b_if_le C 34 dX1_cast_19 (by decide) (fun h6558 => ?_) (fun h6558 => ?_)
  · have h6558 : a1.toInt ≤ 0 := h6558
    refine g_iconst (v := 0) C dX1_cast_34 (by decide) ?_
    exact ret _ _ _ _ _ _ dX1_cast_35 rfl (by decide) (by decide) ⟨Iy6552, Xz6556, trivial⟩
  · have h6558 : 0 < a1.toInt := h6558
    refine g_aload_n C dX1_cast_22 rfl 0 rfl ?_
    refine g_getI C fi_X1_68 (by decide) (h6557).1 (h6557).2 dX1_cast_23 ?_
    refine g_bipush (v := 16) C dX1_cast_26 (by decide) ?_
    refine a_ishr C dX1_cast_28 (fun z6560 => ?_)
    refine g_iload_n C dX1_cast_29 rfl 1 rfl ?_
    refine a_irem C dX1_cast_30 (by show a1.toInt ≠ 0; omega) (fun z6562 => ?_)
    refine g_goto C 35 dX1_cast_31 (by decide) ?_
    exact ret _ _ _ _ _ _ dX1_cast_35 rfl (by decide) (by decide) ⟨Iy6552, Xz6556, trivial⟩
theorem dX1_howMany_37 : decode cX1_howMany 37 = .ok (.istore_n 3, 1) := by decide +kernel
theorem dX1_howMany_38 : decode cX1_howMany 38 = .ok (.iconst 0, 1) := by decide +kernel
theorem dX1_howMany_39 : decode cX1_howMany 39 = .ok (.istore 4, 2) := by decide +kernel
theorem dX1_howMany_41 : decode cX1_howMany 41 = .ok (.iconst 1, 1) := by decide +kernel
theorem dX1_howMany_42 : decode cX1_howMany 42 = .ok (.istore 5, 2) := by decide +kernel
theorem dX1_howMany_44 : decode cX1_howMany 44 = .ok (.iload 5, 2) := by decide +kernel
theorem dX1_howMany_46 : decode cX1_howMany 46 = .ok (.iload_n 1, 1) := by decide +kernel
theorem dX1_howMany_47 : decode cX1_howMany 47 = .ok (.if_icmp .gt 32, 3) := by decide +kernel
theorem dX1_howMany_50 : decode cX1_howMany 50 = .ok (.iload 4, 2) := by decide +kernel
theorem dX1_howMany_52 : decode cX1_howMany 52 = .ok (.aload_n 0, 1) := by decide +kernel
theorem dX1_howMany_53 : decode cX1_howMany 53 = .ok (.getfield 18, 3) := by decide +kernel
theorem dX1_howMany_56 : decode cX1_howMany 56 = .ok (.iload 5, 2) := by decide +kernel
theorem dX1_howMany_58 : decode cX1_howMany 58 = .ok (.invokevirtual 89, 3) := by decide +kernel
theorem dX1_howMany_61 : decode cX1_howMany 61 = .ok (.iadd, 1) := by decide +kernel
theorem dX1_howMany_62 : decode cX1_howMany 62 = .ok (.istore 4, 2) := by decide +kernel
theorem dX1_howMany_64 : decode cX1_howMany 64 = .ok (.iload 4, 2) := by decide +kernel
theorem dX1_howMany_66 : decode cX1_howMany 66 = .ok (.iload_n 3, 1) := by decide +kernel
theorem dX1_howMany_67 : decode cX1_howMany 67 = .ok (.if_icmp .le 6, 3) := by decide +kernel
theorem dX1_howMany_70 : decode cX1_howMany 70 = .ok (.iload 5, 2) := by decide +kernel
theorem dX1_howMany_72 : decode cX1_howMany 72 = .ok (.ireturn, 1) := by decide +kernel
theorem dX1_howMany_73 : decode cX1_howMany 73 = .ok (.iinc 5 1, 3) := by decide +kernel
theorem dX1_howMany_76 : decode cX1_howMany 76 = .ok (.goto (-32), 3) := by decide +kernel
theorem dX1_howMany_79 : decode cX1_howMany 79 = .ok (.iconst 1, 1) := by decide +kernel
theorem dX1_howMany_80 : decode cX1_howMany 80 = .ok (.ireturn, 1) := by decide +kernel
set_option maxHeartbeats 4000000 in
set_option maxRecDepth 100000 in
theorem s_X1_howMany {P : PP} {a0 : Nat} {a1 : Int32} (I : IV P) (ha0 : At P a0 1) (ha1 : 0 ≤ a1.toInt ∧ a1.toInt ≤ 20) : CtrI yX1_howMany cX1_howMany 6 (some Jvm.ClassFile.FieldType.int) ({ frames := 2, cells := 0, slots := 0, locals := 128 } : Room) 0 0 P [.ref a0, .int a1] (fun r P2 => IV P2 ∧ EK [1] P P2 ∧ (1 ≤ r.toInt ∧ r.toInt ≤ 20)) := by
  refine enI (lv := [(0, .ref a0), (1, .int a1)]) (by decide) (Nat.le_of_ble_eq_true rfl) rfl (fun E D cy C Ci0 ret => ?_)
  have J44 : ∀ (n44 : Nat) (P44 : PP) (v44_3 : Int32) (v44_4 : Int32) (v44_5 : Int32), (21 - v44_5.toInt).toNat < n44 → (IV P44) → (EK [1] P P44) → (1 ≤ v44_5.toInt ∧ v44_5.toInt ≤ 21) → G E ({ frames := 2, cells := 0, slots := 0, locals := 128 } : Room) D cy 6 P44 0 0 44 [(0, .ref a0), (1, .int a1), (3, .int v44_3), (4, .int v44_4), (5, .int v44_5)] [] := by
    intro n44
    induction n44 with
    | zero => intro P44 v44_3 v44_4 v44_5 hm44 I44 X44 hv44_5; omega
    | succ n44 ih44 =>
      intro P44 v44_3 v44_4 v44_5 hm44 I44 X44 hv44_5
      have h7011 := X44.at ha0
      refine g_iload C dX1_howMany_44 4 rfl ?_
      refine g_iload_n C dX1_howMany_46 rfl 1 rfl ?_
      refine b_icmp_gt C 79 dX1_howMany_47 (by decide) (fun h7012 => ?_) (fun h7012 => ?_)
      · have h7012 : a1.toInt < v44_5.toInt := h7012
        refine g_iconst (v := 1) C dX1_howMany_79 (by decide) ?_
        exact ret _ _ _ _ _ _ dX1_howMany_80 rfl (by decide) (by decide) ⟨I44, X44, (by decide)⟩
      · have h7012 : v44_5.toInt ≤ a1.toInt := h7012
        refine g_iload C dX1_howMany_50 3 rfl ?_
        refine g_aload_n C dX1_howMany_52 rfl 0 rfl ?_
        obtain ⟨b7013, e7014, h7015⟩ := I44.fld (h7011) 2 3 0 rfl
        refine g_getR C fi_X1_18 rfl e7014 (h7011).1 (h7011).2 dX1_howMany_53 ?_
        refine g_iload C dX1_howMany_56 4 rfl ?_
        refine g_callVI (rest := [.int v44_4]) C mv_X1_89 [.int v44_5] (s_X3_oddsOf I44 h7015.at) (h7015.at).1 (h7015.at).2 rfl rfl (by decide) (Nat.le_of_ble_eq_true rfl) (by decide) dX1_howMany_58 (fun r7016 Y7017 h7018 => ?_)
        obtain ⟨rfl, h7018⟩ := h7018
        have h7018 : True := h7018
        refine a_iadd C dX1_howMany_61 (fun z7019 => ?_)
        refine g_istore (lv' := [(4, .int z7019), (0, .ref a0), (1, .int a1), (3, .int v44_3), (5, .int v44_5)]) C dX1_howMany_62 (by decide) rfl ?_
        refine g_iload C dX1_howMany_64 0 rfl ?_
        refine g_iload_n C dX1_howMany_66 rfl 3 rfl ?_
        have u7022 := ti_rng z7019
        have u7023 := ti_rng v44_3
        refine b_icmp_le C 73 dX1_howMany_67 (by decide) (fun h7021 => ?_) (fun h7021 => ?_)
        · have h7021 : z7019.toInt ≤ v44_3.toInt := h7021
          refine s_iinc (lv0 := [(4, .int z7019), (0, .ref a0), (1, .int a1), (3, .int v44_3)]) (m := 1) C dX1_howMany_73 4 rfl (by decide) rfl (by decide) (by omega) (fun z7024 h7025 => ?_)
          have h7025 : z7024.toInt = v44_5.toInt + 1 := h7025
          refine g_goto C 44 dX1_howMany_76 (by decide) ?_
          refine g_lv (lv' := [(0, .ref a0), (1, .int a1), (3, .int v44_3), (4, .int z7019), (5, .int z7024)]) [2, 3, 4, 1, 0] rfl ?_
          exact ih44 P44 v44_3 z7019 z7024 (by omega) I44 X44 (by omega)
        · have h7021 : v44_3.toInt < z7019.toInt := h7021
          refine g_iload C dX1_howMany_70 4 rfl ?_
          exact ret _ _ _ _ _ _ dX1_howMany_72 rfl (by decide) (by decide) ⟨I44, X44, (by omega)⟩
  have J4 : ∀ (n4 : Nat) (v4_2 : Int32) (v4_3 : Int32), (21 - v4_3.toInt).toNat < n4 → (1 ≤ v4_3.toInt ∧ v4_3.toInt ≤ 21) → G E ({ frames := 2, cells := 0, slots := 0, locals := 128 } : Room) D cy 6 P 0 0 4 [(0, .ref a0), (1, .int a1), (2, .int v4_2), (3, .int v4_3)] [] := by
    intro n4
    induction n4 with
    | zero => intro v4_2 v4_3 hm4 hv4_3; omega
    | succ n4 ih4 =>
      intro v4_2 v4_3 hm4 hv4_3
      refine g_iload_n C dX1_howMany_4 rfl 3 rfl ?_
      refine g_iload_n C dX1_howMany_5 rfl 1 rfl ?_
      refine b_icmp_gt C 26 dX1_howMany_6 (by decide) (fun h7026 => ?_) (fun h7026 => ?_)
      · have h7026 : a1.toInt < v4_3.toInt := h7026
        refine g_iload_n C dX1_howMany_26 rfl 2 rfl ?_
        have u7028 := ti_rng v4_2
        refine b_if_ne C 32 dX1_howMany_27 (by decide) (fun h7027 => ?_) (fun h7027 => ?_)
        · have h7027 : v4_2.toInt ≠ 0 := ti_ne h7027
          refine g_aload_n C dX1_howMany_32 rfl 0 rfl ?_
          refine g_iload_n C dX1_howMany_33 rfl 2 rfl ?_
          refine g_callVI (rest := []) C mv_X1_80 [.int v4_2] (s_X1_cast I ha0) (ha0).1 (ha0).2 rfl rfl (by decide) (Nat.le_of_ble_eq_true rfl) (by decide) dX1_howMany_34 (fun r7029 Y7030 h7031 => ?_)
          obtain ⟨Iy7032, Xy7033, h7031⟩ := h7031
          have Xz7034 : EK [1] P Y7030 := Xy7033.mono (by decide)
          have h7035 := Xy7033.at ha0
          have h7031 : True := h7031
          refine g_istore_n (lv' := [(3, .int r7029), (0, .ref a0), (1, .int a1), (2, .int v4_2)]) C dX1_howMany_37 rfl (by decide) rfl ?_
          refine g_iconst (v := 0) C dX1_howMany_38 (by decide) ?_
          refine g_istore (lv' := [(4, .int 0), (3, .int r7029), (0, .ref a0), (1, .int a1), (2, .int v4_2)]) C dX1_howMany_39 (by decide) rfl ?_
          refine g_iconst (v := 1) C dX1_howMany_41 (by decide) ?_
          refine g_istore (lv' := [(5, .int 1), (4, .int 0), (3, .int r7029), (0, .ref a0), (1, .int a1), (2, .int v4_2)]) C dX1_howMany_42 (by decide) rfl ?_
          refine g_lv (lv' := [(0, .ref a0), (1, .int a1), (3, .int r7029), (4, .int 0), (5, .int 1)]) [3, 4, 2, 1, 0] rfl ?_
          exact J44 _ Y7030 r7029 0 1 (Nat.lt_succ_self _) Iy7032 Xz7034 (by decide)
        · have h7027 : v4_2.toInt = 0 := congrArg Int32.toInt h7027
          refine g_iconst (v := 1) C dX1_howMany_30 (by decide) ?_
          exact ret _ _ _ _ _ _ dX1_howMany_31 rfl (by decide) (by decide) ⟨I, EK.rf, (by decide)⟩
      · have h7026 : v4_3.toInt ≤ a1.toInt := h7026
        refine g_iload_n C dX1_howMany_9 rfl 2 rfl ?_
        refine g_aload_n C dX1_howMany_10 rfl 0 rfl ?_
        obtain ⟨b7036, e7037, h7038⟩ := I.fld (ha0) 2 3 0 rfl
        refine g_getR C fi_X1_18 rfl e7037 (ha0).1 (ha0).2 dX1_howMany_11 ?_
        refine g_iload_n C dX1_howMany_14 rfl 3 rfl ?_
        refine g_callVI (rest := [.int v4_2]) C mv_X1_89 [.int v4_3] (s_X3_oddsOf I h7038.at) (h7038.at).1 (h7038.at).2 rfl rfl (by decide) (Nat.le_of_ble_eq_true rfl) (by decide) dX1_howMany_15 (fun r7039 Y7040 h7041 => ?_)
        obtain ⟨rfl, h7041⟩ := h7041
        have h7041 : True := h7041
        refine a_iadd C dX1_howMany_18 (fun z7042 => ?_)
        refine g_istore_n (lv' := [(2, .int z7042), (0, .ref a0), (1, .int a1), (3, .int v4_3)]) C dX1_howMany_19 rfl (by decide) rfl ?_
        refine s_iinc (lv0 := [(2, .int z7042), (0, .ref a0), (1, .int a1)]) (m := 1) C dX1_howMany_20 3 rfl (by decide) rfl (by decide) (by omega) (fun z7044 h7045 => ?_)
        have h7045 : z7044.toInt = v4_3.toInt + 1 := h7045
        refine g_goto C 4 dX1_howMany_23 (by decide) ?_
        refine g_lv (lv' := [(0, .ref a0), (1, .int a1), (2, .int z7042), (3, .int z7044)]) [2, 3, 1, 0] rfl ?_
        exact ih4 z7042 z7044 (by omega) (by omega)
  refine g_iconst (v := 0) C dX1_howMany_0 (by decide) ?_
  refine g_istore_n (lv' := [(2, .int 0), (0, .ref a0), (1, .int a1)]) C dX1_howMany_1 rfl (by decide) rfl ?_
  refine g_iconst (v := 1) C dX1_howMany_2 (by decide) ?_
  refine g_istore_n (lv' := [(3, .int 1), (2, .int 0), (0, .ref a0), (1, .int a1)]) C dX1_howMany_3 rfl (by decide) rfl ?_
  refine g_lv (lv' := [(0, .ref a0), (1, .int a1), (2, .int 0), (3, .int 1)]) [2, 3, 1, 0] rfl ?_
  exact J4 _ 0 1 (Nat.lt_succ_self _) (by decide)
theorem dX1_drawPages_28 : decode cX1_drawPages 28 = .ok (.aload_n 0, 1) := by decide +kernel
theorem dX1_drawPages_29 : decode cX1_drawPages 29 = .ok (.iload_n 2, 1) := by decide +kernel
theorem dX1_drawPages_30 : decode cX1_drawPages 30 = .ok (.invokevirtual 71, 3) := by decide +kernel
theorem dX1_castDegree_0 : decode cX1_castDegree 0 = .ok (.aload_n 0, 1) := by decide +kernel
theorem dX1_castDegree_1 : decode cX1_castDegree 1 = .ok (.iconst 1, 1) := by decide +kernel
theorem dX1_castDegree_2 : decode cX1_castDegree 2 = .ok (.invokevirtual 80, 3) := by decide +kernel
theorem dX1_castDegree_5 : decode cX1_castDegree 5 = .ok (.pop, 1) := by decide +kernel
theorem dX1_castDegree_6 : decode cX1_castDegree 6 = .ok (.iload_n 1, 1) := by decide +kernel
theorem dX1_castDegree_7 : decode cX1_castDegree 7 = .ok (.ireturn, 1) := by decide +kernel
set_option maxHeartbeats 4000000 in
set_option maxRecDepth 100000 in
theorem s_X1_castDegree {P : PP} {a0 : Nat} {a1 : Int32} (I : IV P) (ha0 : At P a0 1) (ha1 : 0 ≤ a1.toInt ∧ a1.toInt ≤ 20) : CtrI yX1_castDegree cX1_castDegree 2 (some Jvm.ClassFile.FieldType.int) ({ frames := 2, cells := 0, slots := 0, locals := 128 } : Room) 0 0 P [.ref a0, .int a1] (fun r P2 => IV P2 ∧ EK [1] P P2 ∧ (0 ≤ r.toInt ∧ r.toInt ≤ 20)) := by
  refine enI (lv := [(0, .ref a0), (1, .int a1)]) (by decide) (Nat.le_of_ble_eq_true rfl) rfl (fun E D cy C Ci0 ret => ?_)
  refine g_aload_n C dX1_castDegree_0 rfl 0 rfl ?_
  refine g_iconst (v := 1) C dX1_castDegree_1 (by decide) ?_
  refine g_callVI (rest := []) C mv_X1_80 [.int 1] (s_X1_cast I ha0) (ha0).1 (ha0).2 rfl rfl (by decide) (Nat.le_of_ble_eq_true rfl) (by decide) dX1_castDegree_2 (fun r7081 Y7082 h7083 => ?_)
  obtain ⟨Iy7084, Xy7085, h7083⟩ := h7083
  have Xz7086 : EK [1] P Y7082 := Xy7085.mono (by decide)
  have h7087 := Xy7085.at ha0
  have h7083 : True := h7083
  refine g_pop C dX1_castDegree_5 rfl ?_
  refine g_iload_n C dX1_castDegree_6 rfl 1 rfl ?_
  exact ret _ _ _ _ _ _ dX1_castDegree_7 rfl (by decide) (by decide) ⟨Iy7084, Xz7086, (by omega)⟩
theorem dX1_drawPages_33 : decode cX1_drawPages 33 = .ok (.goto 8, 3) := by decide +kernel
theorem dX1_drawPages_41 : decode cX1_drawPages 41 = .ok (.istore 4, 2) := by decide +kernel
theorem dX1_drawPages_43 : decode cX1_drawPages 43 = .ok (.iconst 0, 1) := by decide +kernel
theorem dX1_drawPages_44 : decode cX1_drawPages 44 = .ok (.istore 5, 2) := by decide +kernel
theorem dX1_drawPages_46 : decode cX1_drawPages 46 = .ok (.iconst 0, 1) := by decide +kernel
theorem dX1_drawPages_47 : decode cX1_drawPages 47 = .ok (.istore 6, 2) := by decide +kernel
theorem dX1_drawPages_49 : decode cX1_drawPages 49 = .ok (.iload 6, 2) := by decide +kernel
theorem dX1_drawPages_51 : decode cX1_drawPages 51 = .ok (.iload_n 3, 1) := by decide +kernel
theorem dX1_drawPages_52 : decode cX1_drawPages 52 = .ok (.if_icmp .ge 20, 3) := by decide +kernel
theorem dX1_drawPages_55 : decode cX1_drawPages 55 = .ok (.iload 5, 2) := by decide +kernel
theorem dX1_drawPages_57 : decode cX1_drawPages 57 = .ok (.aload_n 0, 1) := by decide +kernel
theorem dX1_drawPages_58 : decode cX1_drawPages 58 = .ok (.iload 6, 2) := by decide +kernel
theorem dX1_drawPages_60 : decode cX1_drawPages 60 = .ok (.invokevirtual 77, 3) := by decide +kernel
theorem dX1_drawPages_72 : decode cX1_drawPages 72 = .ok (.iconst 0, 1) := by decide +kernel
theorem dX1_drawPages_73 : decode cX1_drawPages 73 = .ok (.istore 6, 2) := by decide +kernel
theorem dX1_drawPages_75 : decode cX1_drawPages 75 = .ok (.iconst 0, 1) := by decide +kernel
theorem dX1_drawPages_76 : decode cX1_drawPages 76 = .ok (.istore 7, 2) := by decide +kernel
theorem dX1_weightOf_0 : decode cX1_weightOf 0 = .ok (.iload_n 1, 1) := by decide +kernel
theorem dX1_weightOf_1 : decode cX1_weightOf 1 = .ok (.aload_n 0, 1) := by decide +kernel
theorem dX1_weightOf_2 : decode cX1_weightOf 2 = .ok (.getfield 33, 3) := by decide +kernel
theorem dX1_weightOf_5 : decode cX1_weightOf 5 = .ok (.if_icmp .ge 24, 3) := by decide +kernel
theorem dX1_weightOf_8 : decode cX1_weightOf 8 = .ok (.iload_n 1, 1) := by decide +kernel
theorem dX1_weightOf_9 : decode cX1_weightOf 9 = .ok (.aload_n 0, 1) := by decide +kernel
theorem dX1_weightOf_10 : decode cX1_weightOf 10 = .ok (.getfield 18, 3) := by decide +kernel
theorem dX1_weightOf_13 : decode cX1_weightOf 13 = .ok (.getfield 92, 3) := by decide +kernel
theorem dX1_weightOf_16 : decode cX1_weightOf 16 = .ok (.if_icmp .ge 13, 3) := by decide +kernel
theorem dX1_weightOf_19 : decode cX1_weightOf 19 = .ok (.aload_n 0, 1) := by decide +kernel
theorem dX1_weightOf_20 : decode cX1_weightOf 20 = .ok (.getfield 18, 3) := by decide +kernel
theorem dX1_weightOf_23 : decode cX1_weightOf 23 = .ok (.getfield 95, 3) := by decide +kernel
theorem dX1_weightOf_26 : decode cX1_weightOf 26 = .ok (.goto 4, 3) := by decide +kernel
theorem dX1_weightOf_29 : decode cX1_weightOf 29 = .ok (.iconst 1, 1) := by decide +kernel
theorem dX1_weightOf_30 : decode cX1_weightOf 30 = .ok (.ireturn, 1) := by decide +kernel
set_option maxHeartbeats 4000000 in
set_option maxRecDepth 100000 in
theorem s_X1_weightOf {P : PP} {a0 : Nat} {a1 : Int32} (I : IV P) (ha0 : At P a0 1) : CtrI yX1_weightOf cX1_weightOf 2 (some Jvm.ClassFile.FieldType.int) ({ frames := 1, cells := 0, slots := 0, locals := 64 } : Room) 0 0 P [.ref a0, .int a1] (fun r P2 => P = P2 ∧ (True)) := by
  refine enI (lv := [(0, .ref a0), (1, .int a1)]) (by decide) (Nat.le_of_ble_eq_true rfl) rfl (fun E D cy C Ci0 ret => ?_)
  have J29 : G E ({ frames := 1, cells := 0, slots := 0, locals := 64 } : Room) D cy 2 P 0 0 29 [] [] := by
    refine g_iconst (v := 1) C dX1_weightOf_29 (by decide) ?_
    exact ret _ _ _ _ _ _ dX1_weightOf_30 rfl (by decide) (by decide) ⟨rfl, trivial⟩
  refine g_iload_n C dX1_weightOf_0 rfl 1 rfl ?_
  refine g_aload_n C dX1_weightOf_1 rfl 0 rfl ?_
  refine g_getI C fi_X1_33 (by decide) (ha0).1 (ha0).2 dX1_weightOf_2 ?_
  have h7135 := I.rg (ha0) 5 rfl
  have u7137 := ti_rng a1
  refine b_icmp_ge C 29 dX1_weightOf_5 (by decide) (fun h7136 => ?_) (fun h7136 => ?_)
  · have h7136 : (pI P a0 5).toInt ≤ a1.toInt := h7136
    refine g_lv (lv' := []) [] rfl ?_
    exact J29 
  · have h7136 : a1.toInt < (pI P a0 5).toInt := h7136
    refine g_iload_n C dX1_weightOf_8 rfl 1 rfl ?_
    refine g_aload_n C dX1_weightOf_9 rfl 0 rfl ?_
    obtain ⟨b7138, e7139, h7140⟩ := I.fld (ha0) 2 3 0 rfl
    refine g_getR C fi_X1_18 rfl e7139 (ha0).1 (ha0).2 dX1_weightOf_10 ?_
    refine g_getI C fi_X1_92 (by decide) (h7140.at).1 (h7140.at).2 dX1_weightOf_13 ?_
    have u7142 := ti_rng a1
    have u7143 := ti_rng (pI P b7138 3)
    refine b_icmp_ge C 29 dX1_weightOf_16 (by decide) (fun h7141 => ?_) (fun h7141 => ?_)
    · have h7141 : (pI P b7138 3).toInt ≤ a1.toInt := h7141
      refine g_lv (lv' := []) [] rfl ?_
      exact J29 
    · have h7141 : a1.toInt < (pI P b7138 3).toInt := h7141
      refine g_aload_n C dX1_weightOf_19 rfl 0 rfl ?_
      refine g_getR C fi_X1_18 rfl e7139 (ha0).1 (ha0).2 dX1_weightOf_20 ?_
      refine g_getI C fi_X1_95 (by decide) (h7140.at).1 (h7140.at).2 dX1_weightOf_23 ?_
      refine g_goto C 30 dX1_weightOf_26 (by decide) ?_
      exact ret _ _ _ _ _ _ dX1_weightOf_30 rfl (by decide) (by decide) ⟨rfl, trivial⟩
theorem dX1_drawPages_63 : decode cX1_drawPages 63 = .ok (.iadd, 1) := by decide +kernel
theorem dX1_drawPages_64 : decode cX1_drawPages 64 = .ok (.istore 5, 2) := by decide +kernel
theorem dX1_drawPages_66 : decode cX1_drawPages 66 = .ok (.iinc 6 1, 3) := by decide +kernel
theorem dX1_drawPages_69 : decode cX1_drawPages 69 = .ok (.goto (-20), 3) := by decide +kernel
theorem dX1_drawPages_78 : decode cX1_drawPages 78 = .ok (.iload 7, 2) := by decide +kernel
theorem dX1_drawPages_80 : decode cX1_drawPages 80 = .ok (.iload 4, 2) := by decide +kernel
theorem dX1_drawPages_82 : decode cX1_drawPages 82 = .ok (.if_icmp .ge 44, 3) := by decide +kernel
theorem dX1_drawPages_85 : decode cX1_drawPages 85 = .ok (.aload_n 0, 1) := by decide +kernel
theorem dX1_drawPages_86 : decode cX1_drawPages 86 = .ok (.iload 6, 2) := by decide +kernel
theorem dX1_drawPages_88 : decode cX1_drawPages 88 = .ok (.iload_n 3, 1) := by decide +kernel
theorem dX1_drawPages_89 : decode cX1_drawPages 89 = .ok (.aload_n 0, 1) := by decide +kernel
theorem dX1_drawPages_90 : decode cX1_drawPages 90 = .ok (.iload 5, 2) := by decide +kernel
theorem dX1_drawPages_92 : decode cX1_drawPages 92 = .ok (.invokevirtual 80, 3) := by decide +kernel
theorem dX1_drawPages_95 : decode cX1_drawPages 95 = .ok (.invokevirtual 83, 3) := by decide +kernel
theorem dX1_drawPages_126 : decode cX1_drawPages 126 = .ok (.iload 6, 2) := by decide +kernel
theorem dX1_drawPages_128 : decode cX1_drawPages 128 = .ok (.ireturn, 1) := by decide +kernel
theorem dX1_pickBeside_0 : decode cX1_pickBeside 0 = .ok (.iconst 0, 1) := by decide +kernel
theorem dX1_pickBeside_1 : decode cX1_pickBeside 1 = .ok (.istore 4, 2) := by decide +kernel
theorem dX1_pickBeside_3 : decode cX1_pickBeside 3 = .ok (.iconst 0, 1) := by decide +kernel
theorem dX1_pickBeside_4 : decode cX1_pickBeside 4 = .ok (.istore 5, 2) := by decide +kernel
theorem dX1_pickBeside_6 : decode cX1_pickBeside 6 = .ok (.iload 5, 2) := by decide +kernel
theorem dX1_pickBeside_8 : decode cX1_pickBeside 8 = .ok (.iload_n 2, 1) := by decide +kernel
theorem dX1_pickBeside_9 : decode cX1_pickBeside 9 = .ok (.if_icmp .ge 38, 3) := by decide +kernel
theorem dX1_pickBeside_12 : decode cX1_pickBeside 12 = .ok (.iload_n 1, 1) := by decide +kernel
theorem dX1_pickBeside_13 : decode cX1_pickBeside 13 = .ok (.iload 5, 2) := by decide +kernel
theorem dX1_pickBeside_15 : decode cX1_pickBeside 15 = .ok (.ishr, 1) := by decide +kernel
theorem dX1_pickBeside_16 : decode cX1_pickBeside 16 = .ok (.iconst 1, 1) := by decide +kernel
theorem dX1_pickBeside_17 : decode cX1_pickBeside 17 = .ok (.iand, 1) := by decide +kernel
theorem dX1_pickBeside_18 : decode cX1_pickBeside 18 = .ok (.ifCond .ne 23, 3) := by decide +kernel
theorem dX1_pickBeside_21 : decode cX1_pickBeside 21 = .ok (.iload 4, 2) := by decide +kernel
theorem dX1_pickBeside_23 : decode cX1_pickBeside 23 = .ok (.aload_n 0, 1) := by decide +kernel
theorem dX1_pickBeside_24 : decode cX1_pickBeside 24 = .ok (.iload 5, 2) := by decide +kernel
theorem dX1_pickBeside_26 : decode cX1_pickBeside 26 = .ok (.invokevirtual 77, 3) := by decide +kernel
theorem dX1_pickBeside_29 : decode cX1_pickBeside 29 = .ok (.iadd, 1) := by decide +kernel
theorem dX1_pickBeside_30 : decode cX1_pickBeside 30 = .ok (.istore 4, 2) := by decide +kernel
theorem dX1_pickBeside_32 : decode cX1_pickBeside 32 = .ok (.iload 4, 2) := by decide +kernel
theorem dX1_pickBeside_34 : decode cX1_pickBeside 34 = .ok (.iload_n 3, 1) := by decide +kernel
theorem dX1_pickBeside_35 : decode cX1_pickBeside 35 = .ok (.if_icmp .le 6, 3) := by decide +kernel
theorem dX1_pickBeside_38 : decode cX1_pickBeside 38 = .ok (.iload 5, 2) := by decide +kernel
theorem dX1_pickBeside_40 : decode cX1_pickBeside 40 = .ok (.ireturn, 1) := by decide +kernel
theorem dX1_pickBeside_41 : decode cX1_pickBeside 41 = .ok (.iinc 5 1, 3) := by decide +kernel
theorem dX1_pickBeside_44 : decode cX1_pickBeside 44 = .ok (.goto (-38), 3) := by decide +kernel
theorem dX1_pickBeside_47 : decode cX1_pickBeside 47 = .ok (.iconst 0, 1) := by decide +kernel
theorem dX1_pickBeside_48 : decode cX1_pickBeside 48 = .ok (.ireturn, 1) := by decide +kernel
set_option maxHeartbeats 4000000 in
set_option maxRecDepth 100000 in
theorem s_X1_pickBeside {P : PP} {a0 : Nat} {a1 : Int32} {a2 : Int32} {a3 : Int32} (I : IV P) (ha0 : At P a0 1) (ha2 : 0 ≤ a2.toInt ∧ a2.toInt ≤ 20) : CtrI yX1_pickBeside cX1_pickBeside 6 (some Jvm.ClassFile.FieldType.int) ({ frames := 2, cells := 0, slots := 0, locals := 128 } : Room) 0 0 P [.ref a0, .int a1, .int a2, .int a3] (fun r P2 => P = P2 ∧ (0 ≤ r.toInt ∧ r.toInt ≤ 19)) := by
  refine enI (lv := [(0, .ref a0), (1, .int a1), (2, .int a2), (3, .int a3)]) (by decide) (Nat.le_of_ble_eq_true rfl) rfl (fun E D cy C Ci0 ret => ?_)
  have J6 : ∀ (n6 : Nat) (v6_4 : Int32) (v6_5 : Int32), (20 - v6_5.toInt).toNat < n6 → (0 ≤ v6_5.toInt ∧ v6_5.toInt ≤ 20) → G E ({ frames := 2, cells := 0, slots := 0, locals := 128 } : Room) D cy 6 P 0 0 6 [(0, .ref a0), (1, .int a1), (2, .int a2), (3, .int a3), (4, .int v6_4), (5, .int v6_5)] [] := by
    intro n6
    induction n6 with
    | zero => intro v6_4 v6_5 hm6 hv6_5; omega
    | succ n6 ih6 =>
      intro v6_4 v6_5 hm6 hv6_5
      have J41 : ∀ (v41_4 : Int32), (1 ≤ a2.toInt ∧ a2.toInt ≤ 20) → (0 ≤ v6_5.toInt ∧ v6_5.toInt ≤ 19) → G E ({ frames := 2, cells := 0, slots := 0, locals := 128 } : Room) D cy 6 P 0 0 41 [(0, .ref a0), (1, .int a1), (2, .int a2), (3, .int a3), (4, .int v41_4), (5, .int v6_5)] [] := by
        intro v41_4 hv41_2 hv41_5
        refine s_iinc (lv0 := [(0, .ref a0), (1, .int a1), (2, .int a2), (3, .int a3), (4, .int v41_4)]) (m := 1) C dX1_pickBeside_41 5 rfl (by decide) rfl (by decide) (by omega) (fun z7406 h7407 => ?_)
        have h7407 : z7406.toInt = v6_5.toInt + 1 := h7407
        refine g_goto C 6 dX1_pickBeside_44 (by decide) ?_
        refine g_lv (lv' := [(0, .ref a0), (1, .int a1), (2, .int a2), (3, .int a3), (4, .int v41_4), (5, .int z7406)]) [1, 2, 3, 4, 5, 0] rfl ?_
        exact ih6 v41_4 z7406 (by omega) (by omega)
      refine g_iload C dX1_pickBeside_6 5 rfl ?_
      refine g_iload_n C dX1_pickBeside_8 rfl 2 rfl ?_
      refine b_icmp_ge C 47 dX1_pickBeside_9 (by decide) (fun h7408 => ?_) (fun h7408 => ?_)
      · have h7408 : a2.toInt ≤ v6_5.toInt := h7408
        refine g_iconst (v := 0) C dX1_pickBeside_47 (by decide) ?_
        exact ret _ _ _ _ _ _ dX1_pickBeside_48 rfl (by decide) (by decide) ⟨rfl, (by decide)⟩
      · have h7408 : v6_5.toInt < a2.toInt := h7408
        refine g_iload_n C dX1_pickBeside_12 rfl 1 rfl ?_
        refine g_iload C dX1_pickBeside_13 5 rfl ?_
        refine a_ishr C dX1_pickBeside_15 (fun z7409 => ?_)
        refine g_iconst (v := 1) C dX1_pickBeside_16 (by decide) ?_
        refine s_iand C dX1_pickBeside_17 (by show 0 ≤ 1; omega) (fun z7411 h7412 => ?_)
        have h7412 : 0 ≤ z7411.toInt ∧ z7411.toInt ≤ 1 := h7412
        refine b_if_ne C 41 dX1_pickBeside_18 (by decide) (fun h7413 => ?_) (fun h7413 => ?_)
        · have h7413 : z7411.toInt ≠ 0 := ti_ne h7413
          exact J41 v6_4 (by omega) (by omega)
        · have h7413 : z7411.toInt = 0 := congrArg Int32.toInt h7413
          refine g_iload C dX1_pickBeside_21 4 rfl ?_
          refine g_aload_n C dX1_pickBeside_23 rfl 0 rfl ?_
          refine g_iload C dX1_pickBeside_24 5 rfl ?_
          refine g_callVI (rest := [.int v6_4]) C mv_X1_77 [.int v6_5] (s_X1_weightOf I ha0) (ha0).1 (ha0).2 rfl rfl (by decide) (Nat.le_of_ble_eq_true rfl) (by decide) dX1_pickBeside_26 (fun r7414 Y7415 h7416 => ?_)
          obtain ⟨rfl, h7416⟩ := h7416
          have h7416 : True := h7416
          refine a_iadd C dX1_pickBeside_29 (fun z7417 => ?_)
          refine g_istore (lv' := [(4, .int z7417), (0, .ref a0), (1, .int a1), (2, .int a2), (3, .int a3), (5, .int v6_5)]) C dX1_pickBeside_30 (by decide) rfl ?_
          refine g_iload C dX1_pickBeside_32 0 rfl ?_
          refine g_iload_n C dX1_pickBeside_34 rfl 4 rfl ?_
          have u7420 := ti_rng z7417
          have u7421 := ti_rng a3
          refine b_icmp_le C 41 dX1_pickBeside_35 (by decide) (fun h7419 => ?_) (fun h7419 => ?_)
          · have h7419 : z7417.toInt ≤ a3.toInt := h7419
            refine g_lv (lv' := [(0, .ref a0), (1, .int a1), (2, .int a2), (3, .int a3), (4, .int z7417), (5, .int v6_5)]) [1, 2, 3, 4, 0, 5] rfl ?_
            exact J41 z7417 (by omega) (by omega)
          · have h7419 : a3.toInt < z7417.toInt := h7419
            refine g_iload C dX1_pickBeside_38 5 rfl ?_
            exact ret _ _ _ _ _ _ dX1_pickBeside_40 rfl (by decide) (by decide) ⟨rfl, (by omega)⟩
  refine g_iconst (v := 0) C dX1_pickBeside_0 (by decide) ?_
  refine g_istore (lv' := [(4, .int 0), (0, .ref a0), (1, .int a1), (2, .int a2), (3, .int a3)]) C dX1_pickBeside_1 (by decide) rfl ?_
  refine g_iconst (v := 0) C dX1_pickBeside_3 (by decide) ?_
  refine g_istore (lv' := [(5, .int 0), (4, .int 0), (0, .ref a0), (1, .int a1), (2, .int a2), (3, .int a3)]) C dX1_pickBeside_4 (by decide) rfl ?_
  refine g_lv (lv' := [(0, .ref a0), (1, .int a1), (2, .int a2), (3, .int a3), (4, .int 0), (5, .int 0)]) [2, 3, 4, 5, 1, 0] rfl ?_
  exact J6 _ 0 0 (Nat.lt_succ_self _) (by decide)
theorem dX1_drawPages_98 : decode cX1_drawPages 98 = .ok (.istore 8, 2) := by decide +kernel
theorem dX1_drawPages_100 : decode cX1_drawPages 100 = .ok (.iload 6, 2) := by decide +kernel
theorem dX1_drawPages_102 : decode cX1_drawPages 102 = .ok (.iconst 1, 1) := by decide +kernel
theorem dX1_drawPages_103 : decode cX1_drawPages 103 = .ok (.iload 8, 2) := by decide +kernel
theorem dX1_drawPages_105 : decode cX1_drawPages 105 = .ok (.ishl, 1) := by decide +kernel
theorem dX1_drawPages_106 : decode cX1_drawPages 106 = .ok (.ior, 1) := by decide +kernel
theorem dX1_drawPages_107 : decode cX1_drawPages 107 = .ok (.istore 6, 2) := by decide +kernel
theorem dX1_drawPages_109 : decode cX1_drawPages 109 = .ok (.iload 5, 2) := by decide +kernel
theorem dX1_drawPages_111 : decode cX1_drawPages 111 = .ok (.aload_n 0, 1) := by decide +kernel
theorem dX1_drawPages_112 : decode cX1_drawPages 112 = .ok (.iload 8, 2) := by decide +kernel
theorem dX1_drawPages_114 : decode cX1_drawPages 114 = .ok (.invokevirtual 77, 3) := by decide +kernel
theorem dX1_drawPages_117 : decode cX1_drawPages 117 = .ok (.isub, 1) := by decide +kernel
theorem dX1_drawPages_118 : decode cX1_drawPages 118 = .ok (.istore 5, 2) := by decide +kernel
theorem dX1_drawPages_120 : decode cX1_drawPages 120 = .ok (.iinc 7 1, 3) := by decide +kernel
theorem dX1_drawPages_123 : decode cX1_drawPages 123 = .ok (.goto (-45), 3) := by decide +kernel
set_option maxHeartbeats 4000000 in
set_option maxRecDepth 100000 in
theorem s_X1_drawPages {P : PP} {a0 : Nat} {a1 : Int32} {a2 : Int32} (I : IV P) (ha0 : At P a0 1) (ha2 : 0 ≤ a2.toInt ∧ a2.toInt ≤ 20) : CtrI yX1_drawPages cX1_drawPages 9 (some Jvm.ClassFile.FieldType.int) ({ frames := 3, cells := 0, slots := 0, locals := 192 } : Room) 0 0 P [.ref a0, .int a1, .int a2] (fun r P2 => IV P2 ∧ EK [1] P P2 ∧ (True)) := by
  refine enI (lv := [(0, .ref a0), (1, .int a1), (2, .int a2)]) (by decide) (Nat.le_of_ble_eq_true rfl) rfl (fun E D cy C Ci0 ret => ?_)
  have J78 : ∀ (n78 : Nat) (P78 : PP) (v78_3 : Int32) (v78_4 : Int32) (v78_5 : Int32) (v78_6 : Int32) (v78_7 : Int32), (20 - v78_7.toInt).toNat < n78 → (IV P78) → (EK [1] P P78) → (0 ≤ v78_3.toInt ∧ v78_3.toInt ≤ 20) → (0 ≤ v78_4.toInt ∧ v78_4.toInt ≤ 20) → (0 ≤ v78_7.toInt ∧ v78_7.toInt ≤ 20) → G E ({ frames := 3, cells := 0, slots := 0, locals := 192 } : Room) D cy 9 P78 0 0 78 [(0, .ref a0), (3, .int v78_3), (4, .int v78_4), (5, .int v78_5), (6, .int v78_6), (7, .int v78_7)] [] := by
    intro n78
    induction n78 with
    | zero => intro P78 v78_3 v78_4 v78_5 v78_6 v78_7 hm78 I78 X78 hv78_3 hv78_4 hv78_7; omega
    | succ n78 ih78 =>
      intro P78 v78_3 v78_4 v78_5 v78_6 v78_7 hm78 I78 X78 hv78_3 hv78_4 hv78_7
      have h7874 := X78.at ha0
      refine g_iload C dX1_drawPages_78 5 rfl ?_
      refine g_iload C dX1_drawPages_80 2 rfl ?_
      refine b_icmp_ge C 126 dX1_drawPages_82 (by decide) (fun h7875 => ?_) (fun h7875 => ?_)
      · have h7875 : v78_4.toInt ≤ v78_7.toInt := h7875
        refine g_iload C dX1_drawPages_126 4 rfl ?_
        exact ret _ _ _ _ _ _ dX1_drawPages_128 rfl (by decide) (by decide) ⟨I78, X78, trivial⟩
      · have h7875 : v78_7.toInt < v78_4.toInt := h7875
        refine g_aload_n C dX1_drawPages_85 rfl 0 rfl ?_
        refine g_iload C dX1_drawPages_86 4 rfl ?_
        refine g_iload_n C dX1_drawPages_88 rfl 1 rfl ?_
        refine g_aload_n C dX1_drawPages_89 rfl 0 rfl ?_
        refine g_iload C dX1_drawPages_90 3 rfl ?_
        refine g_callVI (rest := [.int v78_3, .int v78_6, .ref a0]) C mv_X1_80 [.int v78_5] (s_X1_cast I78 h7874) (h7874).1 (h7874).2 rfl rfl (by decide) (Nat.le_of_ble_eq_true rfl) (by decide) dX1_drawPages_92 (fun r7876 Y7877 h7878 => ?_)
        obtain ⟨Iy7879, Xy7880, h7878⟩ := h7878
        have Xz7881 : EK [1] P Y7877 := X78.tr (Xy7880.mono (by decide))
        have h7882 := Xy7880.at h7874
        have h7878 : True := h7878
        refine g_callVI (rest := []) C mv_X1_83 [.int v78_6, .int v78_3, .int r7876] (s_X1_pickBeside Iy7879 h7882 (by omega)) (h7882).1 (h7882).2 rfl rfl (by decide) (Nat.le_of_ble_eq_true rfl) (by decide) dX1_drawPages_95 (fun r7883 Y7884 h7885 => ?_)
        obtain ⟨rfl, h7885⟩ := h7885
        have h7885 : 0 ≤ r7883.toInt ∧ r7883.toInt ≤ 19 := h7885
        refine g_istore (lv' := [(8, .int r7883), (0, .ref a0), (3, .int v78_3), (4, .int v78_4), (5, .int v78_5), (6, .int v78_6), (7, .int v78_7)]) C dX1_drawPages_98 (by decide) rfl ?_
        refine g_iload C dX1_drawPages_100 5 rfl ?_
        refine g_iconst (v := 1) C dX1_drawPages_102 (by decide) ?_
        refine g_iload C dX1_drawPages_103 0 rfl ?_
        refine a_ishl C dX1_drawPages_105 (fun z7886 => ?_)
        refine a_ior C dX1_drawPages_106 (fun z7888 => ?_)
        refine g_istore (lv' := [(6, .int z7888), (8, .int r7883), (0, .ref a0), (3, .int v78_3), (4, .int v78_4), (5, .int v78_5), (7, .int v78_7)]) C dX1_drawPages_107 (by decide) rfl ?_
        refine g_iload C dX1_drawPages_109 5 rfl ?_
        refine g_aload_n C dX1_drawPages_111 rfl 2 rfl ?_
        refine g_iload C dX1_drawPages_112 1 rfl ?_
        refine g_callVI (rest := [.int v78_5]) C mv_X1_77 [.int r7883] (s_X1_weightOf Iy7879 h7882) (h7882).1 (h7882).2 rfl rfl (by decide) (Nat.le_of_ble_eq_true rfl) (by decide) dX1_drawPages_114 (fun r7890 Y7891 h7892 => ?_)
        obtain ⟨rfl, h7892⟩ := h7892
        have h7892 : True := h7892
        refine a_isub C dX1_drawPages_117 (fun z7893 => ?_)
        refine g_istore (lv' := [(5, .int z7893), (6, .int z7888), (8, .int r7883), (0, .ref a0), (3, .int v78_3), (4, .int v78_4), (7, .int v78_7)]) C dX1_drawPages_118 (by decide) rfl ?_
        refine s_iinc (lv0 := [(5, .int z7893), (6, .int z7888), (8, .int r7883), (0, .ref a0), (3, .int v78_3), (4, .int v78_4)]) (m := 1) C dX1_drawPages_120 6 rfl (by decide) rfl (by decide) (by omega) (fun z7895 h7896 => ?_)
        have h7896 : z7895.toInt = v78_7.toInt + 1 := h7896
        refine g_goto C 78 dX1_drawPages_123 (by decide) ?_
        refine g_lv (lv' := [(0, .ref a0), (3, .int v78_3), (4, .int v78_4), (5, .int z7893), (6, .int z7888), (7, .int z7895)]) [4, 5, 6, 1, 2, 0] rfl ?_
        exact ih78 Y7877 v78_3 v78_4 z7893 z7888 z7895 (by omega) Iy7879 Xz7881 (by omega) (by omega) (by omega)
  have J49 : ∀ (n49 : Nat) (P49 : PP) (v49_3 : Int32) (v49_4 : Int32) (v49_5 : Int32) (v49_6 : Int32), (20 - v49_6.toInt).toNat < n49 → (IV P49) → (EK [1] P P49) → (0 ≤ v49_3.toInt ∧ v49_3.toInt ≤ 20) → (0 ≤ v49_4.toInt ∧ v49_4.toInt ≤ 20) → (0 ≤ v49_6.toInt ∧ v49_6.toInt ≤ 20) → G E ({ frames := 3, cells := 0, slots := 0, locals := 192 } : Room) D cy 9 P49 0 0 49 [(0, .ref a0), (3, .int v49_3), (4, .int v49_4), (5, .int v49_5), (6, .int v49_6)] [] := by
    intro n49
    induction n49 with
    | zero => intro P49 v49_3 v49_4 v49_5 v49_6 hm49 I49 X49 hv49_3 hv49_4 hv49_6; omega
    | succ n49 ih49 =>
      intro P49 v49_3 v49_4 v49_5 v49_6 hm49 I49 X49 hv49_3 hv49_4 hv49_6
      have h7897 := X49.at ha0
      refine g_iload C dX1_drawPages_49 4 rfl ?_
      refine g_iload_n C dX1_drawPages_51 rfl 1 rfl ?_
      refine b_icmp_ge C 72 dX1_drawPages_52 (by decide) (fun h7898 => ?_) (fun h7898 => ?_)
      · have h7898 : v49_3.toInt ≤ v49_6.toInt := h7898
        refine g_iconst (v := 0) C dX1_drawPages_72 (by decide) ?_
        refine g_istore (lv' := [(6, .int 0), (0, .ref a0), (3, .int v49_3), (4, .int v49_4), (5, .int v49_5)]) C dX1_drawPages_73 (by decide) rfl ?_
        refine g_iconst (v := 0) C dX1_drawPages_75 (by decide) ?_
        refine g_istore (lv' := [(7, .int 0), (6, .int 0), (0, .ref a0), (3, .int v49_3), (4, .int v49_4), (5, .int v49_5)]) C dX1_drawPages_76 (by decide) rfl ?_
        refine g_lv (lv' := [(0, .ref a0), (3, .int v49_3), (4, .int v49_4), (5, .int v49_5), (6, .int 0), (7, .int 0)]) [2, 3, 4, 5, 1, 0] rfl ?_
        exact J78 _ P49 v49_3 v49_4 v49_5 0 0 (Nat.lt_succ_self _) I49 X49 (by omega) (by omega) (by decide)
      · have h7898 : v49_6.toInt < v49_3.toInt := h7898
        refine g_iload C dX1_drawPages_55 3 rfl ?_
        refine g_aload_n C dX1_drawPages_57 rfl 0 rfl ?_
        refine g_iload C dX1_drawPages_58 4 rfl ?_
        refine g_callVI (rest := [.int v49_5]) C mv_X1_77 [.int v49_6] (s_X1_weightOf I49 h7897) (h7897).1 (h7897).2 rfl rfl (by decide) (Nat.le_of_ble_eq_true rfl) (by decide) dX1_drawPages_60 (fun r7899 Y7900 h7901 => ?_)
        obtain ⟨rfl, h7901⟩ := h7901
        have h7901 : True := h7901
        refine a_iadd C dX1_drawPages_63 (fun z7902 => ?_)
        refine g_istore (lv' := [(5, .int z7902), (0, .ref a0), (3, .int v49_3), (4, .int v49_4), (6, .int v49_6)]) C dX1_drawPages_64 (by decide) rfl ?_
        refine s_iinc (lv0 := [(5, .int z7902), (0, .ref a0), (3, .int v49_3), (4, .int v49_4)]) (m := 1) C dX1_drawPages_66 4 rfl (by decide) rfl (by decide) (by omega) (fun z7904 h7905 => ?_)
        have h7905 : z7904.toInt = v49_6.toInt + 1 := h7905
        refine g_goto C 49 dX1_drawPages_69 (by decide) ?_
        refine g_lv (lv' := [(0, .ref a0), (3, .int v49_3), (4, .int v49_4), (5, .int z7902), (6, .int z7904)]) [2, 3, 4, 1, 0] rfl ?_
        exact ih49 P49 v49_3 v49_4 z7902 z7904 (by omega) I49 X49 (by omega) (by omega) (by omega)
  have J41 : ∀ (P41 : PP) (v41_3 : Int32) (v41_s0 : Int32), (IV P41) → (EK [1] P P41) → (0 ≤ v41_3.toInt ∧ v41_3.toInt ≤ 20) → (0 ≤ v41_s0.toInt ∧ v41_s0.toInt ≤ 20) → G E ({ frames := 3, cells := 0, slots := 0, locals := 192 } : Room) D cy 9 P41 0 0 41 [(0, .ref a0), (3, .int v41_3)] [.int v41_s0] := by
    intro P41 v41_3 v41_s0 I41 X41 hv41_3 hv41_s0
    have h7906 := X41.at ha0
    refine g_istore (lv' := [(4, .int v41_s0), (0, .ref a0), (3, .int v41_3)]) C dX1_drawPages_41 (by decide) rfl ?_
    refine g_iconst (v := 0) C dX1_drawPages_43 (by decide) ?_
    refine g_istore (lv' := [(5, .int 0), (4, .int v41_s0), (0, .ref a0), (3, .int v41_3)]) C dX1_drawPages_44 (by decide) rfl ?_
    refine g_iconst (v := 0) C dX1_drawPages_46 (by decide) ?_
    refine g_istore (lv' := [(6, .int 0), (5, .int 0), (4, .int v41_s0), (0, .ref a0), (3, .int v41_3)]) C dX1_drawPages_47 (by decide) rfl ?_
    refine g_lv (lv' := [(0, .ref a0), (3, .int v41_3), (4, .int v41_s0), (5, .int 0), (6, .int 0)]) [3, 4, 2, 1, 0] rfl ?_
    exact J49 _ P41 v41_3 v41_s0 0 0 (Nat.lt_succ_self _) I41 X41 (by omega) (by omega) (by decide)
  refine g_aload_n C dX1_drawPages_0 rfl 0 rfl ?_
  refine g_iload_n C dX1_drawPages_1 rfl 1 rfl ?_
  refine g_sipush (v := 7919) C dX1_drawPages_2 (by decide) ?_
  refine a_imul C dX1_drawPages_5 (fun z7907 => ?_)
  refine g_aload_n C dX1_drawPages_6 rfl 0 rfl ?_
  refine g_getI C fi_X1_25 (by decide) (ha0).1 (ha0).2 dX1_drawPages_7 ?_
  have h7909 := I.rg (ha0) 0 rfl
  refine g_ldc (v := 104729) C kc_X1_67 dX1_drawPages_10 ?_
  refine s_imul C dX1_drawPages_12 (by show -2147483648 ≤ (pI P a0 0).toInt * 104729 ∧ (pI P a0 0).toInt * 104729 ≤ 2147483647; omega) (fun z7910 h7911 => ?_)
  have h7911 : z7910.toInt = (pI P a0 0).toInt * 104729 := h7911
  refine a_iadd C dX1_drawPages_13 (fun z7912 => ?_)
  refine g_iconst (v := 1) C dX1_drawPages_14 (by decide) ?_
  refine a_iadd C dX1_drawPages_15 (fun z7914 => ?_)
  refine g_putI C fi_X1_68 rfl (ha0).1 (ha0).2 dX1_drawPages_16 ?_
  refine gpW (ks := [1]) (I.setI (ha0) (rgOk.none rfl)) (EK.setI (ha0).2 (by decide)) (fun Y7916 Iy7917 Xy7918 w7919 w7920 => ?_)
  have q7921 := w7919 0 (by decide)
  have Xz7922 : EK [1] P Y7916 := Xy7918.mono (by decide)
  have h7923 := Xy7918.at ha0
  refine g_aload_n C dX1_drawPages_19 rfl 0 rfl ?_
  refine g_callVI (rest := []) C mv_X1_49 [] (s_X1_all Iy7917 h7923) (h7923).1 (h7923).2 rfl rfl (by decide) (Nat.le_of_ble_eq_true rfl) (by decide) dX1_drawPages_20 (fun r7924 Y7925 h7926 => ?_)
  obtain ⟨rfl, h7926⟩ := h7926
  have h7926 : 0 ≤ r7924.toInt ∧ r7924.toInt ≤ 20 := h7926
  refine g_istore_n (lv' := [(3, .int r7924), (0, .ref a0), (1, .int a1), (2, .int a2)]) C dX1_drawPages_23 rfl (by decide) rfl ?_
  refine g_iload_n C dX1_drawPages_24 rfl 3 rfl ?_
  refine b_if_le C 36 dX1_drawPages_25 (by decide) (fun h7927 => ?_) (fun h7927 => ?_)
  · have h7927 : a2.toInt ≤ 0 := h7927
    refine g_aload_n C dX1_drawPages_36 rfl 1 rfl ?_
    refine g_iload_n C dX1_drawPages_37 rfl 0 rfl ?_
    refine g_callVI (rest := []) C mv_X1_74 [.int r7924] (s_X1_howMany Iy7917 h7923 (by omega)) (h7923).1 (h7923).2 rfl rfl (by decide) (Nat.le_of_ble_eq_true rfl) (by decide) dX1_drawPages_38 (fun r7928 Y7929 h7930 => ?_)
    obtain ⟨Iy7931, Xy7932, h7930⟩ := h7930
    have Xz7933 : EK [1] P Y7929 := Xz7922.tr (Xy7932.mono (by decide))
    have h7934 := Xy7932.at h7923
    have h7930 : 1 ≤ r7928.toInt ∧ r7928.toInt ≤ 20 := h7930
    refine g_lv (lv' := [(0, .ref a0), (3, .int r7924)]) [1, 0] rfl ?_
    exact J41 Y7929 r7924 r7928 Iy7931 Xz7933 (by omega) (by omega)
  · have h7927 : 0 < a2.toInt := h7927
    refine g_aload_n C dX1_drawPages_28 rfl 1 rfl ?_
    refine g_iload_n C dX1_drawPages_29 rfl 3 rfl ?_
    refine g_callVI (rest := []) C mv_X1_71 [.int a2] (s_X1_castDegree Iy7917 h7923 (by omega)) (h7923).1 (h7923).2 rfl rfl (by decide) (Nat.le_of_ble_eq_true rfl) (by decide) dX1_drawPages_30 (fun r7935 Y7936 h7937 => ?_)
    obtain ⟨Iy7938, Xy7939, h7937⟩ := h7937
    have Xz7940 : EK [1] P Y7936 := Xz7922.tr (Xy7939.mono (by decide))
    have h7941 := Xy7939.at h7923
    have h7937 : 0 ≤ r7935.toInt ∧ r7935.toInt ≤ 20 := h7937
    refine g_goto C 41 dX1_drawPages_33 (by decide) ?_
    refine g_lv (lv' := [(0, .ref a0), (3, .int r7924)]) [1, 0] rfl ?_
    exact J41 Y7936 r7924 r7935 Iy7938 Xz7940 (by omega) (by omega)
theorem dX1_pagesOf_10 : decode cX1_pagesOf 10 = .ok (.aload_n 0, 1) := by decide +kernel
theorem dX1_pagesOf_11 : decode cX1_pagesOf 11 = .ok (.iload_n 1, 1) := by decide +kernel
theorem dX1_pagesOf_12 : decode cX1_pagesOf 12 = .ok (.iconst 0, 1) := by decide +kernel
theorem dX1_pagesOf_13 : decode cX1_pagesOf 13 = .ok (.invokevirtual 63, 3) := by decide +kernel
theorem dX1_pagesOf_16 : decode cX1_pagesOf 16 = .ok (.ireturn, 1) := by decide +kernel
theorem dX1_pagesOf_37 : decode cX1_pagesOf 37 = .ok (.iastore, 1) := by decide +kernel
theorem dX1_pagesOf_38 : decode cX1_pagesOf 38 = .ok (.aload_n 0, 1) := by decide +kernel
theorem dX1_pagesOf_39 : decode cX1_pagesOf 39 = .ok (.getfield 22, 3) := by decide +kernel
theorem dX1_pagesOf_42 : decode cX1_pagesOf 42 = .ok (.iload_n 1, 1) := by decide +kernel
theorem dX1_pagesOf_43 : decode cX1_pagesOf 43 = .ok (.iaload, 1) := by decide +kernel
theorem dX1_pagesOf_44 : decode cX1_pagesOf 44 = .ok (.ireturn, 1) := by decide +kernel
set_option maxHeartbeats 4000000 in
set_option maxRecDepth 100000 in
theorem s_X1_pagesOf {P : PP} {a0 : Nat} {a1 : Int32} (I : IV P) (ha0 : At P a0 1) : CtrI yX1_pagesOf cX1_pagesOf 2 (some Jvm.ClassFile.FieldType.int) ({ frames := 4, cells := 0, slots := 0, locals := 256 } : Room) 0 0 P [.ref a0, .int a1] (fun r P2 => IV P2 ∧ EK [1, 13] P P2 ∧ (True)) := by
  refine enI (lv := [(0, .ref a0), (1, .int a1)]) (by decide) (Nat.le_of_ble_eq_true rfl) rfl (fun E D cy C Ci0 ret => ?_)
  have J38 : ∀ (P38 : PP), (IV P38) → (EK [1, 13] P P38) → (0 ≤ a1.toInt ∧ a1.toInt ≤ 59) → G E ({ frames := 4, cells := 0, slots := 0, locals := 256 } : Room) D cy 2 P38 0 0 38 [(0, .ref a0), (1, .int a1)] [] := by
    intro P38 I38 X38 hv38_1
    have h7978 := X38.at ha0
    refine g_aload_n C dX1_pagesOf_38 rfl 0 rfl ?_
    obtain ⟨b7979, e7980, h7981⟩ := I38.fld (h7978) 3 13 60 rfl
    refine g_getR C fi_X1_22 rfl e7980 (h7978).1 (h7978).2 dX1_pagesOf_39 ?_
    refine g_iload_n C dX1_pagesOf_42 rfl 1 rfl ?_
    refine g_iald (j := (a1.toInt.toNat)) C h7981.1 h7981.2.1 (ix_in h7981.2.2 (by omega)) dX1_pagesOf_43 ?_
    refine g_topi (fun z7982 _ => ?_)
    exact ret _ _ _ _ _ _ dX1_pagesOf_44 rfl (by decide) (by decide) ⟨I38, X38, trivial⟩
  have J10 : G E ({ frames := 4, cells := 0, slots := 0, locals := 256 } : Room) D cy 2 P 0 0 10 [(0, .ref a0), (1, .int a1)] [] := by
    refine g_aload_n C dX1_pagesOf_10 rfl 0 rfl ?_
    refine g_iload_n C dX1_pagesOf_11 rfl 1 rfl ?_
    refine g_iconst (v := 0) C dX1_pagesOf_12 (by decide) ?_
    refine g_callVI (rest := []) C mv_X1_63 [.int a1, .int 0] (s_X1_drawPages I ha0 (by decide)) (ha0).1 (ha0).2 rfl rfl (by decide) (Nat.le_of_ble_eq_true rfl) (by decide) dX1_pagesOf_13 (fun r7983 Y7984 h7985 => ?_)
    obtain ⟨Iy7986, Xy7987, h7985⟩ := h7985
    have Xz7988 : EK [1, 13] P Y7984 := Xy7987.mono (by decide)
    have h7989 := Xy7987.at ha0
    have h7985 : True := h7985
    exact ret _ _ _ _ _ _ dX1_pagesOf_16 rfl (by decide) (by decide) ⟨Iy7986, Xz7988, trivial⟩
  refine g_iload_n C dX1_pagesOf_0 rfl 1 rfl ?_
  have u7991 := ti_rng a1
  refine b_if_lt C 10 dX1_pagesOf_1 (by decide) (fun h7990 => ?_) (fun h7990 => ?_)
  · have h7990 : a1.toInt < 0 := h7990
    exact J10 
  · have h7990 : 0 ≤ a1.toInt := h7990
    refine g_iload_n C dX1_pagesOf_4 rfl 1 rfl ?_
    refine g_bipush (v := 60) C dX1_pagesOf_5 (by decide) ?_
    have u7993 := ti_rng a1
    refine b_icmp_lt C 17 dX1_pagesOf_7 (by decide) (fun h7992 => ?_) (fun h7992 => ?_)
    · have h7992 : a1.toInt < 60 := h7992
      refine g_aload_n C dX1_pagesOf_17 rfl 0 rfl ?_
      obtain ⟨b7994, e7995, h7996⟩ := I.fld (ha0) 3 13 60 rfl
      refine g_getR C fi_X1_22 rfl e7995 (ha0).1 (ha0).2 dX1_pagesOf_18 ?_
      refine g_iload_n C dX1_pagesOf_21 rfl 1 rfl ?_
      refine g_iald (j := (a1.toInt.toNat)) C h7996.1 h7996.2.1 (ix_in h7996.2.2 (by omega)) dX1_pagesOf_22 ?_
      refine g_topi (fun z7997 _ => ?_)
      have u7999 := ti_rng z7997
      refine b_if_ne C 38 dX1_pagesOf_23 (by decide) (fun h7998 => ?_) (fun h7998 => ?_)
      · have h7998 : z7997.toInt ≠ 0 := ti_ne h7998
        exact J38 P I EK.rf (by omega)
      · have h7998 : z7997.toInt = 0 := congrArg Int32.toInt h7998
        refine g_aload_n C dX1_pagesOf_26 rfl 0 rfl ?_
        refine g_getR C fi_X1_22 rfl e7995 (ha0).1 (ha0).2 dX1_pagesOf_27 ?_
        refine g_iload_n C dX1_pagesOf_30 rfl 1 rfl ?_
        refine g_aload_n C dX1_pagesOf_31 rfl 0 rfl ?_
        refine g_iload_n C dX1_pagesOf_32 rfl 1 rfl ?_
        refine g_iconst (v := 0) C dX1_pagesOf_33 (by decide) ?_
        refine g_callVI (rest := [.int a1, .ref b7994]) C mv_X1_63 [.int a1, .int 0] (s_X1_drawPages I ha0 (by decide)) (ha0).1 (ha0).2 rfl rfl (by decide) (Nat.le_of_ble_eq_true rfl) (by decide) dX1_pagesOf_34 (fun r8000 Y8001 h8002 => ?_)
        obtain ⟨Iy8003, Xy8004, h8002⟩ := h8002
        have Xz8005 : EK [1, 13] P Y8001 := Xy8004.mono (by decide)
        have e8006 := Xy8004.ref ha0 (by decide) e7995
        have h8007 := Xy8004.at ha0
        have h8008 := Xy8004.ar h7996
        have h8002 : True := h8002
        refine g_iast (j := (a1.toInt.toNat)) C h8008.1 h8008.2.1 (ix_in h8008.2.2 (by omega)) dX1_pagesOf_37 ?_
        refine gp (ks := [13]) (Iy8003.setA h8008 (by decide)) (EK.setI h8008.2.1 (by decide)) (fun Y8009 Iy8010 Xy8011 => ?_)
        have Xz8012 : EK [1, 13] P Y8009 := Xz8005.tr (Xy8011.mono (by decide))
        have h8013 := Xy8011.at h8007
        exact J38 Y8009 Iy8010 Xz8012 (by omega)
    · have h7992 : 60 ≤ a1.toInt := h7992
      exact J10 
theorem dX8_tally_78 : decode cX8_tally 78 = .ok (.aload_n 1, 1) := by decide +kernel
theorem dX8_tally_79 : decode cX8_tally 79 = .ok (.iload 5, 2) := by decide +kernel
theorem dX8_tally_81 : decode cX8_tally 81 = .ok (.iload 4, 2) := by decide +kernel
theorem dX8_tally_83 : decode cX8_tally 83 = .ok (.invokevirtual 58, 3) := by decide +kernel
theorem dX8_tally_86 : decode cX8_tally 86 = .ok (.goto 9, 3) := by decide +kernel
theorem dX8_tally_95 : decode cX8_tally 95 = .ok (.iastore, 1) := by decide +kernel
theorem dX8_tally_96 : decode cX8_tally 96 = .ok (.iinc 5 1, 3) := by decide +kernel
theorem dX8_tally_99 : decode cX8_tally 99 = .ok (.goto (-41), 3) := by decide +kernel
theorem dX8_tally_102 : decode cX8_tally 102 = .ok (.aload_n 0, 1) := by decide +kernel
theorem dX8_tally_103 : decode cX8_tally 103 = .ok (.getfield 21, 3) := by decide +kernel
theorem dX8_tally_106 : decode cX8_tally 106 = .ok (.aload_n 1, 1) := by decide +kernel
theorem dX8_tally_107 : decode cX8_tally 107 = .ok (.invokevirtual 65, 3) := by decide +kernel
theorem dX8_tally_110 : decode cX8_tally 110 = .ok (.aload_n 0, 1) := by decide +kernel
theorem dX8_tally_111 : decode cX8_tally 111 = .ok (.getfield 28, 3) := by decide +kernel
theorem dX8_tally_114 : decode cX8_tally 114 = .ok (.aload_n 0, 1) := by decide +kernel
theorem dX8_tally_115 : decode cX8_tally 115 = .ok (.getfield 21, 3) := by decide +kernel
theorem dX8_tally_118 : decode cX8_tally 118 = .ok (.iconst (-1), 1) := by decide +kernel
theorem dX8_tally_119 : decode cX8_tally 119 = .ok (.invokevirtual 69, 3) := by decide +kernel
theorem dX8_tally_122 : decode cX8_tally 122 = .ok (.aload_n 0, 1) := by decide +kernel
theorem dX8_tally_123 : decode cX8_tally 123 = .ok (.iconst 0, 1) := by decide +kernel
theorem dX8_tally_124 : decode cX8_tally 124 = .ok (.iconst 0, 1) := by decide +kernel
theorem dX8_tally_125 : decode cX8_tally 125 = .ok (.iconst 0, 1) := by decide +kernel
theorem dX8_tally_126 : decode cX8_tally 126 = .ok (.invokevirtual 73, 3) := by decide +kernel
theorem dX8_walk_0 : decode cX8_walk 0 = .ok (.aload_n 0, 1) := by decide +kernel
theorem dX8_walk_1 : decode cX8_walk 1 = .ok (.getfield 42, 3) := by decide +kernel
theorem dX8_walk_4 : decode cX8_walk 4 = .ok (.ifCond .ne 14, 3) := by decide +kernel
theorem dX8_walk_7 : decode cX8_walk 7 = .ok (.iload_n 3, 1) := by decide +kernel
theorem dX8_walk_8 : decode cX8_walk 8 = .ok (.aload_n 0, 1) := by decide +kernel
theorem dX8_walk_9 : decode cX8_walk 9 = .ok (.getfield 56, 3) := by decide +kernel
theorem dX8_walk_12 : decode cX8_walk 12 = .ok (.if_icmp .ne 32, 3) := by decide +kernel
theorem dX8_walk_15 : decode cX8_walk 15 = .ok (.goto 17, 3) := by decide +kernel
theorem dX8_walk_18 : decode cX8_walk 18 = .ok (.aload_n 0, 1) := by decide +kernel
theorem dX8_walk_19 : decode cX8_walk 19 = .ok (.getfield 28, 3) := by decide +kernel
theorem dX8_walk_22 : decode cX8_walk 22 = .ok (.getfield 77, 3) := by decide +kernel
theorem dX8_walk_25 : decode cX8_walk 25 = .ok (.aload_n 0, 1) := by decide +kernel
theorem dX8_walk_26 : decode cX8_walk 26 = .ok (.getfield 51, 3) := by decide +kernel
theorem dX8_walk_29 : decode cX8_walk 29 = .ok (.if_icmp .ne 15, 3) := by decide +kernel
theorem dX8_walk_32 : decode cX8_walk 32 = .ok (.aload_n 0, 1) := by decide +kernel
theorem dX8_walk_33 : decode cX8_walk 33 = .ok (.aload_n 0, 1) := by decide +kernel
theorem dX8_walk_34 : decode cX8_walk 34 = .ok (.getfield 38, 3) := by decide +kernel
theorem dX8_walk_37 : decode cX8_walk 37 = .ok (.iload_n 1, 1) := by decide +kernel
theorem dX8_walk_38 : decode cX8_walk 38 = .ok (.isub, 1) := by decide +kernel
theorem dX8_walk_39 : decode cX8_walk 39 = .ok (.iload_n 2, 1) := by decide +kernel
theorem dX8_walk_40 : decode cX8_walk 40 = .ok (.invokevirtual 80, 3) := by decide +kernel
theorem dX8_walk_44 : decode cX8_walk 44 = .ok (.iload_n 1, 1) := by decide +kernel
theorem dX8_walk_45 : decode cX8_walk 45 = .ok (.aload_n 0, 1) := by decide +kernel
theorem dX8_walk_46 : decode cX8_walk 46 = .ok (.getfield 38, 3) := by decide +kernel
theorem dX8_walk_49 : decode cX8_walk 49 = .ok (.if_icmp .ge 30, 3) := by decide +kernel
theorem dX8_walk_79 : decode cX8_walk 79 = .ok (.return_, 1) := by decide +kernel
theorem dX8_addAllWith_0 : decode cX8_addAllWith 0 = .ok (.iconst 0, 1) := by decide +kernel
theorem dX8_addAllWith_1 : decode cX8_addAllWith 1 = .ok (.istore_n 3, 1) := by decide +kernel
theorem dX8_addAllWith_2 : decode cX8_addAllWith 2 = .ok (.iload_n 3, 1) := by decide +kernel
theorem dX8_addAllWith_3 : decode cX8_addAllWith 3 = .ok (.iload_n 1, 1) := by decide +kernel
theorem dX8_addAllWith_4 : decode cX8_addAllWith 4 = .ok (.if_icmp .gt 33, 3) := by decide +kernel
theorem dX8_addAllWith_7 : decode cX8_addAllWith 7 = .ok (.iload_n 2, 1) := by decide +kernel
theorem dX8_addAllWith_8 : decode cX8_addAllWith 8 = .ok (.iload_n 3, 1) := by decide +kernel
theorem dX8_addAllWith_9 : decode cX8_addAllWith 9 = .ok (.iadd, 1) := by decide +kernel
theorem dX8_addAllWith_10 : decode cX8_addAllWith 10 = .ok (.bipush 11, 2) := by decide +kernel
theorem dX8_addAllWith_12 : decode cX8_addAllWith 12 = .ok (.if_icmp .gt 25, 3) := by decide +kernel
theorem dX8_addAllWith_15 : decode cX8_addAllWith 15 = .ok (.aload_n 0, 1) := by decide +kernel
theorem dX8_addAllWith_16 : decode cX8_addAllWith 16 = .ok (.getfield 9, 3) := by decide +kernel
theorem dX8_addAllWith_19 : decode cX8_addAllWith 19 = .ok (.iload_n 2, 1) := by decide +kernel
theorem dX8_addAllWith_20 : decode cX8_addAllWith 20 = .ok (.iload_n 3, 1) := by decide +kernel
theorem dX8_addAllWith_21 : decode cX8_addAllWith 21 = .ok (.iadd, 1) := by decide +kernel
theorem dX8_addAllWith_22 : decode cX8_addAllWith 22 = .ok (.dup2, 1) := by decide +kernel
theorem dX8_addAllWith_23 : decode cX8_addAllWith 23 = .ok (.iaload, 1) := by decide +kernel
theorem dX8_addAllWith_24 : decode cX8_addAllWith 24 = .ok (.iload_n 1, 1) := by decide +kernel
theorem dX8_addAllWith_25 : decode cX8_addAllWith 25 = .ok (.iload_n 3, 1) := by decide +kernel
theorem dX8_addAllWith_26 : decode cX8_addAllWith 26 = .ok (.invokestatic 100, 3) := by decide +kernel
theorem dX8_addAllWith_37 : decode cX8_addAllWith 37 = .ok (.return_, 1) := by decide +kernel
theorem dX11_choose_0 : decode cX11_choose 0 = .ok (.iconst 1, 1) := by decide +kernel
theorem dX11_choose_1 : decode cX11_choose 1 = .ok (.istore_n 2, 1) := by decide +kernel
theorem dX11_choose_2 : decode cX11_choose 2 = .ok (.iconst 1, 1) := by decide +kernel
theorem dX11_choose_3 : decode cX11_choose 3 = .ok (.istore_n 3, 1) := by decide +kernel
theorem dX11_choose_4 : decode cX11_choose 4 = .ok (.iload_n 3, 1) := by decide +kernel
theorem dX11_choose_5 : decode cX11_choose 5 = .ok (.iload_n 1, 1) := by decide +kernel
theorem dX11_choose_6 : decode cX11_choose 6 = .ok (.if_icmp .gt 19, 3) := by decide +kernel
theorem dX11_choose_9 : decode cX11_choose 9 = .ok (.iload_n 2, 1) := by decide +kernel
theorem dX11_choose_10 : decode cX11_choose 10 = .ok (.iload_n 0, 1) := by decide +kernel
theorem dX11_choose_11 : decode cX11_choose 11 = .ok (.iload_n 1, 1) := by decide +kernel
theorem dX11_choose_12 : decode cX11_choose 12 = .ok (.isub, 1) := by decide +kernel
theorem dX11_choose_13 : decode cX11_choose 13 = .ok (.iload_n 3, 1) := by decide +kernel
theorem dX11_choose_14 : decode cX11_choose 14 = .ok (.iadd, 1) := by decide +kernel
theorem dX11_choose_15 : decode cX11_choose 15 = .ok (.imul, 1) := by decide +kernel
theorem dX11_choose_16 : decode cX11_choose 16 = .ok (.iload_n 3, 1) := by decide +kernel
theorem dX11_choose_17 : decode cX11_choose 17 = .ok (.idiv, 1) := by decide +kernel
theorem dX11_choose_18 : decode cX11_choose 18 = .ok (.istore_n 2, 1) := by decide +kernel
theorem dX11_choose_19 : decode cX11_choose 19 = .ok (.iinc 3 1, 3) := by decide +kernel
theorem dX11_choose_22 : decode cX11_choose 22 = .ok (.goto (-18), 3) := by decide +kernel
theorem dX11_choose_25 : decode cX11_choose 25 = .ok (.iload_n 2, 1) := by decide +kernel
theorem dX11_choose_26 : decode cX11_choose 26 = .ok (.ireturn, 1) := by decide +kernel
set_option maxHeartbeats 4000000 in
set_option maxRecDepth 100000 in
theorem s_X11_choose {P : PP} {a0 : Int32} {a1 : Int32} (I : IV P) (ha0 : -20 ≤ a0.toInt ∧ a0.toInt ≤ 20) (ha1 : 0 ≤ a1.toInt ∧ a1.toInt ≤ 12) : CtrI yX11_choose cX11_choose 4 (some Jvm.ClassFile.FieldType.int) ({ frames := 1, cells := 0, slots := 0, locals := 64 } : Room) 0 0 P [.int a0, .int a1] (fun r P2 => P = P2 ∧ (True)) := by
  refine enI (lv := [(0, .int a0), (1, .int a1)]) (by decide) (Nat.le_of_ble_eq_true rfl) rfl (fun E D cy C Ci0 ret => ?_)
  have J4 : ∀ (n4 : Nat) (v4_2 : Int32) (v4_3 : Int32), (16 - v4_3.toInt).toNat < n4 → (1 ≤ v4_3.toInt ∧ v4_3.toInt ≤ 16) → G E ({ frames := 1, cells := 0, slots := 0, locals := 64 } : Room) D cy 4 P 0 0 4 [(0, .int a0), (1, .int a1), (2, .int v4_2), (3, .int v4_3)] [] := by
    intro n4
    induction n4 with
    | zero => intro v4_2 v4_3 hm4 hv4_3; omega
    | succ n4 ih4 =>
      intro v4_2 v4_3 hm4 hv4_3
      refine g_iload_n C dX11_choose_4 rfl 3 rfl ?_
      refine g_iload_n C dX11_choose_5 rfl 1 rfl ?_
      refine b_icmp_gt C 25 dX11_choose_6 (by decide) (fun h8416 => ?_) (fun h8416 => ?_)
      · have h8416 : a1.toInt < v4_3.toInt := h8416
        refine g_iload_n C dX11_choose_25 rfl 2 rfl ?_
        exact ret _ _ _ _ _ _ dX11_choose_26 rfl (by decide) (by decide) ⟨rfl, trivial⟩
      · have h8416 : v4_3.toInt ≤ a1.toInt := h8416
        refine g_iload_n C dX11_choose_9 rfl 2 rfl ?_
        refine g_iload_n C dX11_choose_10 rfl 0 rfl ?_
        refine g_iload_n C dX11_choose_11 rfl 1 rfl ?_
        refine s_isub C dX11_choose_12 (by show -2147483648 ≤ a0.toInt - a1.toInt ∧ a0.toInt - a1.toInt ≤ 2147483647; omega) (fun z8417 h8418 => ?_)
        have h8418 : z8417.toInt = a0.toInt - a1.toInt := h8418
        refine g_iload_n C dX11_choose_13 rfl 3 rfl ?_
        refine s_iadd C dX11_choose_14 (by show -2147483648 ≤ z8417.toInt + v4_3.toInt ∧ z8417.toInt + v4_3.toInt ≤ 2147483647; omega) (fun z8419 h8420 => ?_)
        have h8420 : z8419.toInt = z8417.toInt + v4_3.toInt := h8420
        refine a_imul C dX11_choose_15 (fun z8421 => ?_)
        refine g_iload_n C dX11_choose_16 rfl 3 rfl ?_
        refine a_idiv C dX11_choose_17 (by show v4_3.toInt ≠ 0; omega) (fun z8423 => ?_)
        refine g_istore_n (lv' := [(2, .int z8423), (0, .int a0), (1, .int a1), (3, .int v4_3)]) C dX11_choose_18 rfl (by decide) rfl ?_
        refine s_iinc (lv0 := [(2, .int z8423), (0, .int a0), (1, .int a1)]) (m := 1) C dX11_choose_19 3 rfl (by decide) rfl (by decide) (by omega) (fun z8425 h8426 => ?_)
        have h8426 : z8425.toInt = v4_3.toInt + 1 := h8426
        refine g_goto C 4 dX11_choose_22 (by decide) ?_
        refine g_lv (lv' := [(0, .int a0), (1, .int a1), (2, .int z8423), (3, .int z8425)]) [2, 3, 1, 0] rfl ?_
        exact ih4 z8423 z8425 (by omega) (by omega)
  refine g_iconst (v := 1) C dX11_choose_0 (by decide) ?_
  refine g_istore_n (lv' := [(2, .int 1), (0, .int a0), (1, .int a1)]) C dX11_choose_1 rfl (by decide) rfl ?_
  refine g_iconst (v := 1) C dX11_choose_2 (by decide) ?_
  refine g_istore_n (lv' := [(3, .int 1), (2, .int 1), (0, .int a0), (1, .int a1)]) C dX11_choose_3 rfl (by decide) rfl ?_
  refine g_lv (lv' := [(0, .int a0), (1, .int a1), (2, .int 1), (3, .int 1)]) [2, 3, 1, 0] rfl ?_
  exact J4 _ 1 1 (Nat.lt_succ_self _) (by decide)
theorem dX8_addAllWith_29 : decode cX8_addAllWith 29 = .ok (.iadd, 1) := by decide +kernel
theorem dX8_addAllWith_30 : decode cX8_addAllWith 30 = .ok (.iastore, 1) := by decide +kernel
theorem dX8_addAllWith_31 : decode cX8_addAllWith 31 = .ok (.iinc 3 1, 3) := by decide +kernel
theorem dX8_addAllWith_34 : decode cX8_addAllWith 34 = .ok (.goto (-32), 3) := by decide +kernel
set_option maxHeartbeats 4000000 in
set_option maxRecDepth 100000 in
theorem s_X8_addAllWith {P : PP} {a0 : Nat} {a1 : Int32} {a2 : Int32} (I : IV P) (ha0 : At P a0 8) (ha1 : -11 ≤ a1.toInt ∧ a1.toInt ≤ 11) (ha2 : 0 ≤ a2.toInt ∧ a2.toInt ≤ 12) : CtrV yX8_addAllWith cX8_addAllWith 4 none ({ frames := 2, cells := 0, slots := 0, locals := 128 } : Room) 0 0 P [.ref a0, .int a1, .int a2] (fun P2 => IV P2 ∧ EK [13] P P2) := by
  refine enV (lv := [(0, .ref a0), (1, .int a1), (2, .int a2)]) (by decide) (Nat.le_of_ble_eq_true rfl) rfl (fun E D cy C Ci0 ret => ?_)
  have J2 : ∀ (n2 : Nat) (P2 : PP) (v2_3 : Int32), (12 - v2_3.toInt).toNat < n2 → (IV P2) → (EK [13] P P2) → (0 ≤ v2_3.toInt ∧ v2_3.toInt ≤ 12) → G E ({ frames := 2, cells := 0, slots := 0, locals := 128 } : Room) D cy 4 P2 0 0 2 [(0, .ref a0), (1, .int a1), (2, .int a2), (3, .int v2_3)] [] := by
    intro n2
    induction n2 with
    | zero => intro P2 v2_3 hm2 I2 X2 hv2_3; omega
    | succ n2 ih2 =>
      intro P2 v2_3 hm2 I2 X2 hv2_3
      have h8656 := X2.at ha0
      refine g_iload_n C dX8_addAllWith_2 rfl 3 rfl ?_
      refine g_iload_n C dX8_addAllWith_3 rfl 1 rfl ?_
      refine b_icmp_gt C 37 dX8_addAllWith_4 (by decide) (fun h8657 => ?_) (fun h8657 => ?_)
      · have h8657 : a1.toInt < v2_3.toInt := h8657
        exact ret _ _ _ _ _ dX8_addAllWith_37 (by decide) (by decide) ⟨I2, X2⟩
      · have h8657 : v2_3.toInt ≤ a1.toInt := h8657
        refine g_iload_n C dX8_addAllWith_7 rfl 2 rfl ?_
        refine g_iload_n C dX8_addAllWith_8 rfl 3 rfl ?_
        refine s_iadd C dX8_addAllWith_9 (by show -2147483648 ≤ a2.toInt + v2_3.toInt ∧ a2.toInt + v2_3.toInt ≤ 2147483647; omega) (fun z8658 h8659 => ?_)
        have h8659 : z8658.toInt = a2.toInt + v2_3.toInt := h8659
        refine g_bipush (v := 11) C dX8_addAllWith_10 (by decide) ?_
        refine b_icmp_gt C 37 dX8_addAllWith_12 (by decide) (fun h8660 => ?_) (fun h8660 => ?_)
        · have h8660 : 11 < z8658.toInt := h8660
          exact ret _ _ _ _ _ dX8_addAllWith_37 (by decide) (by decide) ⟨I2, X2⟩
        · have h8660 : z8658.toInt ≤ 11 := h8660
          refine g_aload_n C dX8_addAllWith_15 rfl 0 rfl ?_
          obtain ⟨b8661, e8662, h8663⟩ := I2.fld (h8656) 0 13 12 rfl
          refine g_getR C fi_X8_9 rfl e8662 (h8656).1 (h8656).2 dX8_addAllWith_16 ?_
          refine g_iload_n C dX8_addAllWith_19 rfl 2 rfl ?_
          refine g_iload_n C dX8_addAllWith_20 rfl 3 rfl ?_
          refine s_iadd C dX8_addAllWith_21 (by show -2147483648 ≤ a2.toInt + v2_3.toInt ∧ a2.toInt + v2_3.toInt ≤ 2147483647; omega) (fun z8664 h8665 => ?_)
          have h8665 : z8664.toInt = a2.toInt + v2_3.toInt := h8665
          refine g_dup2_11 C dX8_addAllWith_22 rfl rfl ?_
          refine g_iald (j := (z8664.toInt.toNat)) C h8663.1 h8663.2.1 (ix_in h8663.2.2 (by omega)) dX8_addAllWith_23 ?_
          refine g_topi (fun z8666 _ => ?_)
          refine g_iload_n C dX8_addAllWith_24 rfl 1 rfl ?_
          refine g_iload_n C dX8_addAllWith_25 rfl 3 rfl ?_
          refine g_callSNI (b := 0) (ci := 0) (rest := [.int z8666, .int z8664, .ref b8661]) C mz_X8_100 [.int a1, .int v2_3] (s_X11_choose I2 (by omega) (by omega)) rfl rfl (by decide) (Nat.le_of_ble_eq_true rfl) (by decide) dX8_addAllWith_26 (fun r8667 Y8668 h8669 => ?_)
          obtain ⟨rfl, h8669⟩ := h8669
          have h8669 : True := h8669
          refine a_iadd C dX8_addAllWith_29 (fun z8670 => ?_)
          refine g_iast (j := (z8664.toInt.toNat)) C h8663.1 h8663.2.1 (ix_in h8663.2.2 (by omega)) dX8_addAllWith_30 ?_
          refine gp (ks := [13]) (I2.setA h8663 (by decide)) (EK.setI h8663.2.1 (by decide)) (fun Y8672 Iy8673 Xy8674 => ?_)
          have Xz8675 : EK [13] P Y8672 := X2.tr (Xy8674.mono (by decide))
          have h8676 := Xy8674.at h8656
          refine s_iinc (lv0 := [(0, .ref a0), (1, .int a1), (2, .int a2)]) (m := 1) C dX8_addAllWith_31 3 rfl (by decide) rfl (by decide) (by omega) (fun z8677 h8678 => ?_)
          have h8678 : z8677.toInt = v2_3.toInt + 1 := h8678
          refine g_goto C 2 dX8_addAllWith_34 (by decide) ?_
          refine g_lv (lv' := [(0, .ref a0), (1, .int a1), (2, .int a2), (3, .int z8677)]) [1, 2, 3, 0] rfl ?_
          exact ih2 Y8672 z8677 (by omega) Iy8673 Xz8675 (by omega)
  refine g_iconst (v := 0) C dX8_addAllWith_0 (by decide) ?_
  refine g_istore_n (lv' := [(3, .int 0), (0, .ref a0), (1, .int a1), (2, .int a2)]) C dX8_addAllWith_1 rfl (by decide) rfl ?_
  refine g_lv (lv' := [(0, .ref a0), (1, .int a1), (2, .int a2), (3, .int 0)]) [1, 2, 3, 0] rfl ?_
  exact J2 _ P 0 (Nat.lt_succ_self _) I EK.rf (by decide)
theorem dX8_walk_52 : decode cX8_walk 52 = .ok (.iload_n 1, 1) := by decide +kernel
theorem dX8_walk_53 : decode cX8_walk 53 = .ok (.bipush 11, 2) := by decide +kernel
theorem dX8_walk_55 : decode cX8_walk 55 = .ok (.if_icmp .ge 24, 3) := by decide +kernel
theorem dX8_walk_58 : decode cX8_walk 58 = .ok (.aload_n 0, 1) := by decide +kernel
theorem dX8_walk_59 : decode cX8_walk 59 = .ok (.getfield 28, 3) := by decide +kernel
theorem dX8_walk_62 : decode cX8_walk 62 = .ok (.getfield 77, 3) := by decide +kernel
theorem dX8_walk_65 : decode cX8_walk 65 = .ok (.aload_n 0, 1) := by decide +kernel
theorem dX8_walk_66 : decode cX8_walk 66 = .ok (.getfield 38, 3) := by decide +kernel
theorem dX8_walk_69 : decode cX8_walk 69 = .ok (.iadd, 1) := by decide +kernel
theorem dX8_walk_70 : decode cX8_walk 70 = .ok (.iload_n 1, 1) := by decide +kernel
theorem dX8_walk_71 : decode cX8_walk 71 = .ok (.isub, 1) := by decide +kernel
theorem dX8_walk_72 : decode cX8_walk 72 = .ok (.aload_n 0, 1) := by decide +kernel
theorem dX8_walk_73 : decode cX8_walk 73 = .ok (.getfield 51, 3) := by decide +kernel
theorem dX8_walk_76 : decode cX8_walk 76 = .ok (.if_icmp .ge 4, 3) := by decide +kernel
theorem dX8_walk_80 : decode cX8_walk 80 = .ok (.aload_n 0, 1) := by decide +kernel
theorem dX8_walk_81 : decode cX8_walk 81 = .ok (.iload_n 1, 1) := by decide +kernel
theorem dX8_walk_82 : decode cX8_walk 82 = .ok (.iconst 1, 1) := by decide +kernel
theorem dX8_walk_83 : decode cX8_walk 83 = .ok (.iadd, 1) := by decide +kernel
theorem dX8_walk_84 : decode cX8_walk 84 = .ok (.iload_n 2, 1) := by decide +kernel
theorem dX8_walk_85 : decode cX8_walk 85 = .ok (.iload_n 3, 1) := by decide +kernel
theorem dX8_walk_86 : decode cX8_walk 86 = .ok (.invokevirtual 73, 3) := by decide +kernel
theorem dX8_walk_89 : decode cX8_walk 89 = .ok (.aload_n 0, 1) := by decide +kernel
theorem dX8_walk_90 : decode cX8_walk 90 = .ok (.getfield 28, 3) := by decide +kernel
theorem dX8_walk_93 : decode cX8_walk 93 = .ok (.getfield 77, 3) := by decide +kernel
theorem dX8_walk_96 : decode cX8_walk 96 = .ok (.istore 4, 2) := by decide +kernel
theorem dX8_walk_98 : decode cX8_walk 98 = .ok (.aload_n 0, 1) := by decide +kernel
theorem dX8_walk_99 : decode cX8_walk 99 = .ok (.getfield 21, 3) := by decide +kernel
theorem dX8_walk_102 : decode cX8_walk 102 = .ok (.getfield 84, 3) := by decide +kernel
theorem dX8_walk_105 : decode cX8_walk 105 = .ok (.istore 5, 2) := by decide +kernel
theorem dX8_walk_107 : decode cX8_walk 107 = .ok (.aload_n 0, 1) := by decide +kernel
theorem dX8_walk_108 : decode cX8_walk 108 = .ok (.getfield 28, 3) := by decide +kernel
theorem dX8_walk_111 : decode cX8_walk 111 = .ok (.aload_n 0, 1) := by decide +kernel
theorem dX8_walk_112 : decode cX8_walk 112 = .ok (.getfield 15, 3) := by decide +kernel
theorem dX8_walk_115 : decode cX8_walk 115 = .ok (.iload_n 1, 1) := by decide +kernel
theorem dX8_walk_116 : decode cX8_walk 116 = .ok (.iaload, 1) := by decide +kernel
theorem dX8_walk_117 : decode cX8_walk 117 = .ok (.invokevirtual 87, 3) := by decide +kernel
theorem dX8_walk_120 : decode cX8_walk 120 = .ok (.aload_n 0, 1) := by decide +kernel
theorem dX8_walk_121 : decode cX8_walk 121 = .ok (.getfield 21, 3) := by decide +kernel
theorem dX8_walk_124 : decode cX8_walk 124 = .ok (.aload_n 0, 1) := by decide +kernel
theorem dX8_walk_125 : decode cX8_walk 125 = .ok (.getfield 15, 3) := by decide +kernel
theorem dX8_walk_128 : decode cX8_walk 128 = .ok (.iload_n 1, 1) := by decide +kernel
theorem dX8_walk_129 : decode cX8_walk 129 = .ok (.iaload, 1) := by decide +kernel
theorem dX8_walk_130 : decode cX8_walk 130 = .ok (.iload_n 1, 1) := by decide +kernel
theorem dX8_walk_131 : decode cX8_walk 131 = .ok (.invokevirtual 91, 3) := by decide +kernel
theorem dX8_walk_134 : decode cX8_walk 134 = .ok (.aload_n 0, 1) := by decide +kernel
theorem dX8_walk_135 : decode cX8_walk 135 = .ok (.iload_n 1, 1) := by decide +kernel
theorem dX8_walk_136 : decode cX8_walk 136 = .ok (.iconst 1, 1) := by decide +kernel
theorem dX8_walk_137 : decode cX8_walk 137 = .ok (.iadd, 1) := by decide +kernel
theorem dX8_walk_138 : decode cX8_walk 138 = .ok (.iload_n 2, 1) := by decide +kernel
theorem dX8_walk_139 : decode cX8_walk 139 = .ok (.iconst 1, 1) := by decide +kernel
theorem dX8_walk_140 : decode cX8_walk 140 = .ok (.iadd, 1) := by decide +kernel
theorem dX8_walk_141 : decode cX8_walk 141 = .ok (.aload_n 0, 1) := by decide +kernel
theorem dX8_walk_142 : decode cX8_walk 142 = .ok (.getfield 42, 3) := by decide +kernel
theorem dX8_walk_145 : decode cX8_walk 145 = .ok (.ifCond .ne 14, 3) := by decide +kernel
theorem dX8_walk_148 : decode cX8_walk 148 = .ok (.aload_n 0, 1) := by decide +kernel
theorem dX8_walk_149 : decode cX8_walk 149 = .ok (.getfield 21, 3) := by decide +kernel
theorem dX8_walk_152 : decode cX8_walk 152 = .ok (.iload_n 3, 1) := by decide +kernel
theorem dX8_walk_153 : decode cX8_walk 153 = .ok (.invokevirtual 93, 3) := by decide +kernel
theorem dX8_walk_159 : decode cX8_walk 159 = .ok (.iload_n 3, 1) := by decide +kernel
theorem dX5_spread_0 : decode cX5_spread 0 = .ok (.iload_n 1, 1) := by decide +kernel
theorem dX5_spread_1 : decode cX5_spread 1 = .ok (.istore_n 2, 1) := by decide +kernel
theorem dX5_spread_2 : decode cX5_spread 2 = .ok (.iconst 0, 1) := by decide +kernel
theorem dX5_spread_3 : decode cX5_spread 3 = .ok (.istore_n 3, 1) := by decide +kernel
theorem dX5_spread_4 : decode cX5_spread 4 = .ok (.iload_n 3, 1) := by decide +kernel
theorem dX5_spread_5 : decode cX5_spread 5 = .ok (.bipush 20, 2) := by decide +kernel
theorem dX5_spread_7 : decode cX5_spread 7 = .ok (.if_icmp .gt 62, 3) := by decide +kernel
theorem dX5_spread_10 : decode cX5_spread 10 = .ok (.iload_n 2, 1) := by decide +kernel
theorem dX5_spread_11 : decode cX5_spread 11 = .ok (.istore 4, 2) := by decide +kernel
theorem dX5_spread_13 : decode cX5_spread 13 = .ok (.iconst 0, 1) := by decide +kernel
theorem dX5_spread_14 : decode cX5_spread 14 = .ok (.istore 5, 2) := by decide +kernel
theorem dX5_spread_16 : decode cX5_spread 16 = .ok (.iload 5, 2) := by decide +kernel
theorem dX5_spread_18 : decode cX5_spread 18 = .ok (.aload_n 0, 1) := by decide +kernel
theorem dX5_spread_19 : decode cX5_spread 19 = .ok (.getfield 25, 3) := by decide +kernel
theorem dX5_spread_22 : decode cX5_spread 22 = .ok (.if_icmp .ge 33, 3) := by decide +kernel
theorem dX5_spread_25 : decode cX5_spread 25 = .ok (.aload_n 0, 1) := by decide +kernel
theorem dX5_spread_26 : decode cX5_spread 26 = .ok (.iload 5, 2) := by decide +kernel
theorem dX5_spread_28 : decode cX5_spread 28 = .ok (.iload_n 2, 1) := by decide +kernel
theorem dX5_spread_29 : decode cX5_spread 29 = .ok (.invokevirtual 54, 3) := by decide +kernel
theorem dX5_spread_55 : decode cX5_spread 55 = .ok (.iload_n 2, 1) := by decide +kernel
theorem dX5_spread_56 : decode cX5_spread 56 = .ok (.iload 4, 2) := by decide +kernel
theorem dX5_spread_58 : decode cX5_spread 58 = .ok (.if_icmp .ne 5, 3) := by decide +kernel
theorem dX5_spread_61 : decode cX5_spread 61 = .ok (.iload_n 2, 1) := by decide +kernel
theorem dX5_spread_62 : decode cX5_spread 62 = .ok (.ireturn, 1) := by decide +kernel
theorem dX5_spread_63 : decode cX5_spread 63 = .ok (.iinc 3 1, 3) := by decide +kernel
theorem dX5_spread_66 : decode cX5_spread 66 = .ok (.goto (-62), 3) := by decide +kernel
theorem dX5_unknownOf_0 : decode cX5_unknownOf 0 = .ok (.aload_n 0, 1) := by decide +kernel
theorem dX5_unknownOf_1 : decode cX5_unknownOf 1 = .ok (.getfield 9, 3) := by decide +kernel
theorem dX5_unknownOf_4 : decode cX5_unknownOf 4 = .ok (.iload_n 1, 1) := by decide +kernel
theorem dX5_unknownOf_5 : decode cX5_unknownOf 5 = .ok (.iaload, 1) := by decide +kernel
theorem dX5_unknownOf_6 : decode cX5_unknownOf 6 = .ok (.ldc 53, 2) := by decide +kernel
theorem dX5_unknownOf_8 : decode cX5_unknownOf 8 = .ok (.iand, 1) := by decide +kernel
theorem dX5_unknownOf_9 : decode cX5_unknownOf 9 = .ok (.iload_n 2, 1) := by decide +kernel
theorem dX5_unknownOf_10 : decode cX5_unknownOf 10 = .ok (.iconst (-1), 1) := by decide +kernel
theorem dX5_unknownOf_11 : decode cX5_unknownOf 11 = .ok (.ixor, 1) := by decide +kernel
theorem dX5_unknownOf_12 : decode cX5_unknownOf 12 = .ok (.iand, 1) := by decide +kernel
theorem dX5_unknownOf_13 : decode cX5_unknownOf 13 = .ok (.ireturn, 1) := by decide +kernel
set_option maxHeartbeats 4000000 in
set_option maxRecDepth 100000 in
theorem s_X5_unknownOf {P : PP} {a0 : Nat} {a1 : Int32} {a2 : Int32} (I : IV P) (ha0 : At P a0 5) (ha1 : 0 ≤ a1.toInt ∧ a1.toInt ≤ 43) : CtrI yX5_unknownOf cX5_unknownOf 3 (some Jvm.ClassFile.FieldType.int) ({ frames := 1, cells := 0, slots := 0, locals := 64 } : Room) 0 0 P [.ref a0, .int a1, .int a2] (fun r P2 => P = P2 ∧ (True)) := by
  refine enI (lv := [(0, .ref a0), (1, .int a1), (2, .int a2)]) (by decide) (Nat.le_of_ble_eq_true rfl) rfl (fun E D cy C Ci0 ret => ?_)
  refine g_aload_n C dX5_unknownOf_0 rfl 0 rfl ?_
  obtain ⟨b8832, e8833, h8834⟩ := I.fld (ha0) 0 13 44 rfl
  refine g_getR C fi_X5_9 rfl e8833 (ha0).1 (ha0).2 dX5_unknownOf_1 ?_
  refine g_iload_n C dX5_unknownOf_4 rfl 1 rfl ?_
  refine g_iald (j := (a1.toInt.toNat)) C h8834.1 h8834.2.1 (ix_in h8834.2.2 (by omega)) dX5_unknownOf_5 ?_
  refine g_topi (fun z8835 _ => ?_)
  refine g_ldc (v := 1048575) C kc_X5_53 dX5_unknownOf_6 ?_
  refine s_iand C dX5_unknownOf_8 (by show 0 ≤ 1048575; omega) (fun z8836 h8837 => ?_)
  have h8837 : 0 ≤ z8836.toInt ∧ z8836.toInt ≤ 1048575 := h8837
  refine g_iload_n C dX5_unknownOf_9 rfl 2 rfl ?_
  refine g_iconst (v := (-1)) C dX5_unknownOf_10 (by decide) ?_
  refine a_ixor C dX5_unknownOf_11 (fun z8838 => ?_)
  refine a_iand C dX5_unknownOf_12 (fun z8840 => ?_)
  exact ret _ _ _ _ _ _ dX5_unknownOf_13 rfl (by decide) (by decide) ⟨rfl, trivial⟩
theorem dX5_spread_32 : decode cX5_spread 32 = .ok (.istore 6, 2) := by decide +kernel
theorem dX5_spread_34 : decode cX5_spread 34 = .ok (.iload 6, 2) := by decide +kernel
theorem dX5_spread_36 : decode cX5_spread 36 = .ok (.iload 6, 2) := by decide +kernel
theorem dX5_spread_38 : decode cX5_spread 38 = .ok (.iconst 1, 1) := by decide +kernel
theorem dX5_spread_39 : decode cX5_spread 39 = .ok (.isub, 1) := by decide +kernel
theorem dX5_spread_40 : decode cX5_spread 40 = .ok (.iand, 1) := by decide +kernel
theorem dX5_spread_41 : decode cX5_spread 41 = .ok (.ifCond .ne 8, 3) := by decide +kernel
theorem dX5_spread_44 : decode cX5_spread 44 = .ok (.iload_n 2, 1) := by decide +kernel
theorem dX5_spread_45 : decode cX5_spread 45 = .ok (.iload 6, 2) := by decide +kernel
theorem dX5_spread_47 : decode cX5_spread 47 = .ok (.ior, 1) := by decide +kernel
theorem dX5_spread_48 : decode cX5_spread 48 = .ok (.istore_n 2, 1) := by decide +kernel
theorem dX5_spread_49 : decode cX5_spread 49 = .ok (.iinc 5 1, 3) := by decide +kernel
theorem dX5_spread_52 : decode cX5_spread 52 = .ok (.goto (-36), 3) := by decide +kernel
theorem dX5_spread_69 : decode cX5_spread 69 = .ok (.iload_n 2, 1) := by decide +kernel
theorem dX5_spread_70 : decode cX5_spread 70 = .ok (.ireturn, 1) := by decide +kernel
set_option maxHeartbeats 4000000 in
set_option maxRecDepth 100000 in
theorem s_X5_spread {P : PP} {a0 : Nat} {a1 : Int32} (I : IV P) (ha0 : At P a0 5) : CtrI yX5_spread cX5_spread 7 (some Jvm.ClassFile.FieldType.int) ({ frames := 2, cells := 0, slots := 0, locals := 128 } : Room) 0 0 P [.ref a0, .int a1] (fun r P2 => P = P2 ∧ (True)) := by
  refine enI (lv := [(0, .ref a0), (1, .int a1)]) (by decide) (Nat.le_of_ble_eq_true rfl) rfl (fun E D cy C Ci0 ret => ?_)
  have J4 : ∀ (n4 : Nat) (v4_2 : Int32) (v4_3 : Int32), (21 - v4_3.toInt).toNat < n4 → (0 ≤ v4_3.toInt ∧ v4_3.toInt ≤ 21) → G E ({ frames := 2, cells := 0, slots := 0, locals := 128 } : Room) D cy 7 P 0 0 4 [(0, .ref a0), (2, .int v4_2), (3, .int v4_3)] [] := by
    intro n4
    induction n4 with
    | zero => intro v4_2 v4_3 hm4 hv4_3; omega
    | succ n4 ih4 =>
      intro v4_2 v4_3 hm4 hv4_3
      have J16 : ∀ (n16 : Nat) (v16_2 : Int32) (v16_5 : Int32), (44 - v16_5.toInt).toNat < n16 → (0 ≤ v4_3.toInt ∧ v4_3.toInt ≤ 20) → (0 ≤ v16_5.toInt ∧ v16_5.toInt ≤ 44) → G E ({ frames := 2, cells := 0, slots := 0, locals := 128 } : Room) D cy 7 P 0 0 16 [(0, .ref a0), (2, .int v16_2), (3, .int v4_3), (4, .int v4_2), (5, .int v16_5)] [] := by
        intro n16
        induction n16 with
        | zero => intro v16_2 v16_5 hm16 hv16_3 hv16_5; omega
        | succ n16 ih16 =>
          intro v16_2 v16_5 hm16 hv16_3 hv16_5
          have J49 : ∀ (v49_2 : Int32), (0 ≤ v4_3.toInt ∧ v4_3.toInt ≤ 20) → (0 ≤ v16_5.toInt ∧ v16_5.toInt ≤ 43) → (1 ≤ (pI P a0 4).toInt ∧ (pI P a0 4).toInt ≤ 44) → G E ({ frames := 2, cells := 0, slots := 0, locals := 128 } : Room) D cy 7 P 0 0 49 [(0, .ref a0), (2, .int v49_2), (3, .int v4_3), (4, .int v4_2), (5, .int v16_5)] [] := by
            intro v49_2 hv49_3 hv49_5 hq49_0
            refine s_iinc (lv0 := [(0, .ref a0), (2, .int v49_2), (3, .int v4_3), (4, .int v4_2)]) (m := 1) C dX5_spread_49 4 rfl (by decide) rfl (by decide) (by omega) (fun z9196 h9197 => ?_)
            have h9197 : z9196.toInt = v16_5.toInt + 1 := h9197
            refine g_goto C 16 dX5_spread_52 (by decide) ?_
            refine g_lv (lv' := [(0, .ref a0), (2, .int v49_2), (3, .int v4_3), (4, .int v4_2), (5, .int z9196)]) [1, 2, 3, 4, 0] rfl ?_
            exact ih16 v49_2 z9196 (by omega) (by omega) (by omega)
          refine g_iload C dX5_spread_16 4 rfl ?_
          refine g_aload_n C dX5_spread_18 rfl 0 rfl ?_
          refine g_getI C fi_X5_25 (by decide) (ha0).1 (ha0).2 dX5_spread_19 ?_
          have h9198 := I.rg (ha0) 4 rfl
          refine b_icmp_ge C 55 dX5_spread_22 (by decide) (fun h9199 => ?_) (fun h9199 => ?_)
          · have h9199 : (pI P a0 4).toInt ≤ v16_5.toInt := h9199
            refine g_iload_n C dX5_spread_55 rfl 1 rfl ?_
            refine g_iload C dX5_spread_56 3 rfl ?_
            have u9201 := ti_rng v16_2
            have u9202 := ti_rng v4_2
            refine b_icmp_ne C 63 dX5_spread_58 (by decide) (fun h9200 => ?_) (fun h9200 => ?_)
            · have h9200 : v16_2.toInt ≠ v4_2.toInt := ti_ne h9200
              refine s_iinc (lv0 := [(0, .ref a0), (2, .int v16_2), (4, .int v4_2), (5, .int v16_5)]) (m := 1) C dX5_spread_63 2 rfl (by decide) rfl (by decide) (by omega) (fun z9203 h9204 => ?_)
              have h9204 : z9203.toInt = v4_3.toInt + 1 := h9204
              refine g_goto C 4 dX5_spread_66 (by decide) ?_
              refine g_lv (lv' := [(0, .ref a0), (2, .int v16_2), (3, .int z9203)]) [1, 2, 0] rfl ?_
              exact ih4 v16_2 z9203 (by omega) (by omega)
            · have h9200 : v16_2.toInt = v4_2.toInt := congrArg Int32.toInt h9200
              refine g_iload_n C dX5_spread_61 rfl 1 rfl ?_
              exact ret _ _ _ _ _ _ dX5_spread_62 rfl (by decide) (by decide) ⟨rfl, trivial⟩
          · have h9199 : v16_5.toInt < (pI P a0 4).toInt := h9199
            refine g_aload_n C dX5_spread_25 rfl 0 rfl ?_
            refine g_iload C dX5_spread_26 4 rfl ?_
            refine g_iload_n C dX5_spread_28 rfl 1 rfl ?_
            refine g_callVI (rest := []) C mv_X5_54 [.int v16_5, .int v16_2] (s_X5_unknownOf I ha0 (by omega)) (ha0).1 (ha0).2 rfl rfl (by decide) (Nat.le_of_ble_eq_true rfl) (by decide) dX5_spread_29 (fun r9205 Y9206 h9207 => ?_)
            obtain ⟨rfl, h9207⟩ := h9207
            have h9207 : True := h9207
            refine g_istore (lv' := [(6, .int r9205), (0, .ref a0), (2, .int v16_2), (3, .int v4_3), (4, .int v4_2), (5, .int v16_5)]) C dX5_spread_32 (by decide) rfl ?_
            refine g_iload C dX5_spread_34 0 rfl ?_
            refine g_iload C dX5_spread_36 0 rfl ?_
            refine g_iconst (v := 1) C dX5_spread_38 (by decide) ?_
            refine a_isub C dX5_spread_39 (fun z9208 => ?_)
            refine a_iand C dX5_spread_40 (fun z9210 => ?_)
            have u9213 := ti_rng z9210
            refine b_if_ne C 49 dX5_spread_41 (by decide) (fun h9212 => ?_) (fun h9212 => ?_)
            · have h9212 : z9210.toInt ≠ 0 := ti_ne h9212
              refine g_lv (lv' := [(0, .ref a0), (2, .int v16_2), (3, .int v4_3), (4, .int v4_2), (5, .int v16_5)]) [1, 2, 3, 4, 5] rfl ?_
              exact J49 v16_2 (by omega) (by omega) (by omega)
            · have h9212 : z9210.toInt = 0 := congrArg Int32.toInt h9212
              refine g_iload_n C dX5_spread_44 rfl 2 rfl ?_
              refine g_iload C dX5_spread_45 0 rfl ?_
              refine a_ior C dX5_spread_47 (fun z9214 => ?_)
              refine g_istore_n (lv' := [(2, .int z9214), (6, .int r9205), (0, .ref a0), (3, .int v4_3), (4, .int v4_2), (5, .int v16_5)]) C dX5_spread_48 rfl (by decide) rfl ?_
              refine g_lv (lv' := [(0, .ref a0), (2, .int z9214), (3, .int v4_3), (4, .int v4_2), (5, .int v16_5)]) [2, 0, 3, 4, 5] rfl ?_
              exact J49 z9214 (by omega) (by omega) (by omega)
      refine g_iload_n C dX5_spread_4 rfl 2 rfl ?_
      refine g_bipush (v := 20) C dX5_spread_5 (by decide) ?_
      refine b_icmp_gt C 69 dX5_spread_7 (by decide) (fun h9216 => ?_) (fun h9216 => ?_)
      · have h9216 : 20 < v4_3.toInt := h9216
        refine g_iload_n C dX5_spread_69 rfl 1 rfl ?_
        exact ret _ _ _ _ _ _ dX5_spread_70 rfl (by decide) (by decide) ⟨rfl, trivial⟩
      · have h9216 : v4_3.toInt ≤ 20 := h9216
        refine g_iload_n C dX5_spread_10 rfl 1 rfl ?_
        refine g_istore (lv' := [(4, .int v4_2), (0, .ref a0), (2, .int v4_2), (3, .int v4_3)]) C dX5_spread_11 (by decide) rfl ?_
        refine g_iconst (v := 0) C dX5_spread_13 (by decide) ?_
        refine g_istore (lv' := [(5, .int 0), (4, .int v4_2), (0, .ref a0), (2, .int v4_2), (3, .int v4_3)]) C dX5_spread_14 (by decide) rfl ?_
        refine g_lv (lv' := [(0, .ref a0), (2, .int v4_2), (3, .int v4_3), (4, .int v4_2), (5, .int 0)]) [2, 3, 4, 1, 0] rfl ?_
        exact J16 _ v4_2 0 (Nat.lt_succ_self _) (by omega) (by decide)
  refine g_iload_n C dX5_spread_0 rfl 1 rfl ?_
  refine g_istore_n (lv' := [(2, .int a1), (0, .ref a0), (1, .int a1)]) C dX5_spread_1 rfl (by decide) rfl ?_
  refine g_iconst (v := 0) C dX5_spread_2 (by decide) ?_
  refine g_istore_n (lv' := [(3, .int 0), (2, .int a1), (0, .ref a0), (1, .int a1)]) C dX5_spread_3 rfl (by decide) rfl ?_
  refine g_lv (lv' := [(0, .ref a0), (2, .int a1), (3, .int 0)]) [2, 1, 0] rfl ?_
  exact J4 _ a1 0 (Nat.lt_succ_self _) (by decide)
theorem dX8_walk_156 : decode cX8_walk 156 = .ok (.goto 4, 3) := by decide +kernel
theorem dX8_walk_160 : decode cX8_walk 160 = .ok (.invokevirtual 73, 3) := by decide +kernel
theorem dX8_walk_163 : decode cX8_walk 163 = .ok (.aload_n 0, 1) := by decide +kernel
theorem dX8_walk_164 : decode cX8_walk 164 = .ok (.getfield 28, 3) := by decide +kernel
theorem dX8_walk_167 : decode cX8_walk 167 = .ok (.iload 4, 2) := by decide +kernel
theorem dX8_walk_169 : decode cX8_walk 169 = .ok (.invokevirtual 96, 3) := by decide +kernel
theorem dX8_walk_172 : decode cX8_walk 172 = .ok (.aload_n 0, 1) := by decide +kernel
theorem dX8_walk_173 : decode cX8_walk 173 = .ok (.getfield 21, 3) := by decide +kernel
theorem dX8_walk_176 : decode cX8_walk 176 = .ok (.iload 5, 2) := by decide +kernel
theorem dX8_walk_178 : decode cX8_walk 178 = .ok (.invokevirtual 99, 3) := by decide +kernel
theorem dX5_cut_0 : decode cX5_cut 0 = .ok (.aload_n 0, 1) := by decide +kernel
theorem dX5_cut_1 : decode cX5_cut 1 = .ok (.iload_n 1, 1) := by decide +kernel
theorem dX5_cut_2 : decode cX5_cut 2 = .ok (.ifCond .lt 15, 3) := by decide +kernel
theorem dX5_cut_5 : decode cX5_cut 5 = .ok (.iload_n 1, 1) := by decide +kernel
theorem dX5_cut_6 : decode cX5_cut 6 = .ok (.aload_n 0, 1) := by decide +kernel
theorem dX5_cut_7 : decode cX5_cut 7 = .ok (.getfield 25, 3) := by decide +kernel
theorem dX5_cut_10 : decode cX5_cut 10 = .ok (.if_icmp .ge 7, 3) := by decide +kernel
theorem dX5_cut_13 : decode cX5_cut 13 = .ok (.iload_n 1, 1) := by decide +kernel
theorem dX5_cut_14 : decode cX5_cut 14 = .ok (.goto 7, 3) := by decide +kernel
theorem dX5_cut_17 : decode cX5_cut 17 = .ok (.aload_n 0, 1) := by decide +kernel
theorem dX5_cut_18 : decode cX5_cut 18 = .ok (.getfield 25, 3) := by decide +kernel
theorem dX5_cut_21 : decode cX5_cut 21 = .ok (.putfield 25, 3) := by decide +kernel
theorem dX5_cut_24 : decode cX5_cut 24 = .ok (.return_, 1) := by decide +kernel
set_option maxHeartbeats 4000000 in
set_option maxRecDepth 100000 in
theorem s_X5_cut {P : PP} {a0 : Nat} {a1 : Int32} (I : IV P) (ha0 : At P a0 5) : CtrV yX5_cut cX5_cut 2 none ({ frames := 1, cells := 0, slots := 0, locals := 64 } : Room) 0 0 P [.ref a0, .int a1] (fun P2 => IV P2 ∧ EK [5] P P2) := by
  refine enV (lv := [(0, .ref a0), (1, .int a1)]) (by decide) (Nat.le_of_ble_eq_true rfl) rfl (fun E D cy C Ci0 ret => ?_)
  have J21 : ∀ (v21_s0 : Int32), (0 ≤ v21_s0.toInt ∧ v21_s0.toInt ≤ 44) → G E ({ frames := 1, cells := 0, slots := 0, locals := 64 } : Room) D cy 2 P 0 0 21 [] [.int v21_s0, .ref a0] := by
    intro v21_s0 hv21_s0
    refine g_putI C fi_X5_25 rfl (ha0).1 (ha0).2 dX5_cut_21 ?_
    refine gpW (ks := [5]) (I.setI (ha0) (rgOk.of rfl (by omega))) (EK.setI (ha0).2 (by decide)) (fun Y9354 Iy9355 Xy9356 w9357 w9358 => ?_)
    have Xz9359 : EK [5] P Y9354 := Xy9356.mono (by decide)
    have h9360 := Xy9356.at ha0
    exact ret _ _ _ _ _ dX5_cut_24 (by decide) (by decide) ⟨Iy9355, Xz9359⟩
  have J17 : G E ({ frames := 1, cells := 0, slots := 0, locals := 64 } : Room) D cy 2 P 0 0 17 [(0, .ref a0)] [.ref a0] := by
    refine g_aload_n C dX5_cut_17 rfl 0 rfl ?_
    refine g_getI C fi_X5_25 (by decide) (ha0).1 (ha0).2 dX5_cut_18 ?_
    have h9361 := I.rg (ha0) 4 rfl
    refine g_lv (lv' := []) [] rfl ?_
    exact J21 (pI P a0 4) (by omega)
  refine g_aload_n C dX5_cut_0 rfl 0 rfl ?_
  refine g_iload_n C dX5_cut_1 rfl 1 rfl ?_
  have u9363 := ti_rng a1
  refine b_if_lt C 17 dX5_cut_2 (by decide) (fun h9362 => ?_) (fun h9362 => ?_)
  · have h9362 : a1.toInt < 0 := h9362
    refine g_lv (lv' := [(0, .ref a0)]) [0] rfl ?_
    exact J17 
  · have h9362 : 0 ≤ a1.toInt := h9362
    refine g_iload_n C dX5_cut_5 rfl 1 rfl ?_
    refine g_aload_n C dX5_cut_6 rfl 0 rfl ?_
    refine g_getI C fi_X5_25 (by decide) (ha0).1 (ha0).2 dX5_cut_7 ?_
    have h9364 := I.rg (ha0) 4 rfl
    have u9366 := ti_rng a1
    refine b_icmp_ge C 17 dX5_cut_10 (by decide) (fun h9365 => ?_) (fun h9365 => ?_)
    · have h9365 : (pI P a0 4).toInt ≤ a1.toInt := h9365
      refine g_lv (lv' := [(0, .ref a0)]) [0] rfl ?_
      exact J17 
    · have h9365 : a1.toInt < (pI P a0 4).toInt := h9365
      refine g_iload_n C dX5_cut_13 rfl 1 rfl ?_
      refine g_goto C 21 dX5_cut_14 (by decide) ?_
      refine g_lv (lv' := []) [] rfl ?_
      exact J21 a1 (by omega)
