theorem dX12_findPeeled_56 : decode cX12_findPeeled 56 = .ok (.istore 4, 2) := by decide +kernel
theorem dX12_findPeeled_58 : decode cX12_findPeeled 58 = .ok (.iconst 0, 1) := by decide +kernel
theorem dX12_findPeeled_59 : decode cX12_findPeeled 59 = .ok (.istore 5, 2) := by decide +kernel
theorem dX12_findPeeled_61 : decode cX12_findPeeled 61 = .ok (.iload 5, 2) := by decide +kernel
theorem dX12_findPeeled_63 : decode cX12_findPeeled 63 = .ok (.bipush 20, 2) := by decide +kernel
theorem dX12_findPeeled_65 : decode cX12_findPeeled 65 = .ok (.if_icmp .ge 36, 3) := by decide +kernel
theorem dX12_findPeeled_68 : decode cX12_findPeeled 68 = .ok (.aload_n 0, 1) := by decide +kernel
theorem dX12_findPeeled_69 : decode cX12_findPeeled 69 = .ok (.getfield 103, 3) := by decide +kernel
theorem dX12_findPeeled_72 : decode cX12_findPeeled 72 = .ok (.iload 5, 2) := by decide +kernel
theorem dX12_findPeeled_74 : decode cX12_findPeeled 74 = .ok (.iload_n 3, 1) := by decide +kernel
theorem dX12_findPeeled_75 : decode cX12_findPeeled 75 = .ok (.iconst 1, 1) := by decide +kernel
theorem dX12_findPeeled_76 : decode cX12_findPeeled 76 = .ok (.iload 5, 2) := by decide +kernel
theorem dX12_findPeeled_78 : decode cX12_findPeeled 78 = .ok (.ishl, 1) := by decide +kernel
theorem dX12_findPeeled_79 : decode cX12_findPeeled 79 = .ok (.if_icmp .ne 8, 3) := by decide +kernel
theorem dX12_findPeeled_82 : decode cX12_findPeeled 82 = .ok (.iload 4, 2) := by decide +kernel
theorem dX12_findPeeled_84 : decode cX12_findPeeled 84 = .ok (.goto 10, 3) := by decide +kernel
theorem dX12_findPeeled_87 : decode cX12_findPeeled 87 = .ok (.aload_n 0, 1) := by decide +kernel
theorem dX12_findPeeled_88 : decode cX12_findPeeled 88 = .ok (.getfield 103, 3) := by decide +kernel
theorem dX12_findPeeled_91 : decode cX12_findPeeled 91 = .ok (.iload 5, 2) := by decide +kernel
theorem dX12_findPeeled_93 : decode cX12_findPeeled 93 = .ok (.iaload, 1) := by decide +kernel
theorem dX12_findPeeled_94 : decode cX12_findPeeled 94 = .ok (.iastore, 1) := by decide +kernel
theorem dX12_findPeeled_111 : decode cX12_findPeeled 111 = .ok (.iinc 2 1, 3) := by decide +kernel
theorem dX12_findPeeled_114 : decode cX12_findPeeled 114 = .ok (.goto (-99), 3) := by decide +kernel
theorem dX12_findPeeled_117 : decode cX12_findPeeled 117 = .ok (.goto (-110), 3) := by decide +kernel
theorem dX12_findPeeled_120 : decode cX12_findPeeled 120 = .ok (.return_, 1) := by decide +kernel
theorem dX12_choices_0 : decode cX12_choices 0 = .ok (.iconst 1, 1) := by decide +kernel
theorem dX12_choices_1 : decode cX12_choices 1 = .ok (.istore_n 2, 1) := by decide +kernel
theorem dX12_choices_2 : decode cX12_choices 2 = .ok (.iconst 0, 1) := by decide +kernel
theorem dX12_choices_3 : decode cX12_choices 3 = .ok (.istore_n 3, 1) := by decide +kernel
theorem dX12_choices_4 : decode cX12_choices 4 = .ok (.iload_n 3, 1) := by decide +kernel
theorem dX12_choices_5 : decode cX12_choices 5 = .ok (.iload_n 1, 1) := by decide +kernel
theorem dX12_choices_6 : decode cX12_choices 6 = .ok (.if_icmp .ge 19, 3) := by decide +kernel
theorem dX12_choices_9 : decode cX12_choices 9 = .ok (.iload_n 2, 1) := by decide +kernel
theorem dX12_choices_10 : decode cX12_choices 10 = .ok (.iload_n 0, 1) := by decide +kernel
theorem dX12_choices_11 : decode cX12_choices 11 = .ok (.iload_n 3, 1) := by decide +kernel
theorem dX12_choices_12 : decode cX12_choices 12 = .ok (.isub, 1) := by decide +kernel
theorem dX12_choices_13 : decode cX12_choices 13 = .ok (.imul, 1) := by decide +kernel
theorem dX12_choices_14 : decode cX12_choices 14 = .ok (.iload_n 3, 1) := by decide +kernel
theorem dX12_choices_15 : decode cX12_choices 15 = .ok (.iconst 1, 1) := by decide +kernel
theorem dX12_choices_16 : decode cX12_choices 16 = .ok (.iadd, 1) := by decide +kernel
theorem dX12_choices_17 : decode cX12_choices 17 = .ok (.idiv, 1) := by decide +kernel
theorem dX12_choices_18 : decode cX12_choices 18 = .ok (.istore_n 2, 1) := by decide +kernel
theorem dX12_choices_19 : decode cX12_choices 19 = .ok (.iinc 3 1, 3) := by decide +kernel
theorem dX12_choices_22 : decode cX12_choices 22 = .ok (.goto (-18), 3) := by decide +kernel
theorem dX12_choices_25 : decode cX12_choices 25 = .ok (.iload_n 2, 1) := by decide +kernel
theorem dX12_choices_26 : decode cX12_choices 26 = .ok (.ireturn, 1) := by decide +kernel
set_option maxHeartbeats 4000000 in
set_option maxRecDepth 100000 in
theorem s_X12_choices {P : PP} {a0 : Int32} {a1 : Int32} (I : IV P) (ha0 : 0 ≤ a0.toInt ∧ a0.toInt ≤ 11) (ha1 : 0 ≤ a1.toInt ∧ a1.toInt ≤ 11) : CtrI yX12_choices cX12_choices 4 (some Jvm.ClassFile.FieldType.int) ({ frames := 1, cells := 0, slots := 0, locals := 64 } : Room) 0 0 P [.int a0, .int a1] (fun r P2 => P = P2 ∧ (True)) := by
  refine enI (lv := [(0, .int a0), (1, .int a1)]) (by decide) (Nat.le_of_ble_eq_true rfl) rfl (fun E D cy C Ci0 ret => ?_)
  have J4 : ∀ (n4 : Nat) (v4_2 : Int32) (v4_3 : Int32), (11 - v4_3.toInt).toNat < n4 → (0 ≤ v4_3.toInt ∧ v4_3.toInt ≤ 11) → G E ({ frames := 1, cells := 0, slots := 0, locals := 64 } : Room) D cy 4 P 0 0 4 [(0, .int a0), (1, .int a1), (2, .int v4_2), (3, .int v4_3)] [] := by
    intro n4
    induction n4 with
    | zero => intro v4_2 v4_3 hm4 hv4_3; omega
    | succ n4 ih4 =>
      intro v4_2 v4_3 hm4 hv4_3
      refine g_iload_n C dX12_choices_4 rfl 3 rfl ?_
      refine g_iload_n C dX12_choices_5 rfl 1 rfl ?_
      refine b_icmp_ge C 25 dX12_choices_6 (by decide) (fun h12857 => ?_) (fun h12857 => ?_)
      · have h12857 : a1.toInt ≤ v4_3.toInt := h12857
        refine g_iload_n C dX12_choices_25 rfl 2 rfl ?_
        exact ret _ _ _ _ _ _ dX12_choices_26 rfl (by decide) (by decide) ⟨rfl, trivial⟩
      · have h12857 : v4_3.toInt < a1.toInt := h12857
        refine g_iload_n C dX12_choices_9 rfl 2 rfl ?_
        refine g_iload_n C dX12_choices_10 rfl 0 rfl ?_
        refine g_iload_n C dX12_choices_11 rfl 3 rfl ?_
        refine s_isub C dX12_choices_12 (by show -2147483648 ≤ a0.toInt - v4_3.toInt ∧ a0.toInt - v4_3.toInt ≤ 2147483647; omega) (fun z12858 h12859 => ?_)
        have h12859 : z12858.toInt = a0.toInt - v4_3.toInt := h12859
        refine a_imul C dX12_choices_13 (fun z12860 => ?_)
        refine g_iload_n C dX12_choices_14 rfl 3 rfl ?_
        refine g_iconst (v := 1) C dX12_choices_15 (by decide) ?_
        refine s_iadd C dX12_choices_16 (by show -2147483648 ≤ v4_3.toInt + 1 ∧ v4_3.toInt + 1 ≤ 2147483647; omega) (fun z12862 h12863 => ?_)
        have h12863 : z12862.toInt = v4_3.toInt + 1 := h12863
        refine a_idiv C dX12_choices_17 (by show z12862.toInt ≠ 0; omega) (fun z12864 => ?_)
        refine g_istore_n (lv' := [(2, .int z12864), (0, .int a0), (1, .int a1), (3, .int v4_3)]) C dX12_choices_18 rfl (by decide) rfl ?_
        refine s_iinc (lv0 := [(2, .int z12864), (0, .int a0), (1, .int a1)]) (m := 1) C dX12_choices_19 3 rfl (by decide) rfl (by decide) (by omega) (fun z12866 h12867 => ?_)
        have h12867 : z12866.toInt = v4_3.toInt + 1 := h12867
        refine g_goto C 4 dX12_choices_22 (by decide) ?_
        refine g_lv (lv' := [(0, .int a0), (1, .int a1), (2, .int z12864), (3, .int z12866)]) [2, 3, 1, 0] rfl ?_
        exact ih4 z12864 z12866 (by omega) (by omega)
  refine g_iconst (v := 1) C dX12_choices_0 (by decide) ?_
  refine g_istore_n (lv' := [(2, .int 1), (0, .int a0), (1, .int a1)]) C dX12_choices_1 rfl (by decide) rfl ?_
  refine g_iconst (v := 0) C dX12_choices_2 (by decide) ?_
  refine g_istore_n (lv' := [(3, .int 0), (2, .int 1), (0, .int a0), (1, .int a1)]) C dX12_choices_3 rfl (by decide) rfl ?_
  refine g_lv (lv' := [(0, .int a0), (1, .int a1), (2, .int 1), (3, .int 0)]) [2, 3, 1, 0] rfl ?_
  exact J4 _ 1 0 (Nat.lt_succ_self _) (by decide)
theorem dX12_comes_0 : decode cX12_comes 0 = .ok (.aload_n 0, 1) := by decide +kernel
theorem dX12_comes_1 : decode cX12_comes 1 = .ok (.iconst 0, 1) := by decide +kernel
theorem dX12_comes_2 : decode cX12_comes 2 = .ok (.putfield 1, 3) := by decide +kernel
theorem dX12_comes_5 : decode cX12_comes 5 = .ok (.iload_n 1, 1) := by decide +kernel
theorem dX12_comes_6 : decode cX12_comes 6 = .ok (.invokestatic 278, 3) := by decide +kernel
theorem dX12_comes_9 : decode cX12_comes 9 = .ok (.ifCond .eq 39, 3) := by decide +kernel
theorem dX12_comes_12 : decode cX12_comes 12 = .ok (.aload_n 0, 1) := by decide +kernel
theorem dX12_comes_13 : decode cX12_comes 13 = .ok (.iload_n 2, 1) := by decide +kernel
theorem dX12_comes_14 : decode cX12_comes 14 = .ok (.invokevirtual 192, 3) := by decide +kernel
theorem dX12_comes_17 : decode cX12_comes 17 = .ok (.ifCond .eq 31, 3) := by decide +kernel
theorem dX12_comes_20 : decode cX12_comes 20 = .ok (.iload_n 3, 1) := by decide +kernel
theorem dX12_comes_21 : decode cX12_comes 21 = .ok (.invokestatic 258, 3) := by decide +kernel
theorem dX12_isNumber_0 : decode cX12_isNumber 0 = .ok (.iload_n 0, 1) := by decide +kernel
theorem dX12_isNumber_1 : decode cX12_isNumber 1 = .ok (.iconst 0, 1) := by decide +kernel
theorem dX12_isNumber_2 : decode cX12_isNumber 2 = .ok (.sipush 9999, 3) := by decide +kernel
theorem dX12_isNumber_5 : decode cX12_isNumber 5 = .ok (.invokestatic 178, 3) := by decide +kernel
theorem dX12_isNumber_8 : decode cX12_isNumber 8 = .ok (.ireturn, 1) := by decide +kernel
set_option maxHeartbeats 4000000 in
set_option maxRecDepth 100000 in
theorem s_X12_isNumber {P : PP} {a0 : Int32} (I : IV P) : CtrI yX12_isNumber cX12_isNumber 1 (some Jvm.ClassFile.FieldType.boolean) ({ frames := 2, cells := 0, slots := 0, locals := 128 } : Room) 0 0 P [.int a0] (fun r P2 => P = P2 ∧ (0 ≤ r.toInt ∧ r.toInt ≤ 1) ∧ (r.toInt = 0 ∨ (((0 : Int) ≤ a0.toInt ∧ a0.toInt ≤ (9999 : Int))))) := by
  refine enI (lv := [(0, .int a0)]) (by decide) (Nat.le_of_ble_eq_true rfl) rfl (fun E D cy C Ci0 ret => ?_)
  refine g_iload_n C dX12_isNumber_0 rfl 0 rfl ?_
  refine g_iconst (v := 0) C dX12_isNumber_1 (by decide) ?_
  refine g_sipush (v := 9999) C dX12_isNumber_2 (by decide) ?_
  refine g_callSI (b := 0) (ci := 0) (rest := []) C ms_X12_178 [.int a0, .int 0, .int 9999] (s_X12_within I) rfl rfl (by decide) (Nat.le_of_ble_eq_true rfl) (by decide) dX12_isNumber_5 (fun r12888 Y12889 h12890 => ?_)
  obtain ⟨rfl, h12890⟩ := h12890
  obtain ⟨h12890, hi12891⟩ := h12890
  have hi12891 : r12888.toInt = 0 ∨ (0 ≤ a0.toInt ∧ a0.toInt ≤ 9999) := hi12891
  have h12890 : 0 ≤ r12888.toInt ∧ r12888.toInt ≤ 1 := h12890
  exact ret _ _ _ _ _ _ dX12_isNumber_8 (nar_b (b01 (by omega))) (by decide) (by decide) ⟨rfl, (by omega), hi12891.imp id (fun h9 => by omega)⟩
theorem dX12_comes_24 : decode cX12_comes 24 = .ok (.ifCond .eq 24, 3) := by decide +kernel
theorem dX12_comes_27 : decode cX12_comes 27 = .ok (.iload 4, 2) := by decide +kernel
theorem dX12_comes_29 : decode cX12_comes 29 = .ok (.iconst 1, 1) := by decide +kernel
theorem dX12_comes_30 : decode cX12_comes 30 = .ok (.iconst 3, 1) := by decide +kernel
theorem dX12_comes_31 : decode cX12_comes 31 = .ok (.invokestatic 178, 3) := by decide +kernel
theorem dX12_comes_34 : decode cX12_comes 34 = .ok (.ifCond .eq 14, 3) := by decide +kernel
theorem dX12_comes_37 : decode cX12_comes 37 = .ok (.aload_n 0, 1) := by decide +kernel
theorem dX12_comes_38 : decode cX12_comes 38 = .ok (.getfield 69, 3) := by decide +kernel
theorem dX12_comes_41 : decode cX12_comes 41 = .ok (.iload_n 1, 1) := by decide +kernel
theorem dX12_comes_42 : decode cX12_comes 42 = .ok (.iaload, 1) := by decide +kernel
theorem dX12_comes_43 : decode cX12_comes 43 = .ok (.bipush 40, 2) := by decide +kernel
theorem dX12_comes_45 : decode cX12_comes 45 = .ok (.if_icmp .ne 5, 3) := by decide +kernel
theorem dX12_comes_50 : decode cX12_comes 50 = .ok (.aload_n 0, 1) := by decide +kernel
theorem dX12_comes_51 : decode cX12_comes 51 = .ok (.iload_n 2, 1) := by decide +kernel
theorem dX12_comes_52 : decode cX12_comes 52 = .ok (.aload_n 0, 1) := by decide +kernel
theorem dX12_comes_53 : decode cX12_comes 53 = .ok (.iload_n 2, 1) := by decide +kernel
theorem dX12_comes_54 : decode cX12_comes 54 = .ok (.iload_n 3, 1) := by decide +kernel
theorem dX12_comes_55 : decode cX12_comes 55 = .ok (.invokevirtual 261, 3) := by decide +kernel
theorem dX12_common_0 : decode cX12_common 0 = .ok (.lload_n 0, 1) := by decide +kernel
theorem dX12_common_1 : decode cX12_common 1 = .ok (.lstore 4, 2) := by decide +kernel
theorem dX12_common_3 : decode cX12_common 3 = .ok (.lload_n 2, 1) := by decide +kernel
theorem dX12_common_4 : decode cX12_common 4 = .ok (.lstore 6, 2) := by decide +kernel
theorem dX12_common_6 : decode cX12_common 6 = .ok (.lload 6, 2) := by decide +kernel
theorem dX12_common_8 : decode cX12_common 8 = .ok (.lconst 0, 1) := by decide +kernel
theorem dX12_common_9 : decode cX12_common 9 = .ok (.lcmp, 1) := by decide +kernel
theorem dX12_common_10 : decode cX12_common 10 = .ok (.ifCond .eq 21, 3) := by decide +kernel
theorem dX12_common_13 : decode cX12_common 13 = .ok (.lload 4, 2) := by decide +kernel
theorem dX12_common_15 : decode cX12_common 15 = .ok (.lload 6, 2) := by decide +kernel
theorem dX12_common_17 : decode cX12_common 17 = .ok (.lrem, 1) := by decide +kernel
theorem dX12_common_18 : decode cX12_common 18 = .ok (.lstore 8, 2) := by decide +kernel
theorem dX12_common_20 : decode cX12_common 20 = .ok (.lload 6, 2) := by decide +kernel
theorem dX12_common_22 : decode cX12_common 22 = .ok (.lstore 4, 2) := by decide +kernel
theorem dX12_common_24 : decode cX12_common 24 = .ok (.lload 8, 2) := by decide +kernel
theorem dX12_common_26 : decode cX12_common 26 = .ok (.lstore 6, 2) := by decide +kernel
theorem dX12_common_28 : decode cX12_common 28 = .ok (.goto (-22), 3) := by decide +kernel
theorem dX12_common_31 : decode cX12_common 31 = .ok (.lload 4, 2) := by decide +kernel
theorem dX12_common_33 : decode cX12_common 33 = .ok (.lreturn, 1) := by decide +kernel
theorem dX12_copies_0 : decode cX12_copies 0 = .ok (.aload_n 0, 1) := by decide +kernel
theorem dX12_copies_1 : decode cX12_copies 1 = .ok (.getfield 69, 3) := by decide +kernel
theorem dX12_copies_4 : decode cX12_copies 4 = .ok (.iload_n 2, 1) := by decide +kernel
theorem dX12_copies_5 : decode cX12_copies 5 = .ok (.aload_n 0, 1) := by decide +kernel
theorem dX12_copies_6 : decode cX12_copies 6 = .ok (.getfield 69, 3) := by decide +kernel
theorem dX12_copies_9 : decode cX12_copies 9 = .ok (.iload_n 1, 1) := by decide +kernel
theorem dX12_copies_10 : decode cX12_copies 10 = .ok (.iaload, 1) := by decide +kernel
theorem dX12_copies_11 : decode cX12_copies 11 = .ok (.iastore, 1) := by decide +kernel
theorem dX12_copies_12 : decode cX12_copies 12 = .ok (.iconst 0, 1) := by decide +kernel
theorem dX12_copies_13 : decode cX12_copies 13 = .ok (.istore_n 3, 1) := by decide +kernel
theorem dX12_copies_14 : decode cX12_copies 14 = .ok (.iload_n 3, 1) := by decide +kernel
theorem dX12_copies_15 : decode cX12_copies 15 = .ok (.aload_n 0, 1) := by decide +kernel
theorem dX12_copies_16 : decode cX12_copies 16 = .ok (.getfield 69, 3) := by decide +kernel
theorem dX12_copies_19 : decode cX12_copies 19 = .ok (.iload_n 1, 1) := by decide +kernel
theorem dX12_copies_20 : decode cX12_copies 20 = .ok (.iaload, 1) := by decide +kernel
theorem dX12_copies_21 : decode cX12_copies 21 = .ok (.if_icmp .ge 25, 3) := by decide +kernel
theorem dX12_copies_24 : decode cX12_copies 24 = .ok (.aload_n 0, 1) := by decide +kernel
theorem dX12_copies_25 : decode cX12_copies 25 = .ok (.bipush 40, 2) := by decide +kernel
theorem dX12_copies_27 : decode cX12_copies 27 = .ok (.iload_n 1, 1) := by decide +kernel
theorem dX12_copies_28 : decode cX12_copies 28 = .ok (.imul, 1) := by decide +kernel
theorem dX12_copies_29 : decode cX12_copies 29 = .ok (.iload_n 3, 1) := by decide +kernel
theorem dX12_copies_30 : decode cX12_copies 30 = .ok (.iadd, 1) := by decide +kernel
theorem dX12_copies_31 : decode cX12_copies 31 = .ok (.bipush 40, 2) := by decide +kernel
theorem dX12_copies_33 : decode cX12_copies 33 = .ok (.iload_n 2, 1) := by decide +kernel
theorem dX12_copies_34 : decode cX12_copies 34 = .ok (.imul, 1) := by decide +kernel
theorem dX12_copies_35 : decode cX12_copies 35 = .ok (.iload_n 3, 1) := by decide +kernel
theorem dX12_copies_36 : decode cX12_copies 36 = .ok (.iadd, 1) := by decide +kernel
theorem dX12_copies_37 : decode cX12_copies 37 = .ok (.invokevirtual 274, 3) := by decide +kernel
theorem dX12_copies_40 : decode cX12_copies 40 = .ok (.iinc 3 1, 3) := by decide +kernel
theorem dX12_copies_43 : decode cX12_copies 43 = .ok (.goto (-29), 3) := by decide +kernel
theorem dX12_copies_46 : decode cX12_copies 46 = .ok (.return_, 1) := by decide +kernel
set_option maxHeartbeats 4000000 in
set_option maxRecDepth 100000 in
theorem s_X12_copies {P : PP} {a0 : Nat} {a1 : Int32} {a2 : Int32} (I : IM P a0) (ha1 : 0 ≤ a1.toInt ∧ a1.toInt ≤ 19) (ha2 : 0 ≤ a2.toInt ∧ a2.toInt ≤ 19) : CtrV yX12_copies cX12_copies 4 none ({ frames := 2, cells := 0, slots := 0, locals := 128 } : Room) 0 0 P [.ref a0, .int a1, .int a2] (fun P2 => IM P2 a0 ∧ EM [20, 21, 22, 23, 24, 25] a0 P P2) := by
  refine enV (lv := [(0, .ref a0), (1, .int a1), (2, .int a2)]) (by decide) (Nat.le_of_ble_eq_true rfl) rfl (fun E D cy C Ci0 ret => ?_)
  have ha0 := I.2.1
  have J14 : ∀ (n14 : Nat) (P14 : PP) (v14_3 : Int32), (40 - v14_3.toInt).toNat < n14 → (IM P14 a0) → (EM [20, 21, 22, 23, 24, 25] a0 P P14) → (0 ≤ v14_3.toInt ∧ v14_3.toInt ≤ 40) → G E ({ frames := 2, cells := 0, slots := 0, locals := 128 } : Room) D cy 4 P14 0 0 14 [(0, .ref a0), (1, .int a1), (2, .int a2), (3, .int v14_3)] [] := by
    intro n14
    induction n14 with
    | zero => intro P14 v14_3 hm14 I14 X14 hv14_3; omega
    | succ n14 ih14 =>
      intro P14 v14_3 hm14 I14 X14 hv14_3
      have h13330 := X14.at ha0
      refine g_iload_n C dX12_copies_14 rfl 3 rfl ?_
      refine g_aload_n C dX12_copies_15 rfl 0 rfl ?_
      obtain ⟨b13331, e13332, h13333⟩ := I14.fld (h13330) 20 13 20 rfl
      refine g_getR C fi_X12_69 rfl e13332 (h13330).1 (h13330).2 dX12_copies_16 ?_
      refine g_iload_n C dX12_copies_19 rfl 1 rfl ?_
      refine g_iald (j := (a1.toInt.toNat)) C h13333.1 h13333.2.1 (ix_in h13333.2.2 (by omega)) dX12_copies_20 ?_
      have h13334 := I14.arr e13332 rfl (a1.toInt.toNat)
      refine b_icmp_ge C 46 dX12_copies_21 (by decide) (fun h13335 => ?_) (fun h13335 => ?_)
      · have h13335 : (pI P14 b13331 (a1.toInt.toNat)).toInt ≤ v14_3.toInt := h13335
        exact ret _ _ _ _ _ dX12_copies_46 (by decide) (by decide) ⟨I14, X14⟩
      · have h13335 : v14_3.toInt < (pI P14 b13331 (a1.toInt.toNat)).toInt := h13335
        refine g_aload_n C dX12_copies_24 rfl 0 rfl ?_
        refine g_bipush (v := 40) C dX12_copies_25 (by decide) ?_
        refine g_iload_n C dX12_copies_27 rfl 1 rfl ?_
        refine s_imul C dX12_copies_28 (by show -2147483648 ≤ 40 * a1.toInt ∧ 40 * a1.toInt ≤ 2147483647; omega) (fun z13336 h13337 => ?_)
        have h13337 : z13336.toInt = 40 * a1.toInt := h13337
        refine g_iload_n C dX12_copies_29 rfl 3 rfl ?_
        refine s_iadd C dX12_copies_30 (by show -2147483648 ≤ z13336.toInt + v14_3.toInt ∧ z13336.toInt + v14_3.toInt ≤ 2147483647; omega) (fun z13338 h13339 => ?_)
        have h13339 : z13338.toInt = z13336.toInt + v14_3.toInt := h13339
        refine g_bipush (v := 40) C dX12_copies_31 (by decide) ?_
        refine g_iload_n C dX12_copies_33 rfl 2 rfl ?_
        refine s_imul C dX12_copies_34 (by show -2147483648 ≤ 40 * a2.toInt ∧ 40 * a2.toInt ≤ 2147483647; omega) (fun z13340 h13341 => ?_)
        have h13341 : z13340.toInt = 40 * a2.toInt := h13341
        refine g_iload_n C dX12_copies_35 rfl 3 rfl ?_
        refine s_iadd C dX12_copies_36 (by show -2147483648 ≤ z13340.toInt + v14_3.toInt ∧ z13340.toInt + v14_3.toInt ≤ 2147483647; omega) (fun z13342 h13343 => ?_)
        have h13343 : z13342.toInt = z13340.toInt + v14_3.toInt := h13343
        refine g_callVV (rest := []) C mv_X12_274 [.int z13338, .int z13342] (s_X12_moves I14 (by omega) (by omega)) (h13330).1 (h13330).2 rfl rfl (by decide) (Nat.le_of_ble_eq_true rfl) (by decide) dX12_copies_37 (fun Y13345 h13346 => ?_)
        obtain ⟨Iy13347, Xy13348⟩ := h13346
        have q13349 := Xy13348.keepA e13332 (by decide) rfl (a1.toInt.toNat)
        have Xz13350 : EM [20, 21, 22, 23, 24, 25] a0 P Y13345 := EM.tr ha0 X14 (Xy13348.mono (by decide))
        have e13351 := Xy13348.ref h13330 (by decide) e13332
        have h13352 := Xy13348.at h13330
        have h13353 := Xy13348.ar h13333
        refine s_iinc (lv0 := [(0, .ref a0), (1, .int a1), (2, .int a2)]) (m := 1) C dX12_copies_40 3 rfl (by decide) rfl (by decide) (by omega) (fun z13354 h13355 => ?_)
        have h13355 : z13354.toInt = v14_3.toInt + 1 := h13355
        refine g_goto C 14 dX12_copies_43 (by decide) ?_
        refine g_lv (lv' := [(0, .ref a0), (1, .int a1), (2, .int a2), (3, .int z13354)]) [1, 2, 3, 0] rfl ?_
        exact ih14 Y13345 z13354 (by omega) Iy13347 Xz13350 (by omega)
  refine g_aload_n C dX12_copies_0 rfl 0 rfl ?_
  obtain ⟨b13356, e13357, h13358⟩ := I.fld (ha0) 20 13 20 rfl
  refine g_getR C fi_X12_69 rfl e13357 (ha0).1 (ha0).2 dX12_copies_1 ?_
  refine g_iload_n C dX12_copies_4 rfl 2 rfl ?_
  refine g_aload_n C dX12_copies_5 rfl 0 rfl ?_
  refine g_getR C fi_X12_69 rfl e13357 (ha0).1 (ha0).2 dX12_copies_6 ?_
  refine g_iload_n C dX12_copies_9 rfl 1 rfl ?_
  refine g_iald (j := (a1.toInt.toNat)) C h13358.1 h13358.2.1 (ix_in h13358.2.2 (by omega)) dX12_copies_10 ?_
  have h13359 := I.arr e13357 rfl (a1.toInt.toNat)
  refine g_iast (j := (a2.toInt.toNat)) C h13358.1 h13358.2.1 (ix_in h13358.2.2 (by omega)) dX12_copies_11 ?_
  refine gqW (ks := [20]) (I.setA e13357 h13358 (by decide) (arOk.of rfl (by omega))) (EM.setA I e13357 rfl (by decide)) (fun Y13360 Iy13361 Xy13362 w13363 => ?_)
  have w13363 : (pI Y13360 b13356 (a2.toInt.toNat)).toInt = (pI P b13356 (a1.toInt.toNat)).toInt := w13363
  have Xz13364 : EM [20, 21, 22, 23, 24, 25] a0 P Y13360 := Xy13362.mono (by decide)
  have e13365 := Xy13362.ref ha0 (by decide) e13357
  have h13366 := Xy13362.at ha0
  have h13367 := Xy13362.ar h13358
  refine g_iconst (v := 0) C dX12_copies_12 (by decide) ?_
  refine g_istore_n (lv' := [(3, .int 0), (0, .ref a0), (1, .int a1), (2, .int a2)]) C dX12_copies_13 rfl (by decide) rfl ?_
  refine g_lv (lv' := [(0, .ref a0), (1, .int a1), (2, .int a2), (3, .int 0)]) [1, 2, 3, 0] rfl ?_
  exact J14 _ Y13360 0 (Nat.lt_succ_self _) Iy13361 Xz13364 (by decide)
theorem dX12_count_0 : decode cX12_count 0 = .ok (.aload_n 0, 1) := by decide +kernel
theorem dX12_count_1 : decode cX12_count 1 = .ok (.iconst 0, 1) := by decide +kernel
theorem dX12_count_2 : decode cX12_count 2 = .ok (.putfield 1, 3) := by decide +kernel
theorem dX12_count_5 : decode cX12_count 5 = .ok (.iload_n 1, 1) := by decide +kernel
theorem dX12_count_6 : decode cX12_count 6 = .ok (.iconst 0, 1) := by decide +kernel
theorem dX12_count_7 : decode cX12_count 7 = .ok (.iconst 3, 1) := by decide +kernel
theorem dX12_count_8 : decode cX12_count 8 = .ok (.invokestatic 178, 3) := by decide +kernel
theorem dX12_count_11 : decode cX12_count 11 = .ok (.ifCond .eq 10, 3) := by decide +kernel
theorem dX12_count_14 : decode cX12_count 14 = .ok (.aload_n 0, 1) := by decide +kernel
theorem dX12_count_15 : decode cX12_count 15 = .ok (.getfield 69, 3) := by decide +kernel
theorem dX12_count_18 : decode cX12_count 18 = .ok (.iload_n 1, 1) := by decide +kernel
theorem dX12_count_19 : decode cX12_count 19 = .ok (.iaload, 1) := by decide +kernel
theorem dX12_count_20 : decode cX12_count 20 = .ok (.ireturn, 1) := by decide +kernel
theorem dX12_count_21 : decode cX12_count 21 = .ok (.iload_n 1, 1) := by decide +kernel
theorem dX12_count_22 : decode cX12_count 22 = .ok (.tableswitch 61 4 8 #[34, 40, 46, 51, 56], 34) := by decide +kernel
theorem dX12_count_56 : decode cX12_count 56 = .ok (.aload_n 0, 1) := by decide +kernel
theorem dX12_count_57 : decode cX12_count 57 = .ok (.iconst 0, 1) := by decide +kernel
theorem dX12_count_58 : decode cX12_count 58 = .ok (.invokevirtual 238, 3) := by decide +kernel
theorem dX12_count_61 : decode cX12_count 61 = .ok (.ireturn, 1) := by decide +kernel
theorem dX12_count_62 : decode cX12_count 62 = .ok (.aload_n 0, 1) := by decide +kernel
theorem dX12_count_63 : decode cX12_count 63 = .ok (.iconst 1, 1) := by decide +kernel
theorem dX12_count_64 : decode cX12_count 64 = .ok (.invokevirtual 238, 3) := by decide +kernel
theorem dX12_count_67 : decode cX12_count 67 = .ok (.ireturn, 1) := by decide +kernel
theorem dX12_count_68 : decode cX12_count 68 = .ok (.aload_n 0, 1) := by decide +kernel
theorem dX12_count_69 : decode cX12_count 69 = .ok (.getfield 11, 3) := by decide +kernel
theorem dX12_count_72 : decode cX12_count 72 = .ok (.ireturn, 1) := by decide +kernel
theorem dX12_count_73 : decode cX12_count 73 = .ok (.aload_n 0, 1) := by decide +kernel
theorem dX12_count_74 : decode cX12_count 74 = .ok (.getfield 288, 3) := by decide +kernel
theorem dX12_count_77 : decode cX12_count 77 = .ok (.ireturn, 1) := by decide +kernel
theorem dX12_count_78 : decode cX12_count 78 = .ok (.aload_n 0, 1) := by decide +kernel
theorem dX12_count_79 : decode cX12_count 79 = .ok (.invokevirtual 411, 3) := by decide +kernel
theorem dX12_count_82 : decode cX12_count 82 = .ok (.ireturn, 1) := by decide +kernel
theorem dX12_count_83 : decode cX12_count 83 = .ok (.iconst (-1), 1) := by decide +kernel
theorem dX12_count_84 : decode cX12_count 84 = .ok (.ireturn, 1) := by decide +kernel
set_option maxHeartbeats 4000000 in
set_option maxRecDepth 100000 in
theorem s_X12_count {P : PP} {a0 : Nat} {a1 : Int32} (I : IM P a0) : CtrI yX12_count cX12_count 2 (some Jvm.ClassFile.FieldType.int) ({ frames := 2, cells := 0, slots := 0, locals := 128 } : Room) 0 0 P [.ref a0, .int a1] (fun r P2 => IM P2 a0 ∧ EM [0] a0 P P2 ∧ (True)) := by
  refine enI (lv := [(0, .ref a0), (1, .int a1)]) (by decide) (Nat.le_of_ble_eq_true rfl) rfl (fun E D cy C Ci0 ret => ?_)
  have ha0 := I.2.1
  refine g_aload_n C dX12_count_0 rfl 0 rfl ?_
  refine g_iconst (v := 0) C dX12_count_1 (by decide) ?_
  refine g_putI C fi_X12_1 rfl (ha0).1 (ha0).2 dX12_count_2 ?_
  refine gqW (ks := [0]) (I.setI (rgOk.of rfl (by decide))) (EM.setI I (by decide)) (fun Y13395 Iy13396 Xy13397 w13398 => ?_)
  have w13398 : (pI Y13395 a0 0).toInt = 0 := w13398
  have Xz13399 : EM [0] a0 P Y13395 := Xy13397.mono (by decide)
  have h13400 := Xy13397.at ha0
  refine g_iload_n C dX12_count_5 rfl 1 rfl ?_
  refine g_iconst (v := 0) C dX12_count_6 (by decide) ?_
  refine g_iconst (v := 3) C dX12_count_7 (by decide) ?_
  refine g_callSI (b := 0) (ci := 0) (rest := []) C ms_X12_178 [.int a1, .int 0, .int 3] (s_X12_within Iy13396.1) rfl rfl (by decide) (Nat.le_of_ble_eq_true rfl) (by decide) dX12_count_8 (fun r13401 Y13402 h13403 => ?_)
  obtain ⟨rfl, h13403⟩ := h13403
  obtain ⟨h13403, hi13404⟩ := h13403
  have hi13404 : r13401.toInt = 0 ∨ (0 ≤ a1.toInt ∧ a1.toInt ≤ 3) := hi13404
  have h13403 : 0 ≤ r13401.toInt ∧ r13401.toInt ≤ 1 := h13403
  refine b_if_eq C 21 dX12_count_11 (by decide) (fun h13405 => ?_) (fun h13405 => ?_)
  · have h13405 : r13401.toInt = 0 := congrArg Int32.toInt h13405
    clear hi13404
    refine g_iload_n C dX12_count_21 rfl 1 rfl ?_
    by_cases h13406 : a1.toInt < 4 ∨ 8 < a1.toInt
    · refine g_tableOut C 83 dX12_count_22 h13406 (by decide) ?_
      refine g_iconst (v := (-1)) C dX12_count_83 (by decide) ?_
      exact ret _ _ _ _ _ _ dX12_count_84 rfl (by decide) (by decide) ⟨Iy13396, Xz13399, trivial⟩
    · rcases (show a1.toInt = 4 ∨ a1.toInt = 5 ∨ a1.toInt = 6 ∨ a1.toInt = 7 ∨ a1.toInt = 8 by omega) with h13407 | h13407 | h13407 | h13407 | h13407
      · refine g_tableIn C 56 dX12_count_22 (by omega) (by omega) (by rw [h13407]; rfl) (by decide) ?_
        refine g_aload_n C dX12_count_56 rfl 0 rfl ?_
        refine g_iconst (v := 0) C dX12_count_57 (by decide) ?_
        refine g_callVI (rest := []) C mv_X12_238 [.int 0] (s_X12_allOf Iy13396 (by decide)) (h13400).1 (h13400).2 rfl rfl (by decide) (Nat.le_of_ble_eq_true rfl) (by decide) dX12_count_58 (fun r13408 Y13409 h13410 => ?_)
        obtain ⟨rfl, h13410⟩ := h13410
        have h13410 : 0 ≤ r13408.toInt ∧ r13408.toInt ≤ 20 := h13410
        exact ret _ _ _ _ _ _ dX12_count_61 rfl (by decide) (by decide) ⟨Iy13396, Xz13399, trivial⟩
      · refine g_tableIn C 62 dX12_count_22 (by omega) (by omega) (by rw [h13407]; rfl) (by decide) ?_
        refine g_aload_n C dX12_count_62 rfl 0 rfl ?_
        refine g_iconst (v := 1) C dX12_count_63 (by decide) ?_
        refine g_callVI (rest := []) C mv_X12_238 [.int 1] (s_X12_allOf Iy13396 (by decide)) (h13400).1 (h13400).2 rfl rfl (by decide) (Nat.le_of_ble_eq_true rfl) (by decide) dX12_count_64 (fun r13411 Y13412 h13413 => ?_)
        obtain ⟨rfl, h13413⟩ := h13413
        have h13413 : 0 ≤ r13411.toInt ∧ r13411.toInt ≤ 20 := h13413
        exact ret _ _ _ _ _ _ dX12_count_67 rfl (by decide) (by decide) ⟨Iy13396, Xz13399, trivial⟩
      · refine g_tableIn C 68 dX12_count_22 (by omega) (by omega) (by rw [h13407]; rfl) (by decide) ?_
        refine g_aload_n C dX12_count_68 rfl 0 rfl ?_
        refine g_getI C fi_X12_11 (by decide) (h13400).1 (h13400).2 dX12_count_69 ?_
        have h13414 := Iy13396.rg (h13400) 2 rfl
        exact ret _ _ _ _ _ _ dX12_count_72 rfl (by decide) (by decide) ⟨Iy13396, Xz13399, trivial⟩
      · refine g_tableIn C 73 dX12_count_22 (by omega) (by omega) (by rw [h13407]; rfl) (by decide) ?_
        refine g_aload_n C dX12_count_73 rfl 0 rfl ?_
        refine g_getI C fi_X12_288 (by decide) (h13400).1 (h13400).2 dX12_count_74 ?_
        exact ret _ _ _ _ _ _ dX12_count_77 rfl (by decide) (by decide) ⟨Iy13396, Xz13399, trivial⟩
      · refine g_tableIn C 78 dX12_count_22 (by omega) (by omega) (by rw [h13407]; rfl) (by decide) ?_
        refine g_aload_n C dX12_count_78 rfl 0 rfl ?_
        refine g_callVI (rest := []) C mv_X12_411 [] (s_X12_allHouses Iy13396) (h13400).1 (h13400).2 rfl rfl (by decide) (Nat.le_of_ble_eq_true rfl) (by decide) dX12_count_79 (fun r13415 Y13416 h13417 => ?_)
        obtain ⟨rfl, h13417⟩ := h13417
        have h13417 : True := h13417
        exact ret _ _ _ _ _ _ dX12_count_82 rfl (by decide) (by decide) ⟨Iy13396, Xz13399, trivial⟩
  · have h13405 : r13401.toInt ≠ 0 := ti_ne h13405
    replace hi13404 := hi13404.resolve_left (by omega)
    refine g_aload_n C dX12_count_14 rfl 0 rfl ?_
    obtain ⟨b13418, e13419, h13420⟩ := Iy13396.fld (h13400) 20 13 20 rfl
    refine g_getR C fi_X12_69 rfl e13419 (h13400).1 (h13400).2 dX12_count_15 ?_
    refine g_iload_n C dX12_count_18 rfl 1 rfl ?_
    refine g_iald (j := (a1.toInt.toNat)) C h13420.1 h13420.2.1 (ix_in h13420.2.2 (by omega)) dX12_count_19 ?_
    have h13421 := Iy13396.arr e13419 rfl (a1.toInt.toNat)
    exact ret _ _ _ _ _ _ dX12_count_20 rfl (by decide) (by decide) ⟨Iy13396, Xz13399, trivial⟩
theorem dX12_cutAll_0 : decode cX12_cutAll 0 = .ok (.aload_n 0, 1) := by decide +kernel
theorem dX12_cutAll_1 : decode cX12_cutAll 1 = .ok (.aload_n 0, 1) := by decide +kernel
theorem dX12_cutAll_2 : decode cX12_cutAll 2 = .ok (.getfield 11, 3) := by decide +kernel
theorem dX12_cutAll_5 : decode cX12_cutAll 5 = .ok (.putfield 140, 3) := by decide +kernel
theorem dX12_cutAll_8 : decode cX12_cutAll 8 = .ok (.aload_n 0, 1) := by decide +kernel
theorem dX12_cutAll_9 : decode cX12_cutAll 9 = .ok (.iconst 0, 1) := by decide +kernel
theorem dX12_cutAll_10 : decode cX12_cutAll 10 = .ok (.putfield 11, 3) := by decide +kernel
theorem dX12_cutAll_13 : decode cX12_cutAll 13 = .ok (.iconst 0, 1) := by decide +kernel
theorem dX12_cutAll_14 : decode cX12_cutAll 14 = .ok (.istore_n 1, 1) := by decide +kernel
theorem dX12_cutAll_15 : decode cX12_cutAll 15 = .ok (.iconst 0, 1) := by decide +kernel
theorem dX12_cutAll_16 : decode cX12_cutAll 16 = .ok (.istore_n 2, 1) := by decide +kernel
theorem dX12_cutAll_17 : decode cX12_cutAll 17 = .ok (.iload_n 2, 1) := by decide +kernel
theorem dX12_cutAll_18 : decode cX12_cutAll 18 = .ok (.aload_n 0, 1) := by decide +kernel
theorem dX12_cutAll_19 : decode cX12_cutAll 19 = .ok (.getfield 140, 3) := by decide +kernel
theorem dX12_cutAll_22 : decode cX12_cutAll 22 = .ok (.if_icmp .ge 257, 3) := by decide +kernel
theorem dX12_cutAll_25 : decode cX12_cutAll 25 = .ok (.aload_n 0, 1) := by decide +kernel
theorem dX12_cutAll_26 : decode cX12_cutAll 26 = .ok (.getfield 14, 3) := by decide +kernel
theorem dX12_cutAll_29 : decode cX12_cutAll 29 = .ok (.iload_n 2, 1) := by decide +kernel
theorem dX12_cutAll_30 : decode cX12_cutAll 30 = .ok (.iaload, 1) := by decide +kernel
theorem dX12_cutAll_31 : decode cX12_cutAll 31 = .ok (.istore_n 3, 1) := by decide +kernel
theorem dX12_cutAll_32 : decode cX12_cutAll 32 = .ok (.iload_n 3, 1) := by decide +kernel
theorem dX12_cutAll_33 : decode cX12_cutAll 33 = .ok (.bipush 10, 2) := by decide +kernel
theorem dX12_cutAll_35 : decode cX12_cutAll 35 = .ok (.if_icmp .eq 9, 3) := by decide +kernel
theorem dX12_cutAll_38 : decode cX12_cutAll 38 = .ok (.iload_n 3, 1) := by decide +kernel
theorem dX12_cutAll_39 : decode cX12_cutAll 39 = .ok (.bipush 32, 2) := by decide +kernel
theorem dX12_cutAll_41 : decode cX12_cutAll 41 = .ok (.if_icmp .ne 9, 3) := by decide +kernel
theorem dX12_cutAll_50 : decode cX12_cutAll 50 = .ok (.iload_n 2, 1) := by decide +kernel
theorem dX12_cutAll_51 : decode cX12_cutAll 51 = .ok (.istore 4, 2) := by decide +kernel
theorem dX12_cutAll_53 : decode cX12_cutAll 53 = .ok (.lconst 0, 1) := by decide +kernel
theorem dX12_cutAll_54 : decode cX12_cutAll 54 = .ok (.lstore 5, 2) := by decide +kernel
theorem dX12_cutAll_56 : decode cX12_cutAll 56 = .ok (.aload_n 0, 1) := by decide +kernel
theorem dX12_cutAll_57 : decode cX12_cutAll 57 = .ok (.getfield 27, 3) := by decide +kernel
theorem dX12_cutAll_60 : decode cX12_cutAll 60 = .ok (.iload_n 1, 1) := by decide +kernel
theorem dX12_cutAll_61 : decode cX12_cutAll 61 = .ok (.iload_n 2, 1) := by decide +kernel
theorem dX12_cutAll_62 : decode cX12_cutAll 62 = .ok (.iastore, 1) := by decide +kernel
theorem dX12_cutAll_63 : decode cX12_cutAll 63 = .ok (.iload_n 3, 1) := by decide +kernel
theorem dX12_cutAll_64 : decode cX12_cutAll 64 = .ok (.invokestatic 136, 3) := by decide +kernel
theorem dX12_cutAll_279 : decode cX12_cutAll 279 = .ok (.aload_n 0, 1) := by decide +kernel
theorem dX12_cutAll_280 : decode cX12_cutAll 280 = .ok (.getfield 24, 3) := by decide +kernel
theorem dX12_cutAll_283 : decode cX12_cutAll 283 = .ok (.iload_n 1, 1) := by decide +kernel
theorem dX12_cutAll_284 : decode cX12_cutAll 284 = .ok (.iconst 0, 1) := by decide +kernel
theorem dX12_cutAll_285 : decode cX12_cutAll 285 = .ok (.iastore, 1) := by decide +kernel
theorem dX12_cutAll_286 : decode cX12_cutAll 286 = .ok (.aload_n 0, 1) := by decide +kernel
theorem dX12_cutAll_287 : decode cX12_cutAll 287 = .ok (.getfield 27, 3) := by decide +kernel
theorem dX12_cutAll_290 : decode cX12_cutAll 290 = .ok (.iload_n 1, 1) := by decide +kernel
theorem dX12_cutAll_291 : decode cX12_cutAll 291 = .ok (.aload_n 0, 1) := by decide +kernel
theorem dX12_cutAll_292 : decode cX12_cutAll 292 = .ok (.getfield 140, 3) := by decide +kernel
theorem dX12_cutAll_295 : decode cX12_cutAll 295 = .ok (.iastore, 1) := by decide +kernel
theorem dX12_cutAll_296 : decode cX12_cutAll 296 = .ok (.aload_n 0, 1) := by decide +kernel
theorem dX12_cutAll_297 : decode cX12_cutAll 297 = .ok (.iconst 0, 1) := by decide +kernel
theorem dX12_cutAll_298 : decode cX12_cutAll 298 = .ok (.putfield 159, 3) := by decide +kernel
theorem dX12_cutAll_301 : decode cX12_cutAll 301 = .ok (.aload_n 0, 1) := by decide +kernel
theorem dX12_cutAll_302 : decode cX12_cutAll 302 = .ok (.iconst 0, 1) := by decide +kernel
theorem dX12_cutAll_303 : decode cX12_cutAll 303 = .ok (.putfield 162, 3) := by decide +kernel
theorem dX12_cutAll_306 : decode cX12_cutAll 306 = .ok (.return_, 1) := by decide +kernel
theorem dX12_isLetter_0 : decode cX12_isLetter 0 = .ok (.iload_n 0, 1) := by decide +kernel
theorem dX12_isLetter_1 : decode cX12_isLetter 1 = .ok (.bipush 97, 2) := by decide +kernel
theorem dX12_isLetter_3 : decode cX12_isLetter 3 = .ok (.if_icmp .lt 13, 3) := by decide +kernel
theorem dX12_isLetter_6 : decode cX12_isLetter 6 = .ok (.iload_n 0, 1) := by decide +kernel
theorem dX12_isLetter_7 : decode cX12_isLetter 7 = .ok (.bipush 122, 2) := by decide +kernel
theorem dX12_isLetter_9 : decode cX12_isLetter 9 = .ok (.if_icmp .gt 7, 3) := by decide +kernel
theorem dX12_isLetter_12 : decode cX12_isLetter 12 = .ok (.iconst 1, 1) := by decide +kernel
theorem dX12_isLetter_13 : decode cX12_isLetter 13 = .ok (.goto 4, 3) := by decide +kernel
theorem dX12_isLetter_16 : decode cX12_isLetter 16 = .ok (.iconst 0, 1) := by decide +kernel
theorem dX12_isLetter_17 : decode cX12_isLetter 17 = .ok (.ireturn, 1) := by decide +kernel
set_option maxHeartbeats 4000000 in
set_option maxRecDepth 100000 in
theorem s_X12_isLetter {P : PP} {a0 : Int32} (I : IV P) : CtrI yX12_isLetter cX12_isLetter 1 (some Jvm.ClassFile.FieldType.boolean) ({ frames := 1, cells := 0, slots := 0, locals := 64 } : Room) 0 0 P [.int a0] (fun r P2 => P = P2 ∧ (0 ≤ r.toInt ∧ r.toInt ≤ 1) ∧ (r.toInt = 0 ∨ (((97 : Int) ≤ a0.toInt ∧ a0.toInt ≤ (122 : Int))))) := by
  refine enI (lv := [(0, .int a0)]) (by decide) (Nat.le_of_ble_eq_true rfl) rfl (fun E D cy C Ci0 ret => ?_)
  have J16 : G E ({ frames := 1, cells := 0, slots := 0, locals := 64 } : Room) D cy 1 P 0 0 16 [] [] := by
    refine g_iconst (v := 0) C dX12_isLetter_16 (by decide) ?_
    exact ret _ _ _ _ _ _ dX12_isLetter_17 rfl (by decide) (by decide) ⟨rfl, (by decide), Or.inl rfl⟩
  refine g_iload_n C dX12_isLetter_0 rfl 0 rfl ?_
  refine g_bipush (v := 97) C dX12_isLetter_1 (by decide) ?_
  have u13525 := ti_rng a0
  refine b_icmp_lt C 16 dX12_isLetter_3 (by decide) (fun h13524 => ?_) (fun h13524 => ?_)
  · have h13524 : a0.toInt < 97 := h13524
    refine g_lv (lv' := []) [] rfl ?_
    exact J16 
  · have h13524 : 97 ≤ a0.toInt := h13524
    refine g_iload_n C dX12_isLetter_6 rfl 0 rfl ?_
    refine g_bipush (v := 122) C dX12_isLetter_7 (by decide) ?_
    have u13527 := ti_rng a0
    refine b_icmp_gt C 16 dX12_isLetter_9 (by decide) (fun h13526 => ?_) (fun h13526 => ?_)
    · have h13526 : 122 < a0.toInt := h13526
      refine g_lv (lv' := []) [] rfl ?_
      exact J16 
    · have h13526 : a0.toInt ≤ 122 := h13526
      refine g_iconst (v := 1) C dX12_isLetter_12 (by decide) ?_
      refine g_goto C 17 dX12_isLetter_13 (by decide) ?_
      exact ret _ _ _ _ _ _ dX12_isLetter_17 rfl (by decide) (by decide) ⟨rfl, (by decide), Or.inr (by omega)⟩
theorem dX12_cutAll_67 : decode cX12_cutAll 67 = .ok (.ifCond .eq 85, 3) := by decide +kernel
theorem dX12_cutAll_152 : decode cX12_cutAll 152 = .ok (.iload_n 3, 1) := by decide +kernel
theorem dX12_cutAll_153 : decode cX12_cutAll 153 = .ok (.invokestatic 149, 3) := by decide +kernel
theorem dX12_isDigit_0 : decode cX12_isDigit 0 = .ok (.iload_n 0, 1) := by decide +kernel
theorem dX12_isDigit_1 : decode cX12_isDigit 1 = .ok (.bipush 48, 2) := by decide +kernel
theorem dX12_isDigit_3 : decode cX12_isDigit 3 = .ok (.if_icmp .lt 13, 3) := by decide +kernel
theorem dX12_isDigit_6 : decode cX12_isDigit 6 = .ok (.iload_n 0, 1) := by decide +kernel
theorem dX12_isDigit_7 : decode cX12_isDigit 7 = .ok (.bipush 57, 2) := by decide +kernel
theorem dX12_isDigit_9 : decode cX12_isDigit 9 = .ok (.if_icmp .gt 7, 3) := by decide +kernel
theorem dX12_isDigit_12 : decode cX12_isDigit 12 = .ok (.iconst 1, 1) := by decide +kernel
theorem dX12_isDigit_13 : decode cX12_isDigit 13 = .ok (.goto 4, 3) := by decide +kernel
theorem dX12_isDigit_16 : decode cX12_isDigit 16 = .ok (.iconst 0, 1) := by decide +kernel
theorem dX12_isDigit_17 : decode cX12_isDigit 17 = .ok (.ireturn, 1) := by decide +kernel
set_option maxHeartbeats 4000000 in
set_option maxRecDepth 100000 in
theorem s_X12_isDigit {P : PP} {a0 : Int32} (I : IV P) : CtrI yX12_isDigit cX12_isDigit 1 (some Jvm.ClassFile.FieldType.boolean) ({ frames := 1, cells := 0, slots := 0, locals := 64 } : Room) 0 0 P [.int a0] (fun r P2 => P = P2 ∧ (0 ≤ r.toInt ∧ r.toInt ≤ 1) ∧ (r.toInt = 0 ∨ (((48 : Int) ≤ a0.toInt ∧ a0.toInt ≤ (57 : Int))))) := by
  refine enI (lv := [(0, .int a0)]) (by decide) (Nat.le_of_ble_eq_true rfl) rfl (fun E D cy C Ci0 ret => ?_)
  have J16 : G E ({ frames := 1, cells := 0, slots := 0, locals := 64 } : Room) D cy 1 P 0 0 16 [] [] := by
    refine g_iconst (v := 0) C dX12_isDigit_16 (by decide) ?_
    exact ret _ _ _ _ _ _ dX12_isDigit_17 rfl (by decide) (by decide) ⟨rfl, (by decide), Or.inl rfl⟩
  refine g_iload_n C dX12_isDigit_0 rfl 0 rfl ?_
  refine g_bipush (v := 48) C dX12_isDigit_1 (by decide) ?_
  have u13636 := ti_rng a0
  refine b_icmp_lt C 16 dX12_isDigit_3 (by decide) (fun h13635 => ?_) (fun h13635 => ?_)
  · have h13635 : a0.toInt < 48 := h13635
    refine g_lv (lv' := []) [] rfl ?_
    exact J16 
  · have h13635 : 48 ≤ a0.toInt := h13635
    refine g_iload_n C dX12_isDigit_6 rfl 0 rfl ?_
    refine g_bipush (v := 57) C dX12_isDigit_7 (by decide) ?_
    have u13638 := ti_rng a0
    refine b_icmp_gt C 16 dX12_isDigit_9 (by decide) (fun h13637 => ?_) (fun h13637 => ?_)
    · have h13637 : 57 < a0.toInt := h13637
      refine g_lv (lv' := []) [] rfl ?_
      exact J16 
    · have h13637 : a0.toInt ≤ 57 := h13637
      refine g_iconst (v := 1) C dX12_isDigit_12 (by decide) ?_
      refine g_goto C 17 dX12_isDigit_13 (by decide) ?_
      exact ret _ _ _ _ _ _ dX12_isDigit_17 rfl (by decide) (by decide) ⟨rfl, (by decide), Or.inr (by omega)⟩
theorem dX12_cutAll_156 : decode cX12_cutAll 156 = .ok (.ifCond .eq 84, 3) := by decide +kernel
theorem dX12_cutAll_240 : decode cX12_cutAll 240 = .ok (.iload_n 3, 1) := by decide +kernel
theorem dX12_cutAll_241 : decode cX12_cutAll 241 = .ok (.i2l, 1) := by decide +kernel
theorem dX12_cutAll_242 : decode cX12_cutAll 242 = .ok (.lstore 5, 2) := by decide +kernel
theorem dX12_cutAll_244 : decode cX12_cutAll 244 = .ok (.aload_n 0, 1) := by decide +kernel
theorem dX12_cutAll_245 : decode cX12_cutAll 245 = .ok (.getfield 24, 3) := by decide +kernel
theorem dX12_cutAll_248 : decode cX12_cutAll 248 = .ok (.iload_n 1, 1) := by decide +kernel
theorem dX12_cutAll_249 : decode cX12_cutAll 249 = .ok (.iload_n 3, 1) := by decide +kernel
theorem dX12_cutAll_250 : decode cX12_cutAll 250 = .ok (.invokestatic 156, 3) := by decide +kernel
theorem dX12_isSignOf_0 : decode cX12_isSignOf 0 = .ok (.iload_n 0, 1) := by decide +kernel
theorem dX12_isSignOf_1 : decode cX12_isSignOf 1 = .ok (.bipush 59, 2) := by decide +kernel
theorem dX12_isSignOf_3 : decode cX12_isSignOf 3 = .ok (.if_icmp .ne 7, 3) := by decide +kernel
theorem dX12_isSignOf_6 : decode cX12_isSignOf 6 = .ok (.iconst 1, 1) := by decide +kernel
theorem dX12_isSignOf_7 : decode cX12_isSignOf 7 = .ok (.goto 4, 3) := by decide +kernel
theorem dX12_isSignOf_10 : decode cX12_isSignOf 10 = .ok (.iconst 0, 1) := by decide +kernel
theorem dX12_isSignOf_11 : decode cX12_isSignOf 11 = .ok (.ireturn, 1) := by decide +kernel
set_option maxHeartbeats 4000000 in
set_option maxRecDepth 100000 in
theorem s_X12_isSignOf {P : PP} {a0 : Int32} (I : IV P) : CtrI yX12_isSignOf cX12_isSignOf 1 (some Jvm.ClassFile.FieldType.boolean) ({ frames := 1, cells := 0, slots := 0, locals := 64 } : Room) 0 0 P [.int a0] (fun r P2 => P = P2 ∧ (0 ≤ r.toInt ∧ r.toInt ≤ 1) ∧ (r.toInt = 0 ∨ (((59 : Int) ≤ a0.toInt ∧ a0.toInt ≤ (59 : Int))))) := by
  refine enI (lv := [(0, .int a0)]) (by decide) (Nat.le_of_ble_eq_true rfl) rfl (fun E D cy C Ci0 ret => ?_)
  refine g_iload_n C dX12_isSignOf_0 rfl 0 rfl ?_
  refine g_bipush (v := 59) C dX12_isSignOf_1 (by decide) ?_
  have u13754 := ti_rng a0
  refine b_icmp_ne C 10 dX12_isSignOf_3 (by decide) (fun h13753 => ?_) (fun h13753 => ?_)
  · have h13753 : a0.toInt ≠ 59 := ti_ne h13753
    refine g_iconst (v := 0) C dX12_isSignOf_10 (by decide) ?_
    exact ret _ _ _ _ _ _ dX12_isSignOf_11 rfl (by decide) (by decide) ⟨rfl, (by decide), Or.inl rfl⟩
  · have h13753 : a0.toInt = 59 := congrArg Int32.toInt h13753
    refine g_iconst (v := 1) C dX12_isSignOf_6 (by decide) ?_
    refine g_goto C 11 dX12_isSignOf_7 (by decide) ?_
    exact ret _ _ _ _ _ _ dX12_isSignOf_11 rfl (by decide) (by decide) ⟨rfl, (by decide), Or.inr (by omega)⟩
theorem dX12_cutAll_44 : decode cX12_cutAll 44 = .ok (.iinc 2 1, 3) := by decide +kernel
theorem dX12_cutAll_47 : decode cX12_cutAll 47 = .ok (.goto (-30), 3) := by decide +kernel
theorem dX12_cutAll_253 : decode cX12_cutAll 253 = .ok (.ifCond .eq 7, 3) := by decide +kernel
theorem dX12_cutAll_256 : decode cX12_cutAll 256 = .ok (.iconst 3, 1) := by decide +kernel
theorem dX12_cutAll_257 : decode cX12_cutAll 257 = .ok (.goto 4, 3) := by decide +kernel
theorem dX12_cutAll_260 : decode cX12_cutAll 260 = .ok (.iconst 4, 1) := by decide +kernel
theorem dX12_cutAll_261 : decode cX12_cutAll 261 = .ok (.iastore, 1) := by decide +kernel
theorem dX12_cutTo_0 : decode cX12_cutTo 0 = .ok (.iload_n 0, 1) := by decide +kernel
theorem dX12_cutTo_1 : decode cX12_cutTo 1 = .ok (.iload_n 1, 1) := by decide +kernel
theorem dX12_cutTo_2 : decode cX12_cutTo 2 = .ok (.iconst 1, 1) := by decide +kernel
theorem dX12_cutTo_3 : decode cX12_cutTo 3 = .ok (.iand, 1) := by decide +kernel
theorem dX12_cutTo_4 : decode cX12_cutTo 4 = .ok (.iconst 1, 1) := by decide +kernel
theorem dX12_cutTo_5 : decode cX12_cutTo 5 = .ok (.if_icmp .ne 9, 3) := by decide +kernel
theorem dX12_cutTo_8 : decode cX12_cutTo 8 = .ok (.sipush 255, 3) := by decide +kernel
theorem dX12_cutTo_11 : decode cX12_cutTo 11 = .ok (.goto 4, 3) := by decide +kernel
theorem dX12_cutTo_14 : decode cX12_cutTo 14 = .ok (.iconst 0, 1) := by decide +kernel
theorem dX12_cutTo_15 : decode cX12_cutTo 15 = .ok (.iload_n 1, 1) := by decide +kernel
theorem dX12_cutTo_16 : decode cX12_cutTo 16 = .ok (.iconst 2, 1) := by decide +kernel
theorem dX12_cutTo_17 : decode cX12_cutTo 17 = .ok (.iand, 1) := by decide +kernel
theorem dX12_cutTo_18 : decode cX12_cutTo 18 = .ok (.iconst 2, 1) := by decide +kernel
theorem dX12_cutTo_19 : decode cX12_cutTo 19 = .ok (.if_icmp .ne 9, 3) := by decide +kernel
theorem dX12_cutTo_22 : decode cX12_cutTo 22 = .ok (.ldc_w 277, 3) := by decide +kernel
theorem dX12_cutTo_25 : decode cX12_cutTo 25 = .ok (.goto 4, 3) := by decide +kernel
theorem dX12_cutTo_28 : decode cX12_cutTo 28 = .ok (.iconst 0, 1) := by decide +kernel
theorem dX12_cutTo_29 : decode cX12_cutTo 29 = .ok (.iadd, 1) := by decide +kernel
theorem dX12_cutTo_30 : decode cX12_cutTo 30 = .ok (.iand, 1) := by decide +kernel
theorem dX12_cutTo_31 : decode cX12_cutTo 31 = .ok (.ireturn, 1) := by decide +kernel
set_option maxHeartbeats 4000000 in
set_option maxRecDepth 100000 in
theorem s_X12_cutTo {P : PP} {a0 : Int32} {a1 : Int32} (I : IV P) : CtrI yX12_cutTo cX12_cutTo 2 (some Jvm.ClassFile.FieldType.int) ({ frames := 1, cells := 0, slots := 0, locals := 64 } : Room) 0 0 P [.int a0, .int a1] (fun r P2 => P = P2 ∧ (0 ≤ r.toInt ∧ r.toInt ≤ 65535)) := by
  refine enI (lv := [(0, .int a0), (1, .int a1)]) (by decide) (Nat.le_of_ble_eq_true rfl) rfl (fun E D cy C Ci0 ret => ?_)
  have J29 : ∀ (v29_s0 : Int32) (v29_s1 : Int32), (0 ≤ v29_s0.toInt ∧ v29_s0.toInt ≤ 65280) → (0 ≤ v29_s1.toInt ∧ v29_s1.toInt ≤ 255) → G E ({ frames := 1, cells := 0, slots := 0, locals := 64 } : Room) D cy 2 P 0 0 29 [] [.int v29_s0, .int v29_s1, .int a0] := by
    intro v29_s0 v29_s1 hv29_s0 hv29_s1
    refine s_iadd C dX12_cutTo_29 (by show -2147483648 ≤ v29_s1.toInt + v29_s0.toInt ∧ v29_s1.toInt + v29_s0.toInt ≤ 2147483647; omega) (fun z13889 h13890 => ?_)
    have h13890 : z13889.toInt = v29_s1.toInt + v29_s0.toInt := h13890
    refine s_iand C dX12_cutTo_30 (by show 0 ≤ z13889.toInt; omega) (fun z13891 h13892 => ?_)
    have h13892 : 0 ≤ z13891.toInt ∧ z13891.toInt ≤ z13889.toInt := h13892
    exact ret _ _ _ _ _ _ dX12_cutTo_31 rfl (by decide) (by decide) ⟨rfl, (by omega)⟩
  have J15 : ∀ (v15_s0 : Int32), (0 ≤ v15_s0.toInt ∧ v15_s0.toInt ≤ 255) → G E ({ frames := 1, cells := 0, slots := 0, locals := 64 } : Room) D cy 2 P 0 0 15 [(1, .int a1)] [.int v15_s0, .int a0] := by
    intro v15_s0 hv15_s0
    refine g_iload_n C dX12_cutTo_15 rfl 0 rfl ?_
    refine g_iconst (v := 2) C dX12_cutTo_16 (by decide) ?_
    refine s_iand C dX12_cutTo_17 (by show 0 ≤ 2; omega) (fun z13893 h13894 => ?_)
    have h13894 : 0 ≤ z13893.toInt ∧ z13893.toInt ≤ 2 := h13894
    refine g_iconst (v := 2) C dX12_cutTo_18 (by decide) ?_
    refine b_icmp_ne C 28 dX12_cutTo_19 (by decide) (fun h13895 => ?_) (fun h13895 => ?_)
    · have h13895 : z13893.toInt ≠ 2 := ti_ne h13895
      refine g_iconst (v := 0) C dX12_cutTo_28 (by decide) ?_
      refine g_lv (lv' := []) [] rfl ?_
      exact J29 0 v15_s0 (by decide) (by omega)
    · have h13895 : z13893.toInt = 2 := congrArg Int32.toInt h13895
      refine g_ldcw (v := 65280) C kc_X12_277 dX12_cutTo_22 ?_
      refine g_goto C 29 dX12_cutTo_25 (by decide) ?_
      refine g_lv (lv' := []) [] rfl ?_
      exact J29 65280 v15_s0 (by decide) (by omega)
  refine g_iload_n C dX12_cutTo_0 rfl 0 rfl ?_
  refine g_iload_n C dX12_cutTo_1 rfl 1 rfl ?_
  refine g_iconst (v := 1) C dX12_cutTo_2 (by decide) ?_
  refine s_iand C dX12_cutTo_3 (by show 0 ≤ 1; omega) (fun z13896 h13897 => ?_)
  have h13897 : 0 ≤ z13896.toInt ∧ z13896.toInt ≤ 1 := h13897
  refine g_iconst (v := 1) C dX12_cutTo_4 (by decide) ?_
  refine b_icmp_ne C 14 dX12_cutTo_5 (by decide) (fun h13898 => ?_) (fun h13898 => ?_)
  · have h13898 : z13896.toInt ≠ 1 := ti_ne h13898
    refine g_iconst (v := 0) C dX12_cutTo_14 (by decide) ?_
    refine g_lv (lv' := [(1, .int a1)]) [1] rfl ?_
    exact J15 0 (by decide)
  · have h13898 : z13896.toInt = 1 := congrArg Int32.toInt h13898
    refine g_sipush (v := 255) C dX12_cutTo_8 (by decide) ?_
    refine g_goto C 15 dX12_cutTo_11 (by decide) ?_
    refine g_lv (lv' := [(1, .int a1)]) [1] rfl ?_
    exact J15 255 (by decide)
theorem dX12_degree_0 : decode cX12_degree 0 = .ok (.aload_n 0, 1) := by decide +kernel
theorem dX12_degree_1 : decode cX12_degree 1 = .ok (.iconst 0, 1) := by decide +kernel
theorem dX12_degree_2 : decode cX12_degree 2 = .ok (.putfield 1, 3) := by decide +kernel
theorem dX12_degree_5 : decode cX12_degree 5 = .ok (.aload_n 0, 1) := by decide +kernel
theorem dX12_degree_6 : decode cX12_degree 6 = .ok (.iload_n 1, 1) := by decide +kernel
theorem dX12_degree_7 : decode cX12_degree 7 = .ok (.iload_n 2, 1) := by decide +kernel
theorem dX12_degree_8 : decode cX12_degree 8 = .ok (.iload 4, 2) := by decide +kernel
theorem dX12_degree_10 : decode cX12_degree 10 = .ok (.invokevirtual 377, 3) := by decide +kernel
theorem dX12_degree_13 : decode cX12_degree 13 = .ok (.ifCond .eq 12, 3) := by decide +kernel
theorem dX12_degree_16 : decode cX12_degree 16 = .ok (.iload_n 3, 1) := by decide +kernel
theorem dX12_degree_17 : decode cX12_degree 17 = .ok (.iconst 0, 1) := by decide +kernel
theorem dX12_degree_18 : decode cX12_degree 18 = .ok (.iload_n 2, 1) := by decide +kernel
theorem dX12_degree_19 : decode cX12_degree 19 = .ok (.invokestatic 178, 3) := by decide +kernel
theorem dX12_degree_22 : decode cX12_degree 22 = .ok (.ifCond .ne 5, 3) := by decide +kernel
theorem dX12_degree_25 : decode cX12_degree 25 = .ok (.iconst (-1), 1) := by decide +kernel
theorem dX12_degree_26 : decode cX12_degree 26 = .ok (.ireturn, 1) := by decide +kernel
theorem dX12_degree_27 : decode cX12_degree 27 = .ok (.iconst 0, 1) := by decide +kernel
theorem dX12_degree_28 : decode cX12_degree 28 = .ok (.istore 5, 2) := by decide +kernel
theorem dX12_degree_30 : decode cX12_degree 30 = .ok (.iload 5, 2) := by decide +kernel
theorem dX12_degree_32 : decode cX12_degree 32 = .ok (.bipush 21, 2) := by decide +kernel
theorem dX12_degree_34 : decode cX12_degree 34 = .ok (.if_icmp .ge 41, 3) := by decide +kernel
theorem dX12_degree_37 : decode cX12_degree 37 = .ok (.aload_n 0, 1) := by decide +kernel
theorem dX12_degree_38 : decode cX12_degree 38 = .ok (.getfield 124, 3) := by decide +kernel
theorem dX12_degree_41 : decode cX12_degree 41 = .ok (.iload 5, 2) := by decide +kernel
theorem dX12_degree_43 : decode cX12_degree 43 = .ok (.aload_n 0, 1) := by decide +kernel
theorem dX12_degree_44 : decode cX12_degree 44 = .ok (.getfield 51, 3) := by decide +kernel
theorem dX12_degree_47 : decode cX12_degree 47 = .ok (.bipush 21, 2) := by decide +kernel
theorem dX12_degree_49 : decode cX12_degree 49 = .ok (.iload_n 1, 1) := by decide +kernel
theorem dX12_degree_50 : decode cX12_degree 50 = .ok (.imul, 1) := by decide +kernel
theorem dX12_degree_51 : decode cX12_degree 51 = .ok (.iload 5, 2) := by decide +kernel
theorem dX12_degree_53 : decode cX12_degree 53 = .ok (.iadd, 1) := by decide +kernel
theorem dX12_degree_54 : decode cX12_degree 54 = .ok (.iaload, 1) := by decide +kernel
theorem dX12_degree_55 : decode cX12_degree 55 = .ok (.iastore, 1) := by decide +kernel
theorem dX12_degree_56 : decode cX12_degree 56 = .ok (.aload_n 0, 1) := by decide +kernel
theorem dX12_degree_57 : decode cX12_degree 57 = .ok (.getfield 51, 3) := by decide +kernel
theorem dX12_degree_60 : decode cX12_degree 60 = .ok (.bipush 21, 2) := by decide +kernel
theorem dX12_degree_62 : decode cX12_degree 62 = .ok (.iload_n 1, 1) := by decide +kernel
theorem dX12_degree_63 : decode cX12_degree 63 = .ok (.imul, 1) := by decide +kernel
theorem dX12_degree_64 : decode cX12_degree 64 = .ok (.iload 5, 2) := by decide +kernel
theorem dX12_degree_66 : decode cX12_degree 66 = .ok (.iadd, 1) := by decide +kernel
theorem dX12_degree_67 : decode cX12_degree 67 = .ok (.iconst (-1), 1) := by decide +kernel
theorem dX12_degree_68 : decode cX12_degree 68 = .ok (.iastore, 1) := by decide +kernel
theorem dX12_degree_69 : decode cX12_degree 69 = .ok (.iinc 5 1, 3) := by decide +kernel
theorem dX12_degree_72 : decode cX12_degree 72 = .ok (.goto (-42), 3) := by decide +kernel
theorem dX12_degree_75 : decode cX12_degree 75 = .ok (.iconst (-1), 1) := by decide +kernel
theorem dX12_degree_76 : decode cX12_degree 76 = .ok (.istore 5, 2) := by decide +kernel
theorem dX12_degree_78 : decode cX12_degree 78 = .ok (.iconst (-1), 1) := by decide +kernel
theorem dX12_degree_79 : decode cX12_degree 79 = .ok (.istore 6, 2) := by decide +kernel
theorem dX12_degree_81 : decode cX12_degree 81 = .ok (.iconst 1, 1) := by decide +kernel
theorem dX12_degree_82 : decode cX12_degree 82 = .ok (.istore 7, 2) := by decide +kernel
theorem dX12_degree_84 : decode cX12_degree 84 = .ok (.iload 7, 2) := by decide +kernel
theorem dX12_degree_86 : decode cX12_degree 86 = .ok (.aload_n 0, 1) := by decide +kernel
theorem dX12_degree_87 : decode cX12_degree 87 = .ok (.iload_n 1, 1) := by decide +kernel
theorem dX12_degree_88 : decode cX12_degree 88 = .ok (.invokevirtual 238, 3) := by decide +kernel
theorem dX12_degree_91 : decode cX12_degree 91 = .ok (.if_icmp .gt 67, 3) := by decide +kernel
theorem dX12_degree_94 : decode cX12_degree 94 = .ok (.aload_n 0, 1) := by decide +kernel
theorem dX12_degree_95 : decode cX12_degree 95 = .ok (.getfield 51, 3) := by decide +kernel
theorem dX12_degree_98 : decode cX12_degree 98 = .ok (.bipush 21, 2) := by decide +kernel
theorem dX12_degree_100 : decode cX12_degree 100 = .ok (.iload_n 1, 1) := by decide +kernel
theorem dX12_degree_101 : decode cX12_degree 101 = .ok (.imul, 1) := by decide +kernel
theorem dX12_degree_102 : decode cX12_degree 102 = .ok (.iload 7, 2) := by decide +kernel
theorem dX12_degree_104 : decode cX12_degree 104 = .ok (.iadd, 1) := by decide +kernel
theorem dX12_degree_105 : decode cX12_degree 105 = .ok (.iconst 1, 1) := by decide +kernel
theorem dX12_degree_106 : decode cX12_degree 106 = .ok (.iastore, 1) := by decide +kernel
theorem dX12_degree_107 : decode cX12_degree 107 = .ok (.aload_n 0, 1) := by decide +kernel
theorem dX12_degree_108 : decode cX12_degree 108 = .ok (.iload_n 1, 1) := by decide +kernel
theorem dX12_degree_109 : decode cX12_degree 109 = .ok (.iload_n 2, 1) := by decide +kernel
theorem dX12_degree_110 : decode cX12_degree 110 = .ok (.invokevirtual 380, 3) := by decide +kernel
theorem dX12_degree_158 : decode cX12_degree 158 = .ok (.iconst 0, 1) := by decide +kernel
theorem dX12_degree_159 : decode cX12_degree 159 = .ok (.istore 7, 2) := by decide +kernel
theorem dX12_doubles_0 : decode cX12_doubles 0 = .ok (.aload_n 0, 1) := by decide +kernel
theorem dX12_doubles_1 : decode cX12_doubles 1 = .ok (.iconst 0, 1) := by decide +kernel
theorem dX12_doubles_2 : decode cX12_doubles 2 = .ok (.putfield 1, 3) := by decide +kernel
theorem dX12_doubles_5 : decode cX12_doubles 5 = .ok (.aload_n 0, 1) := by decide +kernel
theorem dX12_doubles_6 : decode cX12_doubles 6 = .ok (.iload_n 1, 1) := by decide +kernel
theorem dX12_doubles_7 : decode cX12_doubles 7 = .ok (.iload_n 2, 1) := by decide +kernel
theorem dX12_doubles_8 : decode cX12_doubles 8 = .ok (.iload_n 3, 1) := by decide +kernel
theorem dX12_doubles_9 : decode cX12_doubles 9 = .ok (.invokevirtual 333, 3) := by decide +kernel
theorem dX12_isAsked_0 : decode cX12_isAsked 0 = .ok (.iload_n 1, 1) := by decide +kernel
theorem dX12_isAsked_1 : decode cX12_isAsked 1 = .ok (.invokestatic 278, 3) := by decide +kernel
theorem dX12_isAsked_4 : decode cX12_isAsked 4 = .ok (.ifCond .eq 24, 3) := by decide +kernel
theorem dX12_isAsked_7 : decode cX12_isAsked 7 = .ok (.aload_n 0, 1) := by decide +kernel
theorem dX12_isAsked_8 : decode cX12_isAsked 8 = .ok (.iload_n 2, 1) := by decide +kernel
theorem dX12_isAsked_9 : decode cX12_isAsked 9 = .ok (.invokevirtual 192, 3) := by decide +kernel
theorem dX12_isAsked_12 : decode cX12_isAsked 12 = .ok (.ifCond .eq 16, 3) := by decide +kernel
theorem dX12_isAsked_15 : decode cX12_isAsked 15 = .ok (.iload_n 3, 1) := by decide +kernel
theorem dX12_isAsked_16 : decode cX12_isAsked 16 = .ok (.iconst 0, 1) := by decide +kernel
theorem dX12_isAsked_17 : decode cX12_isAsked 17 = .ok (.iconst 1, 1) := by decide +kernel
theorem dX12_isAsked_18 : decode cX12_isAsked 18 = .ok (.invokestatic 178, 3) := by decide +kernel
theorem dX12_isAsked_21 : decode cX12_isAsked 21 = .ok (.ifCond .eq 7, 3) := by decide +kernel
theorem dX12_isAsked_24 : decode cX12_isAsked 24 = .ok (.iconst 1, 1) := by decide +kernel
theorem dX12_isAsked_25 : decode cX12_isAsked 25 = .ok (.goto 4, 3) := by decide +kernel
theorem dX12_isAsked_28 : decode cX12_isAsked 28 = .ok (.iconst 0, 1) := by decide +kernel
theorem dX12_isAsked_29 : decode cX12_isAsked 29 = .ok (.ireturn, 1) := by decide +kernel
set_option maxHeartbeats 4000000 in
set_option maxRecDepth 100000 in
theorem s_X12_isAsked {P : PP} {a0 : Nat} {a1 : Int32} {a2 : Int32} {a3 : Int32} (I : IM P a0) : CtrI yX12_isAsked cX12_isAsked 4 (some Jvm.ClassFile.FieldType.boolean) ({ frames := 3, cells := 0, slots := 0, locals := 192 } : Room) 0 0 P [.ref a0, .int a1, .int a2, .int a3] (fun r P2 => P = P2 ∧ (0 ≤ r.toInt ∧ r.toInt ≤ 1) ∧ (r.toInt = 0 ∨ (((0 : Int) ≤ a1.toInt ∧ a1.toInt ≤ (3 : Int)) ∧ ((0 : Int) ≤ a2.toInt ∧ a2.toInt ≤ (1 : Int)) ∧ ((0 : Int) ≤ a3.toInt ∧ a3.toInt ≤ (1 : Int))))) := by
  refine enI (lv := [(0, .ref a0), (1, .int a1), (2, .int a2), (3, .int a3)]) (by decide) (Nat.le_of_ble_eq_true rfl) rfl (fun E D cy C Ci0 ret => ?_)
  have ha0 := I.2.1
  have J28 : G E ({ frames := 3, cells := 0, slots := 0, locals := 192 } : Room) D cy 4 P 0 0 28 [] [] := by
    refine g_iconst (v := 0) C dX12_isAsked_28 (by decide) ?_
    exact ret _ _ _ _ _ _ dX12_isAsked_29 rfl (by decide) (by decide) ⟨rfl, (by decide), Or.inl rfl⟩
  refine g_iload_n C dX12_isAsked_0 rfl 1 rfl ?_
  refine g_callSI (b := 0) (ci := 0) (rest := []) C ms_X12_278 [.int a1] (s_X12_isQuarter I.1) rfl rfl (by decide) (Nat.le_of_ble_eq_true rfl) (by decide) dX12_isAsked_1 (fun r14546 Y14547 h14548 => ?_)
  obtain ⟨rfl, h14548⟩ := h14548
  obtain ⟨h14548, hi14549⟩ := h14548
  have hi14549 : r14546.toInt = 0 ∨ (((0 : Int) ≤ a1.toInt ∧ a1.toInt ≤ (3 : Int))) := hi14549
  have h14548 : 0 ≤ r14546.toInt ∧ r14546.toInt ≤ 1 := h14548
  refine b_if_eq C 28 dX12_isAsked_4 (by decide) (fun h14550 => ?_) (fun h14550 => ?_)
  · have h14550 : r14546.toInt = 0 := congrArg Int32.toInt h14550
    clear hi14549
    refine g_lv (lv' := []) [] rfl ?_
    exact J28 
  · have h14550 : r14546.toInt ≠ 0 := ti_ne h14550
    replace hi14549 := hi14549.resolve_left (by omega)
    refine g_aload_n C dX12_isAsked_7 rfl 0 rfl ?_
    refine g_iload_n C dX12_isAsked_8 rfl 2 rfl ?_
    refine g_callVI (rest := []) C mv_X12_192 [.int a2] (s_X12_isBook I) (ha0).1 (ha0).2 rfl rfl (by decide) (Nat.le_of_ble_eq_true rfl) (by decide) dX12_isAsked_9 (fun r14551 Y14552 h14553 => ?_)
    obtain ⟨rfl, h14553⟩ := h14553
    obtain ⟨h14553, hi14554⟩ := h14553
    have hi14554 : r14551.toInt = 0 ∨ (((0 : Int) ≤ a2.toInt ∧ a2.toInt ≤ (1 : Int))) := hi14554
    have h14553 : 0 ≤ r14551.toInt ∧ r14551.toInt ≤ 1 := h14553
    refine b_if_eq C 28 dX12_isAsked_12 (by decide) (fun h14555 => ?_) (fun h14555 => ?_)
    · have h14555 : r14551.toInt = 0 := congrArg Int32.toInt h14555
      clear hi14554
      refine g_lv (lv' := []) [] rfl ?_
      exact J28 
    · have h14555 : r14551.toInt ≠ 0 := ti_ne h14555
      replace hi14554 := hi14554.resolve_left (by omega)
      refine g_iload_n C dX12_isAsked_15 rfl 3 rfl ?_
      refine g_iconst (v := 0) C dX12_isAsked_16 (by decide) ?_
      refine g_iconst (v := 1) C dX12_isAsked_17 (by decide) ?_
      refine g_callSI (b := 0) (ci := 0) (rest := []) C ms_X12_178 [.int a3, .int 0, .int 1] (s_X12_within I.1) rfl rfl (by decide) (Nat.le_of_ble_eq_true rfl) (by decide) dX12_isAsked_18 (fun r14556 Y14557 h14558 => ?_)
      obtain ⟨rfl, h14558⟩ := h14558
      obtain ⟨h14558, hi14559⟩ := h14558
      have hi14559 : r14556.toInt = 0 ∨ (0 ≤ a3.toInt ∧ a3.toInt ≤ 1) := hi14559
      have h14558 : 0 ≤ r14556.toInt ∧ r14556.toInt ≤ 1 := h14558
      refine b_if_eq C 28 dX12_isAsked_21 (by decide) (fun h14560 => ?_) (fun h14560 => ?_)
      · have h14560 : r14556.toInt = 0 := congrArg Int32.toInt h14560
        clear hi14559
        refine g_lv (lv' := []) [] rfl ?_
        exact J28 
      · have h14560 : r14556.toInt ≠ 0 := ti_ne h14560
        replace hi14559 := hi14559.resolve_left (by omega)
        refine g_iconst (v := 1) C dX12_isAsked_24 (by decide) ?_
        refine g_goto C 29 dX12_isAsked_25 (by decide) ?_
        exact ret _ _ _ _ _ _ dX12_isAsked_29 rfl (by decide) (by decide) ⟨rfl, (by decide), Or.inr (by omega)⟩
theorem dX12_doubles_12 : decode cX12_doubles 12 = .ok (.ifCond .ne 5, 3) := by decide +kernel
theorem dX12_doubles_17 : decode cX12_doubles 17 = .ok (.aload_n 0, 1) := by decide +kernel
theorem dX12_doubles_18 : decode cX12_doubles 18 = .ok (.invokevirtual 336, 3) := by decide +kernel
theorem dX12_doubles_21 : decode cX12_doubles 21 = .ok (.aload_n 0, 1) := by decide +kernel
theorem dX12_doubles_22 : decode cX12_doubles 22 = .ok (.iload_n 1, 1) := by decide +kernel
theorem dX12_doubles_23 : decode cX12_doubles 23 = .ok (.iload_n 2, 1) := by decide +kernel
theorem dX12_doubles_24 : decode cX12_doubles 24 = .ok (.iload_n 3, 1) := by decide +kernel
theorem dX12_doubles_25 : decode cX12_doubles 25 = .ok (.aload_n 0, 1) := by decide +kernel
theorem dX12_doubles_26 : decode cX12_doubles 26 = .ok (.getfield 69, 3) := by decide +kernel
theorem dX12_doubles_29 : decode cX12_doubles 29 = .ok (.iload_n 1, 1) := by decide +kernel
theorem dX12_doubles_30 : decode cX12_doubles 30 = .ok (.iaload, 1) := by decide +kernel
theorem dX12_doubles_31 : decode cX12_doubles 31 = .ok (.invokevirtual 339, 3) := by decide +kernel
theorem dX12_draw_0 : decode cX12_draw 0 = .ok (.aload_n 0, 1) := by decide +kernel
theorem dX12_draw_1 : decode cX12_draw 1 = .ok (.iconst 0, 1) := by decide +kernel
theorem dX12_draw_2 : decode cX12_draw 2 = .ok (.putfield 1, 3) := by decide +kernel
theorem dX12_draw_5 : decode cX12_draw 5 = .ok (.aload_n 0, 1) := by decide +kernel
theorem dX12_draw_6 : decode cX12_draw 6 = .ok (.iload_n 1, 1) := by decide +kernel
theorem dX12_draw_7 : decode cX12_draw 7 = .ok (.invokevirtual 192, 3) := by decide +kernel
theorem dX12_draw_10 : decode cX12_draw 10 = .ok (.ifCond .eq 11, 3) := by decide +kernel
theorem dX12_draw_13 : decode cX12_draw 13 = .ok (.aload_n 0, 1) := by decide +kernel
theorem dX12_draw_14 : decode cX12_draw 14 = .ok (.iload_n 1, 1) := by decide +kernel
theorem dX12_draw_15 : decode cX12_draw 15 = .ok (.invokevirtual 196, 3) := by decide +kernel
theorem dX12_isOut_0 : decode cX12_isOut 0 = .ok (.iconst 0, 1) := by decide +kernel
theorem dX12_isOut_1 : decode cX12_isOut 1 = .ok (.istore_n 2, 1) := by decide +kernel
theorem dX12_isOut_2 : decode cX12_isOut 2 = .ok (.iconst 0, 1) := by decide +kernel
theorem dX12_isOut_3 : decode cX12_isOut 3 = .ok (.istore_n 3, 1) := by decide +kernel
theorem dX12_isOut_4 : decode cX12_isOut 4 = .ok (.iload_n 3, 1) := by decide +kernel
theorem dX12_isOut_5 : decode cX12_isOut 5 = .ok (.iconst 4, 1) := by decide +kernel
theorem dX12_isOut_6 : decode cX12_isOut 6 = .ok (.if_icmp .ge 70, 3) := by decide +kernel
theorem dX12_isOut_9 : decode cX12_isOut 9 = .ok (.iconst 0, 1) := by decide +kernel
theorem dX12_isOut_10 : decode cX12_isOut 10 = .ok (.istore 4, 2) := by decide +kernel
theorem dX12_isOut_12 : decode cX12_isOut 12 = .ok (.iload 4, 2) := by decide +kernel
theorem dX12_isOut_14 : decode cX12_isOut 14 = .ok (.aload_n 0, 1) := by decide +kernel
theorem dX12_isOut_15 : decode cX12_isOut 15 = .ok (.getfield 69, 3) := by decide +kernel
theorem dX12_isOut_18 : decode cX12_isOut 18 = .ok (.iload_n 3, 1) := by decide +kernel
theorem dX12_isOut_19 : decode cX12_isOut 19 = .ok (.iaload, 1) := by decide +kernel
theorem dX12_isOut_20 : decode cX12_isOut 20 = .ok (.if_icmp .ge 50, 3) := by decide +kernel
theorem dX12_isOut_23 : decode cX12_isOut 23 = .ok (.iload_n 2, 1) := by decide +kernel
theorem dX12_isOut_24 : decode cX12_isOut 24 = .ok (.ifCond .ne 34, 3) := by decide +kernel
theorem dX12_isOut_27 : decode cX12_isOut 27 = .ok (.aload_n 0, 1) := by decide +kernel
theorem dX12_isOut_28 : decode cX12_isOut 28 = .ok (.getfield 75, 3) := by decide +kernel
theorem dX12_isOut_31 : decode cX12_isOut 31 = .ok (.bipush 40, 2) := by decide +kernel
theorem dX12_isOut_33 : decode cX12_isOut 33 = .ok (.iload_n 3, 1) := by decide +kernel
theorem dX12_isOut_34 : decode cX12_isOut 34 = .ok (.imul, 1) := by decide +kernel
theorem dX12_isOut_35 : decode cX12_isOut 35 = .ok (.iload 4, 2) := by decide +kernel
theorem dX12_isOut_37 : decode cX12_isOut 37 = .ok (.iadd, 1) := by decide +kernel
theorem dX12_isOut_38 : decode cX12_isOut 38 = .ok (.iaload, 1) := by decide +kernel
theorem dX12_isOut_39 : decode cX12_isOut 39 = .ok (.iload_n 1, 1) := by decide +kernel
theorem dX12_isOut_40 : decode cX12_isOut 40 = .ok (.if_icmp .eq 18, 3) := by decide +kernel
theorem dX12_isOut_43 : decode cX12_isOut 43 = .ok (.aload_n 0, 1) := by decide +kernel
theorem dX12_isOut_44 : decode cX12_isOut 44 = .ok (.getfield 75, 3) := by decide +kernel
theorem dX12_isOut_47 : decode cX12_isOut 47 = .ok (.bipush 40, 2) := by decide +kernel
theorem dX12_isOut_49 : decode cX12_isOut 49 = .ok (.iload_n 3, 1) := by decide +kernel
theorem dX12_isOut_50 : decode cX12_isOut 50 = .ok (.imul, 1) := by decide +kernel
theorem dX12_isOut_51 : decode cX12_isOut 51 = .ok (.iload 4, 2) := by decide +kernel
theorem dX12_isOut_53 : decode cX12_isOut 53 = .ok (.iadd, 1) := by decide +kernel
theorem dX12_isOut_54 : decode cX12_isOut 54 = .ok (.iaload, 1) := by decide +kernel
theorem dX12_isOut_55 : decode cX12_isOut 55 = .ok (.ifCond .ge 7, 3) := by decide +kernel
theorem dX12_isOut_58 : decode cX12_isOut 58 = .ok (.iconst 1, 1) := by decide +kernel
theorem dX12_isOut_59 : decode cX12_isOut 59 = .ok (.goto 4, 3) := by decide +kernel
theorem dX12_isOut_62 : decode cX12_isOut 62 = .ok (.iconst 0, 1) := by decide +kernel
theorem dX12_isOut_63 : decode cX12_isOut 63 = .ok (.istore_n 2, 1) := by decide +kernel
theorem dX12_isOut_64 : decode cX12_isOut 64 = .ok (.iinc 4 1, 3) := by decide +kernel
theorem dX12_isOut_67 : decode cX12_isOut 67 = .ok (.goto (-55), 3) := by decide +kernel
theorem dX12_isOut_70 : decode cX12_isOut 70 = .ok (.iinc 3 1, 3) := by decide +kernel
theorem dX12_isOut_73 : decode cX12_isOut 73 = .ok (.goto (-69), 3) := by decide +kernel
theorem dX12_isOut_76 : decode cX12_isOut 76 = .ok (.iload_n 2, 1) := by decide +kernel
theorem dX12_isOut_77 : decode cX12_isOut 77 = .ok (.ireturn, 1) := by decide +kernel
set_option maxHeartbeats 4000000 in
set_option maxRecDepth 100000 in
theorem s_X12_isOut {P : PP} {a0 : Nat} {a1 : Int32} (I : IM P a0) : CtrI yX12_isOut cX12_isOut 5 (some Jvm.ClassFile.FieldType.boolean) ({ frames := 1, cells := 0, slots := 0, locals := 64 } : Room) 0 0 P [.ref a0, .int a1] (fun r P2 => P = P2 ∧ (0 ≤ r.toInt ∧ r.toInt ≤ 1)) := by
  refine enI (lv := [(0, .ref a0), (1, .int a1)]) (by decide) (Nat.le_of_ble_eq_true rfl) rfl (fun E D cy C Ci0 ret => ?_)
  have ha0 := I.2.1
  have J4 : ∀ (n4 : Nat) (v4_2 : Int32) (v4_3 : Int32), (4 - v4_3.toInt).toNat < n4 → (0 ≤ v4_2.toInt ∧ v4_2.toInt ≤ 1) → (0 ≤ v4_3.toInt ∧ v4_3.toInt ≤ 4) → G E ({ frames := 1, cells := 0, slots := 0, locals := 64 } : Room) D cy 5 P 0 0 4 [(0, .ref a0), (1, .int a1), (2, .int v4_2), (3, .int v4_3)] [] := by
    intro n4
    induction n4 with
    | zero => intro v4_2 v4_3 hm4 hv4_2 hv4_3; omega
    | succ n4 ih4 =>
      intro v4_2 v4_3 hm4 hv4_2 hv4_3
      have J12 : ∀ (n12 : Nat) (v12_2 : Int32) (v12_4 : Int32), (40 - v12_4.toInt).toNat < n12 → (0 ≤ v12_2.toInt ∧ v12_2.toInt ≤ 1) → (0 ≤ v4_3.toInt ∧ v4_3.toInt ≤ 3) → (0 ≤ v12_4.toInt ∧ v12_4.toInt ≤ 40) → G E ({ frames := 1, cells := 0, slots := 0, locals := 64 } : Room) D cy 5 P 0 0 12 [(0, .ref a0), (1, .int a1), (2, .int v12_2), (3, .int v4_3), (4, .int v12_4)] [] := by
        intro n12
        induction n12 with
        | zero => intro v12_2 v12_4 hm12 hv12_2 hv12_3 hv12_4; omega
        | succ n12 ih12 =>
          intro v12_2 v12_4 hm12 hv12_2 hv12_3 hv12_4
          have J63 : ∀ (v63_s0 : Int32), (0 ≤ v4_3.toInt ∧ v4_3.toInt ≤ 3) → (0 ≤ v12_4.toInt ∧ v12_4.toInt ≤ 39) → (0 ≤ v63_s0.toInt ∧ v63_s0.toInt ≤ 1) → (∀ b, pR P a0 20 = some b → 1 ≤ (pI P b (v4_3.toInt.toNat)).toInt ∧ (pI P b (v4_3.toInt.toNat)).toInt ≤ 40) → G E ({ frames := 1, cells := 0, slots := 0, locals := 64 } : Room) D cy 5 P 0 0 63 [(0, .ref a0), (1, .int a1), (3, .int v4_3), (4, .int v12_4)] [.int v63_s0] := by
            intro v63_s0 hv63_3 hv63_4 hv63_s0 hq63_0
            obtain ⟨b15080, e15081, h15082⟩ := I.fld (ha0) 20 13 20 rfl
            have hq63_0 := hq63_0 b15080 e15081
            refine g_istore_n (lv' := [(2, .int v63_s0), (0, .ref a0), (1, .int a1), (3, .int v4_3), (4, .int v12_4)]) C dX12_isOut_63 rfl (by decide) rfl ?_
            refine s_iinc (lv0 := [(2, .int v63_s0), (0, .ref a0), (1, .int a1), (3, .int v4_3)]) (m := 1) C dX12_isOut_64 4 rfl (by decide) rfl (by decide) (by omega) (fun z15083 h15084 => ?_)
            have h15084 : z15083.toInt = v12_4.toInt + 1 := h15084
            refine g_goto C 12 dX12_isOut_67 (by decide) ?_
            refine g_lv (lv' := [(0, .ref a0), (1, .int a1), (2, .int v63_s0), (3, .int v4_3), (4, .int z15083)]) [2, 3, 1, 4, 0] rfl ?_
            exact ih12 v63_s0 z15083 (by omega) (by omega) (by omega) (by omega)
          have J58 : (0 ≤ v4_3.toInt ∧ v4_3.toInt ≤ 3) → (0 ≤ v12_4.toInt ∧ v12_4.toInt ≤ 39) → (∀ b, pR P a0 20 = some b → 1 ≤ (pI P b (v4_3.toInt.toNat)).toInt ∧ (pI P b (v4_3.toInt.toNat)).toInt ≤ 40) → G E ({ frames := 1, cells := 0, slots := 0, locals := 64 } : Room) D cy 5 P 0 0 58 [(0, .ref a0), (1, .int a1), (3, .int v4_3), (4, .int v12_4)] [] := by
            intro hv58_3 hv58_4 hq58_0
            obtain ⟨b15085, e15086, h15087⟩ := I.fld (ha0) 20 13 20 rfl
            have hq58_0 := hq58_0 b15085 e15086
            refine g_iconst (v := 1) C dX12_isOut_58 (by decide) ?_
            refine g_goto C 63 dX12_isOut_59 (by decide) ?_
            exact J63 1 (by omega) (by omega) (by decide) (fun b9 e9 => by rw [e15086] at e9; cases e9; omega)
          refine g_iload C dX12_isOut_12 4 rfl ?_
          refine g_aload_n C dX12_isOut_14 rfl 0 rfl ?_
          obtain ⟨b15088, e15089, h15090⟩ := I.fld (ha0) 20 13 20 rfl
          refine g_getR C fi_X12_69 rfl e15089 (ha0).1 (ha0).2 dX12_isOut_15 ?_
          refine g_iload_n C dX12_isOut_18 rfl 3 rfl ?_
          refine g_iald (j := (v4_3.toInt.toNat)) C h15090.1 h15090.2.1 (ix_in h15090.2.2 (by omega)) dX12_isOut_19 ?_
          have h15091 := I.arr e15089 rfl (v4_3.toInt.toNat)
          refine b_icmp_ge C 70 dX12_isOut_20 (by decide) (fun h15092 => ?_) (fun h15092 => ?_)
          · have h15092 : (pI P b15088 (v4_3.toInt.toNat)).toInt ≤ v12_4.toInt := h15092
            refine s_iinc (lv0 := [(0, .ref a0), (1, .int a1), (2, .int v12_2), (4, .int v12_4)]) (m := 1) C dX12_isOut_70 3 rfl (by decide) rfl (by decide) (by omega) (fun z15093 h15094 => ?_)
            have h15094 : z15093.toInt = v4_3.toInt + 1 := h15094
            refine g_goto C 4 dX12_isOut_73 (by decide) ?_
            refine g_lv (lv' := [(0, .ref a0), (1, .int a1), (2, .int v12_2), (3, .int z15093)]) [1, 2, 3, 0] rfl ?_
            exact ih4 v12_2 z15093 (by omega) (by omega) (by omega)
          · have h15092 : v12_4.toInt < (pI P b15088 (v4_3.toInt.toNat)).toInt := h15092
            refine g_iload_n C dX12_isOut_23 rfl 2 rfl ?_
            refine b_if_ne C 58 dX12_isOut_24 (by decide) (fun h15095 => ?_) (fun h15095 => ?_)
            · have h15095 : v12_2.toInt ≠ 0 := ti_ne h15095
              refine g_lv (lv' := [(0, .ref a0), (1, .int a1), (3, .int v4_3), (4, .int v12_4)]) [0, 1, 3, 4] rfl ?_
              exact J58 (by omega) (by omega) (fun b9 e9 => by rw [e15089] at e9; cases e9; omega)
            · have h15095 : v12_2.toInt = 0 := congrArg Int32.toInt h15095
              refine g_aload_n C dX12_isOut_27 rfl 0 rfl ?_
              obtain ⟨b15096, e15097, h15098⟩ := I.fld (ha0) 22 13 800 rfl
              refine g_getR C fi_X12_75 rfl e15097 (ha0).1 (ha0).2 dX12_isOut_28 ?_
              refine g_bipush (v := 40) C dX12_isOut_31 (by decide) ?_
              refine g_iload_n C dX12_isOut_33 rfl 3 rfl ?_
              refine s_imul C dX12_isOut_34 (by show -2147483648 ≤ 40 * v4_3.toInt ∧ 40 * v4_3.toInt ≤ 2147483647; omega) (fun z15099 h15100 => ?_)
              have h15100 : z15099.toInt = 40 * v4_3.toInt := h15100
              refine g_iload C dX12_isOut_35 4 rfl ?_
              refine s_iadd C dX12_isOut_37 (by show -2147483648 ≤ z15099.toInt + v12_4.toInt ∧ z15099.toInt + v12_4.toInt ≤ 2147483647; omega) (fun z15101 h15102 => ?_)
              have h15102 : z15101.toInt = z15099.toInt + v12_4.toInt := h15102
              refine g_iald (j := (z15101.toInt.toNat)) C h15098.1 h15098.2.1 (ix_in h15098.2.2 (by omega)) dX12_isOut_38 ?_
              have h15103 := I.arr e15097 rfl (z15101.toInt.toNat)
              refine g_iload_n C dX12_isOut_39 rfl 1 rfl ?_
              have u15105 := ti_rng a1
              refine b_icmp_eq C 58 dX12_isOut_40 (by decide) (fun h15104 => ?_) (fun h15104 => ?_)
              · have h15104 : (pI P b15096 (z15101.toInt.toNat)).toInt = a1.toInt := congrArg Int32.toInt h15104
                refine g_lv (lv' := [(0, .ref a0), (1, .int a1), (3, .int v4_3), (4, .int v12_4)]) [0, 1, 3, 4] rfl ?_
                exact J58 (by omega) (by omega) (fun b9 e9 => by rw [e15089] at e9; cases e9; omega)
              · have h15104 : (pI P b15096 (z15101.toInt.toNat)).toInt ≠ a1.toInt := ti_ne h15104
                refine g_aload_n C dX12_isOut_43 rfl 0 rfl ?_
                refine g_getR C fi_X12_75 rfl e15097 (ha0).1 (ha0).2 dX12_isOut_44 ?_
                refine g_bipush (v := 40) C dX12_isOut_47 (by decide) ?_
                refine g_iload_n C dX12_isOut_49 rfl 3 rfl ?_
                refine s_imul C dX12_isOut_50 (by show -2147483648 ≤ 40 * v4_3.toInt ∧ 40 * v4_3.toInt ≤ 2147483647; omega) (fun z15106 h15107 => ?_)
                have h15107 : z15106.toInt = 40 * v4_3.toInt := h15107
                refine g_iload C dX12_isOut_51 4 rfl ?_
                refine s_iadd C dX12_isOut_53 (by show -2147483648 ≤ z15106.toInt + v12_4.toInt ∧ z15106.toInt + v12_4.toInt ≤ 2147483647; omega) (fun z15108 h15109 => ?_)
                have h15109 : z15108.toInt = z15106.toInt + v12_4.toInt := h15109
                refine g_iald (j := (z15108.toInt.toNat)) C h15098.1 h15098.2.1 (ix_in h15098.2.2 (by omega)) dX12_isOut_54 ?_
                have h15110 := I.arr e15097 rfl (z15108.toInt.toNat)
                refine b_if_ge C 62 dX12_isOut_55 (by decide) (fun h15111 => ?_) (fun h15111 => ?_)
                · have h15111 : 0 ≤ (pI P b15096 (z15108.toInt.toNat)).toInt := h15111
                  refine g_iconst (v := 0) C dX12_isOut_62 (by decide) ?_
                  refine g_lv (lv' := [(0, .ref a0), (1, .int a1), (3, .int v4_3), (4, .int v12_4)]) [0, 1, 3, 4] rfl ?_
                  exact J63 0 (by omega) (by omega) (by decide) (fun b9 e9 => by rw [e15089] at e9; cases e9; omega)
                · have h15111 : (pI P b15096 (z15108.toInt.toNat)).toInt < 0 := h15111
                  refine g_lv (lv' := [(0, .ref a0), (1, .int a1), (3, .int v4_3), (4, .int v12_4)]) [0, 1, 3, 4] rfl ?_
                  exact J58 (by omega) (by omega) (fun b9 e9 => by rw [e15089] at e9; cases e9; omega)
      refine g_iload_n C dX12_isOut_4 rfl 3 rfl ?_
      refine g_iconst (v := 4) C dX12_isOut_5 (by decide) ?_
      refine b_icmp_ge C 76 dX12_isOut_6 (by decide) (fun h15112 => ?_) (fun h15112 => ?_)
      · have h15112 : 4 ≤ v4_3.toInt := h15112
        refine g_iload_n C dX12_isOut_76 rfl 2 rfl ?_
        exact ret _ _ _ _ _ _ dX12_isOut_77 (nar_b (b01 (by omega))) (by decide) (by decide) ⟨rfl, (by omega)⟩
      · have h15112 : v4_3.toInt < 4 := h15112
        refine g_iconst (v := 0) C dX12_isOut_9 (by decide) ?_
        refine g_istore (lv' := [(4, .int 0), (0, .ref a0), (1, .int a1), (2, .int v4_2), (3, .int v4_3)]) C dX12_isOut_10 (by decide) rfl ?_
        refine g_lv (lv' := [(0, .ref a0), (1, .int a1), (2, .int v4_2), (3, .int v4_3), (4, .int 0)]) [1, 2, 3, 4, 0] rfl ?_
        exact J12 _ v4_2 0 (Nat.lt_succ_self _) (by omega) (by omega) (by decide)
  refine g_iconst (v := 0) C dX12_isOut_0 (by decide) ?_
  refine g_istore_n (lv' := [(2, .int 0), (0, .ref a0), (1, .int a1)]) C dX12_isOut_1 rfl (by decide) rfl ?_
  refine g_iconst (v := 0) C dX12_isOut_2 (by decide) ?_
  refine g_istore_n (lv' := [(3, .int 0), (2, .int 0), (0, .ref a0), (1, .int a1)]) C dX12_isOut_3 rfl (by decide) rfl ?_
  refine g_lv (lv' := [(0, .ref a0), (1, .int a1), (2, .int 0), (3, .int 0)]) [2, 3, 1, 0] rfl ?_
  exact J4 _ 0 0 (Nat.lt_succ_self _) (by decide) (by decide)
theorem dX12_draw_18 : decode cX12_draw 18 = .ok (.ifCond .eq 10, 3) := by decide +kernel
theorem dX12_draw_28 : decode cX12_draw 28 = .ok (.aload_n 0, 1) := by decide +kernel
theorem dX12_draw_29 : decode cX12_draw 29 = .ok (.invokevirtual 199, 3) := by decide +kernel
theorem dX12_drawn_0 : decode cX12_drawn 0 = .ok (.aload_n 0, 1) := by decide +kernel
theorem dX12_drawn_1 : decode cX12_drawn 1 = .ok (.aload_n 0, 1) := by decide +kernel
theorem dX12_drawn_2 : decode cX12_drawn 2 = .ok (.getfield 226, 3) := by decide +kernel
theorem dX12_drawn_5 : decode cX12_drawn 5 = .ok (.ldc2_w 230, 3) := by decide +kernel
theorem dX12_drawn_8 : decode cX12_drawn 8 = .ok (.lmul, 1) := by decide +kernel
theorem dX12_drawn_9 : decode cX12_drawn 9 = .ok (.ldc2_w 232, 3) := by decide +kernel
theorem dX12_drawn_12 : decode cX12_drawn 12 = .ok (.ladd, 1) := by decide +kernel
theorem dX12_drawn_13 : decode cX12_drawn 13 = .ok (.ldc2_w 234, 3) := by decide +kernel
theorem dX12_drawn_16 : decode cX12_drawn 16 = .ok (.lrem, 1) := by decide +kernel
theorem dX12_enough_0 : decode cX12_enough 0 = .ok (.aload_n 0, 1) := by decide +kernel
theorem dX12_enough_1 : decode cX12_enough 1 = .ok (.iconst 0, 1) := by decide +kernel
theorem dX12_enough_2 : decode cX12_enough 2 = .ok (.putfield 1, 3) := by decide +kernel
theorem dX12_enough_5 : decode cX12_enough 5 = .ok (.aload_n 0, 1) := by decide +kernel
theorem dX12_enough_6 : decode cX12_enough 6 = .ok (.iload_n 1, 1) := by decide +kernel
theorem dX12_enough_7 : decode cX12_enough 7 = .ok (.iload_n 2, 1) := by decide +kernel
theorem dX12_enough_8 : decode cX12_enough 8 = .ok (.iload_n 3, 1) := by decide +kernel
theorem dX12_enough_9 : decode cX12_enough 9 = .ok (.invokevirtual 377, 3) := by decide +kernel
theorem dX12_enough_12 : decode cX12_enough 12 = .ok (.ifCond .ne 5, 3) := by decide +kernel
theorem dX12_enough_17 : decode cX12_enough 17 = .ok (.aload_n 0, 1) := by decide +kernel
theorem dX12_enough_18 : decode cX12_enough 18 = .ok (.iload_n 1, 1) := by decide +kernel
theorem dX12_enough_19 : decode cX12_enough 19 = .ok (.iload_n 2, 1) := by decide +kernel
theorem dX12_enough_20 : decode cX12_enough 20 = .ok (.invokevirtual 380, 3) := by decide +kernel
theorem dX12_falls_0 : decode cX12_falls 0 = .ok (.iload_n 3, 1) := by decide +kernel
theorem dX12_falls_1 : decode cX12_falls 1 = .ok (.bipush 37, 2) := by decide +kernel
theorem dX12_falls_3 : decode cX12_falls 3 = .ok (.imul, 1) := by decide +kernel
theorem dX12_falls_4 : decode cX12_falls 4 = .ok (.bipush 11, 2) := by decide +kernel
theorem dX12_falls_6 : decode cX12_falls 6 = .ok (.iload_n 2, 1) := by decide +kernel
theorem dX12_falls_7 : decode cX12_falls 7 = .ok (.imul, 1) := by decide +kernel
theorem dX12_falls_8 : decode cX12_falls 8 = .ok (.iadd, 1) := by decide +kernel
theorem dX12_falls_9 : decode cX12_falls 9 = .ok (.bipush 101, 2) := by decide +kernel
theorem dX12_falls_11 : decode cX12_falls 11 = .ok (.iload_n 1, 1) := by decide +kernel
theorem dX12_falls_12 : decode cX12_falls 12 = .ok (.imul, 1) := by decide +kernel
theorem dX12_falls_13 : decode cX12_falls 13 = .ok (.iadd, 1) := by decide +kernel
theorem dX12_falls_14 : decode cX12_falls 14 = .ok (.bipush 13, 2) := by decide +kernel
theorem dX12_falls_16 : decode cX12_falls 16 = .ok (.iadd, 1) := by decide +kernel
theorem dX12_falls_17 : decode cX12_falls 17 = .ok (.bipush 7, 2) := by decide +kernel
theorem dX12_falls_19 : decode cX12_falls 19 = .ok (.imul, 1) := by decide +kernel
theorem dX12_falls_20 : decode cX12_falls 20 = .ok (.bipush 100, 2) := by decide +kernel
theorem dX12_falls_22 : decode cX12_falls 22 = .ok (.irem, 1) := by decide +kernel
theorem dX12_falls_23 : decode cX12_falls 23 = .ok (.aload_n 0, 1) := by decide +kernel
theorem dX12_falls_24 : decode cX12_falls 24 = .ok (.getfield 127, 3) := by decide +kernel
theorem dX12_falls_27 : decode cX12_falls 27 = .ok (.iload_n 1, 1) := by decide +kernel
theorem dX12_falls_28 : decode cX12_falls 28 = .ok (.iaload, 1) := by decide +kernel
theorem dX12_falls_29 : decode cX12_falls 29 = .ok (.if_icmp .lt 7, 3) := by decide +kernel
theorem dX12_falls_32 : decode cX12_falls 32 = .ok (.iconst 1, 1) := by decide +kernel
theorem dX12_falls_33 : decode cX12_falls 33 = .ok (.goto 4, 3) := by decide +kernel
theorem dX12_falls_36 : decode cX12_falls 36 = .ok (.iconst 0, 1) := by decide +kernel
theorem dX12_falls_37 : decode cX12_falls 37 = .ok (.ireturn, 1) := by decide +kernel
set_option maxHeartbeats 4000000 in
set_option maxRecDepth 100000 in
theorem s_X12_falls {P : PP} {a0 : Nat} {a1 : Int32} {a2 : Int32} {a3 : Int32} (I : IM P a0) (ha1 : 0 ≤ a1.toInt ∧ a1.toInt ≤ 3) : CtrI yX12_falls cX12_falls 4 (some Jvm.ClassFile.FieldType.boolean) ({ frames := 1, cells := 0, slots := 0, locals := 64 } : Room) 0 0 P [.ref a0, .int a1, .int a2, .int a3] (fun r P2 => P = P2 ∧ (0 ≤ r.toInt ∧ r.toInt ≤ 1)) := by
  refine enI (lv := [(0, .ref a0), (1, .int a1), (2, .int a2), (3, .int a3)]) (by decide) (Nat.le_of_ble_eq_true rfl) rfl (fun E D cy C Ci0 ret => ?_)
  have ha0 := I.2.1
  refine g_iload_n C dX12_falls_0 rfl 3 rfl ?_
  refine g_bipush (v := 37) C dX12_falls_1 (by decide) ?_
  refine a_imul C dX12_falls_3 (fun z15168 => ?_)
  refine g_bipush (v := 11) C dX12_falls_4 (by decide) ?_
  refine g_iload_n C dX12_falls_6 rfl 2 rfl ?_
  refine a_imul C dX12_falls_7 (fun z15170 => ?_)
  refine a_iadd C dX12_falls_8 (fun z15172 => ?_)
  refine g_bipush (v := 101) C dX12_falls_9 (by decide) ?_
  refine g_iload_n C dX12_falls_11 rfl 1 rfl ?_
  refine s_imul C dX12_falls_12 (by show -2147483648 ≤ 101 * a1.toInt ∧ 101 * a1.toInt ≤ 2147483647; omega) (fun z15174 h15175 => ?_)
  have h15175 : z15174.toInt = 101 * a1.toInt := h15175
  refine a_iadd C dX12_falls_13 (fun z15176 => ?_)
  refine g_bipush (v := 13) C dX12_falls_14 (by decide) ?_
  refine a_iadd C dX12_falls_16 (fun z15178 => ?_)
  refine g_bipush (v := 7) C dX12_falls_17 (by decide) ?_
  refine a_imul C dX12_falls_19 (fun z15180 => ?_)
  refine g_bipush (v := 100) C dX12_falls_20 (by decide) ?_
  refine a_irem C dX12_falls_22 (by show 100 ≠ 0; omega) (fun z15182 => ?_)
  refine g_aload_n C dX12_falls_23 rfl 0 rfl ?_
  obtain ⟨b15184, e15185, h15186⟩ := I.fld (ha0) 45 13 4 rfl
  refine g_getR C fi_X12_127 rfl e15185 (ha0).1 (ha0).2 dX12_falls_24 ?_
  refine g_iload_n C dX12_falls_27 rfl 1 rfl ?_
  refine g_iald (j := (a1.toInt.toNat)) C h15186.1 h15186.2.1 (ix_in h15186.2.2 (by omega)) dX12_falls_28 ?_
  have u15188 := ti_rng z15182
  have u15189 := ti_rng (pI P b15184 (a1.toInt.toNat))
  refine b_icmp_lt C 36 dX12_falls_29 (by decide) (fun h15187 => ?_) (fun h15187 => ?_)
  · have h15187 : z15182.toInt < (pI P b15184 (a1.toInt.toNat)).toInt := h15187
    refine g_iconst (v := 0) C dX12_falls_36 (by decide) ?_
    exact ret _ _ _ _ _ _ dX12_falls_37 rfl (by decide) (by decide) ⟨rfl, (by decide)⟩
  · have h15187 : (pI P b15184 (a1.toInt.toNat)).toInt ≤ z15182.toInt := h15187
    refine g_iconst (v := 1) C dX12_falls_32 (by decide) ?_
    refine g_goto C 37 dX12_falls_33 (by decide) ?_
    exact ret _ _ _ _ _ _ dX12_falls_37 rfl (by decide) (by decide) ⟨rfl, (by decide)⟩
theorem dX12_feed_0 : decode cX12_feed 0 = .ok (.aload_n 0, 1) := by decide +kernel
theorem dX12_feed_1 : decode cX12_feed 1 = .ok (.iconst 0, 1) := by decide +kernel
theorem dX12_feed_2 : decode cX12_feed 2 = .ok (.putfield 1, 3) := by decide +kernel
theorem dX12_feed_5 : decode cX12_feed 5 = .ok (.aload_n 0, 1) := by decide +kernel
theorem dX12_feed_6 : decode cX12_feed 6 = .ok (.lload_n 1, 1) := by decide +kernel
theorem dX12_feed_7 : decode cX12_feed 7 = .ok (.invokevirtual 7, 3) := by decide +kernel
theorem dX12_lay_0 : decode cX12_lay 0 = .ok (.bipush 56, 2) := by decide +kernel
theorem dX12_lay_2 : decode cX12_lay 2 = .ok (.istore_n 3, 1) := by decide +kernel
theorem dX12_lay_3 : decode cX12_lay 3 = .ok (.iload_n 3, 1) := by decide +kernel
theorem dX12_lay_4 : decode cX12_lay 4 = .ok (.ifCond .lt 71, 3) := by decide +kernel
theorem dX12_lay_7 : decode cX12_lay 7 = .ok (.lload_n 1, 1) := by decide +kernel
theorem dX12_lay_8 : decode cX12_lay 8 = .ok (.iload_n 3, 1) := by decide +kernel
theorem dX12_lay_9 : decode cX12_lay 9 = .ok (.lshr, 1) := by decide +kernel
theorem dX12_lay_10 : decode cX12_lay 10 = .ok (.l2i, 1) := by decide +kernel
theorem dX12_lay_11 : decode cX12_lay 11 = .ok (.sipush 255, 3) := by decide +kernel
theorem dX12_lay_14 : decode cX12_lay 14 = .ok (.iand, 1) := by decide +kernel
theorem dX12_lay_15 : decode cX12_lay 15 = .ok (.istore 4, 2) := by decide +kernel
theorem dX12_lay_17 : decode cX12_lay 17 = .ok (.iload 4, 2) := by decide +kernel
theorem dX12_lay_19 : decode cX12_lay 19 = .ok (.bipush 10, 2) := by decide +kernel
theorem dX12_lay_21 : decode cX12_lay 21 = .ok (.if_icmp .eq 17, 3) := by decide +kernel
theorem dX12_lay_24 : decode cX12_lay 24 = .ok (.iload 4, 2) := by decide +kernel
theorem dX12_lay_26 : decode cX12_lay 26 = .ok (.bipush 32, 2) := by decide +kernel
theorem dX12_lay_28 : decode cX12_lay 28 = .ok (.if_icmp .lt 41, 3) := by decide +kernel
theorem dX12_lay_31 : decode cX12_lay 31 = .ok (.iload 4, 2) := by decide +kernel
theorem dX12_lay_33 : decode cX12_lay 33 = .ok (.bipush 126, 2) := by decide +kernel
theorem dX12_lay_35 : decode cX12_lay 35 = .ok (.if_icmp .gt 34, 3) := by decide +kernel
theorem dX12_lay_38 : decode cX12_lay 38 = .ok (.aload_n 0, 1) := by decide +kernel
theorem dX12_lay_39 : decode cX12_lay 39 = .ok (.getfield 11, 3) := by decide +kernel
theorem dX12_lay_42 : decode cX12_lay 42 = .ok (.sipush 1000, 3) := by decide +kernel
theorem dX12_lay_45 : decode cX12_lay 45 = .ok (.if_icmp .ge 24, 3) := by decide +kernel
theorem dX12_lay_48 : decode cX12_lay 48 = .ok (.aload_n 0, 1) := by decide +kernel
theorem dX12_lay_49 : decode cX12_lay 49 = .ok (.getfield 14, 3) := by decide +kernel
theorem dX12_lay_52 : decode cX12_lay 52 = .ok (.aload_n 0, 1) := by decide +kernel
theorem dX12_lay_53 : decode cX12_lay 53 = .ok (.getfield 11, 3) := by decide +kernel
theorem dX12_lay_56 : decode cX12_lay 56 = .ok (.iload 4, 2) := by decide +kernel
theorem dX12_lay_58 : decode cX12_lay 58 = .ok (.iastore, 1) := by decide +kernel
theorem dX12_lay_59 : decode cX12_lay 59 = .ok (.aload_n 0, 1) := by decide +kernel
theorem dX12_lay_60 : decode cX12_lay 60 = .ok (.dup, 1) := by decide +kernel
theorem dX12_lay_61 : decode cX12_lay 61 = .ok (.getfield 11, 3) := by decide +kernel
theorem dX12_lay_64 : decode cX12_lay 64 = .ok (.iconst 1, 1) := by decide +kernel
theorem dX12_lay_65 : decode cX12_lay 65 = .ok (.iadd, 1) := by decide +kernel
theorem dX12_lay_66 : decode cX12_lay 66 = .ok (.putfield 11, 3) := by decide +kernel
theorem dX12_lay_69 : decode cX12_lay 69 = .ok (.iinc 3 (-8), 3) := by decide +kernel
theorem dX12_lay_72 : decode cX12_lay 72 = .ok (.goto (-69), 3) := by decide +kernel
theorem dX12_lay_75 : decode cX12_lay 75 = .ok (.return_, 1) := by decide +kernel
set_option maxHeartbeats 4000000 in
set_option maxRecDepth 100000 in
theorem s_X12_lay {P : PP} {a0 : Nat} {a1 : Int64} (I : IM P a0) : CtrV yX12_lay cX12_lay 5 none ({ frames := 1, cells := 0, slots := 0, locals := 64 } : Room) 0 0 P [.ref a0, .long a1] (fun P2 => IM P2 a0 ∧ EM [1, 2] a0 P P2) := by
  refine enV (lv := [(0, .ref a0), (1, .long a1)]) (by decide) (Nat.le_of_ble_eq_true rfl) rfl (fun E D cy C Ci0 ret => ?_)
  have ha0 := I.2.1
  have J3 : ∀ (n3 : Nat) (P3 : PP) (v3_3 : Int32), (v3_3.toInt - (-8)).toNat < n3 → (IM P3 a0) → (EM [1, 2] a0 P P3) → (-8 ≤ v3_3.toInt ∧ v3_3.toInt ≤ 56) → G E ({ frames := 1, cells := 0, slots := 0, locals := 64 } : Room) D cy 5 P3 0 0 3 [(0, .ref a0), (1, .long a1), (3, .int v3_3)] [] := by
    intro n3
    induction n3 with
    | zero => intro P3 v3_3 hm3 I3 X3 hv3_3; omega
    | succ n3 ih3 =>
      intro P3 v3_3 hm3 I3 X3 hv3_3
      have h15425 := X3.at ha0
      have J69 : ∀ (P69 : PP), (IM P69 a0) → (EM [1, 2] a0 P P69) → (0 ≤ v3_3.toInt ∧ v3_3.toInt ≤ 56) → G E ({ frames := 1, cells := 0, slots := 0, locals := 64 } : Room) D cy 5 P69 0 0 69 [(0, .ref a0), (1, .long a1), (3, .int v3_3)] [] := by
        intro P69 I69 X69 hv69_3
        have h15426 := X69.at ha0
        refine s_iinc (lv0 := [(0, .ref a0), (1, .long a1)]) (m := -8) C dX12_lay_69 2 rfl (by decide) rfl (by decide) (by omega) (fun z15427 h15428 => ?_)
        have h15428 : z15427.toInt = v3_3.toInt + (-8) := h15428
        refine g_goto C 3 dX12_lay_72 (by decide) ?_
        refine g_lv (lv' := [(0, .ref a0), (1, .long a1), (3, .int z15427)]) [1, 2, 0] rfl ?_
        exact ih3 P69 z15427 (by omega) I69 X69 (by omega)
      have J38 : ∀ (v38_4 : Int32), (0 ≤ v3_3.toInt ∧ v3_3.toInt ≤ 56) → (10 ≤ v38_4.toInt ∧ v38_4.toInt ≤ 126) → G E ({ frames := 1, cells := 0, slots := 0, locals := 64 } : Room) D cy 5 P3 0 0 38 [(0, .ref a0), (1, .long a1), (3, .int v3_3), (4, .int v38_4)] [] := by
        intro v38_4 hv38_3 hv38_4
        have h15429 := X3.at ha0
        refine g_aload_n C dX12_lay_38 rfl 0 rfl ?_
        refine g_getI C fi_X12_11 (by decide) (h15429).1 (h15429).2 dX12_lay_39 ?_
        have h15430 := I3.rg (h15429) 2 rfl
        refine g_sipush (v := 1000) C dX12_lay_42 (by decide) ?_
        refine b_icmp_ge C 69 dX12_lay_45 (by decide) (fun h15431 => ?_) (fun h15431 => ?_)
        · have h15431 : 1000 ≤ (pI P3 a0 2).toInt := h15431
          refine g_lv (lv' := [(0, .ref a0), (1, .long a1), (3, .int v3_3)]) [0, 1, 2] rfl ?_
          exact J69 P3 I3 X3 (by omega)
        · have h15431 : (pI P3 a0 2).toInt < 1000 := h15431
          refine g_aload_n C dX12_lay_48 rfl 0 rfl ?_
          obtain ⟨b15432, e15433, h15434⟩ := I3.fld (h15429) 1 13 1000 rfl
          refine g_getR C fi_X12_14 rfl e15433 (h15429).1 (h15429).2 dX12_lay_49 ?_
          refine g_aload_n C dX12_lay_52 rfl 0 rfl ?_
          refine g_getI C fi_X12_11 (by decide) (h15429).1 (h15429).2 dX12_lay_53 ?_
          refine g_iload C dX12_lay_56 3 rfl ?_
          refine g_iast (j := ((pI P3 a0 2).toInt.toNat)) C h15434.1 h15434.2.1 (ix_in h15434.2.2 (by omega)) dX12_lay_58 ?_
          refine gqW (ks := [1]) (I3.setA e15433 h15434 (by decide) (arOk.none rfl)) (EM.setA I3 e15433 rfl (by decide)) (fun Y15435 Iy15436 Xy15437 w15438 => ?_)
          have w15438 : (pI Y15435 b15432 ((pI P3 a0 2).toInt.toNat)).toInt = v38_4.toInt := w15438
          have q15439 := Xy15437.keepF 2 (by decide)
          have Xz15440 : EM [1, 2] a0 P Y15435 := EM.tr ha0 X3 (Xy15437.mono (by decide))
          have h15441 := Xy15437.at h15429
          refine g_aload_n C dX12_lay_59 rfl 0 rfl ?_
          refine g_dup C dX12_lay_60 rfl ?_
          refine g_getI C fi_X12_11 (by decide) (h15441).1 (h15441).2 dX12_lay_61 ?_
          refine g_iconst (v := 1) C dX12_lay_64 (by decide) ?_
          refine s_iadd C dX12_lay_65 (by show -2147483648 ≤ (pI Y15435 a0 2).toInt + 1 ∧ (pI Y15435 a0 2).toInt + 1 ≤ 2147483647; omega) (fun z15442 h15443 => ?_)
          have h15443 : z15442.toInt = (pI Y15435 a0 2).toInt + 1 := h15443
          refine g_putI C fi_X12_11 rfl (h15441).1 (h15441).2 dX12_lay_66 ?_
          refine gqW (ks := [2]) (Iy15436.setI (rgOk.of rfl (by omega))) (EM.setI Iy15436 (by decide)) (fun Y15444 Iy15445 Xy15446 w15447 => ?_)
          have w15447 : (pI Y15444 a0 2).toInt = z15442.toInt := w15447
          have Xz15448 : EM [1, 2] a0 P Y15444 := EM.tr ha0 Xz15440 (Xy15446.mono (by decide))
          have h15449 := Xy15446.at h15441
          refine g_lv (lv' := [(0, .ref a0), (1, .long a1), (3, .int v3_3)]) [0, 1, 2] rfl ?_
          exact J69 Y15444 Iy15445 Xz15448 (by omega)
      refine g_iload_n C dX12_lay_3 rfl 2 rfl ?_
      refine b_if_lt C 75 dX12_lay_4 (by decide) (fun h15450 => ?_) (fun h15450 => ?_)
      · have h15450 : v3_3.toInt < 0 := h15450
        exact ret _ _ _ _ _ dX12_lay_75 (by decide) (by decide) ⟨I3, X3⟩
      · have h15450 : 0 ≤ v3_3.toInt := h15450
        refine g_lload_n C dX12_lay_7 rfl 1 rfl ?_
        refine g_iload_n C dX12_lay_8 rfl 2 rfl ?_
        refine a_lshr C dX12_lay_9 (fun l15451 => ?_)
        refine a_l2i C dX12_lay_10 (fun z15452 => ?_)
        refine g_sipush (v := 255) C dX12_lay_11 (by decide) ?_
        refine s_iand C dX12_lay_14 (by show 0 ≤ 255; omega) (fun z15453 h15454 => ?_)
        have h15454 : 0 ≤ z15453.toInt ∧ z15453.toInt ≤ 255 := h15454
        refine g_istore (lv' := [(4, .int z15453), (0, .ref a0), (1, .long a1), (3, .int v3_3)]) C dX12_lay_15 (by decide) rfl ?_
        refine g_iload C dX12_lay_17 0 rfl ?_
        refine g_bipush (v := 10) C dX12_lay_19 (by decide) ?_
        refine b_icmp_eq C 38 dX12_lay_21 (by decide) (fun h15455 => ?_) (fun h15455 => ?_)
        · have h15455 : z15453.toInt = 10 := congrArg Int32.toInt h15455
          refine g_lv (lv' := [(0, .ref a0), (1, .long a1), (3, .int v3_3), (4, .int z15453)]) [1, 2, 3, 0] rfl ?_
          exact J38 z15453 (by omega) (by omega)
        · have h15455 : z15453.toInt ≠ 10 := ti_ne h15455
          refine g_iload C dX12_lay_24 0 rfl ?_
          refine g_bipush (v := 32) C dX12_lay_26 (by decide) ?_
          refine b_icmp_lt C 69 dX12_lay_28 (by decide) (fun h15456 => ?_) (fun h15456 => ?_)
          · have h15456 : z15453.toInt < 32 := h15456
            refine g_lv (lv' := [(0, .ref a0), (1, .long a1), (3, .int v3_3)]) [1, 2, 3] rfl ?_
            exact J69 P3 I3 X3 (by omega)
          · have h15456 : 32 ≤ z15453.toInt := h15456
            refine g_iload C dX12_lay_31 0 rfl ?_
            refine g_bipush (v := 126) C dX12_lay_33 (by decide) ?_
            refine b_icmp_gt C 69 dX12_lay_35 (by decide) (fun h15457 => ?_) (fun h15457 => ?_)
            · have h15457 : 126 < z15453.toInt := h15457
              refine g_lv (lv' := [(0, .ref a0), (1, .long a1), (3, .int v3_3)]) [1, 2, 3] rfl ?_
              exact J69 P3 I3 X3 (by omega)
            · have h15457 : z15453.toInt ≤ 126 := h15457
              refine g_lv (lv' := [(0, .ref a0), (1, .long a1), (3, .int v3_3), (4, .int z15453)]) [1, 2, 3, 0] rfl ?_
              exact J38 z15453 (by omega) (by omega)
  refine g_bipush (v := 56) C dX12_lay_0 (by decide) ?_
  refine g_istore_n (lv' := [(3, .int 56), (0, .ref a0), (1, .long a1)]) C dX12_lay_2 rfl (by decide) rfl ?_
  refine g_lv (lv' := [(0, .ref a0), (1, .long a1), (3, .int 56)]) [1, 2, 0] rfl ?_
  exact J3 _ P 56 (Nat.lt_succ_self _) I EM.rf (by decide)
theorem dX12_feed_10 : decode cX12_feed 10 = .ok (.aload_n 0, 1) := by decide +kernel
theorem dX12_feed_11 : decode cX12_feed 11 = .ok (.lload_n 3, 1) := by decide +kernel
theorem dX12_feed_12 : decode cX12_feed 12 = .ok (.invokevirtual 7, 3) := by decide +kernel
theorem dX12_feed_15 : decode cX12_feed 15 = .ok (.aload_n 0, 1) := by decide +kernel
theorem dX12_feed_16 : decode cX12_feed 16 = .ok (.lload 5, 2) := by decide +kernel
theorem dX12_feed_18 : decode cX12_feed 18 = .ok (.invokevirtual 7, 3) := by decide +kernel
theorem dX12_feed_21 : decode cX12_feed 21 = .ok (.aload_n 0, 1) := by decide +kernel
theorem dX12_feed_22 : decode cX12_feed 22 = .ok (.getfield 11, 3) := by decide +kernel
theorem dX12_feed_25 : decode cX12_feed 25 = .ok (.ireturn, 1) := by decide +kernel
set_option maxHeartbeats 4000000 in
set_option maxRecDepth 100000 in
theorem s_X12_feed {P : PP} {a0 : Nat} {a1 : Int64} {a2 : Int64} {a3 : Int64} (I : IM P a0) : CtrI yX12_feed cX12_feed 7 (some Jvm.ClassFile.FieldType.int) ({ frames := 2, cells := 0, slots := 0, locals := 128 } : Room) 0 0 P [.ref a0, .long a1, .long a2, .long a3] (fun r P2 => IM P2 a0 ∧ EM [0, 1, 2] a0 P P2 ∧ (0 ≤ r.toInt ∧ r.toInt ≤ 1000)) := by
  refine enI (lv := [(0, .ref a0), (1, .long a1), (3, .long a2), (5, .long a3)]) (by decide) (Nat.le_of_ble_eq_true rfl) rfl (fun E D cy C Ci0 ret => ?_)
  have ha0 := I.2.1
  refine g_aload_n C dX12_feed_0 rfl 0 rfl ?_
  refine g_iconst (v := 0) C dX12_feed_1 (by decide) ?_
  refine g_putI C fi_X12_1 rfl (ha0).1 (ha0).2 dX12_feed_2 ?_
  refine gqW (ks := [0]) (I.setI (rgOk.of rfl (by decide))) (EM.setI I (by decide)) (fun Y15489 Iy15490 Xy15491 w15492 => ?_)
  have w15492 : (pI Y15489 a0 0).toInt = 0 := w15492
  have Xz15493 : EM [0, 1, 2] a0 P Y15489 := Xy15491.mono (by decide)
  have h15494 := Xy15491.at ha0
  refine g_aload_n C dX12_feed_5 rfl 0 rfl ?_
  refine g_lload_n C dX12_feed_6 rfl 1 rfl ?_
  refine g_callVV (rest := []) C mv_X12_7 [.long a1] (s_X12_lay Iy15490) (h15494).1 (h15494).2 rfl rfl (by decide) (Nat.le_of_ble_eq_true rfl) (by decide) dX12_feed_7 (fun Y15496 h15497 => ?_)
  obtain ⟨Iy15498, Xy15499⟩ := h15497
  have q15500 := Xy15499.keepF 0 (by decide)
  have Xz15501 : EM [0, 1, 2] a0 P Y15496 := EM.tr ha0 Xz15493 (Xy15499.mono (by decide))
  have h15502 := Xy15499.at h15494
  refine g_aload_n C dX12_feed_10 rfl 0 rfl ?_
  refine g_lload_n C dX12_feed_11 rfl 2 rfl ?_
  refine g_callVV (rest := []) C mv_X12_7 [.long a2] (s_X12_lay Iy15498) (h15502).1 (h15502).2 rfl rfl (by decide) (Nat.le_of_ble_eq_true rfl) (by decide) dX12_feed_12 (fun Y15504 h15505 => ?_)
  obtain ⟨Iy15506, Xy15507⟩ := h15505
  have q15508 := Xy15507.keepF 0 (by decide)
  have Xz15509 : EM [0, 1, 2] a0 P Y15504 := EM.tr ha0 Xz15501 (Xy15507.mono (by decide))
  have h15510 := Xy15507.at h15502
  refine g_aload_n C dX12_feed_15 rfl 0 rfl ?_
  refine g_lload C dX12_feed_16 3 rfl ?_
  refine g_callVV (rest := []) C mv_X12_7 [.long a3] (s_X12_lay Iy15506) (h15510).1 (h15510).2 rfl rfl (by decide) (Nat.le_of_ble_eq_true rfl) (by decide) dX12_feed_18 (fun Y15512 h15513 => ?_)
  obtain ⟨Iy15514, Xy15515⟩ := h15513
  have q15516 := Xy15515.keepF 0 (by decide)
  have Xz15517 : EM [0, 1, 2] a0 P Y15512 := EM.tr ha0 Xz15509 (Xy15515.mono (by decide))
  have h15518 := Xy15515.at h15510
  refine g_aload_n C dX12_feed_21 rfl 0 rfl ?_
  refine g_getI C fi_X12_11 (by decide) (h15518).1 (h15518).2 dX12_feed_22 ?_
  have h15519 := Iy15514.rg (h15518) 2 rfl
  exact ret _ _ _ _ _ _ dX12_feed_25 rfl (by decide) (by decide) ⟨Iy15514, Xz15517, (by omega)⟩
theorem dX12_findSlipped_0 : decode cX12_findSlipped 0 = .ok (.aload_n 0, 1) := by decide +kernel
theorem dX12_findSlipped_1 : decode cX12_findSlipped 1 = .ok (.invokevirtual 336, 3) := by decide +kernel
theorem dX12_findSlipped_4 : decode cX12_findSlipped 4 = .ok (.aload_n 0, 1) := by decide +kernel
theorem dX12_findSlipped_5 : decode cX12_findSlipped 5 = .ok (.iload_n 1, 1) := by decide +kernel
theorem dX12_findSlipped_6 : decode cX12_findSlipped 6 = .ok (.iload_n 2, 1) := by decide +kernel
theorem dX12_findSlipped_7 : decode cX12_findSlipped 7 = .ok (.iload_n 3, 1) := by decide +kernel
theorem dX12_findSlipped_8 : decode cX12_findSlipped 8 = .ok (.aload_n 0, 1) := by decide +kernel
theorem dX12_findSlipped_9 : decode cX12_findSlipped 9 = .ok (.getfield 69, 3) := by decide +kernel
theorem dX12_findSlipped_12 : decode cX12_findSlipped 12 = .ok (.iload_n 1, 1) := by decide +kernel
theorem dX12_findSlipped_13 : decode cX12_findSlipped 13 = .ok (.iaload, 1) := by decide +kernel
theorem dX12_findSlipped_14 : decode cX12_findSlipped 14 = .ok (.invokevirtual 339, 3) := by decide +kernel
theorem dX12_fixedSet_0 : decode cX12_fixedSet 0 = .ok (.iconst 0, 1) := by decide +kernel
theorem dX12_fixedSet_1 : decode cX12_fixedSet 1 = .ok (.istore_n 1, 1) := by decide +kernel
theorem dX12_fixedSet_2 : decode cX12_fixedSet 2 = .ok (.iconst 0, 1) := by decide +kernel
theorem dX12_fixedSet_3 : decode cX12_fixedSet 3 = .ok (.istore_n 2, 1) := by decide +kernel
theorem dX12_fixedSet_4 : decode cX12_fixedSet 4 = .ok (.iload_n 2, 1) := by decide +kernel
theorem dX12_fixedSet_5 : decode cX12_fixedSet 5 = .ok (.bipush 20, 2) := by decide +kernel
theorem dX12_fixedSet_7 : decode cX12_fixedSet 7 = .ok (.if_icmp .ge 27, 3) := by decide +kernel
theorem dX12_fixedSet_10 : decode cX12_fixedSet 10 = .ok (.iload_n 1, 1) := by decide +kernel
theorem dX12_fixedSet_11 : decode cX12_fixedSet 11 = .ok (.aload_n 0, 1) := by decide +kernel
theorem dX12_fixedSet_12 : decode cX12_fixedSet 12 = .ok (.iload_n 2, 1) := by decide +kernel
theorem dX12_fixedSet_13 : decode cX12_fixedSet 13 = .ok (.invokevirtual 330, 3) := by decide +kernel
theorem dX12_isFixed_0 : decode cX12_isFixed 0 = .ok (.aload_n 0, 1) := by decide +kernel
theorem dX12_isFixed_1 : decode cX12_isFixed 1 = .ok (.getfield 326, 3) := by decide +kernel
theorem dX12_isFixed_4 : decode cX12_isFixed 4 = .ok (.ifCond .eq 19, 3) := by decide +kernel
theorem dX12_isFixed_7 : decode cX12_isFixed 7 = .ok (.aload_n 0, 1) := by decide +kernel
theorem dX12_isFixed_8 : decode cX12_isFixed 8 = .ok (.getfield 106, 3) := by decide +kernel
theorem dX12_isFixed_11 : decode cX12_isFixed 11 = .ok (.iload_n 1, 1) := by decide +kernel
theorem dX12_isFixed_12 : decode cX12_isFixed 12 = .ok (.iaload, 1) := by decide +kernel
theorem dX12_isFixed_13 : decode cX12_isFixed 13 = .ok (.iconst 1, 1) := by decide +kernel
theorem dX12_isFixed_14 : decode cX12_isFixed 14 = .ok (.iload_n 1, 1) := by decide +kernel
theorem dX12_isFixed_15 : decode cX12_isFixed 15 = .ok (.ishl, 1) := by decide +kernel
theorem dX12_isFixed_16 : decode cX12_isFixed 16 = .ok (.if_icmp .ne 7, 3) := by decide +kernel
theorem dX12_isFixed_19 : decode cX12_isFixed 19 = .ok (.iconst 1, 1) := by decide +kernel
theorem dX12_isFixed_20 : decode cX12_isFixed 20 = .ok (.goto 4, 3) := by decide +kernel
theorem dX12_isFixed_23 : decode cX12_isFixed 23 = .ok (.iconst 0, 1) := by decide +kernel
theorem dX12_isFixed_24 : decode cX12_isFixed 24 = .ok (.ireturn, 1) := by decide +kernel
set_option maxHeartbeats 4000000 in
set_option maxRecDepth 100000 in
theorem s_X12_isFixed {P : PP} {a0 : Nat} {a1 : Int32} (I : IM P a0) (ha1 : 0 ≤ a1.toInt ∧ a1.toInt ≤ 19) : CtrI yX12_isFixed cX12_isFixed 2 (some Jvm.ClassFile.FieldType.boolean) ({ frames := 1, cells := 0, slots := 0, locals := 64 } : Room) 0 0 P [.ref a0, .int a1] (fun r P2 => P = P2 ∧ (0 ≤ r.toInt ∧ r.toInt ≤ 1)) := by
  refine enI (lv := [(0, .ref a0), (1, .int a1)]) (by decide) (Nat.le_of_ble_eq_true rfl) rfl (fun E D cy C Ci0 ret => ?_)
  have ha0 := I.2.1
  have J23 : (0 ≤ (pI P a0 36).toInt ∧ (pI P a0 36).toInt ≤ 1) → G E ({ frames := 1, cells := 0, slots := 0, locals := 64 } : Room) D cy 2 P 0 0 23 [] [] := by
    intro hq23_0
    refine g_iconst (v := 0) C dX12_isFixed_23 (by decide) ?_
    exact ret _ _ _ _ _ _ dX12_isFixed_24 rfl (by decide) (by decide) ⟨rfl, (by decide)⟩
  refine g_aload_n C dX12_isFixed_0 rfl 0 rfl ?_
  refine g_getI C fi_X12_326 (by decide) (ha0).1 (ha0).2 dX12_isFixed_1 ?_
  have h15542 := I.rg (ha0) 36 rfl
  refine b_if_eq C 23 dX12_isFixed_4 (by decide) (fun h15543 => ?_) (fun h15543 => ?_)
  · have h15543 : (pI P a0 36).toInt = 0 := congrArg Int32.toInt h15543
    refine g_lv (lv' := []) [] rfl ?_
    exact J23 (by omega)
  · have h15543 : (pI P a0 36).toInt ≠ 0 := ti_ne h15543
    refine g_aload_n C dX12_isFixed_7 rfl 0 rfl ?_
    obtain ⟨b15544, e15545, h15546⟩ := I.fld (ha0) 37 13 20 rfl
    refine g_getR C fi_X12_106 rfl e15545 (ha0).1 (ha0).2 dX12_isFixed_8 ?_
    refine g_iload_n C dX12_isFixed_11 rfl 1 rfl ?_
    refine g_iald (j := (a1.toInt.toNat)) C h15546.1 h15546.2.1 (ix_in h15546.2.2 (by omega)) dX12_isFixed_12 ?_
    refine g_iconst (v := 1) C dX12_isFixed_13 (by decide) ?_
    refine g_iload_n C dX12_isFixed_14 rfl 1 rfl ?_
    refine a_ishl C dX12_isFixed_15 (fun z15547 => ?_)
    have u15550 := ti_rng (pI P b15544 (a1.toInt.toNat))
    have u15551 := ti_rng z15547
    refine b_icmp_ne C 23 dX12_isFixed_16 (by decide) (fun h15549 => ?_) (fun h15549 => ?_)
    · have h15549 : (pI P b15544 (a1.toInt.toNat)).toInt ≠ z15547.toInt := ti_ne h15549
      refine g_lv (lv' := []) [] rfl ?_
      exact J23 (by omega)
    · have h15549 : (pI P b15544 (a1.toInt.toNat)).toInt = z15547.toInt := congrArg Int32.toInt h15549
      refine g_iconst (v := 1) C dX12_isFixed_19 (by decide) ?_
      refine g_goto C 24 dX12_isFixed_20 (by decide) ?_
      exact ret _ _ _ _ _ _ dX12_isFixed_24 rfl (by decide) (by decide) ⟨rfl, (by decide)⟩
theorem dX12_fixedSet_16 : decode cX12_fixedSet 16 = .ok (.ifCond .eq 9, 3) := by decide +kernel
theorem dX12_fixedSet_19 : decode cX12_fixedSet 19 = .ok (.iconst 1, 1) := by decide +kernel
theorem dX12_fixedSet_20 : decode cX12_fixedSet 20 = .ok (.iload_n 2, 1) := by decide +kernel
theorem dX12_fixedSet_21 : decode cX12_fixedSet 21 = .ok (.ishl, 1) := by decide +kernel
theorem dX12_fixedSet_22 : decode cX12_fixedSet 22 = .ok (.goto 4, 3) := by decide +kernel
theorem dX12_fixedSet_25 : decode cX12_fixedSet 25 = .ok (.iconst 0, 1) := by decide +kernel
theorem dX12_fixedSet_26 : decode cX12_fixedSet 26 = .ok (.ior, 1) := by decide +kernel
theorem dX12_fixedSet_27 : decode cX12_fixedSet 27 = .ok (.istore_n 1, 1) := by decide +kernel
theorem dX12_fixedSet_28 : decode cX12_fixedSet 28 = .ok (.iinc 2 1, 3) := by decide +kernel
theorem dX12_fixedSet_31 : decode cX12_fixedSet 31 = .ok (.goto (-27), 3) := by decide +kernel
theorem dX12_fixedSet_34 : decode cX12_fixedSet 34 = .ok (.iload_n 1, 1) := by decide +kernel
theorem dX12_fixedSet_35 : decode cX12_fixedSet 35 = .ok (.ireturn, 1) := by decide +kernel
set_option maxHeartbeats 4000000 in
set_option maxRecDepth 100000 in
theorem s_X12_fixedSet {P : PP} {a0 : Nat} (I : IM P a0) : CtrI yX12_fixedSet cX12_fixedSet 3 (some Jvm.ClassFile.FieldType.int) ({ frames := 2, cells := 0, slots := 0, locals := 128 } : Room) 0 0 P [.ref a0] (fun r P2 => P = P2 ∧ (True)) := by
  refine enI (lv := [(0, .ref a0)]) (by decide) (Nat.le_of_ble_eq_true rfl) rfl (fun E D cy C Ci0 ret => ?_)
  have ha0 := I.2.1
  have J4 : ∀ (n4 : Nat) (v4_1 : Int32) (v4_2 : Int32), (20 - v4_2.toInt).toNat < n4 → (0 ≤ v4_2.toInt ∧ v4_2.toInt ≤ 20) → G E ({ frames := 2, cells := 0, slots := 0, locals := 128 } : Room) D cy 3 P 0 0 4 [(0, .ref a0), (1, .int v4_1), (2, .int v4_2)] [] := by
    intro n4
    induction n4 with
    | zero => intro v4_1 v4_2 hm4 hv4_2; omega
    | succ n4 ih4 =>
      intro v4_1 v4_2 hm4 hv4_2
      have J26 : ∀ (v26_s0 : Int32), (0 ≤ v4_2.toInt ∧ v4_2.toInt ≤ 19) → G E ({ frames := 2, cells := 0, slots := 0, locals := 128 } : Room) D cy 3 P 0 0 26 [(0, .ref a0), (2, .int v4_2)] [.int v26_s0, .int v4_1] := by
        intro v26_s0 hv26_2
        refine a_ior C dX12_fixedSet_26 (fun z15695 => ?_)
        refine g_istore_n (lv' := [(1, .int z15695), (0, .ref a0), (2, .int v4_2)]) C dX12_fixedSet_27 rfl (by decide) rfl ?_
        refine s_iinc (lv0 := [(1, .int z15695), (0, .ref a0)]) (m := 1) C dX12_fixedSet_28 2 rfl (by decide) rfl (by decide) (by omega) (fun z15697 h15698 => ?_)
        have h15698 : z15697.toInt = v4_2.toInt + 1 := h15698
        refine g_goto C 4 dX12_fixedSet_31 (by decide) ?_
        refine g_lv (lv' := [(0, .ref a0), (1, .int z15695), (2, .int z15697)]) [2, 1, 0] rfl ?_
        exact ih4 z15695 z15697 (by omega) (by omega)
      refine g_iload_n C dX12_fixedSet_4 rfl 2 rfl ?_
      refine g_bipush (v := 20) C dX12_fixedSet_5 (by decide) ?_
      refine b_icmp_ge C 34 dX12_fixedSet_7 (by decide) (fun h15699 => ?_) (fun h15699 => ?_)
      · have h15699 : 20 ≤ v4_2.toInt := h15699
        refine g_iload_n C dX12_fixedSet_34 rfl 1 rfl ?_
        exact ret _ _ _ _ _ _ dX12_fixedSet_35 rfl (by decide) (by decide) ⟨rfl, trivial⟩
      · have h15699 : v4_2.toInt < 20 := h15699
        refine g_iload_n C dX12_fixedSet_10 rfl 1 rfl ?_
        refine g_aload_n C dX12_fixedSet_11 rfl 0 rfl ?_
        refine g_iload_n C dX12_fixedSet_12 rfl 2 rfl ?_
        refine g_callVI (rest := [.int v4_1]) C mv_X12_330 [.int v4_2] (s_X12_isFixed I (by omega)) (ha0).1 (ha0).2 rfl rfl (by decide) (Nat.le_of_ble_eq_true rfl) (by decide) dX12_fixedSet_13 (fun r15700 Y15701 h15702 => ?_)
        obtain ⟨rfl, h15702⟩ := h15702
        have h15702 : 0 ≤ r15700.toInt ∧ r15700.toInt ≤ 1 := h15702
        refine b_if_eq C 25 dX12_fixedSet_16 (by decide) (fun h15703 => ?_) (fun h15703 => ?_)
        · have h15703 : r15700.toInt = 0 := congrArg Int32.toInt h15703
          refine g_iconst (v := 0) C dX12_fixedSet_25 (by decide) ?_
          refine g_lv (lv' := [(0, .ref a0), (2, .int v4_2)]) [0, 2] rfl ?_
          exact J26 0 (by omega)
        · have h15703 : r15700.toInt ≠ 0 := ti_ne h15703
          refine g_iconst (v := 1) C dX12_fixedSet_19 (by decide) ?_
          refine g_iload_n C dX12_fixedSet_20 rfl 2 rfl ?_
          refine a_ishl C dX12_fixedSet_21 (fun z15704 => ?_)
          refine g_goto C 26 dX12_fixedSet_22 (by decide) ?_
          refine g_lv (lv' := [(0, .ref a0), (2, .int v4_2)]) [0, 2] rfl ?_
          exact J26 z15704 (by omega)
  refine g_iconst (v := 0) C dX12_fixedSet_0 (by decide) ?_
  refine g_istore_n (lv' := [(1, .int 0), (0, .ref a0)]) C dX12_fixedSet_1 rfl (by decide) rfl ?_
  refine g_iconst (v := 0) C dX12_fixedSet_2 (by decide) ?_
  refine g_istore_n (lv' := [(2, .int 0), (1, .int 0), (0, .ref a0)]) C dX12_fixedSet_3 rfl (by decide) rfl ?_
  refine g_lv (lv' := [(0, .ref a0), (1, .int 0), (2, .int 0)]) [2, 1, 0] rfl ?_
  exact J4 _ 0 0 (Nat.lt_succ_self _) (by decide)
theorem dX12_forged_0 : decode cX12_forged 0 = .ok (.aload_n 0, 1) := by decide +kernel
theorem dX12_forged_1 : decode cX12_forged 1 = .ok (.iconst 0, 1) := by decide +kernel
theorem dX12_forged_2 : decode cX12_forged 2 = .ok (.putfield 1, 3) := by decide +kernel
theorem dX12_forged_5 : decode cX12_forged 5 = .ok (.iload_n 1, 1) := by decide +kernel
theorem dX12_forged_6 : decode cX12_forged 6 = .ok (.invokestatic 278, 3) := by decide +kernel
theorem dX12_forged_9 : decode cX12_forged 9 = .ok (.ifCond .eq 45, 3) := by decide +kernel
theorem dX12_forged_12 : decode cX12_forged 12 = .ok (.aload_n 0, 1) := by decide +kernel
theorem dX12_forged_13 : decode cX12_forged 13 = .ok (.iload_n 2, 1) := by decide +kernel
theorem dX12_forged_14 : decode cX12_forged 14 = .ok (.invokevirtual 192, 3) := by decide +kernel
theorem dX12_forged_17 : decode cX12_forged 17 = .ok (.ifCond .eq 37, 3) := by decide +kernel
theorem dX12_forged_20 : decode cX12_forged 20 = .ok (.iload_n 3, 1) := by decide +kernel
theorem dX12_forged_21 : decode cX12_forged 21 = .ok (.invokestatic 258, 3) := by decide +kernel
theorem dX12_forged_24 : decode cX12_forged 24 = .ok (.ifCond .eq 30, 3) := by decide +kernel
theorem dX12_forged_27 : decode cX12_forged 27 = .ok (.iload 4, 2) := by decide +kernel
theorem dX12_forged_29 : decode cX12_forged 29 = .ok (.iconst 0, 1) := by decide +kernel
theorem dX12_forged_30 : decode cX12_forged 30 = .ok (.ldc 195, 2) := by decide +kernel
theorem dX12_forged_32 : decode cX12_forged 32 = .ok (.invokestatic 178, 3) := by decide +kernel
theorem dX12_forged_35 : decode cX12_forged 35 = .ok (.ifCond .eq 19, 3) := by decide +kernel
theorem dX12_forged_38 : decode cX12_forged 38 = .ok (.iload 5, 2) := by decide +kernel
theorem dX12_forged_40 : decode cX12_forged 40 = .ok (.iconst 0, 1) := by decide +kernel
theorem dX12_forged_41 : decode cX12_forged 41 = .ok (.sipush 996, 3) := by decide +kernel
theorem dX12_forged_44 : decode cX12_forged 44 = .ok (.invokestatic 178, 3) := by decide +kernel
theorem dX12_forged_47 : decode cX12_forged 47 = .ok (.ifCond .eq 7, 3) := by decide +kernel
theorem dX12_forged_50 : decode cX12_forged 50 = .ok (.iconst 1, 1) := by decide +kernel
theorem dX12_forged_51 : decode cX12_forged 51 = .ok (.goto 4, 3) := by decide +kernel
theorem dX12_forged_54 : decode cX12_forged 54 = .ok (.iconst 0, 1) := by decide +kernel
theorem dX12_forged_55 : decode cX12_forged 55 = .ok (.istore 6, 2) := by decide +kernel
theorem dX12_forged_57 : decode cX12_forged 57 = .ok (.iload 6, 2) := by decide +kernel
theorem dX12_forged_59 : decode cX12_forged 59 = .ok (.ifCond .eq 28, 3) := by decide +kernel
theorem dX12_forged_62 : decode cX12_forged 62 = .ok (.aload_n 0, 1) := by decide +kernel
theorem dX12_forged_63 : decode cX12_forged 63 = .ok (.getfield 69, 3) := by decide +kernel
theorem dX12_forged_66 : decode cX12_forged 66 = .ok (.iload_n 1, 1) := by decide +kernel
theorem dX12_forged_67 : decode cX12_forged 67 = .ok (.iaload, 1) := by decide +kernel
theorem dX12_givesAll_0 : decode cX12_givesAll 0 = .ok (.iload_n 2, 1) := by decide +kernel
theorem dX12_givesAll_1 : decode cX12_givesAll 1 = .ok (.iconst (-1), 1) := by decide +kernel
theorem dX12_givesAll_2 : decode cX12_givesAll 2 = .ok (.ixor, 1) := by decide +kernel
theorem dX12_givesAll_3 : decode cX12_givesAll 3 = .ok (.iconst 1, 1) := by decide +kernel
theorem dX12_givesAll_4 : decode cX12_givesAll 4 = .ok (.aload_n 0, 1) := by decide +kernel
theorem dX12_givesAll_5 : decode cX12_givesAll 5 = .ok (.getfield 45, 3) := by decide +kernel
theorem dX12_givesAll_8 : decode cX12_givesAll 8 = .ok (.iload_n 1, 1) := by decide +kernel
theorem dX12_givesAll_9 : decode cX12_givesAll 9 = .ok (.iaload, 1) := by decide +kernel
theorem dX12_givesAll_10 : decode cX12_givesAll 10 = .ok (.ishl, 1) := by decide +kernel
theorem dX12_givesAll_11 : decode cX12_givesAll 11 = .ok (.iconst 1, 1) := by decide +kernel
theorem dX12_givesAll_12 : decode cX12_givesAll 12 = .ok (.isub, 1) := by decide +kernel
theorem dX12_givesAll_13 : decode cX12_givesAll 13 = .ok (.iand, 1) := by decide +kernel
theorem dX12_givesAll_14 : decode cX12_givesAll 14 = .ok (.ifCond .ne 7, 3) := by decide +kernel
theorem dX12_givesAll_17 : decode cX12_givesAll 17 = .ok (.iconst 1, 1) := by decide +kernel
theorem dX12_givesAll_18 : decode cX12_givesAll 18 = .ok (.goto 4, 3) := by decide +kernel
theorem dX12_givesAll_21 : decode cX12_givesAll 21 = .ok (.iconst 0, 1) := by decide +kernel
theorem dX12_givesAll_22 : decode cX12_givesAll 22 = .ok (.ireturn, 1) := by decide +kernel
set_option maxHeartbeats 4000000 in
set_option maxRecDepth 100000 in
theorem s_X12_givesAll {P : PP} {a0 : Nat} {a1 : Int32} {a2 : Int32} (I : IM P a0) (ha1 : 0 ≤ a1.toInt ∧ a1.toInt ≤ 1) : CtrI yX12_givesAll cX12_givesAll 3 (some Jvm.ClassFile.FieldType.boolean) ({ frames := 1, cells := 0, slots := 0, locals := 64 } : Room) 0 0 P [.ref a0, .int a1, .int a2] (fun r P2 => P = P2 ∧ (0 ≤ r.toInt ∧ r.toInt ≤ 1)) := by
  refine enI (lv := [(0, .ref a0), (1, .int a1), (2, .int a2)]) (by decide) (Nat.le_of_ble_eq_true rfl) rfl (fun E D cy C Ci0 ret => ?_)
  have ha0 := I.2.1
  refine g_iload_n C dX12_givesAll_0 rfl 2 rfl ?_
  refine g_iconst (v := (-1)) C dX12_givesAll_1 (by decide) ?_
  refine a_ixor C dX12_givesAll_2 (fun z15757 => ?_)
  refine g_iconst (v := 1) C dX12_givesAll_3 (by decide) ?_
  refine g_aload_n C dX12_givesAll_4 rfl 0 rfl ?_
  obtain ⟨b15759, e15760, h15761⟩ := I.fld (ha0) 10 13 2 rfl
  refine g_getR C fi_X12_45 rfl e15760 (ha0).1 (ha0).2 dX12_givesAll_5 ?_
  refine g_iload_n C dX12_givesAll_8 rfl 1 rfl ?_
  refine g_iald (j := (a1.toInt.toNat)) C h15761.1 h15761.2.1 (ix_in h15761.2.2 (by omega)) dX12_givesAll_9 ?_
  have h15762 := I.arr e15760 rfl (a1.toInt.toNat)
  refine a_ishl C dX12_givesAll_10 (fun z15763 => ?_)
  refine g_iconst (v := 1) C dX12_givesAll_11 (by decide) ?_
  refine a_isub C dX12_givesAll_12 (fun z15765 => ?_)
  refine a_iand C dX12_givesAll_13 (fun z15767 => ?_)
  have u15770 := ti_rng z15767
  refine b_if_ne C 21 dX12_givesAll_14 (by decide) (fun h15769 => ?_) (fun h15769 => ?_)
  · have h15769 : z15767.toInt ≠ 0 := ti_ne h15769
    refine g_iconst (v := 0) C dX12_givesAll_21 (by decide) ?_
    exact ret _ _ _ _ _ _ dX12_givesAll_22 rfl (by decide) (by decide) ⟨rfl, (by decide)⟩
  · have h15769 : z15767.toInt = 0 := congrArg Int32.toInt h15769
    refine g_iconst (v := 1) C dX12_givesAll_17 (by decide) ?_
    refine g_goto C 22 dX12_givesAll_18 (by decide) ?_
    exact ret _ _ _ _ _ _ dX12_givesAll_22 rfl (by decide) (by decide) ⟨rfl, (by decide)⟩
theorem dX12_guard_0 : decode cX12_guard 0 = .ok (.aload_n 0, 1) := by decide +kernel
theorem dX12_guard_1 : decode cX12_guard 1 = .ok (.iconst 0, 1) := by decide +kernel
theorem dX12_guard_2 : decode cX12_guard 2 = .ok (.putfield 1, 3) := by decide +kernel
theorem dX12_guard_5 : decode cX12_guard 5 = .ok (.aload_n 0, 1) := by decide +kernel
theorem dX12_guard_6 : decode cX12_guard 6 = .ok (.iload_n 1, 1) := by decide +kernel
theorem dX12_guard_7 : decode cX12_guard 7 = .ok (.iload_n 2, 1) := by decide +kernel
theorem dX12_guard_8 : decode cX12_guard 8 = .ok (.iload_n 3, 1) := by decide +kernel
theorem dX12_guard_9 : decode cX12_guard 9 = .ok (.invokevirtual 333, 3) := by decide +kernel
theorem dX12_guard_12 : decode cX12_guard 12 = .ok (.ifCond .eq 13, 3) := by decide +kernel
theorem dX12_guard_15 : decode cX12_guard 15 = .ok (.aload_n 0, 1) := by decide +kernel
theorem dX12_guard_16 : decode cX12_guard 16 = .ok (.iload_n 2, 1) := by decide +kernel
theorem dX12_guard_17 : decode cX12_guard 17 = .ok (.iload 4, 2) := by decide +kernel
theorem dX12_guard_19 : decode cX12_guard 19 = .ok (.invokevirtual 352, 3) := by decide +kernel
theorem dX12_isPage_0 : decode cX12_isPage 0 = .ok (.iload_n 2, 1) := by decide +kernel
theorem dX12_isPage_1 : decode cX12_isPage 1 = .ok (.iconst 0, 1) := by decide +kernel
theorem dX12_isPage_2 : decode cX12_isPage 2 = .ok (.aload_n 0, 1) := by decide +kernel
theorem dX12_isPage_3 : decode cX12_isPage 3 = .ok (.iload_n 1, 1) := by decide +kernel
theorem dX12_isPage_4 : decode cX12_isPage 4 = .ok (.invokevirtual 238, 3) := by decide +kernel
theorem dX12_isPage_7 : decode cX12_isPage 7 = .ok (.iconst 1, 1) := by decide +kernel
theorem dX12_isPage_8 : decode cX12_isPage 8 = .ok (.isub, 1) := by decide +kernel
theorem dX12_isPage_9 : decode cX12_isPage 9 = .ok (.invokestatic 178, 3) := by decide +kernel
theorem dX12_isPage_12 : decode cX12_isPage 12 = .ok (.ireturn, 1) := by decide +kernel
set_option maxHeartbeats 4000000 in
set_option maxRecDepth 100000 in
theorem s_X12_isPage {P : PP} {a0 : Nat} {a1 : Int32} {a2 : Int32} (I : IM P a0) (ha1 : 0 ≤ a1.toInt ∧ a1.toInt ≤ 1) : CtrI yX12_isPage cX12_isPage 3 (some Jvm.ClassFile.FieldType.boolean) ({ frames := 2, cells := 0, slots := 0, locals := 128 } : Room) 0 0 P [.ref a0, .int a1, .int a2] (fun r P2 => P = P2 ∧ (0 ≤ r.toInt ∧ r.toInt ≤ 1) ∧ (r.toInt = 0 ∨ (((0 : Int) ≤ a2.toInt ∧ a2.toInt ≤ (19 : Int))))) := by
  refine enI (lv := [(0, .ref a0), (1, .int a1), (2, .int a2)]) (by decide) (Nat.le_of_ble_eq_true rfl) rfl (fun E D cy C Ci0 ret => ?_)
  have ha0 := I.2.1
  refine g_iload_n C dX12_isPage_0 rfl 2 rfl ?_
  refine g_iconst (v := 0) C dX12_isPage_1 (by decide) ?_
  refine g_aload_n C dX12_isPage_2 rfl 0 rfl ?_
  refine g_iload_n C dX12_isPage_3 rfl 1 rfl ?_
  refine g_callVI (rest := [.int 0, .int a2]) C mv_X12_238 [.int a1] (s_X12_allOf I (by omega)) (ha0).1 (ha0).2 rfl rfl (by decide) (Nat.le_of_ble_eq_true rfl) (by decide) dX12_isPage_4 (fun r15791 Y15792 h15793 => ?_)
  obtain ⟨rfl, h15793⟩ := h15793
  have h15793 : 0 ≤ r15791.toInt ∧ r15791.toInt ≤ 20 := h15793
  refine g_iconst (v := 1) C dX12_isPage_7 (by decide) ?_
  refine s_isub C dX12_isPage_8 (by show -2147483648 ≤ r15791.toInt - 1 ∧ r15791.toInt - 1 ≤ 2147483647; omega) (fun z15794 h15795 => ?_)
  have h15795 : z15794.toInt = r15791.toInt - 1 := h15795
  refine g_callSI (b := 0) (ci := 0) (rest := []) C ms_X12_178 [.int a2, .int 0, .int z15794] (s_X12_within I.1) rfl rfl (by decide) (Nat.le_of_ble_eq_true rfl) (by decide) dX12_isPage_9 (fun r15796 Y15797 h15798 => ?_)
  obtain ⟨rfl, h15798⟩ := h15798
  obtain ⟨h15798, hi15799⟩ := h15798
  have hi15799 : r15796.toInt = 0 ∨ (0 ≤ a2.toInt ∧ a2.toInt ≤ z15794.toInt) := hi15799
  have h15798 : 0 ≤ r15796.toInt ∧ r15796.toInt ≤ 1 := h15798
  exact ret _ _ _ _ _ _ dX12_isPage_12 (nar_b (b01 (by omega))) (by decide) (by decide) ⟨rfl, (by omega), hi15799.imp id (fun h9 => by omega)⟩
theorem dX12_guard_22 : decode cX12_guard 22 = .ok (.ifCond .ne 5, 3) := by decide +kernel
theorem dX12_guard_27 : decode cX12_guard 27 = .ok (.aload_n 0, 1) := by decide +kernel
theorem dX12_guard_28 : decode cX12_guard 28 = .ok (.invokevirtual 336, 3) := by decide +kernel
theorem dX12_guard_31 : decode cX12_guard 31 = .ok (.aload_n 0, 1) := by decide +kernel
theorem dX12_guard_32 : decode cX12_guard 32 = .ok (.iload_n 1, 1) := by decide +kernel
theorem dX12_guard_33 : decode cX12_guard 33 = .ok (.iload_n 2, 1) := by decide +kernel
theorem dX12_guard_34 : decode cX12_guard 34 = .ok (.iload_n 3, 1) := by decide +kernel
theorem dX12_guard_35 : decode cX12_guard 35 = .ok (.aload_n 0, 1) := by decide +kernel
theorem dX12_guard_36 : decode cX12_guard 36 = .ok (.getfield 69, 3) := by decide +kernel
theorem dX12_guard_39 : decode cX12_guard 39 = .ok (.iload_n 1, 1) := by decide +kernel
theorem dX12_guard_40 : decode cX12_guard 40 = .ok (.iaload, 1) := by decide +kernel
theorem dX12_guard_41 : decode cX12_guard 41 = .ok (.invokevirtual 339, 3) := by decide +kernel
theorem dX12_hasAlike_0 : decode cX12_hasAlike 0 = .ok (.iconst 0, 1) := by decide +kernel
theorem dX12_hasAlike_1 : decode cX12_hasAlike 1 = .ok (.istore_n 3, 1) := by decide +kernel
theorem dX12_hasAlike_2 : decode cX12_hasAlike 2 = .ok (.iconst 0, 1) := by decide +kernel
theorem dX12_hasAlike_3 : decode cX12_hasAlike 3 = .ok (.istore 4, 2) := by decide +kernel
theorem dX12_hasAlike_5 : decode cX12_hasAlike 5 = .ok (.iload 4, 2) := by decide +kernel
theorem dX12_hasAlike_7 : decode cX12_hasAlike 7 = .ok (.aload_n 0, 1) := by decide +kernel
theorem dX12_hasAlike_8 : decode cX12_hasAlike 8 = .ok (.getfield 69, 3) := by decide +kernel
theorem dX12_hasAlike_11 : decode cX12_hasAlike 11 = .ok (.iload_n 1, 1) := by decide +kernel
theorem dX12_hasAlike_12 : decode cX12_hasAlike 12 = .ok (.iaload, 1) := by decide +kernel
theorem dX12_hasAlike_13 : decode cX12_hasAlike 13 = .ok (.if_icmp .ge 45, 3) := by decide +kernel
theorem dX12_hasAlike_16 : decode cX12_hasAlike 16 = .ok (.iload_n 3, 1) := by decide +kernel
theorem dX12_hasAlike_17 : decode cX12_hasAlike 17 = .ok (.ifCond .ne 29, 3) := by decide +kernel
theorem dX12_hasAlike_20 : decode cX12_hasAlike 20 = .ok (.bipush 40, 2) := by decide +kernel
theorem dX12_hasAlike_22 : decode cX12_hasAlike 22 = .ok (.iload_n 1, 1) := by decide +kernel
theorem dX12_hasAlike_23 : decode cX12_hasAlike 23 = .ok (.imul, 1) := by decide +kernel
theorem dX12_hasAlike_24 : decode cX12_hasAlike 24 = .ok (.iload 4, 2) := by decide +kernel
theorem dX12_hasAlike_26 : decode cX12_hasAlike 26 = .ok (.iadd, 1) := by decide +kernel
theorem dX12_hasAlike_27 : decode cX12_hasAlike 27 = .ok (.iload_n 2, 1) := by decide +kernel
theorem dX12_hasAlike_28 : decode cX12_hasAlike 28 = .ok (.if_icmp .eq 22, 3) := by decide +kernel
theorem dX12_hasAlike_31 : decode cX12_hasAlike 31 = .ok (.aload_n 0, 1) := by decide +kernel
theorem dX12_hasAlike_32 : decode cX12_hasAlike 32 = .ok (.bipush 40, 2) := by decide +kernel
theorem dX12_hasAlike_34 : decode cX12_hasAlike 34 = .ok (.iload_n 1, 1) := by decide +kernel
theorem dX12_hasAlike_35 : decode cX12_hasAlike 35 = .ok (.imul, 1) := by decide +kernel
theorem dX12_hasAlike_36 : decode cX12_hasAlike 36 = .ok (.iload 4, 2) := by decide +kernel
theorem dX12_hasAlike_38 : decode cX12_hasAlike 38 = .ok (.iadd, 1) := by decide +kernel
theorem dX12_hasAlike_39 : decode cX12_hasAlike 39 = .ok (.iload_n 2, 1) := by decide +kernel
theorem dX12_hasAlike_40 : decode cX12_hasAlike 40 = .ok (.invokevirtual 399, 3) := by decide +kernel
theorem dX12_hasAlike_58 : decode cX12_hasAlike 58 = .ok (.iload_n 3, 1) := by decide +kernel
theorem dX12_hasAlike_59 : decode cX12_hasAlike 59 = .ok (.ireturn, 1) := by decide +kernel
theorem dX12_isAlike_0 : decode cX12_isAlike 0 = .ok (.aload_n 0, 1) := by decide +kernel
theorem dX12_isAlike_1 : decode cX12_isAlike 1 = .ok (.getfield 72, 3) := by decide +kernel
theorem dX12_isAlike_4 : decode cX12_isAlike 4 = .ok (.iload_n 1, 1) := by decide +kernel
theorem dX12_isAlike_5 : decode cX12_isAlike 5 = .ok (.iaload, 1) := by decide +kernel
theorem dX12_isAlike_6 : decode cX12_isAlike 6 = .ok (.aload_n 0, 1) := by decide +kernel
theorem dX12_isAlike_7 : decode cX12_isAlike 7 = .ok (.getfield 72, 3) := by decide +kernel
theorem dX12_isAlike_10 : decode cX12_isAlike 10 = .ok (.iload_n 2, 1) := by decide +kernel
theorem dX12_isAlike_11 : decode cX12_isAlike 11 = .ok (.iaload, 1) := by decide +kernel
theorem dX12_isAlike_12 : decode cX12_isAlike 12 = .ok (.if_icmp .ne 67, 3) := by decide +kernel
theorem dX12_isAlike_15 : decode cX12_isAlike 15 = .ok (.aload_n 0, 1) := by decide +kernel
theorem dX12_isAlike_16 : decode cX12_isAlike 16 = .ok (.getfield 75, 3) := by decide +kernel
theorem dX12_isAlike_19 : decode cX12_isAlike 19 = .ok (.iload_n 1, 1) := by decide +kernel
theorem dX12_isAlike_20 : decode cX12_isAlike 20 = .ok (.iaload, 1) := by decide +kernel
theorem dX12_isAlike_21 : decode cX12_isAlike 21 = .ok (.aload_n 0, 1) := by decide +kernel
theorem dX12_isAlike_22 : decode cX12_isAlike 22 = .ok (.getfield 75, 3) := by decide +kernel
theorem dX12_isAlike_25 : decode cX12_isAlike 25 = .ok (.iload_n 2, 1) := by decide +kernel
theorem dX12_isAlike_26 : decode cX12_isAlike 26 = .ok (.iaload, 1) := by decide +kernel
theorem dX12_isAlike_27 : decode cX12_isAlike 27 = .ok (.if_icmp .ne 52, 3) := by decide +kernel
theorem dX12_isAlike_30 : decode cX12_isAlike 30 = .ok (.aload_n 0, 1) := by decide +kernel
theorem dX12_isAlike_31 : decode cX12_isAlike 31 = .ok (.getfield 78, 3) := by decide +kernel
theorem dX12_isAlike_34 : decode cX12_isAlike 34 = .ok (.iload_n 1, 1) := by decide +kernel
theorem dX12_isAlike_35 : decode cX12_isAlike 35 = .ok (.iaload, 1) := by decide +kernel
theorem dX12_isAlike_36 : decode cX12_isAlike 36 = .ok (.aload_n 0, 1) := by decide +kernel
theorem dX12_isAlike_37 : decode cX12_isAlike 37 = .ok (.getfield 78, 3) := by decide +kernel
theorem dX12_isAlike_40 : decode cX12_isAlike 40 = .ok (.iload_n 2, 1) := by decide +kernel
theorem dX12_isAlike_41 : decode cX12_isAlike 41 = .ok (.iaload, 1) := by decide +kernel
theorem dX12_isAlike_42 : decode cX12_isAlike 42 = .ok (.if_icmp .ne 37, 3) := by decide +kernel
theorem dX12_isAlike_45 : decode cX12_isAlike 45 = .ok (.aload_n 0, 1) := by decide +kernel
theorem dX12_isAlike_46 : decode cX12_isAlike 46 = .ok (.getfield 81, 3) := by decide +kernel
theorem dX12_isAlike_49 : decode cX12_isAlike 49 = .ok (.iload_n 1, 1) := by decide +kernel
theorem dX12_isAlike_50 : decode cX12_isAlike 50 = .ok (.iaload, 1) := by decide +kernel
theorem dX12_isAlike_51 : decode cX12_isAlike 51 = .ok (.aload_n 0, 1) := by decide +kernel
theorem dX12_isAlike_52 : decode cX12_isAlike 52 = .ok (.getfield 81, 3) := by decide +kernel
theorem dX12_isAlike_55 : decode cX12_isAlike 55 = .ok (.iload_n 2, 1) := by decide +kernel
theorem dX12_isAlike_56 : decode cX12_isAlike 56 = .ok (.iaload, 1) := by decide +kernel
theorem dX12_isAlike_57 : decode cX12_isAlike 57 = .ok (.if_icmp .ne 22, 3) := by decide +kernel
theorem dX12_isAlike_60 : decode cX12_isAlike 60 = .ok (.aload_n 0, 1) := by decide +kernel
theorem dX12_isAlike_61 : decode cX12_isAlike 61 = .ok (.getfield 84, 3) := by decide +kernel
theorem dX12_isAlike_64 : decode cX12_isAlike 64 = .ok (.iload_n 1, 1) := by decide +kernel
theorem dX12_isAlike_65 : decode cX12_isAlike 65 = .ok (.iaload, 1) := by decide +kernel
theorem dX12_isAlike_66 : decode cX12_isAlike 66 = .ok (.aload_n 0, 1) := by decide +kernel
theorem dX12_isAlike_67 : decode cX12_isAlike 67 = .ok (.getfield 84, 3) := by decide +kernel
theorem dX12_isAlike_70 : decode cX12_isAlike 70 = .ok (.iload_n 2, 1) := by decide +kernel
theorem dX12_isAlike_71 : decode cX12_isAlike 71 = .ok (.iaload, 1) := by decide +kernel
theorem dX12_isAlike_72 : decode cX12_isAlike 72 = .ok (.if_icmp .ne 7, 3) := by decide +kernel
theorem dX12_isAlike_75 : decode cX12_isAlike 75 = .ok (.iconst 1, 1) := by decide +kernel
theorem dX12_isAlike_76 : decode cX12_isAlike 76 = .ok (.goto 4, 3) := by decide +kernel
theorem dX12_isAlike_79 : decode cX12_isAlike 79 = .ok (.iconst 0, 1) := by decide +kernel
theorem dX12_isAlike_80 : decode cX12_isAlike 80 = .ok (.ireturn, 1) := by decide +kernel
set_option maxHeartbeats 4000000 in
set_option maxRecDepth 100000 in
theorem s_X12_isAlike {P : PP} {a0 : Nat} {a1 : Int32} {a2 : Int32} (I : IM P a0) (ha1 : 0 ≤ a1.toInt ∧ a1.toInt ≤ 799) (ha2 : 0 ≤ a2.toInt ∧ a2.toInt ≤ 799) : CtrI yX12_isAlike cX12_isAlike 3 (some Jvm.ClassFile.FieldType.boolean) ({ frames := 1, cells := 0, slots := 0, locals := 64 } : Room) 0 0 P [.ref a0, .int a1, .int a2] (fun r P2 => P = P2 ∧ (0 ≤ r.toInt ∧ r.toInt ≤ 1)) := by
  refine enI (lv := [(0, .ref a0), (1, .int a1), (2, .int a2)]) (by decide) (Nat.le_of_ble_eq_true rfl) rfl (fun E D cy C Ci0 ret => ?_)
  have ha0 := I.2.1
  have J79 : G E ({ frames := 1, cells := 0, slots := 0, locals := 64 } : Room) D cy 3 P 0 0 79 [] [] := by
    refine g_iconst (v := 0) C dX12_isAlike_79 (by decide) ?_
    exact ret _ _ _ _ _ _ dX12_isAlike_80 rfl (by decide) (by decide) ⟨rfl, (by decide)⟩
  refine g_aload_n C dX12_isAlike_0 rfl 0 rfl ?_
  obtain ⟨b15873, e15874, h15875⟩ := I.fld (ha0) 21 13 800 rfl
  refine g_getR C fi_X12_72 rfl e15874 (ha0).1 (ha0).2 dX12_isAlike_1 ?_
  refine g_iload_n C dX12_isAlike_4 rfl 1 rfl ?_
  refine g_iald (j := (a1.toInt.toNat)) C h15875.1 h15875.2.1 (ix_in h15875.2.2 (by omega)) dX12_isAlike_5 ?_
  refine g_aload_n C dX12_isAlike_6 rfl 0 rfl ?_
  refine g_getR C fi_X12_72 rfl e15874 (ha0).1 (ha0).2 dX12_isAlike_7 ?_
  refine g_iload_n C dX12_isAlike_10 rfl 2 rfl ?_
  refine g_iald (j := (a2.toInt.toNat)) C h15875.1 h15875.2.1 (ix_in h15875.2.2 (by omega)) dX12_isAlike_11 ?_
  have u15877 := ti_rng (pI P b15873 (a1.toInt.toNat))
  have u15878 := ti_rng (pI P b15873 (a2.toInt.toNat))
  refine b_icmp_ne C 79 dX12_isAlike_12 (by decide) (fun h15876 => ?_) (fun h15876 => ?_)
  · have h15876 : (pI P b15873 (a1.toInt.toNat)).toInt ≠ (pI P b15873 (a2.toInt.toNat)).toInt := ti_ne h15876
    refine g_lv (lv' := []) [] rfl ?_
    exact J79 
  · have h15876 : (pI P b15873 (a1.toInt.toNat)).toInt = (pI P b15873 (a2.toInt.toNat)).toInt := congrArg Int32.toInt h15876
    refine g_aload_n C dX12_isAlike_15 rfl 0 rfl ?_
    obtain ⟨b15879, e15880, h15881⟩ := I.fld (ha0) 22 13 800 rfl
    refine g_getR C fi_X12_75 rfl e15880 (ha0).1 (ha0).2 dX12_isAlike_16 ?_
    refine g_iload_n C dX12_isAlike_19 rfl 1 rfl ?_
    refine g_iald (j := (a1.toInt.toNat)) C h15881.1 h15881.2.1 (ix_in h15881.2.2 (by omega)) dX12_isAlike_20 ?_
    have h15882 := I.arr e15880 rfl (a1.toInt.toNat)
    refine g_aload_n C dX12_isAlike_21 rfl 0 rfl ?_
    refine g_getR C fi_X12_75 rfl e15880 (ha0).1 (ha0).2 dX12_isAlike_22 ?_
    refine g_iload_n C dX12_isAlike_25 rfl 2 rfl ?_
    refine g_iald (j := (a2.toInt.toNat)) C h15881.1 h15881.2.1 (ix_in h15881.2.2 (by omega)) dX12_isAlike_26 ?_
    have h15883 := I.arr e15880 rfl (a2.toInt.toNat)
    refine b_icmp_ne C 79 dX12_isAlike_27 (by decide) (fun h15884 => ?_) (fun h15884 => ?_)
    · have h15884 : (pI P b15879 (a1.toInt.toNat)).toInt ≠ (pI P b15879 (a2.toInt.toNat)).toInt := ti_ne h15884
      refine g_lv (lv' := []) [] rfl ?_
      exact J79 
    · have h15884 : (pI P b15879 (a1.toInt.toNat)).toInt = (pI P b15879 (a2.toInt.toNat)).toInt := congrArg Int32.toInt h15884
      refine g_aload_n C dX12_isAlike_30 rfl 0 rfl ?_
      obtain ⟨b15885, e15886, h15887⟩ := I.fld (ha0) 23 13 800 rfl
      refine g_getR C fi_X12_78 rfl e15886 (ha0).1 (ha0).2 dX12_isAlike_31 ?_
      refine g_iload_n C dX12_isAlike_34 rfl 1 rfl ?_
      refine g_iald (j := (a1.toInt.toNat)) C h15887.1 h15887.2.1 (ix_in h15887.2.2 (by omega)) dX12_isAlike_35 ?_
      refine g_aload_n C dX12_isAlike_36 rfl 0 rfl ?_
      refine g_getR C fi_X12_78 rfl e15886 (ha0).1 (ha0).2 dX12_isAlike_37 ?_
      refine g_iload_n C dX12_isAlike_40 rfl 2 rfl ?_
      refine g_iald (j := (a2.toInt.toNat)) C h15887.1 h15887.2.1 (ix_in h15887.2.2 (by omega)) dX12_isAlike_41 ?_
      have u15889 := ti_rng (pI P b15885 (a1.toInt.toNat))
      have u15890 := ti_rng (pI P b15885 (a2.toInt.toNat))
      refine b_icmp_ne C 79 dX12_isAlike_42 (by decide) (fun h15888 => ?_) (fun h15888 => ?_)
      · have h15888 : (pI P b15885 (a1.toInt.toNat)).toInt ≠ (pI P b15885 (a2.toInt.toNat)).toInt := ti_ne h15888
        refine g_lv (lv' := []) [] rfl ?_
        exact J79 
      · have h15888 : (pI P b15885 (a1.toInt.toNat)).toInt = (pI P b15885 (a2.toInt.toNat)).toInt := congrArg Int32.toInt h15888
        refine g_aload_n C dX12_isAlike_45 rfl 0 rfl ?_
        obtain ⟨b15891, e15892, h15893⟩ := I.fld (ha0) 24 13 800 rfl
        refine g_getR C fi_X12_81 rfl e15892 (ha0).1 (ha0).2 dX12_isAlike_46 ?_
        refine g_iload_n C dX12_isAlike_49 rfl 1 rfl ?_
        refine g_iald (j := (a1.toInt.toNat)) C h15893.1 h15893.2.1 (ix_in h15893.2.2 (by omega)) dX12_isAlike_50 ?_
        refine g_aload_n C dX12_isAlike_51 rfl 0 rfl ?_
        refine g_getR C fi_X12_81 rfl e15892 (ha0).1 (ha0).2 dX12_isAlike_52 ?_
        refine g_iload_n C dX12_isAlike_55 rfl 2 rfl ?_
        refine g_iald (j := (a2.toInt.toNat)) C h15893.1 h15893.2.1 (ix_in h15893.2.2 (by omega)) dX12_isAlike_56 ?_
        have u15895 := ti_rng (pI P b15891 (a1.toInt.toNat))
        have u15896 := ti_rng (pI P b15891 (a2.toInt.toNat))
        refine b_icmp_ne C 79 dX12_isAlike_57 (by decide) (fun h15894 => ?_) (fun h15894 => ?_)
        · have h15894 : (pI P b15891 (a1.toInt.toNat)).toInt ≠ (pI P b15891 (a2.toInt.toNat)).toInt := ti_ne h15894
          refine g_lv (lv' := []) [] rfl ?_
          exact J79 
        · have h15894 : (pI P b15891 (a1.toInt.toNat)).toInt = (pI P b15891 (a2.toInt.toNat)).toInt := congrArg Int32.toInt h15894
          refine g_aload_n C dX12_isAlike_60 rfl 0 rfl ?_
          obtain ⟨b15897, e15898, h15899⟩ := I.fld (ha0) 25 13 800 rfl
          refine g_getR C fi_X12_84 rfl e15898 (ha0).1 (ha0).2 dX12_isAlike_61 ?_
          refine g_iload_n C dX12_isAlike_64 rfl 1 rfl ?_
          refine g_iald (j := (a1.toInt.toNat)) C h15899.1 h15899.2.1 (ix_in h15899.2.2 (by omega)) dX12_isAlike_65 ?_
          refine g_aload_n C dX12_isAlike_66 rfl 0 rfl ?_
          refine g_getR C fi_X12_84 rfl e15898 (ha0).1 (ha0).2 dX12_isAlike_67 ?_
          refine g_iload_n C dX12_isAlike_70 rfl 2 rfl ?_
          refine g_iald (j := (a2.toInt.toNat)) C h15899.1 h15899.2.1 (ix_in h15899.2.2 (by omega)) dX12_isAlike_71 ?_
          have u15901 := ti_rng (pI P b15897 (a1.toInt.toNat))
          have u15902 := ti_rng (pI P b15897 (a2.toInt.toNat))
          refine b_icmp_ne C 79 dX12_isAlike_72 (by decide) (fun h15900 => ?_) (fun h15900 => ?_)
          · have h15900 : (pI P b15897 (a1.toInt.toNat)).toInt ≠ (pI P b15897 (a2.toInt.toNat)).toInt := ti_ne h15900
            refine g_lv (lv' := []) [] rfl ?_
            exact J79 
          · have h15900 : (pI P b15897 (a1.toInt.toNat)).toInt = (pI P b15897 (a2.toInt.toNat)).toInt := congrArg Int32.toInt h15900
            refine g_iconst (v := 1) C dX12_isAlike_75 (by decide) ?_
            refine g_goto C 80 dX12_isAlike_76 (by decide) ?_
            exact ret _ _ _ _ _ _ dX12_isAlike_80 rfl (by decide) (by decide) ⟨rfl, (by decide)⟩
theorem dX12_hasAlike_43 : decode cX12_hasAlike 43 = .ok (.ifCond .eq 7, 3) := by decide +kernel
theorem dX12_hasAlike_46 : decode cX12_hasAlike 46 = .ok (.iconst 1, 1) := by decide +kernel
theorem dX12_hasAlike_47 : decode cX12_hasAlike 47 = .ok (.goto 4, 3) := by decide +kernel
theorem dX12_hasAlike_50 : decode cX12_hasAlike 50 = .ok (.iconst 0, 1) := by decide +kernel
theorem dX12_hasAlike_51 : decode cX12_hasAlike 51 = .ok (.istore_n 3, 1) := by decide +kernel
theorem dX12_hasAlike_52 : decode cX12_hasAlike 52 = .ok (.iinc 4 1, 3) := by decide +kernel
theorem dX12_hasAlike_55 : decode cX12_hasAlike 55 = .ok (.goto (-50), 3) := by decide +kernel
set_option maxHeartbeats 4000000 in
set_option maxRecDepth 100000 in
theorem s_X12_hasAlike {P : PP} {a0 : Nat} {a1 : Int32} {a2 : Int32} (I : IM P a0) (ha1 : 0 ≤ a1.toInt ∧ a1.toInt ≤ 3) (ha2 : 0 ≤ a2.toInt ∧ a2.toInt ≤ 799) : CtrI yX12_hasAlike cX12_hasAlike 5 (some Jvm.ClassFile.FieldType.boolean) ({ frames := 2, cells := 0, slots := 0, locals := 128 } : Room) 0 0 P [.ref a0, .int a1, .int a2] (fun r P2 => P = P2 ∧ (0 ≤ r.toInt ∧ r.toInt ≤ 1)) := by
  refine enI (lv := [(0, .ref a0), (1, .int a1), (2, .int a2)]) (by decide) (Nat.le_of_ble_eq_true rfl) rfl (fun E D cy C Ci0 ret => ?_)
  have ha0 := I.2.1
  have J5 : ∀ (n5 : Nat) (v5_3 : Int32) (v5_4 : Int32), (40 - v5_4.toInt).toNat < n5 → (0 ≤ v5_3.toInt ∧ v5_3.toInt ≤ 1) → (0 ≤ v5_4.toInt ∧ v5_4.toInt ≤ 40) → G E ({ frames := 2, cells := 0, slots := 0, locals := 128 } : Room) D cy 5 P 0 0 5 [(0, .ref a0), (1, .int a1), (2, .int a2), (3, .int v5_3), (4, .int v5_4)] [] := by
    intro n5
    induction n5 with
    | zero => intro v5_3 v5_4 hm5 hv5_3 hv5_4; omega
    | succ n5 ih5 =>
      intro v5_3 v5_4 hm5 hv5_3 hv5_4
      have J51 : ∀ (v51_s0 : Int32), (0 ≤ v5_4.toInt ∧ v5_4.toInt ≤ 39) → (0 ≤ v51_s0.toInt ∧ v51_s0.toInt ≤ 1) → (∀ b, pR P a0 20 = some b → 1 ≤ (pI P b (a1.toInt.toNat)).toInt ∧ (pI P b (a1.toInt.toNat)).toInt ≤ 40) → G E ({ frames := 2, cells := 0, slots := 0, locals := 128 } : Room) D cy 5 P 0 0 51 [(0, .ref a0), (1, .int a1), (2, .int a2), (4, .int v5_4)] [.int v51_s0] := by
        intro v51_s0 hv51_4 hv51_s0 hq51_0
        obtain ⟨b16353, e16354, h16355⟩ := I.fld (ha0) 20 13 20 rfl
        have hq51_0 := hq51_0 b16353 e16354
        refine g_istore_n (lv' := [(3, .int v51_s0), (0, .ref a0), (1, .int a1), (2, .int a2), (4, .int v5_4)]) C dX12_hasAlike_51 rfl (by decide) rfl ?_
        refine s_iinc (lv0 := [(3, .int v51_s0), (0, .ref a0), (1, .int a1), (2, .int a2)]) (m := 1) C dX12_hasAlike_52 4 rfl (by decide) rfl (by decide) (by omega) (fun z16356 h16357 => ?_)
        have h16357 : z16356.toInt = v5_4.toInt + 1 := h16357
        refine g_goto C 5 dX12_hasAlike_55 (by decide) ?_
        refine g_lv (lv' := [(0, .ref a0), (1, .int a1), (2, .int a2), (3, .int v51_s0), (4, .int z16356)]) [2, 3, 4, 1, 0] rfl ?_
        exact ih5 v51_s0 z16356 (by omega) (by omega) (by omega)
      have J50 : (0 ≤ v5_4.toInt ∧ v5_4.toInt ≤ 39) → (∀ b, pR P a0 20 = some b → 1 ≤ (pI P b (a1.toInt.toNat)).toInt ∧ (pI P b (a1.toInt.toNat)).toInt ≤ 40) → G E ({ frames := 2, cells := 0, slots := 0, locals := 128 } : Room) D cy 5 P 0 0 50 [(0, .ref a0), (1, .int a1), (2, .int a2), (4, .int v5_4)] [] := by
        intro hv50_4 hq50_0
        obtain ⟨b16358, e16359, h16360⟩ := I.fld (ha0) 20 13 20 rfl
        have hq50_0 := hq50_0 b16358 e16359
        refine g_iconst (v := 0) C dX12_hasAlike_50 (by decide) ?_
        exact J51 0 (by omega) (by decide) (fun b9 e9 => by rw [e16359] at e9; cases e9; omega)
      have J46 : (0 ≤ v5_4.toInt ∧ v5_4.toInt ≤ 39) → (∀ b, pR P a0 20 = some b → 1 ≤ (pI P b (a1.toInt.toNat)).toInt ∧ (pI P b (a1.toInt.toNat)).toInt ≤ 40) → G E ({ frames := 2, cells := 0, slots := 0, locals := 128 } : Room) D cy 5 P 0 0 46 [(0, .ref a0), (1, .int a1), (2, .int a2), (4, .int v5_4)] [] := by
        intro hv46_4 hq46_0
        obtain ⟨b16361, e16362, h16363⟩ := I.fld (ha0) 20 13 20 rfl
        have hq46_0 := hq46_0 b16361 e16362
        refine g_iconst (v := 1) C dX12_hasAlike_46 (by decide) ?_
        refine g_goto C 51 dX12_hasAlike_47 (by decide) ?_
        exact J51 1 (by omega) (by decide) (fun b9 e9 => by rw [e16362] at e9; cases e9; omega)
      refine g_iload C dX12_hasAlike_5 4 rfl ?_
      refine g_aload_n C dX12_hasAlike_7 rfl 0 rfl ?_
      obtain ⟨b16364, e16365, h16366⟩ := I.fld (ha0) 20 13 20 rfl
      refine g_getR C fi_X12_69 rfl e16365 (ha0).1 (ha0).2 dX12_hasAlike_8 ?_
      refine g_iload_n C dX12_hasAlike_11 rfl 1 rfl ?_
      refine g_iald (j := (a1.toInt.toNat)) C h16366.1 h16366.2.1 (ix_in h16366.2.2 (by omega)) dX12_hasAlike_12 ?_
      have h16367 := I.arr e16365 rfl (a1.toInt.toNat)
      refine b_icmp_ge C 58 dX12_hasAlike_13 (by decide) (fun h16368 => ?_) (fun h16368 => ?_)
      · have h16368 : (pI P b16364 (a1.toInt.toNat)).toInt ≤ v5_4.toInt := h16368
        refine g_iload_n C dX12_hasAlike_58 rfl 3 rfl ?_
        exact ret _ _ _ _ _ _ dX12_hasAlike_59 (nar_b (b01 (by omega))) (by decide) (by decide) ⟨rfl, (by omega)⟩
      · have h16368 : v5_4.toInt < (pI P b16364 (a1.toInt.toNat)).toInt := h16368
        refine g_iload_n C dX12_hasAlike_16 rfl 3 rfl ?_
        refine b_if_ne C 46 dX12_hasAlike_17 (by decide) (fun h16369 => ?_) (fun h16369 => ?_)
        · have h16369 : v5_3.toInt ≠ 0 := ti_ne h16369
          refine g_lv (lv' := [(0, .ref a0), (1, .int a1), (2, .int a2), (4, .int v5_4)]) [0, 1, 2, 4] rfl ?_
          exact J46 (by omega) (fun b9 e9 => by rw [e16365] at e9; cases e9; omega)
        · have h16369 : v5_3.toInt = 0 := congrArg Int32.toInt h16369
          refine g_bipush (v := 40) C dX12_hasAlike_20 (by decide) ?_
          refine g_iload_n C dX12_hasAlike_22 rfl 1 rfl ?_
          refine s_imul C dX12_hasAlike_23 (by show -2147483648 ≤ 40 * a1.toInt ∧ 40 * a1.toInt ≤ 2147483647; omega) (fun z16370 h16371 => ?_)
          have h16371 : z16370.toInt = 40 * a1.toInt := h16371
          refine g_iload C dX12_hasAlike_24 4 rfl ?_
          refine s_iadd C dX12_hasAlike_26 (by show -2147483648 ≤ z16370.toInt + v5_4.toInt ∧ z16370.toInt + v5_4.toInt ≤ 2147483647; omega) (fun z16372 h16373 => ?_)
          have h16373 : z16372.toInt = z16370.toInt + v5_4.toInt := h16373
          refine g_iload_n C dX12_hasAlike_27 rfl 2 rfl ?_
          refine b_icmp_eq C 50 dX12_hasAlike_28 (by decide) (fun h16374 => ?_) (fun h16374 => ?_)
          · have h16374 : z16372.toInt = a2.toInt := congrArg Int32.toInt h16374
            refine g_lv (lv' := [(0, .ref a0), (1, .int a1), (2, .int a2), (4, .int v5_4)]) [0, 1, 2, 4] rfl ?_
            exact J50 (by omega) (fun b9 e9 => by rw [e16365] at e9; cases e9; omega)
          · have h16374 : z16372.toInt ≠ a2.toInt := ti_ne h16374
            refine g_aload_n C dX12_hasAlike_31 rfl 0 rfl ?_
            refine g_bipush (v := 40) C dX12_hasAlike_32 (by decide) ?_
            refine g_iload_n C dX12_hasAlike_34 rfl 1 rfl ?_
            refine s_imul C dX12_hasAlike_35 (by show -2147483648 ≤ 40 * a1.toInt ∧ 40 * a1.toInt ≤ 2147483647; omega) (fun z16375 h16376 => ?_)
            have h16376 : z16375.toInt = 40 * a1.toInt := h16376
            refine g_iload C dX12_hasAlike_36 4 rfl ?_
            refine s_iadd C dX12_hasAlike_38 (by show -2147483648 ≤ z16375.toInt + v5_4.toInt ∧ z16375.toInt + v5_4.toInt ≤ 2147483647; omega) (fun z16377 h16378 => ?_)
            have h16378 : z16377.toInt = z16375.toInt + v5_4.toInt := h16378
            refine g_iload_n C dX12_hasAlike_39 rfl 2 rfl ?_
            refine g_callVI (rest := []) C mv_X12_399 [.int z16377, .int a2] (s_X12_isAlike I (by omega) (by omega)) (ha0).1 (ha0).2 rfl rfl (by decide) (Nat.le_of_ble_eq_true rfl) (by decide) dX12_hasAlike_40 (fun r16379 Y16380 h16381 => ?_)
            obtain ⟨rfl, h16381⟩ := h16381
            have h16381 : 0 ≤ r16379.toInt ∧ r16379.toInt ≤ 1 := h16381
            refine b_if_eq C 50 dX12_hasAlike_43 (by decide) (fun h16382 => ?_) (fun h16382 => ?_)
            · have h16382 : r16379.toInt = 0 := congrArg Int32.toInt h16382
              refine g_lv (lv' := [(0, .ref a0), (1, .int a1), (2, .int a2), (4, .int v5_4)]) [0, 1, 2, 4] rfl ?_
              exact J50 (by omega) (fun b9 e9 => by rw [e16365] at e9; cases e9; omega)
            · have h16382 : r16379.toInt ≠ 0 := ti_ne h16382
              refine g_lv (lv' := [(0, .ref a0), (1, .int a1), (2, .int a2), (4, .int v5_4)]) [0, 1, 2, 4] rfl ?_
              exact J46 (by omega) (fun b9 e9 => by rw [e16365] at e9; cases e9; omega)
  refine g_iconst (v := 0) C dX12_hasAlike_0 (by decide) ?_
  refine g_istore_n (lv' := [(3, .int 0), (0, .ref a0), (1, .int a1), (2, .int a2)]) C dX12_hasAlike_1 rfl (by decide) rfl ?_
  refine g_iconst (v := 0) C dX12_hasAlike_2 (by decide) ?_
  refine g_istore (lv' := [(4, .int 0), (3, .int 0), (0, .ref a0), (1, .int a1), (2, .int a2)]) C dX12_hasAlike_3 (by decide) rfl ?_
  refine g_lv (lv' := [(0, .ref a0), (1, .int a1), (2, .int a2), (3, .int 0), (4, .int 0)]) [2, 3, 4, 1, 0] rfl ?_
  exact J5 _ 0 0 (Nat.lt_succ_self _) (by decide) (by decide)
theorem dX12_hasWord_0 : decode cX12_hasWord 0 = .ok (.aload_n 0, 1) := by decide +kernel
theorem dX12_hasWord_1 : decode cX12_hasWord 1 = .ok (.iload_n 1, 1) := by decide +kernel
theorem dX12_hasWord_2 : decode cX12_hasWord 2 = .ok (.invokevirtual 172, 3) := by decide +kernel
theorem dX12_isWord_0 : decode cX12_isWord 0 = .ok (.aload_n 0, 1) := by decide +kernel
theorem dX12_isWord_1 : decode cX12_isWord 1 = .ok (.getfield 162, 3) := by decide +kernel
theorem dX12_isWord_4 : decode cX12_isWord 4 = .ok (.ifCond .ne 39, 3) := by decide +kernel
theorem dX12_isWord_7 : decode cX12_isWord 7 = .ok (.aload_n 0, 1) := by decide +kernel
theorem dX12_isWord_8 : decode cX12_isWord 8 = .ok (.getfield 24, 3) := by decide +kernel
theorem dX12_isWord_11 : decode cX12_isWord 11 = .ok (.aload_n 0, 1) := by decide +kernel
theorem dX12_isWord_12 : decode cX12_isWord 12 = .ok (.getfield 159, 3) := by decide +kernel
theorem dX12_isWord_15 : decode cX12_isWord 15 = .ok (.iaload, 1) := by decide +kernel
theorem dX12_isWord_16 : decode cX12_isWord 16 = .ok (.iconst 1, 1) := by decide +kernel
theorem dX12_isWord_17 : decode cX12_isWord 17 = .ok (.if_icmp .ne 26, 3) := by decide +kernel
theorem dX12_isWord_20 : decode cX12_isWord 20 = .ok (.aload_n 0, 1) := by decide +kernel
theorem dX12_isWord_21 : decode cX12_isWord 21 = .ok (.getfield 30, 3) := by decide +kernel
theorem dX12_isWord_24 : decode cX12_isWord 24 = .ok (.aload_n 0, 1) := by decide +kernel
theorem dX12_isWord_25 : decode cX12_isWord 25 = .ok (.getfield 159, 3) := by decide +kernel
theorem dX12_isWord_28 : decode cX12_isWord 28 = .ok (.laload, 1) := by decide +kernel
theorem dX12_isWord_29 : decode cX12_isWord 29 = .ok (.aload_n 0, 1) := by decide +kernel
theorem dX12_isWord_30 : decode cX12_isWord 30 = .ok (.getfield 42, 3) := by decide +kernel
theorem dX12_isWord_33 : decode cX12_isWord 33 = .ok (.iload_n 1, 1) := by decide +kernel
theorem dX12_isWord_34 : decode cX12_isWord 34 = .ok (.laload, 1) := by decide +kernel
theorem dX12_isWord_35 : decode cX12_isWord 35 = .ok (.lcmp, 1) := by decide +kernel
theorem dX12_isWord_36 : decode cX12_isWord 36 = .ok (.ifCond .ne 7, 3) := by decide +kernel
theorem dX12_isWord_39 : decode cX12_isWord 39 = .ok (.iconst 1, 1) := by decide +kernel
theorem dX12_isWord_40 : decode cX12_isWord 40 = .ok (.goto 4, 3) := by decide +kernel
theorem dX12_isWord_43 : decode cX12_isWord 43 = .ok (.iconst 0, 1) := by decide +kernel
theorem dX12_isWord_44 : decode cX12_isWord 44 = .ok (.ireturn, 1) := by decide +kernel
set_option maxHeartbeats 4000000 in
set_option maxRecDepth 100000 in
theorem s_X12_isWord {P : PP} {a0 : Nat} {a1 : Int32} (I : IM P a0) (ha1 : 0 ≤ a1.toInt ∧ a1.toInt ≤ 3) : CtrI yX12_isWord cX12_isWord 2 (some Jvm.ClassFile.FieldType.boolean) ({ frames := 1, cells := 0, slots := 0, locals := 64 } : Room) 0 0 P [.ref a0, .int a1] (fun r P2 => P = P2 ∧ (0 ≤ r.toInt ∧ r.toInt ≤ 1)) := by
  refine enI (lv := [(0, .ref a0), (1, .int a1)]) (by decide) (Nat.le_of_ble_eq_true rfl) rfl (fun E D cy C Ci0 ret => ?_)
  have ha0 := I.2.1
  have J43 : (0 ≤ (pI P a0 8).toInt ∧ (pI P a0 8).toInt ≤ 16005) → G E ({ frames := 1, cells := 0, slots := 0, locals := 64 } : Room) D cy 2 P 0 0 43 [] [] := by
    intro hq43_0
    refine g_iconst (v := 0) C dX12_isWord_43 (by decide) ?_
    exact ret _ _ _ _ _ _ dX12_isWord_44 rfl (by decide) (by decide) ⟨rfl, (by decide)⟩
  refine g_aload_n C dX12_isWord_0 rfl 0 rfl ?_
  refine g_getI C fi_X12_162 (by decide) (ha0).1 (ha0).2 dX12_isWord_1 ?_
  have h16402 := I.rg (ha0) 8 rfl
  refine b_if_ne C 43 dX12_isWord_4 (by decide) (fun h16403 => ?_) (fun h16403 => ?_)
  · have h16403 : (pI P a0 8).toInt ≠ 0 := ti_ne h16403
    refine g_lv (lv' := []) [] rfl ?_
    exact J43 (by omega)
  · have h16403 : (pI P a0 8).toInt = 0 := congrArg Int32.toInt h16403
    refine g_aload_n C dX12_isWord_7 rfl 0 rfl ?_
    obtain ⟨b16404, e16405, h16406⟩ := I.fld (ha0) 4 13 1002 rfl
    refine g_getR C fi_X12_24 rfl e16405 (ha0).1 (ha0).2 dX12_isWord_8 ?_
    refine g_aload_n C dX12_isWord_11 rfl 0 rfl ?_
    refine g_getI C fi_X12_159 (by decide) (ha0).1 (ha0).2 dX12_isWord_12 ?_
    have h16407 := I.rg (ha0) 7 rfl
    refine g_iald (j := ((pI P a0 7).toInt.toNat)) C h16406.1 h16406.2.1 (ix_in h16406.2.2 (by omega)) dX12_isWord_15 ?_
    have h16408 := I.arr e16405 rfl ((pI P a0 7).toInt.toNat)
    refine g_iconst (v := 1) C dX12_isWord_16 (by decide) ?_
    refine b_icmp_ne C 43 dX12_isWord_17 (by decide) (fun h16409 => ?_) (fun h16409 => ?_)
    · have h16409 : (pI P b16404 ((pI P a0 7).toInt.toNat)).toInt ≠ 1 := ti_ne h16409
      refine g_lv (lv' := []) [] rfl ?_
      exact J43 (by omega)
    · have h16409 : (pI P b16404 ((pI P a0 7).toInt.toNat)).toInt = 1 := congrArg Int32.toInt h16409
      refine g_aload_n C dX12_isWord_20 rfl 0 rfl ?_
      obtain ⟨b16410, e16411, h16412⟩ := I.fld (ha0) 6 14 1002 rfl
      refine g_getR C fi_X12_30 rfl e16411 (ha0).1 (ha0).2 dX12_isWord_21 ?_
      refine g_aload_n C dX12_isWord_24 rfl 0 rfl ?_
      refine g_getI C fi_X12_159 (by decide) (ha0).1 (ha0).2 dX12_isWord_25 ?_
      refine g_lald (j := ((pI P a0 7).toInt.toNat)) C h16412.1 h16412.2.1 (ix_in h16412.2.2 (by omega)) dX12_isWord_28 ?_
      refine g_topl (fun l16413 _ => ?_)
      refine g_aload_n C dX12_isWord_29 rfl 0 rfl ?_
      obtain ⟨b16414, e16415, h16416⟩ := I.fld (ha0) 9 14 4 rfl
      refine g_getR C fi_X12_42 rfl e16415 (ha0).1 (ha0).2 dX12_isWord_30 ?_
      refine g_iload_n C dX12_isWord_33 rfl 1 rfl ?_
      refine g_lald (j := (a1.toInt.toNat)) C h16416.1 h16416.2.1 (ix_in h16416.2.2 (by omega)) dX12_isWord_34 ?_
      refine g_topl (fun l16417 _ => ?_)
      refine a_lcmp C dX12_isWord_35 (fun z16418 => ?_)
      have u16420 := ti_rng z16418
      refine b_if_ne C 43 dX12_isWord_36 (by decide) (fun h16419 => ?_) (fun h16419 => ?_)
      · have h16419 : z16418.toInt ≠ 0 := ti_ne h16419
        refine g_lv (lv' := []) [] rfl ?_
        exact J43 (by omega)
      · have h16419 : z16418.toInt = 0 := congrArg Int32.toInt h16419
        refine g_iconst (v := 1) C dX12_isWord_39 (by decide) ?_
        refine g_goto C 44 dX12_isWord_40 (by decide) ?_
        exact ret _ _ _ _ _ _ dX12_isWord_44 rfl (by decide) (by decide) ⟨rfl, (by decide)⟩
theorem dX12_hasWord_5 : decode cX12_hasWord 5 = .ok (.istore_n 2, 1) := by decide +kernel
theorem dX12_hasWord_6 : decode cX12_hasWord 6 = .ok (.aload_n 0, 1) := by decide +kernel
theorem dX12_hasWord_7 : decode cX12_hasWord 7 = .ok (.dup, 1) := by decide +kernel
theorem dX12_hasWord_8 : decode cX12_hasWord 8 = .ok (.getfield 159, 3) := by decide +kernel
theorem dX12_hasWord_11 : decode cX12_hasWord 11 = .ok (.iload_n 2, 1) := by decide +kernel
theorem dX12_hasWord_12 : decode cX12_hasWord 12 = .ok (.ifCond .eq 7, 3) := by decide +kernel
theorem dX12_hasWord_15 : decode cX12_hasWord 15 = .ok (.iconst 1, 1) := by decide +kernel
theorem dX12_hasWord_16 : decode cX12_hasWord 16 = .ok (.goto 4, 3) := by decide +kernel
theorem dX12_hasWord_19 : decode cX12_hasWord 19 = .ok (.iconst 0, 1) := by decide +kernel
theorem dX12_hasWord_20 : decode cX12_hasWord 20 = .ok (.iadd, 1) := by decide +kernel
theorem dX12_hasWord_21 : decode cX12_hasWord 21 = .ok (.putfield 159, 3) := by decide +kernel
theorem dX12_howMany_0 : decode cX12_howMany 0 = .ok (.iconst 0, 1) := by decide +kernel
theorem dX12_howMany_1 : decode cX12_howMany 1 = .ok (.istore_n 2, 1) := by decide +kernel
theorem dX12_howMany_2 : decode cX12_howMany 2 = .ok (.iconst 1, 1) := by decide +kernel
theorem dX12_howMany_3 : decode cX12_howMany 3 = .ok (.istore_n 3, 1) := by decide +kernel
theorem dX12_howMany_4 : decode cX12_howMany 4 = .ok (.iload_n 3, 1) := by decide +kernel
theorem dX12_howMany_5 : decode cX12_howMany 5 = .ok (.aload_n 0, 1) := by decide +kernel
theorem dX12_howMany_6 : decode cX12_howMany 6 = .ok (.iload_n 1, 1) := by decide +kernel
theorem dX12_howMany_7 : decode cX12_howMany 7 = .ok (.invokevirtual 238, 3) := by decide +kernel
theorem dX12_howMany_10 : decode cX12_howMany 10 = .ok (.if_icmp .gt 18, 3) := by decide +kernel
theorem dX12_howMany_13 : decode cX12_howMany 13 = .ok (.iload_n 2, 1) := by decide +kernel
theorem dX12_howMany_14 : decode cX12_howMany 14 = .ok (.aload_n 0, 1) := by decide +kernel
theorem dX12_howMany_15 : decode cX12_howMany 15 = .ok (.iload_n 1, 1) := by decide +kernel
theorem dX12_howMany_16 : decode cX12_howMany 16 = .ok (.iload_n 3, 1) := by decide +kernel
theorem dX12_howMany_17 : decode cX12_howMany 17 = .ok (.invokevirtual 241, 3) := by decide +kernel
theorem dX12_howMany_28 : decode cX12_howMany 28 = .ok (.iload_n 2, 1) := by decide +kernel
theorem dX12_howMany_29 : decode cX12_howMany 29 = .ok (.ifCond .ne 5, 3) := by decide +kernel
theorem dX12_howMany_32 : decode cX12_howMany 32 = .ok (.iconst 1, 1) := by decide +kernel
theorem dX12_howMany_33 : decode cX12_howMany 33 = .ok (.ireturn, 1) := by decide +kernel
theorem dX12_oddsOf_0 : decode cX12_oddsOf 0 = .ok (.aload_n 0, 1) := by decide +kernel
theorem dX12_oddsOf_1 : decode cX12_oddsOf 1 = .ok (.getfield 51, 3) := by decide +kernel
theorem dX12_oddsOf_4 : decode cX12_oddsOf 4 = .ok (.bipush 21, 2) := by decide +kernel
theorem dX12_oddsOf_6 : decode cX12_oddsOf 6 = .ok (.iload_n 1, 1) := by decide +kernel
theorem dX12_oddsOf_7 : decode cX12_oddsOf 7 = .ok (.imul, 1) := by decide +kernel
theorem dX12_oddsOf_8 : decode cX12_oddsOf 8 = .ok (.iload_n 2, 1) := by decide +kernel
theorem dX12_oddsOf_9 : decode cX12_oddsOf 9 = .ok (.iadd, 1) := by decide +kernel
theorem dX12_oddsOf_10 : decode cX12_oddsOf 10 = .ok (.iaload, 1) := by decide +kernel
theorem dX12_oddsOf_11 : decode cX12_oddsOf 11 = .ok (.ifCond .ge 7, 3) := by decide +kernel
theorem dX12_oddsOf_14 : decode cX12_oddsOf 14 = .ok (.iconst 0, 1) := by decide +kernel
theorem dX12_oddsOf_15 : decode cX12_oddsOf 15 = .ok (.goto 14, 3) := by decide +kernel
theorem dX12_oddsOf_18 : decode cX12_oddsOf 18 = .ok (.aload_n 0, 1) := by decide +kernel
theorem dX12_oddsOf_19 : decode cX12_oddsOf 19 = .ok (.getfield 51, 3) := by decide +kernel
theorem dX12_oddsOf_22 : decode cX12_oddsOf 22 = .ok (.bipush 21, 2) := by decide +kernel
theorem dX12_oddsOf_24 : decode cX12_oddsOf 24 = .ok (.iload_n 1, 1) := by decide +kernel
theorem dX12_oddsOf_25 : decode cX12_oddsOf 25 = .ok (.imul, 1) := by decide +kernel
theorem dX12_oddsOf_26 : decode cX12_oddsOf 26 = .ok (.iload_n 2, 1) := by decide +kernel
theorem dX12_oddsOf_27 : decode cX12_oddsOf 27 = .ok (.iadd, 1) := by decide +kernel
theorem dX12_oddsOf_28 : decode cX12_oddsOf 28 = .ok (.iaload, 1) := by decide +kernel
theorem dX12_oddsOf_29 : decode cX12_oddsOf 29 = .ok (.ireturn, 1) := by decide +kernel
set_option maxHeartbeats 4000000 in
set_option maxRecDepth 100000 in
theorem s_X12_oddsOf {P : PP} {a0 : Nat} {a1 : Int32} {a2 : Int32} (I : IM P a0) (ha1 : 0 ≤ a1.toInt ∧ a1.toInt ≤ 1) (ha2 : 0 ≤ a2.toInt ∧ a2.toInt ≤ 20) : CtrI yX12_oddsOf cX12_oddsOf 3 (some Jvm.ClassFile.FieldType.int) ({ frames := 1, cells := 0, slots := 0, locals := 64 } : Room) 0 0 P [.ref a0, .int a1, .int a2] (fun r P2 => P = P2 ∧ (True)) := by
  refine enI (lv := [(0, .ref a0), (1, .int a1), (2, .int a2)]) (by decide) (Nat.le_of_ble_eq_true rfl) rfl (fun E D cy C Ci0 ret => ?_)
  have ha0 := I.2.1
  refine g_aload_n C dX12_oddsOf_0 rfl 0 rfl ?_
  obtain ⟨b16446, e16447, h16448⟩ := I.fld (ha0) 12 13 63 rfl
  refine g_getR C fi_X12_51 rfl e16447 (ha0).1 (ha0).2 dX12_oddsOf_1 ?_
  refine g_bipush (v := 21) C dX12_oddsOf_4 (by decide) ?_
  refine g_iload_n C dX12_oddsOf_6 rfl 1 rfl ?_
  refine s_imul C dX12_oddsOf_7 (by show -2147483648 ≤ 21 * a1.toInt ∧ 21 * a1.toInt ≤ 2147483647; omega) (fun z16449 h16450 => ?_)
  have h16450 : z16449.toInt = 21 * a1.toInt := h16450
  refine g_iload_n C dX12_oddsOf_8 rfl 2 rfl ?_
  refine s_iadd C dX12_oddsOf_9 (by show -2147483648 ≤ z16449.toInt + a2.toInt ∧ z16449.toInt + a2.toInt ≤ 2147483647; omega) (fun z16451 h16452 => ?_)
  have h16452 : z16451.toInt = z16449.toInt + a2.toInt := h16452
  refine g_iald (j := (z16451.toInt.toNat)) C h16448.1 h16448.2.1 (ix_in h16448.2.2 (by omega)) dX12_oddsOf_10 ?_
  have u16454 := ti_rng (pI P b16446 (z16451.toInt.toNat))
  refine b_if_ge C 18 dX12_oddsOf_11 (by decide) (fun h16453 => ?_) (fun h16453 => ?_)
  · have h16453 : 0 ≤ (pI P b16446 (z16451.toInt.toNat)).toInt := h16453
    refine g_aload_n C dX12_oddsOf_18 rfl 0 rfl ?_
    refine g_getR C fi_X12_51 rfl e16447 (ha0).1 (ha0).2 dX12_oddsOf_19 ?_
    refine g_bipush (v := 21) C dX12_oddsOf_22 (by decide) ?_
    refine g_iload_n C dX12_oddsOf_24 rfl 1 rfl ?_
    refine s_imul C dX12_oddsOf_25 (by show -2147483648 ≤ 21 * a1.toInt ∧ 21 * a1.toInt ≤ 2147483647; omega) (fun z16455 h16456 => ?_)
    have h16456 : z16455.toInt = 21 * a1.toInt := h16456
    refine g_iload_n C dX12_oddsOf_26 rfl 2 rfl ?_
    refine s_iadd C dX12_oddsOf_27 (by show -2147483648 ≤ z16455.toInt + a2.toInt ∧ z16455.toInt + a2.toInt ≤ 2147483647; omega) (fun z16457 h16458 => ?_)
    have h16458 : z16457.toInt = z16455.toInt + a2.toInt := h16458
    refine g_iald (j := (z16457.toInt.toNat)) C h16448.1 h16448.2.1 (ix_in h16448.2.2 (by omega)) dX12_oddsOf_28 ?_
    exact ret _ _ _ _ _ _ dX12_oddsOf_29 rfl (by decide) (by decide) ⟨rfl, trivial⟩
  · have h16453 : (pI P b16446 (z16451.toInt.toNat)).toInt < 0 := h16453
    refine g_iconst (v := 0) C dX12_oddsOf_14 (by decide) ?_
    refine g_goto C 29 dX12_oddsOf_15 (by decide) ?_
    exact ret _ _ _ _ _ _ dX12_oddsOf_29 rfl (by decide) (by decide) ⟨rfl, trivial⟩
theorem dX12_howMany_20 : decode cX12_howMany 20 = .ok (.iadd, 1) := by decide +kernel
theorem dX12_howMany_21 : decode cX12_howMany 21 = .ok (.istore_n 2, 1) := by decide +kernel
theorem dX12_howMany_22 : decode cX12_howMany 22 = .ok (.iinc 3 1, 3) := by decide +kernel
theorem dX12_howMany_25 : decode cX12_howMany 25 = .ok (.goto (-21), 3) := by decide +kernel
theorem dX12_howMany_34 : decode cX12_howMany 34 = .ok (.aload_n 0, 1) := by decide +kernel
theorem dX12_howMany_35 : decode cX12_howMany 35 = .ok (.invokevirtual 244, 3) := by decide +kernel
theorem dX12_init_0 : decode cX12_init 0 = .ok (.aload_n 0, 1) := by decide +kernel
theorem dX12_init_1 : decode cX12_init 1 = .ok (.invokespecial 18, 3) := by decide +kernel
theorem dX12_init_4 : decode cX12_init 4 = .ok (.aload_n 0, 1) := by decide +kernel
theorem dX12_init_5 : decode cX12_init 5 = .ok (.sipush 1000, 3) := by decide +kernel
theorem dX12_init_8 : decode cX12_init 8 = .ok (.newarray .int, 2) := by decide +kernel
theorem dX12_isAllWith_0 : decode cX12_isAllWith 0 = .ok (.iconst 0, 1) := by decide +kernel
theorem dX12_isAllWith_1 : decode cX12_isAllWith 1 = .ok (.istore 4, 2) := by decide +kernel
theorem dX12_isAllWith_3 : decode cX12_isAllWith 3 = .ok (.iload 4, 2) := by decide +kernel
theorem dX12_isAllWith_5 : decode cX12_isAllWith 5 = .ok (.iconst 2, 1) := by decide +kernel
theorem dX12_isAllWith_6 : decode cX12_isAllWith 6 = .ok (.if_icmp .ge 95, 3) := by decide +kernel
theorem dX12_isAllWith_9 : decode cX12_isAllWith 9 = .ok (.aload_n 0, 1) := by decide +kernel
theorem dX12_isAllWith_10 : decode cX12_isAllWith 10 = .ok (.iload_n 1, 1) := by decide +kernel
theorem dX12_isAllWith_11 : decode cX12_isAllWith 11 = .ok (.iload_n 2, 1) := by decide +kernel
theorem dX12_isAllWith_12 : decode cX12_isAllWith 12 = .ok (.iload 4, 2) := by decide +kernel
theorem dX12_isAllWith_14 : decode cX12_isAllWith 14 = .ok (.aload_n 0, 1) := by decide +kernel
theorem dX12_isAllWith_15 : decode cX12_isAllWith 15 = .ok (.getfield 69, 3) := by decide +kernel
theorem dX12_isAllWith_18 : decode cX12_isAllWith 18 = .ok (.iload_n 1, 1) := by decide +kernel
theorem dX12_isAllWith_19 : decode cX12_isAllWith 19 = .ok (.iaload, 1) := by decide +kernel
theorem dX12_isAllWith_20 : decode cX12_isAllWith 20 = .ok (.invokevirtual 339, 3) := by decide +kernel
theorem dX12_isFixedWithout_0 : decode cX12_isFixedWithout 0 = .ok (.aload_n 0, 1) := by decide +kernel
theorem dX12_isFixedWithout_1 : decode cX12_isFixedWithout 1 = .ok (.getfield 305, 3) := by decide +kernel
theorem dX12_isFixedWithout_4 : decode cX12_isFixedWithout 4 = .ok (.istore 5, 2) := by decide +kernel
theorem dX12_isFixedWithout_6 : decode cX12_isFixedWithout 6 = .ok (.iconst 0, 1) := by decide +kernel
theorem dX12_isFixedWithout_7 : decode cX12_isFixedWithout 7 = .ok (.istore 6, 2) := by decide +kernel
theorem dX12_isFixedWithout_9 : decode cX12_isFixedWithout 9 = .ok (.iconst 0, 1) := by decide +kernel
theorem dX12_isFixedWithout_10 : decode cX12_isFixedWithout 10 = .ok (.istore 7, 2) := by decide +kernel
theorem dX12_isFixedWithout_12 : decode cX12_isFixedWithout 12 = .ok (.iload 7, 2) := by decide +kernel
theorem dX12_isFixedWithout_14 : decode cX12_isFixedWithout 14 = .ok (.iload 5, 2) := by decide +kernel
theorem dX12_isFixedWithout_16 : decode cX12_isFixedWithout 16 = .ok (.if_icmp .ge 87, 3) := by decide +kernel
theorem dX12_isFixedWithout_19 : decode cX12_isFixedWithout 19 = .ok (.aload_n 0, 1) := by decide +kernel
theorem dX12_isFixedWithout_20 : decode cX12_isFixedWithout 20 = .ok (.getfield 115, 3) := by decide +kernel
theorem dX12_isFixedWithout_23 : decode cX12_isFixedWithout 23 = .ok (.iload 7, 2) := by decide +kernel
theorem dX12_isFixedWithout_25 : decode cX12_isFixedWithout 25 = .ok (.aload_n 0, 1) := by decide +kernel
theorem dX12_isFixedWithout_26 : decode cX12_isFixedWithout 26 = .ok (.getfield 91, 3) := by decide +kernel
theorem dX12_isFixedWithout_29 : decode cX12_isFixedWithout 29 = .ok (.iload 7, 2) := by decide +kernel
theorem dX12_isFixedWithout_31 : decode cX12_isFixedWithout 31 = .ok (.iaload, 1) := by decide +kernel
theorem dX12_isFixedWithout_32 : decode cX12_isFixedWithout 32 = .ok (.iastore, 1) := by decide +kernel
theorem dX12_isFixedWithout_33 : decode cX12_isFixedWithout 33 = .ok (.aload_n 0, 1) := by decide +kernel
theorem dX12_isFixedWithout_34 : decode cX12_isFixedWithout 34 = .ok (.getfield 118, 3) := by decide +kernel
theorem dX12_isFixedWithout_37 : decode cX12_isFixedWithout 37 = .ok (.iload 7, 2) := by decide +kernel
theorem dX12_isFixedWithout_39 : decode cX12_isFixedWithout 39 = .ok (.aload_n 0, 1) := by decide +kernel
theorem dX12_isFixedWithout_40 : decode cX12_isFixedWithout 40 = .ok (.getfield 94, 3) := by decide +kernel
theorem dX12_isFixedWithout_43 : decode cX12_isFixedWithout 43 = .ok (.iload 7, 2) := by decide +kernel
theorem dX12_isFixedWithout_45 : decode cX12_isFixedWithout 45 = .ok (.iaload, 1) := by decide +kernel
theorem dX12_isFixedWithout_46 : decode cX12_isFixedWithout 46 = .ok (.iastore, 1) := by decide +kernel
theorem dX12_isFixedWithout_47 : decode cX12_isFixedWithout 47 = .ok (.iload 7, 2) := by decide +kernel
theorem dX12_isFixedWithout_49 : decode cX12_isFixedWithout 49 = .ok (.iload_n 2, 1) := by decide +kernel
theorem dX12_isFixedWithout_50 : decode cX12_isFixedWithout 50 = .ok (.if_icmp .eq 47, 3) := by decide +kernel
theorem dX12_isFixedWithout_53 : decode cX12_isFixedWithout 53 = .ok (.iload 7, 2) := by decide +kernel
theorem dX12_isFixedWithout_55 : decode cX12_isFixedWithout 55 = .ok (.iload_n 3, 1) := by decide +kernel
theorem dX12_isFixedWithout_56 : decode cX12_isFixedWithout 56 = .ok (.if_icmp .eq 41, 3) := by decide +kernel
theorem dX12_isFixedWithout_59 : decode cX12_isFixedWithout 59 = .ok (.iload 7, 2) := by decide +kernel
theorem dX12_isFixedWithout_61 : decode cX12_isFixedWithout 61 = .ok (.iload 4, 2) := by decide +kernel
theorem dX12_isFixedWithout_63 : decode cX12_isFixedWithout 63 = .ok (.if_icmp .eq 34, 3) := by decide +kernel
theorem dX12_isFixedWithout_66 : decode cX12_isFixedWithout 66 = .ok (.aload_n 0, 1) := by decide +kernel
theorem dX12_isFixedWithout_67 : decode cX12_isFixedWithout 67 = .ok (.getfield 91, 3) := by decide +kernel
theorem dX12_isFixedWithout_70 : decode cX12_isFixedWithout 70 = .ok (.iload 6, 2) := by decide +kernel
theorem dX12_isFixedWithout_72 : decode cX12_isFixedWithout 72 = .ok (.aload_n 0, 1) := by decide +kernel
theorem dX12_isFixedWithout_73 : decode cX12_isFixedWithout 73 = .ok (.getfield 91, 3) := by decide +kernel
theorem dX12_isFixedWithout_76 : decode cX12_isFixedWithout 76 = .ok (.iload 7, 2) := by decide +kernel
theorem dX12_isFixedWithout_78 : decode cX12_isFixedWithout 78 = .ok (.iaload, 1) := by decide +kernel
theorem dX12_isFixedWithout_79 : decode cX12_isFixedWithout 79 = .ok (.iastore, 1) := by decide +kernel
theorem dX12_isFixedWithout_80 : decode cX12_isFixedWithout 80 = .ok (.aload_n 0, 1) := by decide +kernel
theorem dX12_isFixedWithout_81 : decode cX12_isFixedWithout 81 = .ok (.getfield 94, 3) := by decide +kernel
theorem dX12_isFixedWithout_84 : decode cX12_isFixedWithout 84 = .ok (.iload 6, 2) := by decide +kernel
theorem dX12_isFixedWithout_86 : decode cX12_isFixedWithout 86 = .ok (.aload_n 0, 1) := by decide +kernel
theorem dX12_isFixedWithout_87 : decode cX12_isFixedWithout 87 = .ok (.getfield 94, 3) := by decide +kernel
theorem dX12_isFixedWithout_90 : decode cX12_isFixedWithout 90 = .ok (.iload 7, 2) := by decide +kernel
theorem dX12_isFixedWithout_92 : decode cX12_isFixedWithout 92 = .ok (.iaload, 1) := by decide +kernel
theorem dX12_isFixedWithout_93 : decode cX12_isFixedWithout 93 = .ok (.iastore, 1) := by decide +kernel
theorem dX12_isFixedWithout_94 : decode cX12_isFixedWithout 94 = .ok (.iinc 6 1, 3) := by decide +kernel
theorem dX12_isFixedWithout_97 : decode cX12_isFixedWithout 97 = .ok (.iinc 7 1, 3) := by decide +kernel
theorem dX12_isFixedWithout_100 : decode cX12_isFixedWithout 100 = .ok (.goto (-88), 3) := by decide +kernel
theorem dX12_isFixedWithout_103 : decode cX12_isFixedWithout 103 = .ok (.aload_n 0, 1) := by decide +kernel
theorem dX12_isFixedWithout_104 : decode cX12_isFixedWithout 104 = .ok (.iload 6, 2) := by decide +kernel
theorem dX12_isFixedWithout_106 : decode cX12_isFixedWithout 106 = .ok (.putfield 305, 3) := by decide +kernel
theorem dX12_isFixedWithout_109 : decode cX12_isFixedWithout 109 = .ok (.aload_n 0, 1) := by decide +kernel
theorem dX12_isFixedWithout_110 : decode cX12_isFixedWithout 110 = .ok (.invokevirtual 346, 3) := by decide +kernel
theorem dX12_isFixedWithout_113 : decode cX12_isFixedWithout 113 = .ok (.aload_n 0, 1) := by decide +kernel
theorem dX12_isFixedWithout_114 : decode cX12_isFixedWithout 114 = .ok (.iload_n 1, 1) := by decide +kernel
theorem dX12_isFixedWithout_115 : decode cX12_isFixedWithout 115 = .ok (.invokevirtual 330, 3) := by decide +kernel
theorem dX12_isFixedWithout_118 : decode cX12_isFixedWithout 118 = .ok (.istore 7, 2) := by decide +kernel
theorem dX12_isFixedWithout_120 : decode cX12_isFixedWithout 120 = .ok (.aload_n 0, 1) := by decide +kernel
theorem dX12_isFixedWithout_121 : decode cX12_isFixedWithout 121 = .ok (.iload 5, 2) := by decide +kernel
theorem dX12_isFixedWithout_123 : decode cX12_isFixedWithout 123 = .ok (.putfield 305, 3) := by decide +kernel
theorem dX12_isFixedWithout_126 : decode cX12_isFixedWithout 126 = .ok (.iconst 0, 1) := by decide +kernel
theorem dX12_isFixedWithout_127 : decode cX12_isFixedWithout 127 = .ok (.istore 8, 2) := by decide +kernel
theorem dX12_isFixedWithout_129 : decode cX12_isFixedWithout 129 = .ok (.iload 8, 2) := by decide +kernel
theorem dX12_isFixedWithout_131 : decode cX12_isFixedWithout 131 = .ok (.iload 5, 2) := by decide +kernel
theorem dX12_isFixedWithout_133 : decode cX12_isFixedWithout 133 = .ok (.if_icmp .ge 37, 3) := by decide +kernel
theorem dX12_isFixedWithout_136 : decode cX12_isFixedWithout 136 = .ok (.aload_n 0, 1) := by decide +kernel
theorem dX12_isFixedWithout_137 : decode cX12_isFixedWithout 137 = .ok (.getfield 91, 3) := by decide +kernel
theorem dX12_isFixedWithout_140 : decode cX12_isFixedWithout 140 = .ok (.iload 8, 2) := by decide +kernel
theorem dX12_isFixedWithout_142 : decode cX12_isFixedWithout 142 = .ok (.aload_n 0, 1) := by decide +kernel
theorem dX12_isFixedWithout_143 : decode cX12_isFixedWithout 143 = .ok (.getfield 115, 3) := by decide +kernel
theorem dX12_isFixedWithout_146 : decode cX12_isFixedWithout 146 = .ok (.iload 8, 2) := by decide +kernel
theorem dX12_isFixedWithout_148 : decode cX12_isFixedWithout 148 = .ok (.iaload, 1) := by decide +kernel
theorem dX12_isFixedWithout_149 : decode cX12_isFixedWithout 149 = .ok (.iastore, 1) := by decide +kernel
theorem dX12_isFixedWithout_150 : decode cX12_isFixedWithout 150 = .ok (.aload_n 0, 1) := by decide +kernel
theorem dX12_isFixedWithout_151 : decode cX12_isFixedWithout 151 = .ok (.getfield 94, 3) := by decide +kernel
theorem dX12_isFixedWithout_154 : decode cX12_isFixedWithout 154 = .ok (.iload 8, 2) := by decide +kernel
theorem dX12_isFixedWithout_156 : decode cX12_isFixedWithout 156 = .ok (.aload_n 0, 1) := by decide +kernel
theorem dX12_isFixedWithout_157 : decode cX12_isFixedWithout 157 = .ok (.getfield 118, 3) := by decide +kernel
theorem dX12_isFixedWithout_160 : decode cX12_isFixedWithout 160 = .ok (.iload 8, 2) := by decide +kernel
theorem dX12_isFixedWithout_162 : decode cX12_isFixedWithout 162 = .ok (.iaload, 1) := by decide +kernel
theorem dX12_isFixedWithout_163 : decode cX12_isFixedWithout 163 = .ok (.iastore, 1) := by decide +kernel
theorem dX12_isFixedWithout_164 : decode cX12_isFixedWithout 164 = .ok (.iinc 8 1, 3) := by decide +kernel
theorem dX12_isFixedWithout_167 : decode cX12_isFixedWithout 167 = .ok (.goto (-38), 3) := by decide +kernel
theorem dX12_isFixedWithout_170 : decode cX12_isFixedWithout 170 = .ok (.iload 7, 2) := by decide +kernel
theorem dX12_isFixedWithout_172 : decode cX12_isFixedWithout 172 = .ok (.ireturn, 1) := by decide +kernel
set_option maxHeartbeats 4000000 in
set_option maxRecDepth 100000 in
theorem s_X12_isFixedWithout {P : PP} {a0 : Nat} {a1 : Int32} {a2 : Int32} {a3 : Int32} {a4 : Int32} (I : IM P a0) (ha1 : 0 ≤ a1.toInt ∧ a1.toInt ≤ 19) : CtrI yX12_isFixedWithout cX12_isFixedWithout 9 (some Jvm.ClassFile.FieldType.boolean) ({ frames := 2, cells := 0, slots := 0, locals := 128 } : Room) 0 0 P [.ref a0, .int a1, .int a2, .int a3, .int a4] (fun r P2 => IM P2 a0 ∧ EM [28, 29, 30, 35, 36, 37, 38, 41, 42] a0 P P2 ∧ (0 ≤ r.toInt ∧ r.toInt ≤ 1)) := by
  refine enI (lv := [(0, .ref a0), (1, .int a1), (2, .int a2), (3, .int a3), (4, .int a4)]) (by decide) (Nat.le_of_ble_eq_true rfl) rfl (fun E D cy C Ci0 ret => ?_)
  have ha0 := I.2.1
  have J129 : ∀ (n129 : Nat) (P129 : PP) (v129_5 : Int32) (v129_7 : Int32) (v129_8 : Int32), (64 - v129_8.toInt).toNat < n129 → (IM P129 a0) → (EM [28, 29, 30, 35, 36, 37, 38, 41, 42] a0 P P129) → (0 ≤ v129_5.toInt ∧ v129_5.toInt ≤ 64) → (0 ≤ v129_7.toInt ∧ v129_7.toInt ≤ 1) → (0 ≤ v129_8.toInt ∧ v129_8.toInt ≤ 64) → G E ({ frames := 2, cells := 0, slots := 0, locals := 128 } : Room) D cy 9 P129 0 0 129 [(0, .ref a0), (5, .int v129_5), (7, .int v129_7), (8, .int v129_8)] [] := by
    intro n129
    induction n129 with
    | zero => intro P129 v129_5 v129_7 v129_8 hm129 I129 X129 hv129_5 hv129_7 hv129_8; omega
    | succ n129 ih129 =>
      intro P129 v129_5 v129_7 v129_8 hm129 I129 X129 hv129_5 hv129_7 hv129_8
      have h20324 := X129.at ha0
      refine g_iload C dX12_isFixedWithout_129 3 rfl ?_
      refine g_iload C dX12_isFixedWithout_131 1 rfl ?_
      refine b_icmp_ge C 170 dX12_isFixedWithout_133 (by decide) (fun h20325 => ?_) (fun h20325 => ?_)
      · have h20325 : v129_5.toInt ≤ v129_8.toInt := h20325
        refine g_iload C dX12_isFixedWithout_170 2 rfl ?_
        exact ret _ _ _ _ _ _ dX12_isFixedWithout_172 (nar_b (b01 (by omega))) (by decide) (by decide) ⟨I129, X129, (by omega)⟩
      · have h20325 : v129_8.toInt < v129_5.toInt := h20325
        refine g_aload_n C dX12_isFixedWithout_136 rfl 0 rfl ?_
        obtain ⟨b20326, e20327, h20328⟩ := I129.fld (h20324) 29 13 64 rfl
        refine g_getR C fi_X12_91 rfl e20327 (h20324).1 (h20324).2 dX12_isFixedWithout_137 ?_
        refine g_iload C dX12_isFixedWithout_140 3 rfl ?_
        refine g_aload_n C dX12_isFixedWithout_142 rfl 0 rfl ?_
        obtain ⟨b20329, e20330, h20331⟩ := I129.fld (h20324) 41 13 64 rfl
        refine g_getR C fi_X12_115 rfl e20330 (h20324).1 (h20324).2 dX12_isFixedWithout_143 ?_
        refine g_iload C dX12_isFixedWithout_146 3 rfl ?_
        refine g_iald (j := (v129_8.toInt.toNat)) C h20331.1 h20331.2.1 (ix_in h20331.2.2 (by omega)) dX12_isFixedWithout_148 ?_
        refine g_iast (j := (v129_8.toInt.toNat)) C h20328.1 h20328.2.1 (ix_in h20328.2.2 (by omega)) dX12_isFixedWithout_149 ?_
        refine gqW (ks := [29]) (I129.setA e20327 h20328 (by decide) (arOk.none rfl)) (EM.setA I129 e20327 rfl (by decide)) (fun Y20332 Iy20333 Xy20334 w20335 => ?_)
        have w20335 : (pI Y20332 b20326 (v129_8.toInt.toNat)).toInt = (pI P129 b20329 (v129_8.toInt.toNat)).toInt := w20335
        have Xz20336 : EM [28, 29, 30, 35, 36, 37, 38, 41, 42] a0 P Y20332 := EM.tr ha0 X129 (Xy20334.mono (by decide))
        have e20337 := Xy20334.ref h20324 (by decide) e20327
        have h20338 := Xy20334.at h20324
        have h20339 := Xy20334.ar h20328
        refine g_aload_n C dX12_isFixedWithout_150 rfl 0 rfl ?_
        obtain ⟨b20340, e20341, h20342⟩ := Iy20333.fld (h20338) 30 13 64 rfl
        refine g_getR C fi_X12_94 rfl e20341 (h20338).1 (h20338).2 dX12_isFixedWithout_151 ?_
        refine g_iload C dX12_isFixedWithout_154 3 rfl ?_
        refine g_aload_n C dX12_isFixedWithout_156 rfl 0 rfl ?_
        obtain ⟨b20343, e20344, h20345⟩ := Iy20333.fld (h20338) 42 13 64 rfl
        refine g_getR C fi_X12_118 rfl e20344 (h20338).1 (h20338).2 dX12_isFixedWithout_157 ?_
        refine g_iload C dX12_isFixedWithout_160 3 rfl ?_
        refine g_iald (j := (v129_8.toInt.toNat)) C h20345.1 h20345.2.1 (ix_in h20345.2.2 (by omega)) dX12_isFixedWithout_162 ?_
        refine g_iast (j := (v129_8.toInt.toNat)) C h20342.1 h20342.2.1 (ix_in h20342.2.2 (by omega)) dX12_isFixedWithout_163 ?_
        refine gqW (ks := [30]) (Iy20333.setA e20341 h20342 (by decide) (arOk.none rfl)) (EM.setA Iy20333 e20341 rfl (by decide)) (fun Y20346 Iy20347 Xy20348 w20349 => ?_)
        have w20349 : (pI Y20346 b20340 (v129_8.toInt.toNat)).toInt = (pI Y20332 b20343 (v129_8.toInt.toNat)).toInt := w20349
        have q20350 := Xy20348.keepA e20337 (by decide) rfl (v129_8.toInt.toNat)
        have Xz20351 : EM [28, 29, 30, 35, 36, 37, 38, 41, 42] a0 P Y20346 := EM.tr ha0 Xz20336 (Xy20348.mono (by decide))
        have e20352 := Xy20348.ref h20338 (by decide) e20337
        have e20353 := Xy20348.ref h20338 (by decide) e20341
        have h20354 := Xy20348.at h20338
        have h20355 := Xy20348.ar h20339
        have h20356 := Xy20348.ar h20342
        refine s_iinc (lv0 := [(0, .ref a0), (5, .int v129_5), (7, .int v129_7)]) (m := 1) C dX12_isFixedWithout_164 3 rfl (by decide) rfl (by decide) (by omega) (fun z20357 h20358 => ?_)
        have h20358 : z20357.toInt = v129_8.toInt + 1 := h20358
        refine g_goto C 129 dX12_isFixedWithout_167 (by decide) ?_
        refine g_lv (lv' := [(0, .ref a0), (5, .int v129_5), (7, .int v129_7), (8, .int z20357)]) [1, 2, 3, 0] rfl ?_
        exact ih129 Y20346 v129_5 v129_7 z20357 (by omega) Iy20347 Xz20351 (by omega) (by omega) (by omega)
  have J12 : ∀ (n12 : Nat) (P12 : PP) (v12_5 : Int32) (v12_6 : Int32) (v12_7 : Int32), (64 - v12_7.toInt).toNat < n12 → (IM P12 a0) → (EM [28, 29, 30, 35, 36, 37, 38, 41, 42] a0 P P12) → (0 ≤ v12_5.toInt ∧ v12_5.toInt ≤ 64) → (0 ≤ v12_6.toInt ∧ v12_6.toInt ≤ 64) → (0 ≤ v12_7.toInt ∧ v12_7.toInt ≤ 64) → (v12_6.toInt ≤ v12_7.toInt) → G E ({ frames := 2, cells := 0, slots := 0, locals := 128 } : Room) D cy 9 P12 0 0 12 [(0, .ref a0), (1, .int a1), (2, .int a2), (3, .int a3), (4, .int a4), (5, .int v12_5), (6, .int v12_6), (7, .int v12_7)] [] := by
    intro n12
    induction n12 with
    | zero => intro P12 v12_5 v12_6 v12_7 hm12 I12 X12 hv12_5 hv12_6 hv12_7 rel12_0; omega
    | succ n12 ih12 =>
      intro P12 v12_5 v12_6 v12_7 hm12 I12 X12 hv12_5 hv12_6 hv12_7 rel12_0
      have h20359 := X12.at ha0
      have J97 : ∀ (P97 : PP) (v97_6 : Int32), (IM P97 a0) → (EM [28, 29, 30, 35, 36, 37, 38, 41, 42] a0 P P97) → (1 ≤ v12_5.toInt ∧ v12_5.toInt ≤ 64) → (0 ≤ v97_6.toInt ∧ v97_6.toInt ≤ 64) → (0 ≤ v12_7.toInt ∧ v12_7.toInt ≤ 63) → (v97_6.toInt ≤ v12_7.toInt + 1) → G E ({ frames := 2, cells := 0, slots := 0, locals := 128 } : Room) D cy 9 P97 0 0 97 [(0, .ref a0), (1, .int a1), (2, .int a2), (3, .int a3), (4, .int a4), (5, .int v12_5), (6, .int v97_6), (7, .int v12_7)] [] := by
        intro P97 v97_6 I97 X97 hv97_5 hv97_6 hv97_7 rel97_0
        have h20360 := X97.at ha0
        refine s_iinc (lv0 := [(0, .ref a0), (1, .int a1), (2, .int a2), (3, .int a3), (4, .int a4), (5, .int v12_5), (6, .int v97_6)]) (m := 1) C dX12_isFixedWithout_97 7 rfl (by decide) rfl (by decide) (by omega) (fun z20361 h20362 => ?_)
        have h20362 : z20361.toInt = v12_7.toInt + 1 := h20362
        refine g_goto C 12 dX12_isFixedWithout_100 (by decide) ?_
        refine g_lv (lv' := [(0, .ref a0), (1, .int a1), (2, .int a2), (3, .int a3), (4, .int a4), (5, .int v12_5), (6, .int v97_6), (7, .int z20361)]) [1, 2, 3, 4, 5, 6, 7, 0] rfl ?_
        exact ih12 P97 v12_5 v97_6 z20361 (by omega) I97 X97 (by omega) (by omega) (by omega) (by show v97_6.toInt ≤ z20361.toInt; omega)
      refine g_iload C dX12_isFixedWithout_12 7 rfl ?_
      refine g_iload C dX12_isFixedWithout_14 5 rfl ?_
      refine b_icmp_ge C 103 dX12_isFixedWithout_16 (by decide) (fun h20363 => ?_) (fun h20363 => ?_)
      · have h20363 : v12_5.toInt ≤ v12_7.toInt := h20363
        refine g_aload_n C dX12_isFixedWithout_103 rfl 0 rfl ?_
        refine g_iload C dX12_isFixedWithout_104 6 rfl ?_
        refine g_putI C fi_X12_305 rfl (h20359).1 (h20359).2 dX12_isFixedWithout_106 ?_
        refine gqW (ks := [28]) (I12.setI (rgOk.of rfl (by omega))) (EM.setI I12 (by decide)) (fun Y20364 Iy20365 Xy20366 w20367 => ?_)
        have w20367 : (pI Y20364 a0 28).toInt = v12_6.toInt := w20367
        have Xz20368 : EM [28, 29, 30, 35, 36, 37, 38, 41, 42] a0 P Y20364 := EM.tr ha0 X12 (Xy20366.mono (by decide))
        have h20369 := Xy20366.at h20359
        refine g_aload_n C dX12_isFixedWithout_109 rfl 0 rfl ?_
        refine g_callVV (rest := []) C mv_X12_346 [] (s_X12_findSolved Iy20365) (h20369).1 (h20369).2 rfl rfl (by decide) (Nat.le_of_ble_eq_true rfl) (by decide) dX12_isFixedWithout_110 (fun Y20371 h20372 => ?_)
        obtain ⟨Iy20373, Xy20374⟩ := h20372
        have q20375 := Xy20374.keepF 28 (by decide)
        have Xz20376 : EM [28, 29, 30, 35, 36, 37, 38, 41, 42] a0 P Y20371 := EM.tr ha0 Xz20368 (Xy20374.mono (by decide))
        have h20377 := Xy20374.at h20369
        refine g_aload_n C dX12_isFixedWithout_113 rfl 0 rfl ?_
        refine g_iload_n C dX12_isFixedWithout_114 rfl 1 rfl ?_
        refine g_callVI (rest := []) C mv_X12_330 [.int a1] (s_X12_isFixed Iy20373 (by omega)) (h20377).1 (h20377).2 rfl rfl (by decide) (Nat.le_of_ble_eq_true rfl) (by decide) dX12_isFixedWithout_115 (fun r20378 Y20379 h20380 => ?_)
        obtain ⟨rfl, h20380⟩ := h20380
        have h20380 : 0 ≤ r20378.toInt ∧ r20378.toInt ≤ 1 := h20380
        refine g_istore (lv' := [(7, .int r20378), (0, .ref a0), (1, .int a1), (2, .int a2), (3, .int a3), (4, .int a4), (5, .int v12_5), (6, .int v12_6)]) C dX12_isFixedWithout_118 (by decide) rfl ?_
        refine g_aload_n C dX12_isFixedWithout_120 rfl 1 rfl ?_
        refine g_iload C dX12_isFixedWithout_121 6 rfl ?_
        refine g_putI C fi_X12_305 rfl (h20377).1 (h20377).2 dX12_isFixedWithout_123 ?_
        refine gqW (ks := [28]) (Iy20373.setI (rgOk.of rfl (by omega))) (EM.setI Iy20373 (by decide)) (fun Y20381 Iy20382 Xy20383 w20384 => ?_)
        have w20384 : (pI Y20381 a0 28).toInt = v12_5.toInt := w20384
        have Xz20385 : EM [28, 29, 30, 35, 36, 37, 38, 41, 42] a0 P Y20381 := EM.tr ha0 Xz20376 (Xy20383.mono (by decide))
        have h20386 := Xy20383.at h20377
        refine g_iconst (v := 0) C dX12_isFixedWithout_126 (by decide) ?_
        refine g_istore (lv' := [(8, .int 0), (7, .int r20378), (0, .ref a0), (1, .int a1), (2, .int a2), (3, .int a3), (4, .int a4), (5, .int v12_5), (6, .int v12_6)]) C dX12_isFixedWithout_127 (by decide) rfl ?_
        refine g_lv (lv' := [(0, .ref a0), (5, .int v12_5), (7, .int r20378), (8, .int 0)]) [2, 7, 1, 0] rfl ?_
        exact J129 _ Y20381 v12_5 r20378 0 (Nat.lt_succ_self _) Iy20382 Xz20385 (by omega) (by omega) (by decide)
      · have h20363 : v12_7.toInt < v12_5.toInt := h20363
        refine g_aload_n C dX12_isFixedWithout_19 rfl 0 rfl ?_
        obtain ⟨b20387, e20388, h20389⟩ := I12.fld (h20359) 41 13 64 rfl
        refine g_getR C fi_X12_115 rfl e20388 (h20359).1 (h20359).2 dX12_isFixedWithout_20 ?_
        refine g_iload C dX12_isFixedWithout_23 7 rfl ?_
        refine g_aload_n C dX12_isFixedWithout_25 rfl 0 rfl ?_
        obtain ⟨b20390, e20391, h20392⟩ := I12.fld (h20359) 29 13 64 rfl
        refine g_getR C fi_X12_91 rfl e20391 (h20359).1 (h20359).2 dX12_isFixedWithout_26 ?_
        refine g_iload C dX12_isFixedWithout_29 7 rfl ?_
        refine g_iald (j := (v12_7.toInt.toNat)) C h20392.1 h20392.2.1 (ix_in h20392.2.2 (by omega)) dX12_isFixedWithout_31 ?_
        refine g_iast (j := (v12_7.toInt.toNat)) C h20389.1 h20389.2.1 (ix_in h20389.2.2 (by omega)) dX12_isFixedWithout_32 ?_
        refine gqW (ks := [41]) (I12.setA e20388 h20389 (by decide) (arOk.none rfl)) (EM.setA I12 e20388 rfl (by decide)) (fun Y20393 Iy20394 Xy20395 w20396 => ?_)
        have w20396 : (pI Y20393 b20387 (v12_7.toInt.toNat)).toInt = (pI P12 b20390 (v12_7.toInt.toNat)).toInt := w20396
        have Xz20397 : EM [28, 29, 30, 35, 36, 37, 38, 41, 42] a0 P Y20393 := EM.tr ha0 X12 (Xy20395.mono (by decide))
        have e20398 := Xy20395.ref h20359 (by decide) e20388
        have h20399 := Xy20395.at h20359
        have h20400 := Xy20395.ar h20389
        refine g_aload_n C dX12_isFixedWithout_33 rfl 0 rfl ?_
        obtain ⟨b20401, e20402, h20403⟩ := Iy20394.fld (h20399) 42 13 64 rfl
        refine g_getR C fi_X12_118 rfl e20402 (h20399).1 (h20399).2 dX12_isFixedWithout_34 ?_
        refine g_iload C dX12_isFixedWithout_37 7 rfl ?_
        refine g_aload_n C dX12_isFixedWithout_39 rfl 0 rfl ?_
        obtain ⟨b20404, e20405, h20406⟩ := Iy20394.fld (h20399) 30 13 64 rfl
        refine g_getR C fi_X12_94 rfl e20405 (h20399).1 (h20399).2 dX12_isFixedWithout_40 ?_
        refine g_iload C dX12_isFixedWithout_43 7 rfl ?_
        refine g_iald (j := (v12_7.toInt.toNat)) C h20406.1 h20406.2.1 (ix_in h20406.2.2 (by omega)) dX12_isFixedWithout_45 ?_
        refine g_iast (j := (v12_7.toInt.toNat)) C h20403.1 h20403.2.1 (ix_in h20403.2.2 (by omega)) dX12_isFixedWithout_46 ?_
        refine gqW (ks := [42]) (Iy20394.setA e20402 h20403 (by decide) (arOk.none rfl)) (EM.setA Iy20394 e20402 rfl (by decide)) (fun Y20407 Iy20408 Xy20409 w20410 => ?_)
        have w20410 : (pI Y20407 b20401 (v12_7.toInt.toNat)).toInt = (pI Y20393 b20404 (v12_7.toInt.toNat)).toInt := w20410
        have q20411 := Xy20409.keepA e20398 (by decide) rfl (v12_7.toInt.toNat)
        have Xz20412 : EM [28, 29, 30, 35, 36, 37, 38, 41, 42] a0 P Y20407 := EM.tr ha0 Xz20397 (Xy20409.mono (by decide))
        have e20413 := Xy20409.ref h20399 (by decide) e20398
        have e20414 := Xy20409.ref h20399 (by decide) e20402
        have h20415 := Xy20409.at h20399
        have h20416 := Xy20409.ar h20400
        have h20417 := Xy20409.ar h20403
        refine g_iload C dX12_isFixedWithout_47 7 rfl ?_
        refine g_iload_n C dX12_isFixedWithout_49 rfl 2 rfl ?_
        have u20419 := ti_rng a2
        refine b_icmp_eq C 97 dX12_isFixedWithout_50 (by decide) (fun h20418 => ?_) (fun h20418 => ?_)
        · have h20418 : v12_7.toInt = a2.toInt := congrArg Int32.toInt h20418
          exact J97 Y20407 v12_6 Iy20408 Xz20412 (by omega) (by omega) (by omega) (by show v12_6.toInt ≤ v12_7.toInt + 1; omega)
        · have h20418 : v12_7.toInt ≠ a2.toInt := ti_ne h20418
          refine g_iload C dX12_isFixedWithout_53 7 rfl ?_
          refine g_iload_n C dX12_isFixedWithout_55 rfl 3 rfl ?_
          have u20421 := ti_rng a3
          refine b_icmp_eq C 97 dX12_isFixedWithout_56 (by decide) (fun h20420 => ?_) (fun h20420 => ?_)
          · have h20420 : v12_7.toInt = a3.toInt := congrArg Int32.toInt h20420
            exact J97 Y20407 v12_6 Iy20408 Xz20412 (by omega) (by omega) (by omega) (by show v12_6.toInt ≤ v12_7.toInt + 1; omega)
          · have h20420 : v12_7.toInt ≠ a3.toInt := ti_ne h20420
            refine g_iload C dX12_isFixedWithout_59 7 rfl ?_
            refine g_iload C dX12_isFixedWithout_61 4 rfl ?_
            have u20423 := ti_rng a4
            refine b_icmp_eq C 97 dX12_isFixedWithout_63 (by decide) (fun h20422 => ?_) (fun h20422 => ?_)
            · have h20422 : v12_7.toInt = a4.toInt := congrArg Int32.toInt h20422
              exact J97 Y20407 v12_6 Iy20408 Xz20412 (by omega) (by omega) (by omega) (by show v12_6.toInt ≤ v12_7.toInt + 1; omega)
            · have h20422 : v12_7.toInt ≠ a4.toInt := ti_ne h20422
              refine g_aload_n C dX12_isFixedWithout_66 rfl 0 rfl ?_
              obtain ⟨b20424, e20425, h20426⟩ := Iy20408.fld (h20415) 29 13 64 rfl
              refine g_getR C fi_X12_91 rfl e20425 (h20415).1 (h20415).2 dX12_isFixedWithout_67 ?_
              refine g_iload C dX12_isFixedWithout_70 6 rfl ?_
              refine g_aload_n C dX12_isFixedWithout_72 rfl 0 rfl ?_
              refine g_getR C fi_X12_91 rfl e20425 (h20415).1 (h20415).2 dX12_isFixedWithout_73 ?_
              refine g_iload C dX12_isFixedWithout_76 7 rfl ?_
              refine g_iald (j := (v12_7.toInt.toNat)) C h20426.1 h20426.2.1 (ix_in h20426.2.2 (by omega)) dX12_isFixedWithout_78 ?_
              refine g_iast (j := (v12_6.toInt.toNat)) C h20426.1 h20426.2.1 (ix_in h20426.2.2 (by omega)) dX12_isFixedWithout_79 ?_
              refine gqW (ks := [29]) (Iy20408.setA e20425 h20426 (by decide) (arOk.none rfl)) (EM.setA Iy20408 e20425 rfl (by decide)) (fun Y20427 Iy20428 Xy20429 w20430 => ?_)
              have w20430 : (pI Y20427 b20424 (v12_6.toInt.toNat)).toInt = (pI Y20407 b20424 (v12_7.toInt.toNat)).toInt := w20430
              have q20431 := Xy20429.keepA e20413 (by decide) rfl (v12_7.toInt.toNat)
              have q20432 := Xy20429.keepA e20414 (by decide) rfl (v12_7.toInt.toNat)
              have Xz20433 : EM [28, 29, 30, 35, 36, 37, 38, 41, 42] a0 P Y20427 := EM.tr ha0 Xz20412 (Xy20429.mono (by decide))
              have e20434 := Xy20429.ref h20415 (by decide) e20413
              have e20435 := Xy20429.ref h20415 (by decide) e20414
              have e20436 := Xy20429.ref h20415 (by decide) e20425
              have h20437 := Xy20429.at h20415
              have h20438 := Xy20429.ar h20416
              have h20439 := Xy20429.ar h20417
              have h20440 := Xy20429.ar h20426
              refine g_aload_n C dX12_isFixedWithout_80 rfl 0 rfl ?_
              obtain ⟨b20441, e20442, h20443⟩ := Iy20428.fld (h20437) 30 13 64 rfl
              refine g_getR C fi_X12_94 rfl e20442 (h20437).1 (h20437).2 dX12_isFixedWithout_81 ?_
              refine g_iload C dX12_isFixedWithout_84 6 rfl ?_
              refine g_aload_n C dX12_isFixedWithout_86 rfl 0 rfl ?_
              refine g_getR C fi_X12_94 rfl e20442 (h20437).1 (h20437).2 dX12_isFixedWithout_87 ?_
              refine g_iload C dX12_isFixedWithout_90 7 rfl ?_
              refine g_iald (j := (v12_7.toInt.toNat)) C h20443.1 h20443.2.1 (ix_in h20443.2.2 (by omega)) dX12_isFixedWithout_92 ?_
              refine g_iast (j := (v12_6.toInt.toNat)) C h20443.1 h20443.2.1 (ix_in h20443.2.2 (by omega)) dX12_isFixedWithout_93 ?_
              refine gqW (ks := [30]) (Iy20428.setA e20442 h20443 (by decide) (arOk.none rfl)) (EM.setA Iy20428 e20442 rfl (by decide)) (fun Y20444 Iy20445 Xy20446 w20447 => ?_)
              have w20447 : (pI Y20444 b20441 (v12_6.toInt.toNat)).toInt = (pI Y20427 b20441 (v12_7.toInt.toNat)).toInt := w20447
              have q20448 := Xy20446.keepA e20434 (by decide) rfl (v12_7.toInt.toNat)
              have q20449 := Xy20446.keepA e20435 (by decide) rfl (v12_7.toInt.toNat)
              have q20450 := Xy20446.keepA e20436 (by decide) rfl (v12_6.toInt.toNat)
              have Xz20451 : EM [28, 29, 30, 35, 36, 37, 38, 41, 42] a0 P Y20444 := EM.tr ha0 Xz20433 (Xy20446.mono (by decide))
              have e20452 := Xy20446.ref h20437 (by decide) e20434
              have e20453 := Xy20446.ref h20437 (by decide) e20435
              have e20454 := Xy20446.ref h20437 (by decide) e20436
              have e20455 := Xy20446.ref h20437 (by decide) e20442
              have h20456 := Xy20446.at h20437
              have h20457 := Xy20446.ar h20438
              have h20458 := Xy20446.ar h20439
              have h20459 := Xy20446.ar h20440
              have h20460 := Xy20446.ar h20443
              refine s_iinc (lv0 := [(0, .ref a0), (1, .int a1), (2, .int a2), (3, .int a3), (4, .int a4), (5, .int v12_5), (7, .int v12_7)]) (m := 1) C dX12_isFixedWithout_94 6 rfl (by decide) rfl (by decide) (by omega) (fun z20461 h20462 => ?_)
              have h20462 : z20461.toInt = v12_6.toInt + 1 := h20462
              refine g_lv (lv' := [(0, .ref a0), (1, .int a1), (2, .int a2), (3, .int a3), (4, .int a4), (5, .int v12_5), (6, .int z20461), (7, .int v12_7)]) [1, 2, 3, 4, 5, 6, 0, 7] rfl ?_
              exact J97 Y20444 z20461 Iy20445 Xz20451 (by omega) (by omega) (by omega) (by show z20461.toInt ≤ v12_7.toInt + 1; omega)
  refine g_aload_n C dX12_isFixedWithout_0 rfl 0 rfl ?_
  refine g_getI C fi_X12_305 (by decide) (ha0).1 (ha0).2 dX12_isFixedWithout_1 ?_
  have h20463 := I.rg (ha0) 28 rfl
  refine g_topi (fun z20464 h20465 => ?_)
  have h20465 : z20464.toInt = (pI P a0 28).toInt := congrArg Int32.toInt h20465
  refine g_istore (lv' := [(5, .int z20464), (0, .ref a0), (1, .int a1), (2, .int a2), (3, .int a3), (4, .int a4)]) C dX12_isFixedWithout_4 (by decide) rfl ?_
  refine g_iconst (v := 0) C dX12_isFixedWithout_6 (by decide) ?_
  refine g_istore (lv' := [(6, .int 0), (5, .int z20464), (0, .ref a0), (1, .int a1), (2, .int a2), (3, .int a3), (4, .int a4)]) C dX12_isFixedWithout_7 (by decide) rfl ?_
  refine g_iconst (v := 0) C dX12_isFixedWithout_9 (by decide) ?_
  refine g_istore (lv' := [(7, .int 0), (6, .int 0), (5, .int z20464), (0, .ref a0), (1, .int a1), (2, .int a2), (3, .int a3), (4, .int a4)]) C dX12_isFixedWithout_10 (by decide) rfl ?_
  refine g_lv (lv' := [(0, .ref a0), (1, .int a1), (2, .int a2), (3, .int a3), (4, .int a4), (5, .int z20464), (6, .int 0), (7, .int 0)]) [3, 4, 5, 6, 7, 2, 1, 0] rfl ?_
  exact J12 _ P z20464 0 0 (Nat.lt_succ_self _) I EM.rf (by omega) (by decide) (by decide) (by show 0 ≤ 0; omega)
theorem dX12_isSign_0 : decode cX12_isSign 0 = .ok (.aload_n 0, 1) := by decide +kernel
theorem dX12_isSign_1 : decode cX12_isSign 1 = .ok (.getfield 162, 3) := by decide +kernel
theorem dX12_isSign_4 : decode cX12_isSign 4 = .ok (.ifCond .ne 35, 3) := by decide +kernel
theorem dX12_isSign_7 : decode cX12_isSign 7 = .ok (.aload_n 0, 1) := by decide +kernel
theorem dX12_isSign_8 : decode cX12_isSign 8 = .ok (.getfield 24, 3) := by decide +kernel
theorem dX12_isSign_11 : decode cX12_isSign 11 = .ok (.aload_n 0, 1) := by decide +kernel
theorem dX12_isSign_12 : decode cX12_isSign 12 = .ok (.getfield 159, 3) := by decide +kernel
theorem dX12_isSign_15 : decode cX12_isSign 15 = .ok (.iaload, 1) := by decide +kernel
theorem dX12_isSign_16 : decode cX12_isSign 16 = .ok (.iconst 3, 1) := by decide +kernel
theorem dX12_isSign_17 : decode cX12_isSign 17 = .ok (.if_icmp .ne 22, 3) := by decide +kernel
theorem dX12_isSign_20 : decode cX12_isSign 20 = .ok (.aload_n 0, 1) := by decide +kernel
theorem dX12_isSign_21 : decode cX12_isSign 21 = .ok (.getfield 30, 3) := by decide +kernel
theorem dX12_isSign_24 : decode cX12_isSign 24 = .ok (.aload_n 0, 1) := by decide +kernel
theorem dX12_isSign_25 : decode cX12_isSign 25 = .ok (.getfield 159, 3) := by decide +kernel
theorem dX12_isSign_28 : decode cX12_isSign 28 = .ok (.laload, 1) := by decide +kernel
theorem dX12_isSign_29 : decode cX12_isSign 29 = .ok (.iload_n 1, 1) := by decide +kernel
theorem dX12_isSign_30 : decode cX12_isSign 30 = .ok (.i2l, 1) := by decide +kernel
theorem dX12_isSign_31 : decode cX12_isSign 31 = .ok (.lcmp, 1) := by decide +kernel
theorem dX12_isSign_32 : decode cX12_isSign 32 = .ok (.ifCond .ne 7, 3) := by decide +kernel
theorem dX12_isSign_35 : decode cX12_isSign 35 = .ok (.iconst 1, 1) := by decide +kernel
theorem dX12_isSign_36 : decode cX12_isSign 36 = .ok (.goto 4, 3) := by decide +kernel
theorem dX12_isSign_39 : decode cX12_isSign 39 = .ok (.iconst 0, 1) := by decide +kernel
theorem dX12_isSign_40 : decode cX12_isSign 40 = .ok (.ireturn, 1) := by decide +kernel
set_option maxHeartbeats 4000000 in
set_option maxRecDepth 100000 in
theorem s_X12_isSign {P : PP} {a0 : Nat} {a1 : Int32} (I : IM P a0) : CtrI yX12_isSign cX12_isSign 2 (some Jvm.ClassFile.FieldType.boolean) ({ frames := 1, cells := 0, slots := 0, locals := 64 } : Room) 0 0 P [.ref a0, .int a1] (fun r P2 => P = P2 ∧ (0 ≤ r.toInt ∧ r.toInt ≤ 1)) := by
  refine enI (lv := [(0, .ref a0), (1, .int a1)]) (by decide) (Nat.le_of_ble_eq_true rfl) rfl (fun E D cy C Ci0 ret => ?_)
  have ha0 := I.2.1
  have J39 : (0 ≤ (pI P a0 8).toInt ∧ (pI P a0 8).toInt ≤ 16005) → G E ({ frames := 1, cells := 0, slots := 0, locals := 64 } : Room) D cy 2 P 0 0 39 [] [] := by
    intro hq39_0
    refine g_iconst (v := 0) C dX12_isSign_39 (by decide) ?_
    exact ret _ _ _ _ _ _ dX12_isSign_40 rfl (by decide) (by decide) ⟨rfl, (by decide)⟩
  refine g_aload_n C dX12_isSign_0 rfl 0 rfl ?_
  refine g_getI C fi_X12_162 (by decide) (ha0).1 (ha0).2 dX12_isSign_1 ?_
  have h20482 := I.rg (ha0) 8 rfl
  refine b_if_ne C 39 dX12_isSign_4 (by decide) (fun h20483 => ?_) (fun h20483 => ?_)
  · have h20483 : (pI P a0 8).toInt ≠ 0 := ti_ne h20483
    refine g_lv (lv' := []) [] rfl ?_
    exact J39 (by omega)
  · have h20483 : (pI P a0 8).toInt = 0 := congrArg Int32.toInt h20483
    refine g_aload_n C dX12_isSign_7 rfl 0 rfl ?_
    obtain ⟨b20484, e20485, h20486⟩ := I.fld (ha0) 4 13 1002 rfl
    refine g_getR C fi_X12_24 rfl e20485 (ha0).1 (ha0).2 dX12_isSign_8 ?_
    refine g_aload_n C dX12_isSign_11 rfl 0 rfl ?_
    refine g_getI C fi_X12_159 (by decide) (ha0).1 (ha0).2 dX12_isSign_12 ?_
    have h20487 := I.rg (ha0) 7 rfl
    refine g_iald (j := ((pI P a0 7).toInt.toNat)) C h20486.1 h20486.2.1 (ix_in h20486.2.2 (by omega)) dX12_isSign_15 ?_
    have h20488 := I.arr e20485 rfl ((pI P a0 7).toInt.toNat)
    refine g_iconst (v := 3) C dX12_isSign_16 (by decide) ?_
    refine b_icmp_ne C 39 dX12_isSign_17 (by decide) (fun h20489 => ?_) (fun h20489 => ?_)
    · have h20489 : (pI P b20484 ((pI P a0 7).toInt.toNat)).toInt ≠ 3 := ti_ne h20489
      refine g_lv (lv' := []) [] rfl ?_
      exact J39 (by omega)
    · have h20489 : (pI P b20484 ((pI P a0 7).toInt.toNat)).toInt = 3 := congrArg Int32.toInt h20489
      refine g_aload_n C dX12_isSign_20 rfl 0 rfl ?_
      obtain ⟨b20490, e20491, h20492⟩ := I.fld (ha0) 6 14 1002 rfl
      refine g_getR C fi_X12_30 rfl e20491 (ha0).1 (ha0).2 dX12_isSign_21 ?_
      refine g_aload_n C dX12_isSign_24 rfl 0 rfl ?_
      refine g_getI C fi_X12_159 (by decide) (ha0).1 (ha0).2 dX12_isSign_25 ?_
      refine g_lald (j := ((pI P a0 7).toInt.toNat)) C h20492.1 h20492.2.1 (ix_in h20492.2.2 (by omega)) dX12_isSign_28 ?_
      refine g_topl (fun l20493 _ => ?_)
      refine g_iload_n C dX12_isSign_29 rfl 1 rfl ?_
      refine a_i2l C dX12_isSign_30 (fun l20494 => ?_)
      refine a_lcmp C dX12_isSign_31 (fun z20495 => ?_)
      have u20497 := ti_rng z20495
      refine b_if_ne C 39 dX12_isSign_32 (by decide) (fun h20496 => ?_) (fun h20496 => ?_)
      · have h20496 : z20495.toInt ≠ 0 := ti_ne h20496
        refine g_lv (lv' := []) [] rfl ?_
        exact J39 (by omega)
      · have h20496 : z20495.toInt = 0 := congrArg Int32.toInt h20496
        refine g_iconst (v := 1) C dX12_isSign_35 (by decide) ?_
        refine g_goto C 40 dX12_isSign_36 (by decide) ?_
        exact ret _ _ _ _ _ _ dX12_isSign_40 rfl (by decide) (by decide) ⟨rfl, (by decide)⟩
