theorem dX12_givesAll_0 : decode cX12_givesAll 0 = .ok (.iload_n 2, 1) := by decide +kernel
theorem dX12_givesAll_1 : decode cX12_givesAll 1 = .ok (.iconst (-1), 1) := by decide +kernel
theorem dX12_givesAll_2 : decode cX12_givesAll 2 = .ok (.ixor, 1) := by decide +kernel
theorem dX12_givesAll_3 : decode cX12_givesAll 3 = .ok (.iconst 1, 1) := by decide +kernel
theorem dX12_givesAll_4 : decode cX12_givesAll 4 = .ok (.aload_n 0, 1) := by decide +kernel
theorem dX12_givesAll_5 : decode cX12_givesAll 5 = .ok (.getfield 45, 3) := by decide +kernel
theorem dX12_givesAll_8 : decode cX12_givesAll 8 = .ok (.iload_n 1, 1) := by decide +kernel
theorem dX12_givesAll_9 : decode cX12_givesAll 9 = .ok (.iaload, 1) := by decide +kernel
theorem dX12_givesAll_10 : decode cX12_givesAll 10 = .ok (.ishl, 1) := by decide +kernel
theorem dX12_givesAll_11 : decode cX12_givesAll 11 = .ok (.iconst 1, 1) := by decide +kernel
theorem dX12_givesAll_12 : decode cX12_givesAll 12 = .ok (.isub, 1) := by decide +kernel
theorem dX12_givesAll_13 : decode cX12_givesAll 13 = .ok (.iand, 1) := by decide +kernel
theorem dX12_givesAll_14 : decode cX12_givesAll 14 = .ok (.ifCond .ne 7, 3) := by decide +kernel
theorem dX12_givesAll_17 : decode cX12_givesAll 17 = .ok (.iconst 1, 1) := by decide +kernel
theorem dX12_givesAll_18 : decode cX12_givesAll 18 = .ok (.goto 4, 3) := by decide +kernel
theorem dX12_givesAll_21 : decode cX12_givesAll 21 = .ok (.iconst 0, 1) := by decide +kernel
theorem dX12_givesAll_22 : decode cX12_givesAll 22 = .ok (.ireturn, 1) := by decide +kernel
set_option maxHeartbeats 4000000 in
set_option maxRecDepth 100000 in
theorem s_X12_givesAll {P : PP} {a0 : Nat} {a1 : Int32} {a2 : Int32} (I : IM P a0) (ha1 : 0 ≤ a1.toInt ∧ a1.toInt ≤ 1) : CtrI yX12_givesAll cX12_givesAll 3 (some Jvm.ClassFile.FieldType.boolean) ({ frames := 1, cells := 0, slots := 0, locals := 64 } : Room) 0 0 P [.ref a0, .int a1, .int a2] (fun r P2 => P = P2 ∧ (0 ≤ r.toInt ∧ r.toInt ≤ 1)) := by
  refine enI (lv := [(0, .ref a0), (1, .int a1), (2, .int a2)]) (by decide) (Nat.le_of_ble_eq_true rfl) rfl (fun E D cy C Ci0 ret => ?_)
  have ha0 := I.2.1
  refine g_iload_n C dX12_givesAll_0 rfl 2 rfl ?_
  refine g_iconst (v := (-1)) C dX12_givesAll_1 (by decide) ?_
  refine a_ixor C dX12_givesAll_2 (fun z17859 => ?_)
  refine g_iconst (v := 1) C dX12_givesAll_3 (by decide) ?_
  refine g_aload_n C dX12_givesAll_4 rfl 0 rfl ?_
  obtain ⟨b17861, e17862, h17863⟩ := I.fld (ha0) 10 13 2 rfl
  refine g_getR C fi_X12_45 rfl e17862 (ha0).1 (ha0).2 dX12_givesAll_5 ?_
  refine g_iload_n C dX12_givesAll_8 rfl 1 rfl ?_
  refine g_iald (j := (a1.toInt.toNat)) C h17863.1 h17863.2.1 (ix_in h17863.2.2 (by omega)) dX12_givesAll_9 ?_
  have h17864 := I.arr e17862 rfl (a1.toInt.toNat)
  refine a_ishl C dX12_givesAll_10 (fun z17865 => ?_)
  refine g_iconst (v := 1) C dX12_givesAll_11 (by decide) ?_
  refine a_isub C dX12_givesAll_12 (fun z17867 => ?_)
  refine a_iand C dX12_givesAll_13 (fun z17869 => ?_)
  have u17872 := ti_rng z17869
  refine b_if_ne C 21 dX12_givesAll_14 (by decide) (fun h17871 => ?_) (fun h17871 => ?_)
  · have h17871 : z17869.toInt ≠ 0 := ti_ne h17871
    refine g_iconst (v := 0) C dX12_givesAll_21 (by decide) ?_
    exact ret _ _ _ _ _ _ dX12_givesAll_22 rfl (by decide) (by decide) ⟨rfl, (by decide)⟩
  · have h17871 : z17869.toInt = 0 := congrArg Int32.toInt h17871
    refine g_iconst (v := 1) C dX12_givesAll_17 (by decide) ?_
    refine g_goto C 22 dX12_givesAll_18 (by decide) ?_
    exact ret _ _ _ _ _ _ dX12_givesAll_22 rfl (by decide) (by decide) ⟨rfl, (by decide)⟩
theorem dX12_guard_0 : decode cX12_guard 0 = .ok (.aload_n 0, 1) := by decide +kernel
theorem dX12_guard_1 : decode cX12_guard 1 = .ok (.iconst 0, 1) := by decide +kernel
theorem dX12_guard_2 : decode cX12_guard 2 = .ok (.putfield 1, 3) := by decide +kernel
theorem dX12_guard_5 : decode cX12_guard 5 = .ok (.aload_n 0, 1) := by decide +kernel
theorem dX12_guard_6 : decode cX12_guard 6 = .ok (.iload_n 1, 1) := by decide +kernel
theorem dX12_guard_7 : decode cX12_guard 7 = .ok (.iload_n 2, 1) := by decide +kernel
theorem dX12_guard_8 : decode cX12_guard 8 = .ok (.iload_n 3, 1) := by decide +kernel
theorem dX12_guard_9 : decode cX12_guard 9 = .ok (.invokevirtual 333, 3) := by decide +kernel
theorem dX12_guard_12 : decode cX12_guard 12 = .ok (.ifCond .eq 13, 3) := by decide +kernel
theorem dX12_guard_15 : decode cX12_guard 15 = .ok (.aload_n 0, 1) := by decide +kernel
theorem dX12_guard_16 : decode cX12_guard 16 = .ok (.iload_n 2, 1) := by decide +kernel
theorem dX12_guard_17 : decode cX12_guard 17 = .ok (.iload 4, 2) := by decide +kernel
theorem dX12_guard_19 : decode cX12_guard 19 = .ok (.invokevirtual 352, 3) := by decide +kernel
theorem dX12_isPage_0 : decode cX12_isPage 0 = .ok (.iload_n 2, 1) := by decide +kernel
theorem dX12_isPage_1 : decode cX12_isPage 1 = .ok (.iconst 0, 1) := by decide +kernel
theorem dX12_isPage_2 : decode cX12_isPage 2 = .ok (.aload_n 0, 1) := by decide +kernel
theorem dX12_isPage_3 : decode cX12_isPage 3 = .ok (.iload_n 1, 1) := by decide +kernel
theorem dX12_isPage_4 : decode cX12_isPage 4 = .ok (.invokevirtual 238, 3) := by decide +kernel
theorem dX12_isPage_7 : decode cX12_isPage 7 = .ok (.iconst 1, 1) := by decide +kernel
theorem dX12_isPage_8 : decode cX12_isPage 8 = .ok (.isub, 1) := by decide +kernel
theorem dX12_isPage_9 : decode cX12_isPage 9 = .ok (.invokestatic 178, 3) := by decide +kernel
theorem dX12_isPage_12 : decode cX12_isPage 12 = .ok (.ireturn, 1) := by decide +kernel
set_option maxHeartbeats 4000000 in
set_option maxRecDepth 100000 in
theorem s_X12_isPage {P : PP} {a0 : Nat} {a1 : Int32} {a2 : Int32} (I : IM P a0) (ha1 : 0 ≤ a1.toInt ∧ a1.toInt ≤ 1) : CtrI yX12_isPage cX12_isPage 3 (some Jvm.ClassFile.FieldType.boolean) ({ frames := 2, cells := 0, slots := 0, locals := 128 } : Room) 0 0 P [.ref a0, .int a1, .int a2] (fun r P2 => P = P2 ∧ (0 ≤ r.toInt ∧ r.toInt ≤ 1) ∧ (r.toInt = 0 ∨ (((0 : Int) ≤ a2.toInt ∧ a2.toInt ≤ (19 : Int))))) := by
  refine enI (lv := [(0, .ref a0), (1, .int a1), (2, .int a2)]) (by decide) (Nat.le_of_ble_eq_true rfl) rfl (fun E D cy C Ci0 ret => ?_)
  have ha0 := I.2.1
  refine g_iload_n C dX12_isPage_0 rfl 2 rfl ?_
  refine g_iconst (v := 0) C dX12_isPage_1 (by decide) ?_
  refine g_aload_n C dX12_isPage_2 rfl 0 rfl ?_
  refine g_iload_n C dX12_isPage_3 rfl 1 rfl ?_
  refine g_callVI (rest := [.int 0, .int a2]) C mv_X12_238 [.int a1] (s_X12_allOf I (by omega)) (ha0).1 (ha0).2 rfl rfl (by decide) (Nat.le_of_ble_eq_true rfl) (by decide) dX12_isPage_4 (fun r17902 Y17903 h17904 => ?_)
  obtain ⟨rfl, h17904⟩ := h17904
  obtain ⟨h17904, hi17905⟩ := h17904
  obtain ⟨b17906, e17907, h17908⟩ := I.fld (ha0) 10 13 2 rfl
  obtain ⟨b17909, e17910, h17911⟩ := I.fld (ha0) 15 13 3 rfl
  have hi17905 : r17902.toInt = 0 ∨ r17902.toInt = (pI P b17906 (a1.toInt.toNat)).toInt + (pI P b17909 (a1.toInt.toNat)).toInt := hi17905.imp id (fun z9 => z9 b17906 b17909 e17907 e17910)
  have h17912 := I.arr e17907 rfl (a1.toInt.toNat)
  have h17913 := I.arr e17910 rfl (a1.toInt.toNat)
  have h17904 : 0 ≤ r17902.toInt ∧ r17902.toInt ≤ 20 := h17904
  refine g_iconst (v := 1) C dX12_isPage_7 (by decide) ?_
  refine s_isub C dX12_isPage_8 (by show -2147483648 ≤ r17902.toInt - 1 ∧ r17902.toInt - 1 ≤ 2147483647; omega) (fun z17914 h17915 => ?_)
  have h17915 : z17914.toInt = r17902.toInt - 1 := h17915
  refine g_callSI (b := 0) (ci := 0) (rest := []) C ms_X12_178 [.int a2, .int 0, .int z17914] (s_X12_within I.1) rfl rfl (by decide) (Nat.le_of_ble_eq_true rfl) (by decide) dX12_isPage_9 (fun r17916 Y17917 h17918 => ?_)
  obtain ⟨rfl, h17918⟩ := h17918
  obtain ⟨h17918, hi17919⟩ := h17918
  have hi17919 : r17916.toInt = 0 ∨ (0 ≤ a2.toInt ∧ a2.toInt ≤ z17914.toInt) := hi17919
  have h17918 : 0 ≤ r17916.toInt ∧ r17916.toInt ≤ 1 := h17918
  exact ret _ _ _ _ _ _ dX12_isPage_12 (nar_b (b01 (by omega))) (by decide) (by decide) ⟨rfl, (by omega), hi17919.imp id (fun h9 => by omega)⟩
theorem dX12_guard_22 : decode cX12_guard 22 = .ok (.ifCond .ne 5, 3) := by decide +kernel
theorem dX12_guard_27 : decode cX12_guard 27 = .ok (.aload_n 0, 1) := by decide +kernel
theorem dX12_guard_28 : decode cX12_guard 28 = .ok (.invokevirtual 336, 3) := by decide +kernel
theorem dX12_guard_31 : decode cX12_guard 31 = .ok (.aload_n 0, 1) := by decide +kernel
theorem dX12_guard_32 : decode cX12_guard 32 = .ok (.iload_n 1, 1) := by decide +kernel
theorem dX12_guard_33 : decode cX12_guard 33 = .ok (.iload_n 2, 1) := by decide +kernel
theorem dX12_guard_34 : decode cX12_guard 34 = .ok (.iload_n 3, 1) := by decide +kernel
theorem dX12_guard_35 : decode cX12_guard 35 = .ok (.aload_n 0, 1) := by decide +kernel
theorem dX12_guard_36 : decode cX12_guard 36 = .ok (.getfield 69, 3) := by decide +kernel
theorem dX12_guard_39 : decode cX12_guard 39 = .ok (.iload_n 1, 1) := by decide +kernel
theorem dX12_guard_40 : decode cX12_guard 40 = .ok (.iaload, 1) := by decide +kernel
theorem dX12_guard_41 : decode cX12_guard 41 = .ok (.invokevirtual 339, 3) := by decide +kernel
theorem dX12_hasAlike_0 : decode cX12_hasAlike 0 = .ok (.iconst 0, 1) := by decide +kernel
theorem dX12_hasAlike_1 : decode cX12_hasAlike 1 = .ok (.istore_n 3, 1) := by decide +kernel
theorem dX12_hasAlike_2 : decode cX12_hasAlike 2 = .ok (.iconst 0, 1) := by decide +kernel
theorem dX12_hasAlike_3 : decode cX12_hasAlike 3 = .ok (.istore 4, 2) := by decide +kernel
theorem dX12_hasAlike_5 : decode cX12_hasAlike 5 = .ok (.iload 4, 2) := by decide +kernel
theorem dX12_hasAlike_7 : decode cX12_hasAlike 7 = .ok (.aload_n 0, 1) := by decide +kernel
theorem dX12_hasAlike_8 : decode cX12_hasAlike 8 = .ok (.getfield 69, 3) := by decide +kernel
theorem dX12_hasAlike_11 : decode cX12_hasAlike 11 = .ok (.iload_n 1, 1) := by decide +kernel
theorem dX12_hasAlike_12 : decode cX12_hasAlike 12 = .ok (.iaload, 1) := by decide +kernel
theorem dX12_hasAlike_13 : decode cX12_hasAlike 13 = .ok (.if_icmp .ge 45, 3) := by decide +kernel
theorem dX12_hasAlike_16 : decode cX12_hasAlike 16 = .ok (.iload_n 3, 1) := by decide +kernel
theorem dX12_hasAlike_17 : decode cX12_hasAlike 17 = .ok (.ifCond .ne 29, 3) := by decide +kernel
theorem dX12_hasAlike_20 : decode cX12_hasAlike 20 = .ok (.bipush 40, 2) := by decide +kernel
theorem dX12_hasAlike_22 : decode cX12_hasAlike 22 = .ok (.iload_n 1, 1) := by decide +kernel
theorem dX12_hasAlike_23 : decode cX12_hasAlike 23 = .ok (.imul, 1) := by decide +kernel
theorem dX12_hasAlike_24 : decode cX12_hasAlike 24 = .ok (.iload 4, 2) := by decide +kernel
theorem dX12_hasAlike_26 : decode cX12_hasAlike 26 = .ok (.iadd, 1) := by decide +kernel
theorem dX12_hasAlike_27 : decode cX12_hasAlike 27 = .ok (.iload_n 2, 1) := by decide +kernel
theorem dX12_hasAlike_28 : decode cX12_hasAlike 28 = .ok (.if_icmp .eq 22, 3) := by decide +kernel
theorem dX12_hasAlike_31 : decode cX12_hasAlike 31 = .ok (.aload_n 0, 1) := by decide +kernel
theorem dX12_hasAlike_32 : decode cX12_hasAlike 32 = .ok (.bipush 40, 2) := by decide +kernel
theorem dX12_hasAlike_34 : decode cX12_hasAlike 34 = .ok (.iload_n 1, 1) := by decide +kernel
theorem dX12_hasAlike_35 : decode cX12_hasAlike 35 = .ok (.imul, 1) := by decide +kernel
theorem dX12_hasAlike_36 : decode cX12_hasAlike 36 = .ok (.iload 4, 2) := by decide +kernel
theorem dX12_hasAlike_38 : decode cX12_hasAlike 38 = .ok (.iadd, 1) := by decide +kernel
theorem dX12_hasAlike_39 : decode cX12_hasAlike 39 = .ok (.iload_n 2, 1) := by decide +kernel
theorem dX12_hasAlike_40 : decode cX12_hasAlike 40 = .ok (.invokevirtual 399, 3) := by decide +kernel
theorem dX12_hasAlike_58 : decode cX12_hasAlike 58 = .ok (.iload_n 3, 1) := by decide +kernel
theorem dX12_hasAlike_59 : decode cX12_hasAlike 59 = .ok (.ireturn, 1) := by decide +kernel
theorem dX12_isAlike_0 : decode cX12_isAlike 0 = .ok (.aload_n 0, 1) := by decide +kernel
theorem dX12_isAlike_1 : decode cX12_isAlike 1 = .ok (.getfield 72, 3) := by decide +kernel
theorem dX12_isAlike_4 : decode cX12_isAlike 4 = .ok (.iload_n 1, 1) := by decide +kernel
theorem dX12_isAlike_5 : decode cX12_isAlike 5 = .ok (.iaload, 1) := by decide +kernel
theorem dX12_isAlike_6 : decode cX12_isAlike 6 = .ok (.aload_n 0, 1) := by decide +kernel
theorem dX12_isAlike_7 : decode cX12_isAlike 7 = .ok (.getfield 72, 3) := by decide +kernel
theorem dX12_isAlike_10 : decode cX12_isAlike 10 = .ok (.iload_n 2, 1) := by decide +kernel
theorem dX12_isAlike_11 : decode cX12_isAlike 11 = .ok (.iaload, 1) := by decide +kernel
theorem dX12_isAlike_12 : decode cX12_isAlike 12 = .ok (.if_icmp .ne 67, 3) := by decide +kernel
theorem dX12_isAlike_15 : decode cX12_isAlike 15 = .ok (.aload_n 0, 1) := by decide +kernel
theorem dX12_isAlike_16 : decode cX12_isAlike 16 = .ok (.getfield 75, 3) := by decide +kernel
theorem dX12_isAlike_19 : decode cX12_isAlike 19 = .ok (.iload_n 1, 1) := by decide +kernel
theorem dX12_isAlike_20 : decode cX12_isAlike 20 = .ok (.iaload, 1) := by decide +kernel
theorem dX12_isAlike_21 : decode cX12_isAlike 21 = .ok (.aload_n 0, 1) := by decide +kernel
theorem dX12_isAlike_22 : decode cX12_isAlike 22 = .ok (.getfield 75, 3) := by decide +kernel
theorem dX12_isAlike_25 : decode cX12_isAlike 25 = .ok (.iload_n 2, 1) := by decide +kernel
theorem dX12_isAlike_26 : decode cX12_isAlike 26 = .ok (.iaload, 1) := by decide +kernel
theorem dX12_isAlike_27 : decode cX12_isAlike 27 = .ok (.if_icmp .ne 52, 3) := by decide +kernel
theorem dX12_isAlike_30 : decode cX12_isAlike 30 = .ok (.aload_n 0, 1) := by decide +kernel
theorem dX12_isAlike_31 : decode cX12_isAlike 31 = .ok (.getfield 78, 3) := by decide +kernel
theorem dX12_isAlike_34 : decode cX12_isAlike 34 = .ok (.iload_n 1, 1) := by decide +kernel
theorem dX12_isAlike_35 : decode cX12_isAlike 35 = .ok (.iaload, 1) := by decide +kernel
theorem dX12_isAlike_36 : decode cX12_isAlike 36 = .ok (.aload_n 0, 1) := by decide +kernel
theorem dX12_isAlike_37 : decode cX12_isAlike 37 = .ok (.getfield 78, 3) := by decide +kernel
theorem dX12_isAlike_40 : decode cX12_isAlike 40 = .ok (.iload_n 2, 1) := by decide +kernel
theorem dX12_isAlike_41 : decode cX12_isAlike 41 = .ok (.iaload, 1) := by decide +kernel
theorem dX12_isAlike_42 : decode cX12_isAlike 42 = .ok (.if_icmp .ne 37, 3) := by decide +kernel
theorem dX12_isAlike_45 : decode cX12_isAlike 45 = .ok (.aload_n 0, 1) := by decide +kernel
theorem dX12_isAlike_46 : decode cX12_isAlike 46 = .ok (.getfield 81, 3) := by decide +kernel
theorem dX12_isAlike_49 : decode cX12_isAlike 49 = .ok (.iload_n 1, 1) := by decide +kernel
theorem dX12_isAlike_50 : decode cX12_isAlike 50 = .ok (.iaload, 1) := by decide +kernel
theorem dX12_isAlike_51 : decode cX12_isAlike 51 = .ok (.aload_n 0, 1) := by decide +kernel
theorem dX12_isAlike_52 : decode cX12_isAlike 52 = .ok (.getfield 81, 3) := by decide +kernel
theorem dX12_isAlike_55 : decode cX12_isAlike 55 = .ok (.iload_n 2, 1) := by decide +kernel
theorem dX12_isAlike_56 : decode cX12_isAlike 56 = .ok (.iaload, 1) := by decide +kernel
theorem dX12_isAlike_57 : decode cX12_isAlike 57 = .ok (.if_icmp .ne 22, 3) := by decide +kernel
theorem dX12_isAlike_60 : decode cX12_isAlike 60 = .ok (.aload_n 0, 1) := by decide +kernel
theorem dX12_isAlike_61 : decode cX12_isAlike 61 = .ok (.getfield 84, 3) := by decide +kernel
theorem dX12_isAlike_64 : decode cX12_isAlike 64 = .ok (.iload_n 1, 1) := by decide +kernel
theorem dX12_isAlike_65 : decode cX12_isAlike 65 = .ok (.iaload, 1) := by decide +kernel
theorem dX12_isAlike_66 : decode cX12_isAlike 66 = .ok (.aload_n 0, 1) := by decide +kernel
theorem dX12_isAlike_67 : decode cX12_isAlike 67 = .ok (.getfield 84, 3) := by decide +kernel
theorem dX12_isAlike_70 : decode cX12_isAlike 70 = .ok (.iload_n 2, 1) := by decide +kernel
theorem dX12_isAlike_71 : decode cX12_isAlike 71 = .ok (.iaload, 1) := by decide +kernel
theorem dX12_isAlike_72 : decode cX12_isAlike 72 = .ok (.if_icmp .ne 7, 3) := by decide +kernel
theorem dX12_isAlike_75 : decode cX12_isAlike 75 = .ok (.iconst 1, 1) := by decide +kernel
theorem dX12_isAlike_76 : decode cX12_isAlike 76 = .ok (.goto 4, 3) := by decide +kernel
theorem dX12_isAlike_79 : decode cX12_isAlike 79 = .ok (.iconst 0, 1) := by decide +kernel
theorem dX12_isAlike_80 : decode cX12_isAlike 80 = .ok (.ireturn, 1) := by decide +kernel
set_option maxHeartbeats 4000000 in
set_option maxRecDepth 100000 in
theorem s_X12_isAlike {P : PP} {a0 : Nat} {a1 : Int32} {a2 : Int32} (I : IM P a0) (ha1 : 0 ≤ a1.toInt ∧ a1.toInt ≤ 799) (ha2 : 0 ≤ a2.toInt ∧ a2.toInt ≤ 799) : CtrI yX12_isAlike cX12_isAlike 3 (some Jvm.ClassFile.FieldType.boolean) ({ frames := 1, cells := 0, slots := 0, locals := 64 } : Room) 0 0 P [.ref a0, .int a1, .int a2] (fun r P2 => P = P2 ∧ (0 ≤ r.toInt ∧ r.toInt ≤ 1)) := by
  refine enI (lv := [(0, .ref a0), (1, .int a1), (2, .int a2)]) (by decide) (Nat.le_of_ble_eq_true rfl) rfl (fun E D cy C Ci0 ret => ?_)
  have ha0 := I.2.1
  have J79 : G E ({ frames := 1, cells := 0, slots := 0, locals := 64 } : Room) D cy 3 P 0 0 79 [] [] := by
    refine g_iconst (v := 0) C dX12_isAlike_79 (by decide) ?_
    exact ret _ _ _ _ _ _ dX12_isAlike_80 rfl (by decide) (by decide) ⟨rfl, (by decide)⟩
  refine g_aload_n C dX12_isAlike_0 rfl 0 rfl ?_
  obtain ⟨b17993, e17994, h17995⟩ := I.fld (ha0) 21 13 800 rfl
  refine g_getR C fi_X12_72 rfl e17994 (ha0).1 (ha0).2 dX12_isAlike_1 ?_
  refine g_iload_n C dX12_isAlike_4 rfl 1 rfl ?_
  refine g_iald (j := (a1.toInt.toNat)) C h17995.1 h17995.2.1 (ix_in h17995.2.2 (by omega)) dX12_isAlike_5 ?_
  refine g_aload_n C dX12_isAlike_6 rfl 0 rfl ?_
  refine g_getR C fi_X12_72 rfl e17994 (ha0).1 (ha0).2 dX12_isAlike_7 ?_
  refine g_iload_n C dX12_isAlike_10 rfl 2 rfl ?_
  refine g_iald (j := (a2.toInt.toNat)) C h17995.1 h17995.2.1 (ix_in h17995.2.2 (by omega)) dX12_isAlike_11 ?_
  have u17997 := ti_rng (pI P b17993 (a1.toInt.toNat))
  have u17998 := ti_rng (pI P b17993 (a2.toInt.toNat))
  refine b_icmp_ne C 79 dX12_isAlike_12 (by decide) (fun h17996 => ?_) (fun h17996 => ?_)
  · have h17996 : (pI P b17993 (a1.toInt.toNat)).toInt ≠ (pI P b17993 (a2.toInt.toNat)).toInt := ti_ne h17996
    refine g_lv (lv' := []) [] rfl ?_
    exact J79 
  · have h17996 : (pI P b17993 (a1.toInt.toNat)).toInt = (pI P b17993 (a2.toInt.toNat)).toInt := congrArg Int32.toInt h17996
    refine g_aload_n C dX12_isAlike_15 rfl 0 rfl ?_
    obtain ⟨b17999, e18000, h18001⟩ := I.fld (ha0) 22 13 800 rfl
    refine g_getR C fi_X12_75 rfl e18000 (ha0).1 (ha0).2 dX12_isAlike_16 ?_
    refine g_iload_n C dX12_isAlike_19 rfl 1 rfl ?_
    refine g_iald (j := (a1.toInt.toNat)) C h18001.1 h18001.2.1 (ix_in h18001.2.2 (by omega)) dX12_isAlike_20 ?_
    have h18002 := I.arr e18000 rfl (a1.toInt.toNat)
    refine g_aload_n C dX12_isAlike_21 rfl 0 rfl ?_
    refine g_getR C fi_X12_75 rfl e18000 (ha0).1 (ha0).2 dX12_isAlike_22 ?_
    refine g_iload_n C dX12_isAlike_25 rfl 2 rfl ?_
    refine g_iald (j := (a2.toInt.toNat)) C h18001.1 h18001.2.1 (ix_in h18001.2.2 (by omega)) dX12_isAlike_26 ?_
    have h18003 := I.arr e18000 rfl (a2.toInt.toNat)
    refine b_icmp_ne C 79 dX12_isAlike_27 (by decide) (fun h18004 => ?_) (fun h18004 => ?_)
    · have h18004 : (pI P b17999 (a1.toInt.toNat)).toInt ≠ (pI P b17999 (a2.toInt.toNat)).toInt := ti_ne h18004
      refine g_lv (lv' := []) [] rfl ?_
      exact J79 
    · have h18004 : (pI P b17999 (a1.toInt.toNat)).toInt = (pI P b17999 (a2.toInt.toNat)).toInt := congrArg Int32.toInt h18004
      refine g_aload_n C dX12_isAlike_30 rfl 0 rfl ?_
      obtain ⟨b18005, e18006, h18007⟩ := I.fld (ha0) 23 13 800 rfl
      refine g_getR C fi_X12_78 rfl e18006 (ha0).1 (ha0).2 dX12_isAlike_31 ?_
      refine g_iload_n C dX12_isAlike_34 rfl 1 rfl ?_
      refine g_iald (j := (a1.toInt.toNat)) C h18007.1 h18007.2.1 (ix_in h18007.2.2 (by omega)) dX12_isAlike_35 ?_
      refine g_aload_n C dX12_isAlike_36 rfl 0 rfl ?_
      refine g_getR C fi_X12_78 rfl e18006 (ha0).1 (ha0).2 dX12_isAlike_37 ?_
      refine g_iload_n C dX12_isAlike_40 rfl 2 rfl ?_
      refine g_iald (j := (a2.toInt.toNat)) C h18007.1 h18007.2.1 (ix_in h18007.2.2 (by omega)) dX12_isAlike_41 ?_
      have u18009 := ti_rng (pI P b18005 (a1.toInt.toNat))
      have u18010 := ti_rng (pI P b18005 (a2.toInt.toNat))
      refine b_icmp_ne C 79 dX12_isAlike_42 (by decide) (fun h18008 => ?_) (fun h18008 => ?_)
      · have h18008 : (pI P b18005 (a1.toInt.toNat)).toInt ≠ (pI P b18005 (a2.toInt.toNat)).toInt := ti_ne h18008
        refine g_lv (lv' := []) [] rfl ?_
        exact J79 
      · have h18008 : (pI P b18005 (a1.toInt.toNat)).toInt = (pI P b18005 (a2.toInt.toNat)).toInt := congrArg Int32.toInt h18008
        refine g_aload_n C dX12_isAlike_45 rfl 0 rfl ?_
        obtain ⟨b18011, e18012, h18013⟩ := I.fld (ha0) 24 13 800 rfl
        refine g_getR C fi_X12_81 rfl e18012 (ha0).1 (ha0).2 dX12_isAlike_46 ?_
        refine g_iload_n C dX12_isAlike_49 rfl 1 rfl ?_
        refine g_iald (j := (a1.toInt.toNat)) C h18013.1 h18013.2.1 (ix_in h18013.2.2 (by omega)) dX12_isAlike_50 ?_
        refine g_aload_n C dX12_isAlike_51 rfl 0 rfl ?_
        refine g_getR C fi_X12_81 rfl e18012 (ha0).1 (ha0).2 dX12_isAlike_52 ?_
        refine g_iload_n C dX12_isAlike_55 rfl 2 rfl ?_
        refine g_iald (j := (a2.toInt.toNat)) C h18013.1 h18013.2.1 (ix_in h18013.2.2 (by omega)) dX12_isAlike_56 ?_
        have u18015 := ti_rng (pI P b18011 (a1.toInt.toNat))
        have u18016 := ti_rng (pI P b18011 (a2.toInt.toNat))
        refine b_icmp_ne C 79 dX12_isAlike_57 (by decide) (fun h18014 => ?_) (fun h18014 => ?_)
        · have h18014 : (pI P b18011 (a1.toInt.toNat)).toInt ≠ (pI P b18011 (a2.toInt.toNat)).toInt := ti_ne h18014
          refine g_lv (lv' := []) [] rfl ?_
          exact J79 
        · have h18014 : (pI P b18011 (a1.toInt.toNat)).toInt = (pI P b18011 (a2.toInt.toNat)).toInt := congrArg Int32.toInt h18014
          refine g_aload_n C dX12_isAlike_60 rfl 0 rfl ?_
          obtain ⟨b18017, e18018, h18019⟩ := I.fld (ha0) 25 13 800 rfl
          refine g_getR C fi_X12_84 rfl e18018 (ha0).1 (ha0).2 dX12_isAlike_61 ?_
          refine g_iload_n C dX12_isAlike_64 rfl 1 rfl ?_
          refine g_iald (j := (a1.toInt.toNat)) C h18019.1 h18019.2.1 (ix_in h18019.2.2 (by omega)) dX12_isAlike_65 ?_
          refine g_aload_n C dX12_isAlike_66 rfl 0 rfl ?_
          refine g_getR C fi_X12_84 rfl e18018 (ha0).1 (ha0).2 dX12_isAlike_67 ?_
          refine g_iload_n C dX12_isAlike_70 rfl 2 rfl ?_
          refine g_iald (j := (a2.toInt.toNat)) C h18019.1 h18019.2.1 (ix_in h18019.2.2 (by omega)) dX12_isAlike_71 ?_
          have u18021 := ti_rng (pI P b18017 (a1.toInt.toNat))
          have u18022 := ti_rng (pI P b18017 (a2.toInt.toNat))
          refine b_icmp_ne C 79 dX12_isAlike_72 (by decide) (fun h18020 => ?_) (fun h18020 => ?_)
          · have h18020 : (pI P b18017 (a1.toInt.toNat)).toInt ≠ (pI P b18017 (a2.toInt.toNat)).toInt := ti_ne h18020
            refine g_lv (lv' := []) [] rfl ?_
            exact J79 
          · have h18020 : (pI P b18017 (a1.toInt.toNat)).toInt = (pI P b18017 (a2.toInt.toNat)).toInt := congrArg Int32.toInt h18020
            refine g_iconst (v := 1) C dX12_isAlike_75 (by decide) ?_
            refine g_goto C 80 dX12_isAlike_76 (by decide) ?_
            exact ret _ _ _ _ _ _ dX12_isAlike_80 rfl (by decide) (by decide) ⟨rfl, (by decide)⟩
theorem dX12_hasAlike_43 : decode cX12_hasAlike 43 = .ok (.ifCond .eq 7, 3) := by decide +kernel
theorem dX12_hasAlike_46 : decode cX12_hasAlike 46 = .ok (.iconst 1, 1) := by decide +kernel
theorem dX12_hasAlike_47 : decode cX12_hasAlike 47 = .ok (.goto 4, 3) := by decide +kernel
theorem dX12_hasAlike_50 : decode cX12_hasAlike 50 = .ok (.iconst 0, 1) := by decide +kernel
theorem dX12_hasAlike_51 : decode cX12_hasAlike 51 = .ok (.istore_n 3, 1) := by decide +kernel
theorem dX12_hasAlike_52 : decode cX12_hasAlike 52 = .ok (.iinc 4 1, 3) := by decide +kernel
theorem dX12_hasAlike_55 : decode cX12_hasAlike 55 = .ok (.goto (-50), 3) := by decide +kernel
set_option maxHeartbeats 4000000 in
set_option maxRecDepth 100000 in
theorem s_X12_hasAlike {P : PP} {a0 : Nat} {a1 : Int32} {a2 : Int32} (I : IM P a0) (ha1 : 0 ≤ a1.toInt ∧ a1.toInt ≤ 3) (ha2 : 0 ≤ a2.toInt ∧ a2.toInt ≤ 799) : CtrI yX12_hasAlike cX12_hasAlike 5 (some Jvm.ClassFile.FieldType.boolean) ({ frames := 2, cells := 0, slots := 0, locals := 128 } : Room) 0 0 P [.ref a0, .int a1, .int a2] (fun r P2 => P = P2 ∧ (0 ≤ r.toInt ∧ r.toInt ≤ 1)) := by
  refine enI (lv := [(0, .ref a0), (1, .int a1), (2, .int a2)]) (by decide) (Nat.le_of_ble_eq_true rfl) rfl (fun E D cy C Ci0 ret => ?_)
  have ha0 := I.2.1
  have J5 : ∀ (n5 : Nat) (v5_3 : Int32) (v5_4 : Int32), (40 - v5_4.toInt).toNat < n5 → (0 ≤ v5_3.toInt ∧ v5_3.toInt ≤ 1) → (0 ≤ v5_4.toInt ∧ v5_4.toInt ≤ 40) → G E ({ frames := 2, cells := 0, slots := 0, locals := 128 } : Room) D cy 5 P 0 0 5 [(0, .ref a0), (1, .int a1), (2, .int a2), (3, .int v5_3), (4, .int v5_4)] [] := by
    intro n5
    induction n5 with
    | zero => intro v5_3 v5_4 hm5 hv5_3 hv5_4; omega
    | succ n5 ih5 =>
      intro v5_3 v5_4 hm5 hv5_3 hv5_4
      have J51 : ∀ (v51_s0 : Int32), (0 ≤ v5_4.toInt ∧ v5_4.toInt ≤ 39) → (0 ≤ v51_s0.toInt ∧ v51_s0.toInt ≤ 1) → (∀ b, pR P a0 20 = some b → 1 ≤ (pI P b (a1.toInt.toNat)).toInt ∧ (pI P b (a1.toInt.toNat)).toInt ≤ 40) → G E ({ frames := 2, cells := 0, slots := 0, locals := 128 } : Room) D cy 5 P 0 0 51 [(0, .ref a0), (1, .int a1), (2, .int a2), (4, .int v5_4)] [.int v51_s0] := by
        intro v51_s0 hv51_4 hv51_s0 hq51_0
        obtain ⟨b18473, e18474, h18475⟩ := I.fld (ha0) 20 13 20 rfl
        have hq51_0 := hq51_0 b18473 e18474
        refine g_istore_n (lv' := [(3, .int v51_s0), (0, .ref a0), (1, .int a1), (2, .int a2), (4, .int v5_4)]) C dX12_hasAlike_51 rfl (by decide) rfl ?_
        refine s_iinc (lv0 := [(3, .int v51_s0), (0, .ref a0), (1, .int a1), (2, .int a2)]) (m := 1) C dX12_hasAlike_52 4 rfl (by decide) rfl (by decide) (by omega) (fun z18476 h18477 => ?_)
        have h18477 : z18476.toInt = v5_4.toInt + 1 := h18477
        refine g_goto C 5 dX12_hasAlike_55 (by decide) ?_
        refine g_lv (lv' := [(0, .ref a0), (1, .int a1), (2, .int a2), (3, .int v51_s0), (4, .int z18476)]) [2, 3, 4, 1, 0] rfl ?_
        exact ih5 v51_s0 z18476 (by omega) (by omega) (by omega)
      have J50 : (0 ≤ v5_4.toInt ∧ v5_4.toInt ≤ 39) → (∀ b, pR P a0 20 = some b → 1 ≤ (pI P b (a1.toInt.toNat)).toInt ∧ (pI P b (a1.toInt.toNat)).toInt ≤ 40) → G E ({ frames := 2, cells := 0, slots := 0, locals := 128 } : Room) D cy 5 P 0 0 50 [(0, .ref a0), (1, .int a1), (2, .int a2), (4, .int v5_4)] [] := by
        intro hv50_4 hq50_0
        obtain ⟨b18478, e18479, h18480⟩ := I.fld (ha0) 20 13 20 rfl
        have hq50_0 := hq50_0 b18478 e18479
        refine g_iconst (v := 0) C dX12_hasAlike_50 (by decide) ?_
        exact J51 0 (by omega) (by decide) (fun b9 e9 => by rw [e18479] at e9; cases e9; omega)
      have J46 : (0 ≤ v5_4.toInt ∧ v5_4.toInt ≤ 39) → (∀ b, pR P a0 20 = some b → 1 ≤ (pI P b (a1.toInt.toNat)).toInt ∧ (pI P b (a1.toInt.toNat)).toInt ≤ 40) → G E ({ frames := 2, cells := 0, slots := 0, locals := 128 } : Room) D cy 5 P 0 0 46 [(0, .ref a0), (1, .int a1), (2, .int a2), (4, .int v5_4)] [] := by
        intro hv46_4 hq46_0
        obtain ⟨b18481, e18482, h18483⟩ := I.fld (ha0) 20 13 20 rfl
        have hq46_0 := hq46_0 b18481 e18482
        refine g_iconst (v := 1) C dX12_hasAlike_46 (by decide) ?_
        refine g_goto C 51 dX12_hasAlike_47 (by decide) ?_
        exact J51 1 (by omega) (by decide) (fun b9 e9 => by rw [e18482] at e9; cases e9; omega)
      refine g_iload C dX12_hasAlike_5 4 rfl ?_
      refine g_aload_n C dX12_hasAlike_7 rfl 0 rfl ?_
      obtain ⟨b18484, e18485, h18486⟩ := I.fld (ha0) 20 13 20 rfl
      refine g_getR C fi_X12_69 rfl e18485 (ha0).1 (ha0).2 dX12_hasAlike_8 ?_
      refine g_iload_n C dX12_hasAlike_11 rfl 1 rfl ?_
      refine g_iald (j := (a1.toInt.toNat)) C h18486.1 h18486.2.1 (ix_in h18486.2.2 (by omega)) dX12_hasAlike_12 ?_
      have h18487 := I.arr e18485 rfl (a1.toInt.toNat)
      refine b_icmp_ge C 58 dX12_hasAlike_13 (by decide) (fun h18488 => ?_) (fun h18488 => ?_)
      · have h18488 : (pI P b18484 (a1.toInt.toNat)).toInt ≤ v5_4.toInt := h18488
        refine g_iload_n C dX12_hasAlike_58 rfl 3 rfl ?_
        exact ret _ _ _ _ _ _ dX12_hasAlike_59 (nar_b (b01 (by omega))) (by decide) (by decide) ⟨rfl, (by omega)⟩
      · have h18488 : v5_4.toInt < (pI P b18484 (a1.toInt.toNat)).toInt := h18488
        refine g_iload_n C dX12_hasAlike_16 rfl 3 rfl ?_
        refine b_if_ne C 46 dX12_hasAlike_17 (by decide) (fun h18489 => ?_) (fun h18489 => ?_)
        · have h18489 : v5_3.toInt ≠ 0 := ti_ne h18489
          refine g_lv (lv' := [(0, .ref a0), (1, .int a1), (2, .int a2), (4, .int v5_4)]) [0, 1, 2, 4] rfl ?_
          exact J46 (by omega) (fun b9 e9 => by rw [e18485] at e9; cases e9; omega)
        · have h18489 : v5_3.toInt = 0 := congrArg Int32.toInt h18489
          refine g_bipush (v := 40) C dX12_hasAlike_20 (by decide) ?_
          refine g_iload_n C dX12_hasAlike_22 rfl 1 rfl ?_
          refine s_imul C dX12_hasAlike_23 (by show -2147483648 ≤ 40 * a1.toInt ∧ 40 * a1.toInt ≤ 2147483647; omega) (fun z18490 h18491 => ?_)
          have h18491 : z18490.toInt = 40 * a1.toInt := h18491
          refine g_iload C dX12_hasAlike_24 4 rfl ?_
          refine s_iadd C dX12_hasAlike_26 (by show -2147483648 ≤ z18490.toInt + v5_4.toInt ∧ z18490.toInt + v5_4.toInt ≤ 2147483647; omega) (fun z18492 h18493 => ?_)
          have h18493 : z18492.toInt = z18490.toInt + v5_4.toInt := h18493
          refine g_iload_n C dX12_hasAlike_27 rfl 2 rfl ?_
          refine b_icmp_eq C 50 dX12_hasAlike_28 (by decide) (fun h18494 => ?_) (fun h18494 => ?_)
          · have h18494 : z18492.toInt = a2.toInt := congrArg Int32.toInt h18494
            refine g_lv (lv' := [(0, .ref a0), (1, .int a1), (2, .int a2), (4, .int v5_4)]) [0, 1, 2, 4] rfl ?_
            exact J50 (by omega) (fun b9 e9 => by rw [e18485] at e9; cases e9; omega)
          · have h18494 : z18492.toInt ≠ a2.toInt := ti_ne h18494
            refine g_aload_n C dX12_hasAlike_31 rfl 0 rfl ?_
            refine g_bipush (v := 40) C dX12_hasAlike_32 (by decide) ?_
            refine g_iload_n C dX12_hasAlike_34 rfl 1 rfl ?_
            refine s_imul C dX12_hasAlike_35 (by show -2147483648 ≤ 40 * a1.toInt ∧ 40 * a1.toInt ≤ 2147483647; omega) (fun z18495 h18496 => ?_)
            have h18496 : z18495.toInt = 40 * a1.toInt := h18496
            refine g_iload C dX12_hasAlike_36 4 rfl ?_
            refine s_iadd C dX12_hasAlike_38 (by show -2147483648 ≤ z18495.toInt + v5_4.toInt ∧ z18495.toInt + v5_4.toInt ≤ 2147483647; omega) (fun z18497 h18498 => ?_)
            have h18498 : z18497.toInt = z18495.toInt + v5_4.toInt := h18498
            refine g_iload_n C dX12_hasAlike_39 rfl 2 rfl ?_
            refine g_callVI (rest := []) C mv_X12_399 [.int z18497, .int a2] (s_X12_isAlike I (by omega) (by omega)) (ha0).1 (ha0).2 rfl rfl (by decide) (Nat.le_of_ble_eq_true rfl) (by decide) dX12_hasAlike_40 (fun r18499 Y18500 h18501 => ?_)
            obtain ⟨rfl, h18501⟩ := h18501
            have h18501 : 0 ≤ r18499.toInt ∧ r18499.toInt ≤ 1 := h18501
            refine b_if_eq C 50 dX12_hasAlike_43 (by decide) (fun h18502 => ?_) (fun h18502 => ?_)
            · have h18502 : r18499.toInt = 0 := congrArg Int32.toInt h18502
              refine g_lv (lv' := [(0, .ref a0), (1, .int a1), (2, .int a2), (4, .int v5_4)]) [0, 1, 2, 4] rfl ?_
              exact J50 (by omega) (fun b9 e9 => by rw [e18485] at e9; cases e9; omega)
            · have h18502 : r18499.toInt ≠ 0 := ti_ne h18502
              refine g_lv (lv' := [(0, .ref a0), (1, .int a1), (2, .int a2), (4, .int v5_4)]) [0, 1, 2, 4] rfl ?_
              exact J46 (by omega) (fun b9 e9 => by rw [e18485] at e9; cases e9; omega)
  refine g_iconst (v := 0) C dX12_hasAlike_0 (by decide) ?_
  refine g_istore_n (lv' := [(3, .int 0), (0, .ref a0), (1, .int a1), (2, .int a2)]) C dX12_hasAlike_1 rfl (by decide) rfl ?_
  refine g_iconst (v := 0) C dX12_hasAlike_2 (by decide) ?_
  refine g_istore (lv' := [(4, .int 0), (3, .int 0), (0, .ref a0), (1, .int a1), (2, .int a2)]) C dX12_hasAlike_3 (by decide) rfl ?_
  refine g_lv (lv' := [(0, .ref a0), (1, .int a1), (2, .int a2), (3, .int 0), (4, .int 0)]) [2, 3, 4, 1, 0] rfl ?_
  exact J5 _ 0 0 (Nat.lt_succ_self _) (by decide) (by decide)
theorem dX12_hasWord_0 : decode cX12_hasWord 0 = .ok (.aload_n 0, 1) := by decide +kernel
theorem dX12_hasWord_1 : decode cX12_hasWord 1 = .ok (.iload_n 1, 1) := by decide +kernel
theorem dX12_hasWord_2 : decode cX12_hasWord 2 = .ok (.invokevirtual 172, 3) := by decide +kernel
theorem dX12_isWord_0 : decode cX12_isWord 0 = .ok (.aload_n 0, 1) := by decide +kernel
theorem dX12_isWord_1 : decode cX12_isWord 1 = .ok (.getfield 162, 3) := by decide +kernel
theorem dX12_isWord_4 : decode cX12_isWord 4 = .ok (.ifCond .ne 39, 3) := by decide +kernel
theorem dX12_isWord_7 : decode cX12_isWord 7 = .ok (.aload_n 0, 1) := by decide +kernel
theorem dX12_isWord_8 : decode cX12_isWord 8 = .ok (.getfield 24, 3) := by decide +kernel
theorem dX12_isWord_11 : decode cX12_isWord 11 = .ok (.aload_n 0, 1) := by decide +kernel
theorem dX12_isWord_12 : decode cX12_isWord 12 = .ok (.getfield 159, 3) := by decide +kernel
theorem dX12_isWord_15 : decode cX12_isWord 15 = .ok (.iaload, 1) := by decide +kernel
theorem dX12_isWord_16 : decode cX12_isWord 16 = .ok (.iconst 1, 1) := by decide +kernel
theorem dX12_isWord_17 : decode cX12_isWord 17 = .ok (.if_icmp .ne 26, 3) := by decide +kernel
theorem dX12_isWord_20 : decode cX12_isWord 20 = .ok (.aload_n 0, 1) := by decide +kernel
theorem dX12_isWord_21 : decode cX12_isWord 21 = .ok (.getfield 30, 3) := by decide +kernel
theorem dX12_isWord_24 : decode cX12_isWord 24 = .ok (.aload_n 0, 1) := by decide +kernel
theorem dX12_isWord_25 : decode cX12_isWord 25 = .ok (.getfield 159, 3) := by decide +kernel
theorem dX12_isWord_28 : decode cX12_isWord 28 = .ok (.laload, 1) := by decide +kernel
theorem dX12_isWord_29 : decode cX12_isWord 29 = .ok (.aload_n 0, 1) := by decide +kernel
theorem dX12_isWord_30 : decode cX12_isWord 30 = .ok (.getfield 42, 3) := by decide +kernel
theorem dX12_isWord_33 : decode cX12_isWord 33 = .ok (.iload_n 1, 1) := by decide +kernel
theorem dX12_isWord_34 : decode cX12_isWord 34 = .ok (.laload, 1) := by decide +kernel
theorem dX12_isWord_35 : decode cX12_isWord 35 = .ok (.lcmp, 1) := by decide +kernel
theorem dX12_isWord_36 : decode cX12_isWord 36 = .ok (.ifCond .ne 7, 3) := by decide +kernel
theorem dX12_isWord_39 : decode cX12_isWord 39 = .ok (.iconst 1, 1) := by decide +kernel
theorem dX12_isWord_40 : decode cX12_isWord 40 = .ok (.goto 4, 3) := by decide +kernel
theorem dX12_isWord_43 : decode cX12_isWord 43 = .ok (.iconst 0, 1) := by decide +kernel
theorem dX12_isWord_44 : decode cX12_isWord 44 = .ok (.ireturn, 1) := by decide +kernel
set_option maxHeartbeats 4000000 in
set_option maxRecDepth 100000 in
theorem s_X12_isWord {P : PP} {a0 : Nat} {a1 : Int32} (I : IM P a0) (ha1 : 0 ≤ a1.toInt ∧ a1.toInt ≤ 3) : CtrI yX12_isWord cX12_isWord 2 (some Jvm.ClassFile.FieldType.boolean) ({ frames := 1, cells := 0, slots := 0, locals := 64 } : Room) 0 0 P [.ref a0, .int a1] (fun r P2 => P = P2 ∧ (0 ≤ r.toInt ∧ r.toInt ≤ 1)) := by
  refine enI (lv := [(0, .ref a0), (1, .int a1)]) (by decide) (Nat.le_of_ble_eq_true rfl) rfl (fun E D cy C Ci0 ret => ?_)
  have ha0 := I.2.1
  have J43 : (0 ≤ (pI P a0 8).toInt ∧ (pI P a0 8).toInt ≤ 16005) → G E ({ frames := 1, cells := 0, slots := 0, locals := 64 } : Room) D cy 2 P 0 0 43 [] [] := by
    intro hq43_0
    refine g_iconst (v := 0) C dX12_isWord_43 (by decide) ?_
    exact ret _ _ _ _ _ _ dX12_isWord_44 rfl (by decide) (by decide) ⟨rfl, (by decide)⟩
  refine g_aload_n C dX12_isWord_0 rfl 0 rfl ?_
  refine g_getI C fi_X12_162 (by decide) (ha0).1 (ha0).2 dX12_isWord_1 ?_
  have h18522 := I.rg (ha0) 8 rfl
  refine b_if_ne C 43 dX12_isWord_4 (by decide) (fun h18523 => ?_) (fun h18523 => ?_)
  · have h18523 : (pI P a0 8).toInt ≠ 0 := ti_ne h18523
    refine g_lv (lv' := []) [] rfl ?_
    exact J43 (by omega)
  · have h18523 : (pI P a0 8).toInt = 0 := congrArg Int32.toInt h18523
    refine g_aload_n C dX12_isWord_7 rfl 0 rfl ?_
    obtain ⟨b18524, e18525, h18526⟩ := I.fld (ha0) 4 13 1002 rfl
    refine g_getR C fi_X12_24 rfl e18525 (ha0).1 (ha0).2 dX12_isWord_8 ?_
    refine g_aload_n C dX12_isWord_11 rfl 0 rfl ?_
    refine g_getI C fi_X12_159 (by decide) (ha0).1 (ha0).2 dX12_isWord_12 ?_
    have h18527 := I.rg (ha0) 7 rfl
    refine g_iald (j := ((pI P a0 7).toInt.toNat)) C h18526.1 h18526.2.1 (ix_in h18526.2.2 (by omega)) dX12_isWord_15 ?_
    have h18528 := I.arr e18525 rfl ((pI P a0 7).toInt.toNat)
    refine g_iconst (v := 1) C dX12_isWord_16 (by decide) ?_
    refine b_icmp_ne C 43 dX12_isWord_17 (by decide) (fun h18529 => ?_) (fun h18529 => ?_)
    · have h18529 : (pI P b18524 ((pI P a0 7).toInt.toNat)).toInt ≠ 1 := ti_ne h18529
      refine g_lv (lv' := []) [] rfl ?_
      exact J43 (by omega)
    · have h18529 : (pI P b18524 ((pI P a0 7).toInt.toNat)).toInt = 1 := congrArg Int32.toInt h18529
      refine g_aload_n C dX12_isWord_20 rfl 0 rfl ?_
      obtain ⟨b18530, e18531, h18532⟩ := I.fld (ha0) 6 14 1002 rfl
      refine g_getR C fi_X12_30 rfl e18531 (ha0).1 (ha0).2 dX12_isWord_21 ?_
      refine g_aload_n C dX12_isWord_24 rfl 0 rfl ?_
      refine g_getI C fi_X12_159 (by decide) (ha0).1 (ha0).2 dX12_isWord_25 ?_
      refine g_lald (j := ((pI P a0 7).toInt.toNat)) C h18532.1 h18532.2.1 (ix_in h18532.2.2 (by omega)) dX12_isWord_28 ?_
      refine g_topl (fun l18533 _ => ?_)
      refine g_aload_n C dX12_isWord_29 rfl 0 rfl ?_
      obtain ⟨b18534, e18535, h18536⟩ := I.fld (ha0) 9 14 4 rfl
      refine g_getR C fi_X12_42 rfl e18535 (ha0).1 (ha0).2 dX12_isWord_30 ?_
      refine g_iload_n C dX12_isWord_33 rfl 1 rfl ?_
      refine g_lald (j := (a1.toInt.toNat)) C h18536.1 h18536.2.1 (ix_in h18536.2.2 (by omega)) dX12_isWord_34 ?_
      refine g_topl (fun l18537 _ => ?_)
      refine a_lcmp C dX12_isWord_35 (fun z18538 => ?_)
      have u18540 := ti_rng z18538
      refine b_if_ne C 43 dX12_isWord_36 (by decide) (fun h18539 => ?_) (fun h18539 => ?_)
      · have h18539 : z18538.toInt ≠ 0 := ti_ne h18539
        refine g_lv (lv' := []) [] rfl ?_
        exact J43 (by omega)
      · have h18539 : z18538.toInt = 0 := congrArg Int32.toInt h18539
        refine g_iconst (v := 1) C dX12_isWord_39 (by decide) ?_
        refine g_goto C 44 dX12_isWord_40 (by decide) ?_
        exact ret _ _ _ _ _ _ dX12_isWord_44 rfl (by decide) (by decide) ⟨rfl, (by decide)⟩
theorem dX12_hasWord_5 : decode cX12_hasWord 5 = .ok (.istore_n 2, 1) := by decide +kernel
theorem dX12_hasWord_6 : decode cX12_hasWord 6 = .ok (.aload_n 0, 1) := by decide +kernel
theorem dX12_hasWord_7 : decode cX12_hasWord 7 = .ok (.dup, 1) := by decide +kernel
theorem dX12_hasWord_8 : decode cX12_hasWord 8 = .ok (.getfield 159, 3) := by decide +kernel
theorem dX12_hasWord_11 : decode cX12_hasWord 11 = .ok (.iload_n 2, 1) := by decide +kernel
theorem dX12_hasWord_12 : decode cX12_hasWord 12 = .ok (.ifCond .eq 7, 3) := by decide +kernel
theorem dX12_hasWord_15 : decode cX12_hasWord 15 = .ok (.iconst 1, 1) := by decide +kernel
theorem dX12_hasWord_16 : decode cX12_hasWord 16 = .ok (.goto 4, 3) := by decide +kernel
theorem dX12_hasWord_19 : decode cX12_hasWord 19 = .ok (.iconst 0, 1) := by decide +kernel
theorem dX12_hasWord_20 : decode cX12_hasWord 20 = .ok (.iadd, 1) := by decide +kernel
theorem dX12_hasWord_21 : decode cX12_hasWord 21 = .ok (.putfield 159, 3) := by decide +kernel
theorem dX12_init_0 : decode cX12_init 0 = .ok (.aload_n 0, 1) := by decide +kernel
theorem dX12_init_1 : decode cX12_init 1 = .ok (.invokespecial 18, 3) := by decide +kernel
theorem dX12_init_4 : decode cX12_init 4 = .ok (.aload_n 0, 1) := by decide +kernel
theorem dX12_init_5 : decode cX12_init 5 = .ok (.sipush 1000, 3) := by decide +kernel
theorem dX12_init_8 : decode cX12_init 8 = .ok (.newarray .int, 2) := by decide +kernel
theorem dX12_isAllWith_0 : decode cX12_isAllWith 0 = .ok (.iconst 0, 1) := by decide +kernel
theorem dX12_isAllWith_1 : decode cX12_isAllWith 1 = .ok (.istore 4, 2) := by decide +kernel
theorem dX12_isAllWith_3 : decode cX12_isAllWith 3 = .ok (.iload 4, 2) := by decide +kernel
theorem dX12_isAllWith_5 : decode cX12_isAllWith 5 = .ok (.iconst 2, 1) := by decide +kernel
theorem dX12_isAllWith_6 : decode cX12_isAllWith 6 = .ok (.if_icmp .ge 95, 3) := by decide +kernel
theorem dX12_isAllWith_9 : decode cX12_isAllWith 9 = .ok (.aload_n 0, 1) := by decide +kernel
theorem dX12_isAllWith_10 : decode cX12_isAllWith 10 = .ok (.iload_n 1, 1) := by decide +kernel
theorem dX12_isAllWith_11 : decode cX12_isAllWith 11 = .ok (.iload_n 2, 1) := by decide +kernel
theorem dX12_isAllWith_12 : decode cX12_isAllWith 12 = .ok (.iload 4, 2) := by decide +kernel
theorem dX12_isAllWith_14 : decode cX12_isAllWith 14 = .ok (.aload_n 0, 1) := by decide +kernel
theorem dX12_isAllWith_15 : decode cX12_isAllWith 15 = .ok (.getfield 69, 3) := by decide +kernel
theorem dX12_isAllWith_18 : decode cX12_isAllWith 18 = .ok (.iload_n 1, 1) := by decide +kernel
theorem dX12_isAllWith_19 : decode cX12_isAllWith 19 = .ok (.iaload, 1) := by decide +kernel
theorem dX12_isAllWith_20 : decode cX12_isAllWith 20 = .ok (.invokevirtual 339, 3) := by decide +kernel
theorem dX12_isDigit_0 : decode cX12_isDigit 0 = .ok (.iload_n 0, 1) := by decide +kernel
theorem dX12_isDigit_1 : decode cX12_isDigit 1 = .ok (.bipush 48, 2) := by decide +kernel
theorem dX12_isDigit_3 : decode cX12_isDigit 3 = .ok (.if_icmp .lt 13, 3) := by decide +kernel
theorem dX12_isDigit_6 : decode cX12_isDigit 6 = .ok (.iload_n 0, 1) := by decide +kernel
theorem dX12_isDigit_7 : decode cX12_isDigit 7 = .ok (.bipush 57, 2) := by decide +kernel
theorem dX12_isDigit_9 : decode cX12_isDigit 9 = .ok (.if_icmp .gt 7, 3) := by decide +kernel
theorem dX12_isDigit_12 : decode cX12_isDigit 12 = .ok (.iconst 1, 1) := by decide +kernel
theorem dX12_isDigit_13 : decode cX12_isDigit 13 = .ok (.goto 4, 3) := by decide +kernel
theorem dX12_isDigit_16 : decode cX12_isDigit 16 = .ok (.iconst 0, 1) := by decide +kernel
theorem dX12_isDigit_17 : decode cX12_isDigit 17 = .ok (.ireturn, 1) := by decide +kernel
theorem dX12_isFixedWithout_0 : decode cX12_isFixedWithout 0 = .ok (.aload_n 0, 1) := by decide +kernel
theorem dX12_isFixedWithout_1 : decode cX12_isFixedWithout 1 = .ok (.getfield 305, 3) := by decide +kernel
theorem dX12_isFixedWithout_4 : decode cX12_isFixedWithout 4 = .ok (.istore 5, 2) := by decide +kernel
theorem dX12_isFixedWithout_6 : decode cX12_isFixedWithout 6 = .ok (.iconst 0, 1) := by decide +kernel
theorem dX12_isFixedWithout_7 : decode cX12_isFixedWithout 7 = .ok (.istore 6, 2) := by decide +kernel
theorem dX12_isFixedWithout_9 : decode cX12_isFixedWithout 9 = .ok (.iconst 0, 1) := by decide +kernel
theorem dX12_isFixedWithout_10 : decode cX12_isFixedWithout 10 = .ok (.istore 7, 2) := by decide +kernel
theorem dX12_isFixedWithout_12 : decode cX12_isFixedWithout 12 = .ok (.iload 7, 2) := by decide +kernel
theorem dX12_isFixedWithout_14 : decode cX12_isFixedWithout 14 = .ok (.iload 5, 2) := by decide +kernel
theorem dX12_isFixedWithout_16 : decode cX12_isFixedWithout 16 = .ok (.if_icmp .ge 87, 3) := by decide +kernel
theorem dX12_isFixedWithout_19 : decode cX12_isFixedWithout 19 = .ok (.aload_n 0, 1) := by decide +kernel
theorem dX12_isFixedWithout_20 : decode cX12_isFixedWithout 20 = .ok (.getfield 115, 3) := by decide +kernel
theorem dX12_isFixedWithout_23 : decode cX12_isFixedWithout 23 = .ok (.iload 7, 2) := by decide +kernel
theorem dX12_isFixedWithout_25 : decode cX12_isFixedWithout 25 = .ok (.aload_n 0, 1) := by decide +kernel
theorem dX12_isFixedWithout_26 : decode cX12_isFixedWithout 26 = .ok (.getfield 91, 3) := by decide +kernel
theorem dX12_isFixedWithout_29 : decode cX12_isFixedWithout 29 = .ok (.iload 7, 2) := by decide +kernel
theorem dX12_isFixedWithout_31 : decode cX12_isFixedWithout 31 = .ok (.iaload, 1) := by decide +kernel
theorem dX12_isFixedWithout_32 : decode cX12_isFixedWithout 32 = .ok (.iastore, 1) := by decide +kernel
theorem dX12_isFixedWithout_33 : decode cX12_isFixedWithout 33 = .ok (.aload_n 0, 1) := by decide +kernel
theorem dX12_isFixedWithout_34 : decode cX12_isFixedWithout 34 = .ok (.getfield 118, 3) := by decide +kernel
theorem dX12_isFixedWithout_37 : decode cX12_isFixedWithout 37 = .ok (.iload 7, 2) := by decide +kernel
theorem dX12_isFixedWithout_39 : decode cX12_isFixedWithout 39 = .ok (.aload_n 0, 1) := by decide +kernel
theorem dX12_isFixedWithout_40 : decode cX12_isFixedWithout 40 = .ok (.getfield 94, 3) := by decide +kernel
theorem dX12_isFixedWithout_43 : decode cX12_isFixedWithout 43 = .ok (.iload 7, 2) := by decide +kernel
theorem dX12_isFixedWithout_45 : decode cX12_isFixedWithout 45 = .ok (.iaload, 1) := by decide +kernel
theorem dX12_isFixedWithout_46 : decode cX12_isFixedWithout 46 = .ok (.iastore, 1) := by decide +kernel
theorem dX12_isFixedWithout_47 : decode cX12_isFixedWithout 47 = .ok (.iload 7, 2) := by decide +kernel
theorem dX12_isFixedWithout_49 : decode cX12_isFixedWithout 49 = .ok (.iload_n 2, 1) := by decide +kernel
theorem dX12_isFixedWithout_50 : decode cX12_isFixedWithout 50 = .ok (.if_icmp .eq 47, 3) := by decide +kernel
theorem dX12_isFixedWithout_53 : decode cX12_isFixedWithout 53 = .ok (.iload 7, 2) := by decide +kernel
theorem dX12_isFixedWithout_55 : decode cX12_isFixedWithout 55 = .ok (.iload_n 3, 1) := by decide +kernel
theorem dX12_isFixedWithout_56 : decode cX12_isFixedWithout 56 = .ok (.if_icmp .eq 41, 3) := by decide +kernel
theorem dX12_isFixedWithout_59 : decode cX12_isFixedWithout 59 = .ok (.iload 7, 2) := by decide +kernel
theorem dX12_isFixedWithout_61 : decode cX12_isFixedWithout 61 = .ok (.iload 4, 2) := by decide +kernel
theorem dX12_isFixedWithout_63 : decode cX12_isFixedWithout 63 = .ok (.if_icmp .eq 34, 3) := by decide +kernel
theorem dX12_isFixedWithout_66 : decode cX12_isFixedWithout 66 = .ok (.aload_n 0, 1) := by decide +kernel
theorem dX12_isFixedWithout_67 : decode cX12_isFixedWithout 67 = .ok (.getfield 91, 3) := by decide +kernel
theorem dX12_isFixedWithout_70 : decode cX12_isFixedWithout 70 = .ok (.iload 6, 2) := by decide +kernel
theorem dX12_isFixedWithout_72 : decode cX12_isFixedWithout 72 = .ok (.aload_n 0, 1) := by decide +kernel
theorem dX12_isFixedWithout_73 : decode cX12_isFixedWithout 73 = .ok (.getfield 91, 3) := by decide +kernel
theorem dX12_isFixedWithout_76 : decode cX12_isFixedWithout 76 = .ok (.iload 7, 2) := by decide +kernel
theorem dX12_isFixedWithout_78 : decode cX12_isFixedWithout 78 = .ok (.iaload, 1) := by decide +kernel
theorem dX12_isFixedWithout_79 : decode cX12_isFixedWithout 79 = .ok (.iastore, 1) := by decide +kernel
theorem dX12_isFixedWithout_80 : decode cX12_isFixedWithout 80 = .ok (.aload_n 0, 1) := by decide +kernel
theorem dX12_isFixedWithout_81 : decode cX12_isFixedWithout 81 = .ok (.getfield 94, 3) := by decide +kernel
theorem dX12_isFixedWithout_84 : decode cX12_isFixedWithout 84 = .ok (.iload 6, 2) := by decide +kernel
theorem dX12_isFixedWithout_86 : decode cX12_isFixedWithout 86 = .ok (.aload_n 0, 1) := by decide +kernel
theorem dX12_isFixedWithout_87 : decode cX12_isFixedWithout 87 = .ok (.getfield 94, 3) := by decide +kernel
theorem dX12_isFixedWithout_90 : decode cX12_isFixedWithout 90 = .ok (.iload 7, 2) := by decide +kernel
theorem dX12_isFixedWithout_92 : decode cX12_isFixedWithout 92 = .ok (.iaload, 1) := by decide +kernel
theorem dX12_isFixedWithout_93 : decode cX12_isFixedWithout 93 = .ok (.iastore, 1) := by decide +kernel
theorem dX12_isFixedWithout_94 : decode cX12_isFixedWithout 94 = .ok (.iinc 6 1, 3) := by decide +kernel
theorem dX12_isFixedWithout_97 : decode cX12_isFixedWithout 97 = .ok (.iinc 7 1, 3) := by decide +kernel
theorem dX12_isFixedWithout_100 : decode cX12_isFixedWithout 100 = .ok (.goto (-88), 3) := by decide +kernel
theorem dX12_isFixedWithout_103 : decode cX12_isFixedWithout 103 = .ok (.aload_n 0, 1) := by decide +kernel
theorem dX12_isFixedWithout_104 : decode cX12_isFixedWithout 104 = .ok (.iload 6, 2) := by decide +kernel
theorem dX12_isFixedWithout_106 : decode cX12_isFixedWithout 106 = .ok (.putfield 305, 3) := by decide +kernel
theorem dX12_isFixedWithout_109 : decode cX12_isFixedWithout 109 = .ok (.aload_n 0, 1) := by decide +kernel
theorem dX12_isFixedWithout_110 : decode cX12_isFixedWithout 110 = .ok (.invokevirtual 346, 3) := by decide +kernel
theorem dX12_isFixedWithout_113 : decode cX12_isFixedWithout 113 = .ok (.aload_n 0, 1) := by decide +kernel
theorem dX12_isFixedWithout_114 : decode cX12_isFixedWithout 114 = .ok (.iload_n 1, 1) := by decide +kernel
theorem dX12_isFixedWithout_115 : decode cX12_isFixedWithout 115 = .ok (.invokevirtual 330, 3) := by decide +kernel
theorem dX12_isFixedWithout_118 : decode cX12_isFixedWithout 118 = .ok (.istore 7, 2) := by decide +kernel
theorem dX12_isFixedWithout_120 : decode cX12_isFixedWithout 120 = .ok (.aload_n 0, 1) := by decide +kernel
theorem dX12_isFixedWithout_121 : decode cX12_isFixedWithout 121 = .ok (.iload 5, 2) := by decide +kernel
theorem dX12_isFixedWithout_123 : decode cX12_isFixedWithout 123 = .ok (.putfield 305, 3) := by decide +kernel
theorem dX12_isFixedWithout_126 : decode cX12_isFixedWithout 126 = .ok (.iconst 0, 1) := by decide +kernel
theorem dX12_isFixedWithout_127 : decode cX12_isFixedWithout 127 = .ok (.istore 8, 2) := by decide +kernel
theorem dX12_isFixedWithout_129 : decode cX12_isFixedWithout 129 = .ok (.iload 8, 2) := by decide +kernel
theorem dX12_isFixedWithout_131 : decode cX12_isFixedWithout 131 = .ok (.iload 5, 2) := by decide +kernel
theorem dX12_isFixedWithout_133 : decode cX12_isFixedWithout 133 = .ok (.if_icmp .ge 37, 3) := by decide +kernel
theorem dX12_isFixedWithout_136 : decode cX12_isFixedWithout 136 = .ok (.aload_n 0, 1) := by decide +kernel
theorem dX12_isFixedWithout_137 : decode cX12_isFixedWithout 137 = .ok (.getfield 91, 3) := by decide +kernel
theorem dX12_isFixedWithout_140 : decode cX12_isFixedWithout 140 = .ok (.iload 8, 2) := by decide +kernel
theorem dX12_isFixedWithout_142 : decode cX12_isFixedWithout 142 = .ok (.aload_n 0, 1) := by decide +kernel
theorem dX12_isFixedWithout_143 : decode cX12_isFixedWithout 143 = .ok (.getfield 115, 3) := by decide +kernel
theorem dX12_isFixedWithout_146 : decode cX12_isFixedWithout 146 = .ok (.iload 8, 2) := by decide +kernel
theorem dX12_isFixedWithout_148 : decode cX12_isFixedWithout 148 = .ok (.iaload, 1) := by decide +kernel
theorem dX12_isFixedWithout_149 : decode cX12_isFixedWithout 149 = .ok (.iastore, 1) := by decide +kernel
theorem dX12_isFixedWithout_150 : decode cX12_isFixedWithout 150 = .ok (.aload_n 0, 1) := by decide +kernel
theorem dX12_isFixedWithout_151 : decode cX12_isFixedWithout 151 = .ok (.getfield 94, 3) := by decide +kernel
theorem dX12_isFixedWithout_154 : decode cX12_isFixedWithout 154 = .ok (.iload 8, 2) := by decide +kernel
theorem dX12_isFixedWithout_156 : decode cX12_isFixedWithout 156 = .ok (.aload_n 0, 1) := by decide +kernel
theorem dX12_isFixedWithout_157 : decode cX12_isFixedWithout 157 = .ok (.getfield 118, 3) := by decide +kernel
theorem dX12_isFixedWithout_160 : decode cX12_isFixedWithout 160 = .ok (.iload 8, 2) := by decide +kernel
theorem dX12_isFixedWithout_162 : decode cX12_isFixedWithout 162 = .ok (.iaload, 1) := by decide +kernel
theorem dX12_isFixedWithout_163 : decode cX12_isFixedWithout 163 = .ok (.iastore, 1) := by decide +kernel
theorem dX12_isFixedWithout_164 : decode cX12_isFixedWithout 164 = .ok (.iinc 8 1, 3) := by decide +kernel
theorem dX12_isFixedWithout_167 : decode cX12_isFixedWithout 167 = .ok (.goto (-38), 3) := by decide +kernel
theorem dX12_isFixedWithout_170 : decode cX12_isFixedWithout 170 = .ok (.iload 7, 2) := by decide +kernel
theorem dX12_isFixedWithout_172 : decode cX12_isFixedWithout 172 = .ok (.ireturn, 1) := by decide +kernel
set_option maxHeartbeats 4000000 in
set_option maxRecDepth 100000 in
theorem s_X12_isFixedWithout {P : PP} {a0 : Nat} {a1 : Int32} {a2 : Int32} {a3 : Int32} {a4 : Int32} (I : IM P a0) (ha1 : 0 ≤ a1.toInt ∧ a1.toInt ≤ 19) : CtrI yX12_isFixedWithout cX12_isFixedWithout 9 (some Jvm.ClassFile.FieldType.boolean) ({ frames := 2, cells := 0, slots := 0, locals := 128 } : Room) 0 0 P [.ref a0, .int a1, .int a2, .int a3, .int a4] (fun r P2 => IM P2 a0 ∧ EM [28, 29, 30, 35, 36, 37, 38, 41, 42] a0 P P2 ∧ (0 ≤ r.toInt ∧ r.toInt ≤ 1)) := by
  refine enI (lv := [(0, .ref a0), (1, .int a1), (2, .int a2), (3, .int a3), (4, .int a4)]) (by decide) (Nat.le_of_ble_eq_true rfl) rfl (fun E D cy C Ci0 ret => ?_)
  have ha0 := I.2.1
  have J129 : ∀ (n129 : Nat) (P129 : PP) (v129_5 : Int32) (v129_7 : Int32) (v129_8 : Int32), (64 - v129_8.toInt).toNat < n129 → (IM P129 a0) → (EM [28, 29, 30, 35, 36, 37, 38, 41, 42] a0 P P129) → (0 ≤ v129_5.toInt ∧ v129_5.toInt ≤ 64) → (0 ≤ v129_7.toInt ∧ v129_7.toInt ≤ 1) → (0 ≤ v129_8.toInt ∧ v129_8.toInt ≤ 64) → G E ({ frames := 2, cells := 0, slots := 0, locals := 128 } : Room) D cy 9 P129 0 0 129 [(0, .ref a0), (5, .int v129_5), (7, .int v129_7), (8, .int v129_8)] [] := by
    intro n129
    induction n129 with
    | zero => intro P129 v129_5 v129_7 v129_8 hm129 I129 X129 hv129_5 hv129_7 hv129_8; omega
    | succ n129 ih129 =>
      intro P129 v129_5 v129_7 v129_8 hm129 I129 X129 hv129_5 hv129_7 hv129_8
      have h22399 := X129.at ha0
      refine g_iload C dX12_isFixedWithout_129 3 rfl ?_
      refine g_iload C dX12_isFixedWithout_131 1 rfl ?_
      refine b_icmp_ge C 170 dX12_isFixedWithout_133 (by decide) (fun h22400 => ?_) (fun h22400 => ?_)
      · have h22400 : v129_5.toInt ≤ v129_8.toInt := h22400
        refine g_iload C dX12_isFixedWithout_170 2 rfl ?_
        exact ret _ _ _ _ _ _ dX12_isFixedWithout_172 (nar_b (b01 (by omega))) (by decide) (by decide) ⟨I129, X129, (by omega)⟩
      · have h22400 : v129_8.toInt < v129_5.toInt := h22400
        refine g_aload_n C dX12_isFixedWithout_136 rfl 0 rfl ?_
        obtain ⟨b22401, e22402, h22403⟩ := I129.fld (h22399) 29 13 64 rfl
        refine g_getR C fi_X12_91 rfl e22402 (h22399).1 (h22399).2 dX12_isFixedWithout_137 ?_
        refine g_iload C dX12_isFixedWithout_140 3 rfl ?_
        refine g_aload_n C dX12_isFixedWithout_142 rfl 0 rfl ?_
        obtain ⟨b22404, e22405, h22406⟩ := I129.fld (h22399) 41 13 64 rfl
        refine g_getR C fi_X12_115 rfl e22405 (h22399).1 (h22399).2 dX12_isFixedWithout_143 ?_
        refine g_iload C dX12_isFixedWithout_146 3 rfl ?_
        refine g_iald (j := (v129_8.toInt.toNat)) C h22406.1 h22406.2.1 (ix_in h22406.2.2 (by omega)) dX12_isFixedWithout_148 ?_
        refine g_iast (j := (v129_8.toInt.toNat)) C h22403.1 h22403.2.1 (ix_in h22403.2.2 (by omega)) dX12_isFixedWithout_149 ?_
        refine gqW (ks := [29]) (I129.setA e22402 h22403 (by decide) (arOk.none rfl)) (EM.setA I129 e22402 rfl (by decide)) (fun Y22407 Iy22408 Xy22409 w22410 => ?_)
        have w22410 : (pI Y22407 b22401 (v129_8.toInt.toNat)).toInt = (pI P129 b22404 (v129_8.toInt.toNat)).toInt := w22410
        have Xz22411 : EM [28, 29, 30, 35, 36, 37, 38, 41, 42] a0 P Y22407 := EM.tr ha0 X129 (Xy22409.mono (by decide))
        have e22412 := Xy22409.ref h22399 (by decide) e22402
        have h22413 := Xy22409.at h22399
        have h22414 := Xy22409.ar h22403
        refine g_aload_n C dX12_isFixedWithout_150 rfl 0 rfl ?_
        obtain ⟨b22415, e22416, h22417⟩ := Iy22408.fld (h22413) 30 13 64 rfl
        refine g_getR C fi_X12_94 rfl e22416 (h22413).1 (h22413).2 dX12_isFixedWithout_151 ?_
        refine g_iload C dX12_isFixedWithout_154 3 rfl ?_
        refine g_aload_n C dX12_isFixedWithout_156 rfl 0 rfl ?_
        obtain ⟨b22418, e22419, h22420⟩ := Iy22408.fld (h22413) 42 13 64 rfl
        refine g_getR C fi_X12_118 rfl e22419 (h22413).1 (h22413).2 dX12_isFixedWithout_157 ?_
        refine g_iload C dX12_isFixedWithout_160 3 rfl ?_
        refine g_iald (j := (v129_8.toInt.toNat)) C h22420.1 h22420.2.1 (ix_in h22420.2.2 (by omega)) dX12_isFixedWithout_162 ?_
        refine g_iast (j := (v129_8.toInt.toNat)) C h22417.1 h22417.2.1 (ix_in h22417.2.2 (by omega)) dX12_isFixedWithout_163 ?_
        refine gqW (ks := [30]) (Iy22408.setA e22416 h22417 (by decide) (arOk.none rfl)) (EM.setA Iy22408 e22416 rfl (by decide)) (fun Y22421 Iy22422 Xy22423 w22424 => ?_)
        have w22424 : (pI Y22421 b22415 (v129_8.toInt.toNat)).toInt = (pI Y22407 b22418 (v129_8.toInt.toNat)).toInt := w22424
        have q22425 := Xy22423.keepA e22412 (by decide) rfl (v129_8.toInt.toNat)
        have Xz22426 : EM [28, 29, 30, 35, 36, 37, 38, 41, 42] a0 P Y22421 := EM.tr ha0 Xz22411 (Xy22423.mono (by decide))
        have e22427 := Xy22423.ref h22413 (by decide) e22412
        have e22428 := Xy22423.ref h22413 (by decide) e22416
        have h22429 := Xy22423.at h22413
        have h22430 := Xy22423.ar h22414
        have h22431 := Xy22423.ar h22417
        refine s_iinc (lv0 := [(0, .ref a0), (5, .int v129_5), (7, .int v129_7)]) (m := 1) C dX12_isFixedWithout_164 3 rfl (by decide) rfl (by decide) (by omega) (fun z22432 h22433 => ?_)
        have h22433 : z22432.toInt = v129_8.toInt + 1 := h22433
        refine g_goto C 129 dX12_isFixedWithout_167 (by decide) ?_
        refine g_lv (lv' := [(0, .ref a0), (5, .int v129_5), (7, .int v129_7), (8, .int z22432)]) [1, 2, 3, 0] rfl ?_
        exact ih129 Y22421 v129_5 v129_7 z22432 (by omega) Iy22422 Xz22426 (by omega) (by omega) (by omega)
  have J12 : ∀ (n12 : Nat) (P12 : PP) (v12_5 : Int32) (v12_6 : Int32) (v12_7 : Int32), (64 - v12_7.toInt).toNat < n12 → (IM P12 a0) → (EM [28, 29, 30, 35, 36, 37, 38, 41, 42] a0 P P12) → (0 ≤ v12_5.toInt ∧ v12_5.toInt ≤ 64) → (0 ≤ v12_6.toInt ∧ v12_6.toInt ≤ 64) → (0 ≤ v12_7.toInt ∧ v12_7.toInt ≤ 64) → (v12_6.toInt ≤ v12_7.toInt) → G E ({ frames := 2, cells := 0, slots := 0, locals := 128 } : Room) D cy 9 P12 0 0 12 [(0, .ref a0), (1, .int a1), (2, .int a2), (3, .int a3), (4, .int a4), (5, .int v12_5), (6, .int v12_6), (7, .int v12_7)] [] := by
    intro n12
    induction n12 with
    | zero => intro P12 v12_5 v12_6 v12_7 hm12 I12 X12 hv12_5 hv12_6 hv12_7 rel12_0; omega
    | succ n12 ih12 =>
      intro P12 v12_5 v12_6 v12_7 hm12 I12 X12 hv12_5 hv12_6 hv12_7 rel12_0
      have h22434 := X12.at ha0
      have J97 : ∀ (P97 : PP) (v97_6 : Int32), (IM P97 a0) → (EM [28, 29, 30, 35, 36, 37, 38, 41, 42] a0 P P97) → (1 ≤ v12_5.toInt ∧ v12_5.toInt ≤ 64) → (0 ≤ v97_6.toInt ∧ v97_6.toInt ≤ 64) → (0 ≤ v12_7.toInt ∧ v12_7.toInt ≤ 63) → (v97_6.toInt ≤ v12_7.toInt + 1) → G E ({ frames := 2, cells := 0, slots := 0, locals := 128 } : Room) D cy 9 P97 0 0 97 [(0, .ref a0), (1, .int a1), (2, .int a2), (3, .int a3), (4, .int a4), (5, .int v12_5), (6, .int v97_6), (7, .int v12_7)] [] := by
        intro P97 v97_6 I97 X97 hv97_5 hv97_6 hv97_7 rel97_0
        have h22435 := X97.at ha0
        refine s_iinc (lv0 := [(0, .ref a0), (1, .int a1), (2, .int a2), (3, .int a3), (4, .int a4), (5, .int v12_5), (6, .int v97_6)]) (m := 1) C dX12_isFixedWithout_97 7 rfl (by decide) rfl (by decide) (by omega) (fun z22436 h22437 => ?_)
        have h22437 : z22436.toInt = v12_7.toInt + 1 := h22437
        refine g_goto C 12 dX12_isFixedWithout_100 (by decide) ?_
        refine g_lv (lv' := [(0, .ref a0), (1, .int a1), (2, .int a2), (3, .int a3), (4, .int a4), (5, .int v12_5), (6, .int v97_6), (7, .int z22436)]) [1, 2, 3, 4, 5, 6, 7, 0] rfl ?_
        exact ih12 P97 v12_5 v97_6 z22436 (by omega) I97 X97 (by omega) (by omega) (by omega) (by show v97_6.toInt ≤ z22436.toInt; omega)
      refine g_iload C dX12_isFixedWithout_12 7 rfl ?_
      refine g_iload C dX12_isFixedWithout_14 5 rfl ?_
      refine b_icmp_ge C 103 dX12_isFixedWithout_16 (by decide) (fun h22438 => ?_) (fun h22438 => ?_)
      · have h22438 : v12_5.toInt ≤ v12_7.toInt := h22438
        refine g_aload_n C dX12_isFixedWithout_103 rfl 0 rfl ?_
        refine g_iload C dX12_isFixedWithout_104 6 rfl ?_
        refine g_putI C fi_X12_305 rfl (h22434).1 (h22434).2 dX12_isFixedWithout_106 ?_
        refine gqW (ks := [28]) (I12.setI (rgOk.of rfl (by omega))) (EM.setI I12 (by decide)) (fun Y22439 Iy22440 Xy22441 w22442 => ?_)
        have w22442 : (pI Y22439 a0 28).toInt = v12_6.toInt := w22442
        have Xz22443 : EM [28, 29, 30, 35, 36, 37, 38, 41, 42] a0 P Y22439 := EM.tr ha0 X12 (Xy22441.mono (by decide))
        have h22444 := Xy22441.at h22434
        refine g_aload_n C dX12_isFixedWithout_109 rfl 0 rfl ?_
        refine g_callVV (rest := []) C mv_X12_346 [] (s_X12_findSolved Iy22440) (h22444).1 (h22444).2 rfl rfl (by decide) (Nat.le_of_ble_eq_true rfl) (by decide) dX12_isFixedWithout_110 (fun Y22446 h22447 => ?_)
        obtain ⟨Iy22448, Xy22449⟩ := h22447
        have q22450 := Xy22449.keepF 28 (by decide)
        have Xz22451 : EM [28, 29, 30, 35, 36, 37, 38, 41, 42] a0 P Y22446 := EM.tr ha0 Xz22443 (Xy22449.mono (by decide))
        have h22452 := Xy22449.at h22444
        refine g_aload_n C dX12_isFixedWithout_113 rfl 0 rfl ?_
        refine g_iload_n C dX12_isFixedWithout_114 rfl 1 rfl ?_
        refine g_callVI (rest := []) C mv_X12_330 [.int a1] (s_X12_isFixed Iy22448 (by omega)) (h22452).1 (h22452).2 rfl rfl (by decide) (Nat.le_of_ble_eq_true rfl) (by decide) dX12_isFixedWithout_115 (fun r22453 Y22454 h22455 => ?_)
        obtain ⟨rfl, h22455⟩ := h22455
        have h22455 : 0 ≤ r22453.toInt ∧ r22453.toInt ≤ 1 := h22455
        refine g_istore (lv' := [(7, .int r22453), (0, .ref a0), (1, .int a1), (2, .int a2), (3, .int a3), (4, .int a4), (5, .int v12_5), (6, .int v12_6)]) C dX12_isFixedWithout_118 (by decide) rfl ?_
        refine g_aload_n C dX12_isFixedWithout_120 rfl 1 rfl ?_
        refine g_iload C dX12_isFixedWithout_121 6 rfl ?_
        refine g_putI C fi_X12_305 rfl (h22452).1 (h22452).2 dX12_isFixedWithout_123 ?_
        refine gqW (ks := [28]) (Iy22448.setI (rgOk.of rfl (by omega))) (EM.setI Iy22448 (by decide)) (fun Y22456 Iy22457 Xy22458 w22459 => ?_)
        have w22459 : (pI Y22456 a0 28).toInt = v12_5.toInt := w22459
        have Xz22460 : EM [28, 29, 30, 35, 36, 37, 38, 41, 42] a0 P Y22456 := EM.tr ha0 Xz22451 (Xy22458.mono (by decide))
        have h22461 := Xy22458.at h22452
        refine g_iconst (v := 0) C dX12_isFixedWithout_126 (by decide) ?_
        refine g_istore (lv' := [(8, .int 0), (7, .int r22453), (0, .ref a0), (1, .int a1), (2, .int a2), (3, .int a3), (4, .int a4), (5, .int v12_5), (6, .int v12_6)]) C dX12_isFixedWithout_127 (by decide) rfl ?_
        refine g_lv (lv' := [(0, .ref a0), (5, .int v12_5), (7, .int r22453), (8, .int 0)]) [2, 7, 1, 0] rfl ?_
        exact J129 _ Y22456 v12_5 r22453 0 (Nat.lt_succ_self _) Iy22457 Xz22460 (by omega) (by omega) (by decide)
      · have h22438 : v12_7.toInt < v12_5.toInt := h22438
        refine g_aload_n C dX12_isFixedWithout_19 rfl 0 rfl ?_
        obtain ⟨b22462, e22463, h22464⟩ := I12.fld (h22434) 41 13 64 rfl
        refine g_getR C fi_X12_115 rfl e22463 (h22434).1 (h22434).2 dX12_isFixedWithout_20 ?_
        refine g_iload C dX12_isFixedWithout_23 7 rfl ?_
        refine g_aload_n C dX12_isFixedWithout_25 rfl 0 rfl ?_
        obtain ⟨b22465, e22466, h22467⟩ := I12.fld (h22434) 29 13 64 rfl
        refine g_getR C fi_X12_91 rfl e22466 (h22434).1 (h22434).2 dX12_isFixedWithout_26 ?_
        refine g_iload C dX12_isFixedWithout_29 7 rfl ?_
        refine g_iald (j := (v12_7.toInt.toNat)) C h22467.1 h22467.2.1 (ix_in h22467.2.2 (by omega)) dX12_isFixedWithout_31 ?_
        refine g_iast (j := (v12_7.toInt.toNat)) C h22464.1 h22464.2.1 (ix_in h22464.2.2 (by omega)) dX12_isFixedWithout_32 ?_
        refine gqW (ks := [41]) (I12.setA e22463 h22464 (by decide) (arOk.none rfl)) (EM.setA I12 e22463 rfl (by decide)) (fun Y22468 Iy22469 Xy22470 w22471 => ?_)
        have w22471 : (pI Y22468 b22462 (v12_7.toInt.toNat)).toInt = (pI P12 b22465 (v12_7.toInt.toNat)).toInt := w22471
        have Xz22472 : EM [28, 29, 30, 35, 36, 37, 38, 41, 42] a0 P Y22468 := EM.tr ha0 X12 (Xy22470.mono (by decide))
        have e22473 := Xy22470.ref h22434 (by decide) e22463
        have h22474 := Xy22470.at h22434
        have h22475 := Xy22470.ar h22464
        refine g_aload_n C dX12_isFixedWithout_33 rfl 0 rfl ?_
        obtain ⟨b22476, e22477, h22478⟩ := Iy22469.fld (h22474) 42 13 64 rfl
        refine g_getR C fi_X12_118 rfl e22477 (h22474).1 (h22474).2 dX12_isFixedWithout_34 ?_
        refine g_iload C dX12_isFixedWithout_37 7 rfl ?_
        refine g_aload_n C dX12_isFixedWithout_39 rfl 0 rfl ?_
        obtain ⟨b22479, e22480, h22481⟩ := Iy22469.fld (h22474) 30 13 64 rfl
        refine g_getR C fi_X12_94 rfl e22480 (h22474).1 (h22474).2 dX12_isFixedWithout_40 ?_
        refine g_iload C dX12_isFixedWithout_43 7 rfl ?_
        refine g_iald (j := (v12_7.toInt.toNat)) C h22481.1 h22481.2.1 (ix_in h22481.2.2 (by omega)) dX12_isFixedWithout_45 ?_
        refine g_iast (j := (v12_7.toInt.toNat)) C h22478.1 h22478.2.1 (ix_in h22478.2.2 (by omega)) dX12_isFixedWithout_46 ?_
        refine gqW (ks := [42]) (Iy22469.setA e22477 h22478 (by decide) (arOk.none rfl)) (EM.setA Iy22469 e22477 rfl (by decide)) (fun Y22482 Iy22483 Xy22484 w22485 => ?_)
        have w22485 : (pI Y22482 b22476 (v12_7.toInt.toNat)).toInt = (pI Y22468 b22479 (v12_7.toInt.toNat)).toInt := w22485
        have q22486 := Xy22484.keepA e22473 (by decide) rfl (v12_7.toInt.toNat)
        have Xz22487 : EM [28, 29, 30, 35, 36, 37, 38, 41, 42] a0 P Y22482 := EM.tr ha0 Xz22472 (Xy22484.mono (by decide))
        have e22488 := Xy22484.ref h22474 (by decide) e22473
        have e22489 := Xy22484.ref h22474 (by decide) e22477
        have h22490 := Xy22484.at h22474
        have h22491 := Xy22484.ar h22475
        have h22492 := Xy22484.ar h22478
        refine g_iload C dX12_isFixedWithout_47 7 rfl ?_
        refine g_iload_n C dX12_isFixedWithout_49 rfl 2 rfl ?_
        have u22494 := ti_rng a2
        refine b_icmp_eq C 97 dX12_isFixedWithout_50 (by decide) (fun h22493 => ?_) (fun h22493 => ?_)
        · have h22493 : v12_7.toInt = a2.toInt := congrArg Int32.toInt h22493
          exact J97 Y22482 v12_6 Iy22483 Xz22487 (by omega) (by omega) (by omega) (by show v12_6.toInt ≤ v12_7.toInt + 1; omega)
        · have h22493 : v12_7.toInt ≠ a2.toInt := ti_ne h22493
          refine g_iload C dX12_isFixedWithout_53 7 rfl ?_
          refine g_iload_n C dX12_isFixedWithout_55 rfl 3 rfl ?_
          have u22496 := ti_rng a3
          refine b_icmp_eq C 97 dX12_isFixedWithout_56 (by decide) (fun h22495 => ?_) (fun h22495 => ?_)
          · have h22495 : v12_7.toInt = a3.toInt := congrArg Int32.toInt h22495
            exact J97 Y22482 v12_6 Iy22483 Xz22487 (by omega) (by omega) (by omega) (by show v12_6.toInt ≤ v12_7.toInt + 1; omega)
          · have h22495 : v12_7.toInt ≠ a3.toInt := ti_ne h22495
            refine g_iload C dX12_isFixedWithout_59 7 rfl ?_
            refine g_iload C dX12_isFixedWithout_61 4 rfl ?_
            have u22498 := ti_rng a4
            refine b_icmp_eq C 97 dX12_isFixedWithout_63 (by decide) (fun h22497 => ?_) (fun h22497 => ?_)
            · have h22497 : v12_7.toInt = a4.toInt := congrArg Int32.toInt h22497
              exact J97 Y22482 v12_6 Iy22483 Xz22487 (by omega) (by omega) (by omega) (by show v12_6.toInt ≤ v12_7.toInt + 1; omega)
            · have h22497 : v12_7.toInt ≠ a4.toInt := ti_ne h22497
              refine g_aload_n C dX12_isFixedWithout_66 rfl 0 rfl ?_
              obtain ⟨b22499, e22500, h22501⟩ := Iy22483.fld (h22490) 29 13 64 rfl
              refine g_getR C fi_X12_91 rfl e22500 (h22490).1 (h22490).2 dX12_isFixedWithout_67 ?_
              refine g_iload C dX12_isFixedWithout_70 6 rfl ?_
              refine g_aload_n C dX12_isFixedWithout_72 rfl 0 rfl ?_
              refine g_getR C fi_X12_91 rfl e22500 (h22490).1 (h22490).2 dX12_isFixedWithout_73 ?_
              refine g_iload C dX12_isFixedWithout_76 7 rfl ?_
              refine g_iald (j := (v12_7.toInt.toNat)) C h22501.1 h22501.2.1 (ix_in h22501.2.2 (by omega)) dX12_isFixedWithout_78 ?_
              refine g_iast (j := (v12_6.toInt.toNat)) C h22501.1 h22501.2.1 (ix_in h22501.2.2 (by omega)) dX12_isFixedWithout_79 ?_
              refine gqW (ks := [29]) (Iy22483.setA e22500 h22501 (by decide) (arOk.none rfl)) (EM.setA Iy22483 e22500 rfl (by decide)) (fun Y22502 Iy22503 Xy22504 w22505 => ?_)
              have w22505 : (pI Y22502 b22499 (v12_6.toInt.toNat)).toInt = (pI Y22482 b22499 (v12_7.toInt.toNat)).toInt := w22505
              have q22506 := Xy22504.keepA e22488 (by decide) rfl (v12_7.toInt.toNat)
              have q22507 := Xy22504.keepA e22489 (by decide) rfl (v12_7.toInt.toNat)
              have Xz22508 : EM [28, 29, 30, 35, 36, 37, 38, 41, 42] a0 P Y22502 := EM.tr ha0 Xz22487 (Xy22504.mono (by decide))
              have e22509 := Xy22504.ref h22490 (by decide) e22488
              have e22510 := Xy22504.ref h22490 (by decide) e22489
              have e22511 := Xy22504.ref h22490 (by decide) e22500
              have h22512 := Xy22504.at h22490
              have h22513 := Xy22504.ar h22491
              have h22514 := Xy22504.ar h22492
              have h22515 := Xy22504.ar h22501
              refine g_aload_n C dX12_isFixedWithout_80 rfl 0 rfl ?_
              obtain ⟨b22516, e22517, h22518⟩ := Iy22503.fld (h22512) 30 13 64 rfl
              refine g_getR C fi_X12_94 rfl e22517 (h22512).1 (h22512).2 dX12_isFixedWithout_81 ?_
              refine g_iload C dX12_isFixedWithout_84 6 rfl ?_
              refine g_aload_n C dX12_isFixedWithout_86 rfl 0 rfl ?_
              refine g_getR C fi_X12_94 rfl e22517 (h22512).1 (h22512).2 dX12_isFixedWithout_87 ?_
              refine g_iload C dX12_isFixedWithout_90 7 rfl ?_
              refine g_iald (j := (v12_7.toInt.toNat)) C h22518.1 h22518.2.1 (ix_in h22518.2.2 (by omega)) dX12_isFixedWithout_92 ?_
              refine g_iast (j := (v12_6.toInt.toNat)) C h22518.1 h22518.2.1 (ix_in h22518.2.2 (by omega)) dX12_isFixedWithout_93 ?_
              refine gqW (ks := [30]) (Iy22503.setA e22517 h22518 (by decide) (arOk.none rfl)) (EM.setA Iy22503 e22517 rfl (by decide)) (fun Y22519 Iy22520 Xy22521 w22522 => ?_)
              have w22522 : (pI Y22519 b22516 (v12_6.toInt.toNat)).toInt = (pI Y22502 b22516 (v12_7.toInt.toNat)).toInt := w22522
              have q22523 := Xy22521.keepA e22509 (by decide) rfl (v12_7.toInt.toNat)
              have q22524 := Xy22521.keepA e22510 (by decide) rfl (v12_7.toInt.toNat)
              have q22525 := Xy22521.keepA e22511 (by decide) rfl (v12_6.toInt.toNat)
              have Xz22526 : EM [28, 29, 30, 35, 36, 37, 38, 41, 42] a0 P Y22519 := EM.tr ha0 Xz22508 (Xy22521.mono (by decide))
              have e22527 := Xy22521.ref h22512 (by decide) e22509
              have e22528 := Xy22521.ref h22512 (by decide) e22510
              have e22529 := Xy22521.ref h22512 (by decide) e22511
              have e22530 := Xy22521.ref h22512 (by decide) e22517
              have h22531 := Xy22521.at h22512
              have h22532 := Xy22521.ar h22513
              have h22533 := Xy22521.ar h22514
              have h22534 := Xy22521.ar h22515
              have h22535 := Xy22521.ar h22518
              refine s_iinc (lv0 := [(0, .ref a0), (1, .int a1), (2, .int a2), (3, .int a3), (4, .int a4), (5, .int v12_5), (7, .int v12_7)]) (m := 1) C dX12_isFixedWithout_94 6 rfl (by decide) rfl (by decide) (by omega) (fun z22536 h22537 => ?_)
              have h22537 : z22536.toInt = v12_6.toInt + 1 := h22537
              refine g_lv (lv' := [(0, .ref a0), (1, .int a1), (2, .int a2), (3, .int a3), (4, .int a4), (5, .int v12_5), (6, .int z22536), (7, .int v12_7)]) [1, 2, 3, 4, 5, 6, 0, 7] rfl ?_
              exact J97 Y22519 z22536 Iy22520 Xz22526 (by omega) (by omega) (by omega) (by show z22536.toInt ≤ v12_7.toInt + 1; omega)
  refine g_aload_n C dX12_isFixedWithout_0 rfl 0 rfl ?_
  refine g_getI C fi_X12_305 (by decide) (ha0).1 (ha0).2 dX12_isFixedWithout_1 ?_
  have h22538 := I.rg (ha0) 28 rfl
  refine g_topi (fun z22539 h22540 => ?_)
  have h22540 : z22539.toInt = (pI P a0 28).toInt := congrArg Int32.toInt h22540
  refine g_istore (lv' := [(5, .int z22539), (0, .ref a0), (1, .int a1), (2, .int a2), (3, .int a3), (4, .int a4)]) C dX12_isFixedWithout_4 (by decide) rfl ?_
  refine g_iconst (v := 0) C dX12_isFixedWithout_6 (by decide) ?_
  refine g_istore (lv' := [(6, .int 0), (5, .int z22539), (0, .ref a0), (1, .int a1), (2, .int a2), (3, .int a3), (4, .int a4)]) C dX12_isFixedWithout_7 (by decide) rfl ?_
  refine g_iconst (v := 0) C dX12_isFixedWithout_9 (by decide) ?_
  refine g_istore (lv' := [(7, .int 0), (6, .int 0), (5, .int z22539), (0, .ref a0), (1, .int a1), (2, .int a2), (3, .int a3), (4, .int a4)]) C dX12_isFixedWithout_10 (by decide) rfl ?_
  refine g_lv (lv' := [(0, .ref a0), (1, .int a1), (2, .int a2), (3, .int a3), (4, .int a4), (5, .int z22539), (6, .int 0), (7, .int 0)]) [3, 4, 5, 6, 7, 2, 1, 0] rfl ?_
  exact J12 _ P z22539 0 0 (Nat.lt_succ_self _) I EM.rf (by omega) (by decide) (by decide) (by show 0 ≤ 0; omega)
theorem dX12_isSign_0 : decode cX12_isSign 0 = .ok (.aload_n 0, 1) := by decide +kernel
theorem dX12_isSign_1 : decode cX12_isSign 1 = .ok (.getfield 162, 3) := by decide +kernel
theorem dX12_isSign_4 : decode cX12_isSign 4 = .ok (.ifCond .ne 35, 3) := by decide +kernel
theorem dX12_isSign_7 : decode cX12_isSign 7 = .ok (.aload_n 0, 1) := by decide +kernel
theorem dX12_isSign_8 : decode cX12_isSign 8 = .ok (.getfield 24, 3) := by decide +kernel
theorem dX12_isSign_11 : decode cX12_isSign 11 = .ok (.aload_n 0, 1) := by decide +kernel
theorem dX12_isSign_12 : decode cX12_isSign 12 = .ok (.getfield 159, 3) := by decide +kernel
theorem dX12_isSign_15 : decode cX12_isSign 15 = .ok (.iaload, 1) := by decide +kernel
theorem dX12_isSign_16 : decode cX12_isSign 16 = .ok (.iconst 3, 1) := by decide +kernel
theorem dX12_isSign_17 : decode cX12_isSign 17 = .ok (.if_icmp .ne 22, 3) := by decide +kernel
theorem dX12_isSign_20 : decode cX12_isSign 20 = .ok (.aload_n 0, 1) := by decide +kernel
theorem dX12_isSign_21 : decode cX12_isSign 21 = .ok (.getfield 30, 3) := by decide +kernel
theorem dX12_isSign_24 : decode cX12_isSign 24 = .ok (.aload_n 0, 1) := by decide +kernel
theorem dX12_isSign_25 : decode cX12_isSign 25 = .ok (.getfield 159, 3) := by decide +kernel
theorem dX12_isSign_28 : decode cX12_isSign 28 = .ok (.laload, 1) := by decide +kernel
theorem dX12_isSign_29 : decode cX12_isSign 29 = .ok (.iload_n 1, 1) := by decide +kernel
theorem dX12_isSign_30 : decode cX12_isSign 30 = .ok (.i2l, 1) := by decide +kernel
theorem dX12_isSign_31 : decode cX12_isSign 31 = .ok (.lcmp, 1) := by decide +kernel
theorem dX12_isSign_32 : decode cX12_isSign 32 = .ok (.ifCond .ne 7, 3) := by decide +kernel
theorem dX12_isSign_35 : decode cX12_isSign 35 = .ok (.iconst 1, 1) := by decide +kernel
theorem dX12_isSign_36 : decode cX12_isSign 36 = .ok (.goto 4, 3) := by decide +kernel
theorem dX12_isSign_39 : decode cX12_isSign 39 = .ok (.iconst 0, 1) := by decide +kernel
theorem dX12_isSign_40 : decode cX12_isSign 40 = .ok (.ireturn, 1) := by decide +kernel
set_option maxHeartbeats 4000000 in
set_option maxRecDepth 100000 in
theorem s_X12_isSign {P : PP} {a0 : Nat} {a1 : Int32} (I : IM P a0) : CtrI yX12_isSign cX12_isSign 2 (some Jvm.ClassFile.FieldType.boolean) ({ frames := 1, cells := 0, slots := 0, locals := 64 } : Room) 0 0 P [.ref a0, .int a1] (fun r P2 => P = P2 ∧ (0 ≤ r.toInt ∧ r.toInt ≤ 1)) := by
  refine enI (lv := [(0, .ref a0), (1, .int a1)]) (by decide) (Nat.le_of_ble_eq_true rfl) rfl (fun E D cy C Ci0 ret => ?_)
  have ha0 := I.2.1
  have J39 : (0 ≤ (pI P a0 8).toInt ∧ (pI P a0 8).toInt ≤ 16005) → G E ({ frames := 1, cells := 0, slots := 0, locals := 64 } : Room) D cy 2 P 0 0 39 [] [] := by
    intro hq39_0
    refine g_iconst (v := 0) C dX12_isSign_39 (by decide) ?_
    exact ret _ _ _ _ _ _ dX12_isSign_40 rfl (by decide) (by decide) ⟨rfl, (by decide)⟩
  refine g_aload_n C dX12_isSign_0 rfl 0 rfl ?_
  refine g_getI C fi_X12_162 (by decide) (ha0).1 (ha0).2 dX12_isSign_1 ?_
  have h22557 := I.rg (ha0) 8 rfl
  refine b_if_ne C 39 dX12_isSign_4 (by decide) (fun h22558 => ?_) (fun h22558 => ?_)
  · have h22558 : (pI P a0 8).toInt ≠ 0 := ti_ne h22558
    refine g_lv (lv' := []) [] rfl ?_
    exact J39 (by omega)
  · have h22558 : (pI P a0 8).toInt = 0 := congrArg Int32.toInt h22558
    refine g_aload_n C dX12_isSign_7 rfl 0 rfl ?_
    obtain ⟨b22559, e22560, h22561⟩ := I.fld (ha0) 4 13 1002 rfl
    refine g_getR C fi_X12_24 rfl e22560 (ha0).1 (ha0).2 dX12_isSign_8 ?_
    refine g_aload_n C dX12_isSign_11 rfl 0 rfl ?_
    refine g_getI C fi_X12_159 (by decide) (ha0).1 (ha0).2 dX12_isSign_12 ?_
    have h22562 := I.rg (ha0) 7 rfl
    refine g_iald (j := ((pI P a0 7).toInt.toNat)) C h22561.1 h22561.2.1 (ix_in h22561.2.2 (by omega)) dX12_isSign_15 ?_
    have h22563 := I.arr e22560 rfl ((pI P a0 7).toInt.toNat)
    refine g_iconst (v := 3) C dX12_isSign_16 (by decide) ?_
    refine b_icmp_ne C 39 dX12_isSign_17 (by decide) (fun h22564 => ?_) (fun h22564 => ?_)
    · have h22564 : (pI P b22559 ((pI P a0 7).toInt.toNat)).toInt ≠ 3 := ti_ne h22564
      refine g_lv (lv' := []) [] rfl ?_
      exact J39 (by omega)
    · have h22564 : (pI P b22559 ((pI P a0 7).toInt.toNat)).toInt = 3 := congrArg Int32.toInt h22564
      refine g_aload_n C dX12_isSign_20 rfl 0 rfl ?_
      obtain ⟨b22565, e22566, h22567⟩ := I.fld (ha0) 6 14 1002 rfl
      refine g_getR C fi_X12_30 rfl e22566 (ha0).1 (ha0).2 dX12_isSign_21 ?_
      refine g_aload_n C dX12_isSign_24 rfl 0 rfl ?_
      refine g_getI C fi_X12_159 (by decide) (ha0).1 (ha0).2 dX12_isSign_25 ?_
      refine g_lald (j := ((pI P a0 7).toInt.toNat)) C h22567.1 h22567.2.1 (ix_in h22567.2.2 (by omega)) dX12_isSign_28 ?_
      refine g_topl (fun l22568 _ => ?_)
      refine g_iload_n C dX12_isSign_29 rfl 1 rfl ?_
      refine a_i2l C dX12_isSign_30 (fun l22569 => ?_)
      refine a_lcmp C dX12_isSign_31 (fun z22570 => ?_)
      have u22572 := ti_rng z22570
      refine b_if_ne C 39 dX12_isSign_32 (by decide) (fun h22571 => ?_) (fun h22571 => ?_)
      · have h22571 : z22570.toInt ≠ 0 := ti_ne h22571
        refine g_lv (lv' := []) [] rfl ?_
        exact J39 (by omega)
      · have h22571 : z22570.toInt = 0 := congrArg Int32.toInt h22571
        refine g_iconst (v := 1) C dX12_isSign_35 (by decide) ?_
        refine g_goto C 40 dX12_isSign_36 (by decide) ?_
        exact ret _ _ _ _ _ _ dX12_isSign_40 rfl (by decide) (by decide) ⟨rfl, (by decide)⟩
theorem dX12_isSignOf_0 : decode cX12_isSignOf 0 = .ok (.iload_n 0, 1) := by decide +kernel
theorem dX12_isSignOf_1 : decode cX12_isSignOf 1 = .ok (.bipush 59, 2) := by decide +kernel
theorem dX12_isSignOf_3 : decode cX12_isSignOf 3 = .ok (.if_icmp .ne 7, 3) := by decide +kernel
theorem dX12_isSignOf_6 : decode cX12_isSignOf 6 = .ok (.iconst 1, 1) := by decide +kernel
theorem dX12_isSignOf_7 : decode cX12_isSignOf 7 = .ok (.goto 4, 3) := by decide +kernel
theorem dX12_isSignOf_10 : decode cX12_isSignOf 10 = .ok (.iconst 0, 1) := by decide +kernel
theorem dX12_isSignOf_11 : decode cX12_isSignOf 11 = .ok (.ireturn, 1) := by decide +kernel
set_option maxHeartbeats 4000000 in
set_option maxRecDepth 100000 in
theorem s_X12_isSignOf {P : PP} {a0 : Int32} (I : IV P) : CtrI yX12_isSignOf cX12_isSignOf 1 (some Jvm.ClassFile.FieldType.boolean) ({ frames := 1, cells := 0, slots := 0, locals := 64 } : Room) 0 0 P [.int a0] (fun r P2 => P = P2 ∧ (0 ≤ r.toInt ∧ r.toInt ≤ 1) ∧ (r.toInt = 0 ∨ (((59 : Int) ≤ a0.toInt ∧ a0.toInt ≤ (59 : Int))))) := by
  refine enI (lv := [(0, .int a0)]) (by decide) (Nat.le_of_ble_eq_true rfl) rfl (fun E D cy C Ci0 ret => ?_)
  refine g_iload_n C dX12_isSignOf_0 rfl 0 rfl ?_
  refine g_bipush (v := 59) C dX12_isSignOf_1 (by decide) ?_
  have u22576 := ti_rng a0
  refine b_icmp_ne C 10 dX12_isSignOf_3 (by decide) (fun h22575 => ?_) (fun h22575 => ?_)
  · have h22575 : a0.toInt ≠ 59 := ti_ne h22575
    refine g_iconst (v := 0) C dX12_isSignOf_10 (by decide) ?_
    exact ret _ _ _ _ _ _ dX12_isSignOf_11 rfl (by decide) (by decide) ⟨rfl, (by decide), Or.inl rfl⟩
  · have h22575 : a0.toInt = 59 := congrArg Int32.toInt h22575
    refine g_iconst (v := 1) C dX12_isSignOf_6 (by decide) ?_
    refine g_goto C 11 dX12_isSignOf_7 (by decide) ?_
    exact ret _ _ _ _ _ _ dX12_isSignOf_11 rfl (by decide) (by decide) ⟨rfl, (by decide), Or.inr (by omega)⟩
theorem dX12_leaflet_0 : decode cX12_leaflet 0 = .ok (.aload_n 0, 1) := by decide +kernel
theorem dX12_leaflet_1 : decode cX12_leaflet 1 = .ok (.iconst 0, 1) := by decide +kernel
theorem dX12_leaflet_2 : decode cX12_leaflet 2 = .ok (.putfield 1, 3) := by decide +kernel
theorem dX12_leaflet_5 : decode cX12_leaflet 5 = .ok (.aload_n 0, 1) := by decide +kernel
theorem dX12_leaflet_6 : decode cX12_leaflet 6 = .ok (.iload_n 1, 1) := by decide +kernel
theorem dX12_leaflet_7 : decode cX12_leaflet 7 = .ok (.invokevirtual 192, 3) := by decide +kernel
theorem dX12_leaflet_10 : decode cX12_leaflet 10 = .ok (.ifCond .eq 19, 3) := by decide +kernel
theorem dX12_leaflet_13 : decode cX12_leaflet 13 = .ok (.iload_n 2, 1) := by decide +kernel
theorem dX12_leaflet_14 : decode cX12_leaflet 14 = .ok (.invokestatic 258, 3) := by decide +kernel
theorem dX12_leaflet_17 : decode cX12_leaflet 17 = .ok (.ifCond .eq 12, 3) := by decide +kernel
theorem dX12_leaflet_20 : decode cX12_leaflet 20 = .ok (.iload_n 3, 1) := by decide +kernel
theorem dX12_leaflet_21 : decode cX12_leaflet 21 = .ok (.iconst 0, 1) := by decide +kernel
theorem dX12_leaflet_22 : decode cX12_leaflet 22 = .ok (.iconst 3, 1) := by decide +kernel
theorem dX12_leaflet_23 : decode cX12_leaflet 23 = .ok (.invokestatic 178, 3) := by decide +kernel
theorem dX12_leaflet_26 : decode cX12_leaflet 26 = .ok (.ifCond .ne 5, 3) := by decide +kernel
theorem dX12_leaflet_31 : decode cX12_leaflet 31 = .ok (.aload_n 0, 1) := by decide +kernel
theorem dX12_leaflet_32 : decode cX12_leaflet 32 = .ok (.iload_n 1, 1) := by decide +kernel
theorem dX12_leaflet_33 : decode cX12_leaflet 33 = .ok (.iload_n 2, 1) := by decide +kernel
theorem dX12_leaflet_34 : decode cX12_leaflet 34 = .ok (.invokevirtual 261, 3) := by decide +kernel
theorem dX12_mark_0 : decode cX12_mark 0 = .ok (.aload_n 0, 1) := by decide +kernel
theorem dX12_mark_1 : decode cX12_mark 1 = .ok (.iconst 0, 1) := by decide +kernel
theorem dX12_mark_2 : decode cX12_mark 2 = .ok (.putfield 1, 3) := by decide +kernel
theorem dX12_mark_5 : decode cX12_mark 5 = .ok (.iload_n 1, 1) := by decide +kernel
theorem dX12_mark_6 : decode cX12_mark 6 = .ok (.iconst 0, 1) := by decide +kernel
theorem dX12_mark_7 : decode cX12_mark 7 = .ok (.iconst 3, 1) := by decide +kernel
theorem dX12_mark_8 : decode cX12_mark 8 = .ok (.invokestatic 178, 3) := by decide +kernel
theorem dX12_mark_11 : decode cX12_mark 11 = .ok (.ifCond .eq 16, 3) := by decide +kernel
theorem dX12_mark_14 : decode cX12_mark 14 = .ok (.iload_n 2, 1) := by decide +kernel
theorem dX12_mark_15 : decode cX12_mark 15 = .ok (.ifCond .eq 14, 3) := by decide +kernel
theorem dX12_mark_18 : decode cX12_mark 18 = .ok (.aload_n 0, 1) := by decide +kernel
theorem dX12_mark_19 : decode cX12_mark 19 = .ok (.getfield 87, 3) := by decide +kernel
theorem dX12_mark_22 : decode cX12_mark 22 = .ok (.iload_n 1, 1) := by decide +kernel
theorem dX12_mark_23 : decode cX12_mark 23 = .ok (.baload, 1) := by decide +kernel
theorem dX12_mark_24 : decode cX12_mark 24 = .ok (.ifCond .ne 5, 3) := by decide +kernel
theorem dX12_mark_27 : decode cX12_mark 27 = .ok (.iconst 0, 1) := by decide +kernel
theorem dX12_mark_28 : decode cX12_mark 28 = .ok (.ireturn, 1) := by decide +kernel
theorem dX12_mark_29 : decode cX12_mark 29 = .ok (.iconst 0, 1) := by decide +kernel
theorem dX12_mark_30 : decode cX12_mark 30 = .ok (.istore_n 3, 1) := by decide +kernel
theorem dX12_mark_31 : decode cX12_mark 31 = .ok (.iload_n 3, 1) := by decide +kernel
theorem dX12_mark_32 : decode cX12_mark 32 = .ok (.iconst 4, 1) := by decide +kernel
theorem dX12_mark_33 : decode cX12_mark 33 = .ok (.if_icmp .ge 43, 3) := by decide +kernel
theorem dX12_mark_36 : decode cX12_mark 36 = .ok (.aload_n 0, 1) := by decide +kernel
theorem dX12_mark_37 : decode cX12_mark 37 = .ok (.iload_n 2, 1) := by decide +kernel
theorem dX12_mark_38 : decode cX12_mark 38 = .ok (.ifCond .eq 13, 3) := by decide +kernel
theorem dX12_mark_41 : decode cX12_mark 41 = .ok (.iconst 4, 1) := by decide +kernel
theorem dX12_mark_42 : decode cX12_mark 42 = .ok (.iload_n 1, 1) := by decide +kernel
theorem dX12_mark_43 : decode cX12_mark 43 = .ok (.iconst 1, 1) := by decide +kernel
theorem dX12_mark_44 : decode cX12_mark 44 = .ok (.iadd, 1) := by decide +kernel
theorem dX12_mark_45 : decode cX12_mark 45 = .ok (.imul, 1) := by decide +kernel
theorem dX12_mark_46 : decode cX12_mark 46 = .ok (.iload_n 3, 1) := by decide +kernel
theorem dX12_mark_47 : decode cX12_mark 47 = .ok (.iadd, 1) := by decide +kernel
theorem dX12_mark_48 : decode cX12_mark 48 = .ok (.goto 4, 3) := by decide +kernel
theorem dX12_mark_51 : decode cX12_mark 51 = .ok (.iload_n 3, 1) := by decide +kernel
theorem dX12_mark_52 : decode cX12_mark 52 = .ok (.iload_n 2, 1) := by decide +kernel
theorem dX12_mark_53 : decode cX12_mark 53 = .ok (.ifCond .eq 7, 3) := by decide +kernel
theorem dX12_mark_56 : decode cX12_mark 56 = .ok (.iload_n 3, 1) := by decide +kernel
theorem dX12_mark_57 : decode cX12_mark 57 = .ok (.goto 10, 3) := by decide +kernel
theorem dX12_mark_60 : decode cX12_mark 60 = .ok (.iconst 4, 1) := by decide +kernel
theorem dX12_mark_61 : decode cX12_mark 61 = .ok (.iload_n 1, 1) := by decide +kernel
theorem dX12_mark_62 : decode cX12_mark 62 = .ok (.iconst 1, 1) := by decide +kernel
theorem dX12_mark_63 : decode cX12_mark 63 = .ok (.iadd, 1) := by decide +kernel
theorem dX12_mark_64 : decode cX12_mark 64 = .ok (.imul, 1) := by decide +kernel
theorem dX12_mark_65 : decode cX12_mark 65 = .ok (.iload_n 3, 1) := by decide +kernel
theorem dX12_mark_66 : decode cX12_mark 66 = .ok (.iadd, 1) := by decide +kernel
theorem dX12_mark_67 : decode cX12_mark 67 = .ok (.invokevirtual 302, 3) := by decide +kernel
theorem dX12_mark_70 : decode cX12_mark 70 = .ok (.iinc 3 1, 3) := by decide +kernel
theorem dX12_mark_73 : decode cX12_mark 73 = .ok (.goto (-42), 3) := by decide +kernel
theorem dX12_mark_76 : decode cX12_mark 76 = .ok (.aload_n 0, 1) := by decide +kernel
theorem dX12_mark_77 : decode cX12_mark 77 = .ok (.getfield 87, 3) := by decide +kernel
theorem dX12_mark_80 : decode cX12_mark 80 = .ok (.iload_n 1, 1) := by decide +kernel
theorem dX12_mark_81 : decode cX12_mark 81 = .ok (.iconst 1, 1) := by decide +kernel
theorem dX12_mark_82 : decode cX12_mark 82 = .ok (.bastore, 1) := by decide +kernel
theorem dX12_mark_83 : decode cX12_mark 83 = .ok (.iconst 1, 1) := by decide +kernel
theorem dX12_mark_84 : decode cX12_mark 84 = .ok (.ireturn, 1) := by decide +kernel
set_option maxHeartbeats 4000000 in
set_option maxRecDepth 100000 in
theorem s_X12_mark {P : PP} {a0 : Nat} {a1 : Int32} {a2 : Int32} (I : IM P a0) (ha2 : 0 ≤ a2.toInt ∧ a2.toInt ≤ 1) : CtrI yX12_mark cX12_mark 4 (some Jvm.ClassFile.FieldType.boolean) ({ frames := 3, cells := 0, slots := 0, locals := 192 } : Room) 0 0 P [.ref a0, .int a1, .int a2] (fun r P2 => IM P2 a0 ∧ EM [0, 20, 21, 22, 23, 24, 25, 26] a0 P P2 ∧ (0 ≤ r.toInt ∧ r.toInt ≤ 1) ∧ (r.toInt = 0 ∨ (((0 : Int) ≤ a1.toInt ∧ a1.toInt ≤ (3 : Int))))) := by
  refine enI (lv := [(0, .ref a0), (1, .int a1), (2, .int a2)]) (by decide) (Nat.le_of_ble_eq_true rfl) rfl (fun E D cy C Ci0 ret => ?_)
  have ha0 := I.2.1
  have J31 : ∀ (n31 : Nat) (P31 : PP) (v31_3 : Int32), (4 - v31_3.toInt).toNat < n31 → (IM P31 a0) → (EM [0, 20, 21, 22, 23, 24, 25, 26] a0 P P31) → (0 ≤ a1.toInt ∧ a1.toInt ≤ 3) → (0 ≤ v31_3.toInt ∧ v31_3.toInt ≤ 4) → (0 ≤ (pI P31 a0 0).toInt ∧ (pI P31 a0 0).toInt ≤ 0) → G E ({ frames := 3, cells := 0, slots := 0, locals := 192 } : Room) D cy 4 P31 0 0 31 [(0, .ref a0), (1, .int a1), (2, .int a2), (3, .int v31_3)] [] := by
    intro n31
    induction n31 with
    | zero => intro P31 v31_3 hm31 I31 X31 hv31_1 hv31_3 hq31_0; omega
    | succ n31 ih31 =>
      intro P31 v31_3 hm31 I31 X31 hv31_1 hv31_3 hq31_0
      have h22750 := X31.at ha0
      have J67 : ∀ (v67_s0 : Int32) (v67_s1 : Int32), (0 ≤ a1.toInt ∧ a1.toInt ≤ 3) → (0 ≤ v31_3.toInt ∧ v31_3.toInt ≤ 3) → (0 ≤ v67_s0.toInt ∧ v67_s0.toInt ≤ 19) → (0 ≤ v67_s1.toInt ∧ v67_s1.toInt ≤ 19) → (0 ≤ (pI P31 a0 0).toInt ∧ (pI P31 a0 0).toInt ≤ 0) → G E ({ frames := 3, cells := 0, slots := 0, locals := 192 } : Room) D cy 4 P31 0 0 67 [(0, .ref a0), (1, .int a1), (2, .int a2), (3, .int v31_3)] [.int v67_s0, .int v67_s1, .ref a0] := by
        intro v67_s0 v67_s1 hv67_1 hv67_3 hv67_s0 hv67_s1 hq67_0
        have h22751 := X31.at ha0
        refine g_callVV (rest := []) C mv_X12_302 [.int v67_s1, .int v67_s0] (s_X12_copies I31 (by omega) (by omega)) (h22751).1 (h22751).2 rfl rfl (by decide) (Nat.le_of_ble_eq_true rfl) (by decide) dX12_mark_67 (fun Y22753 h22754 => ?_)
        obtain ⟨Iy22755, Xy22756⟩ := h22754
        have q22757 := Xy22756.keepF 0 (by decide)
        have Xz22758 : EM [0, 20, 21, 22, 23, 24, 25, 26] a0 P Y22753 := EM.tr ha0 X31 (Xy22756.mono (by decide))
        have h22759 := Xy22756.at h22751
        refine s_iinc (lv0 := [(0, .ref a0), (1, .int a1), (2, .int a2)]) (m := 1) C dX12_mark_70 3 rfl (by decide) rfl (by decide) (by omega) (fun z22760 h22761 => ?_)
        have h22761 : z22760.toInt = v31_3.toInt + 1 := h22761
        refine g_goto C 31 dX12_mark_73 (by decide) ?_
        refine g_lv (lv' := [(0, .ref a0), (1, .int a1), (2, .int a2), (3, .int z22760)]) [1, 2, 3, 0] rfl ?_
        exact ih31 Y22753 z22760 (by omega) Iy22755 Xz22758 (by omega) (by omega) (by omega)
      have J52 : ∀ (v52_s0 : Int32), (0 ≤ a1.toInt ∧ a1.toInt ≤ 3) → (0 ≤ v31_3.toInt ∧ v31_3.toInt ≤ 3) → (0 ≤ v52_s0.toInt ∧ v52_s0.toInt ≤ 19) → (0 ≤ (pI P31 a0 0).toInt ∧ (pI P31 a0 0).toInt ≤ 0) → G E ({ frames := 3, cells := 0, slots := 0, locals := 192 } : Room) D cy 4 P31 0 0 52 [(0, .ref a0), (1, .int a1), (2, .int a2), (3, .int v31_3)] [.int v52_s0, .ref a0] := by
        intro v52_s0 hv52_1 hv52_3 hv52_s0 hq52_0
        have h22762 := X31.at ha0
        refine g_iload_n C dX12_mark_52 rfl 2 rfl ?_
        refine b_if_eq C 60 dX12_mark_53 (by decide) (fun h22763 => ?_) (fun h22763 => ?_)
        · have h22763 : a2.toInt = 0 := congrArg Int32.toInt h22763
          refine g_iconst (v := 4) C dX12_mark_60 (by decide) ?_
          refine g_iload_n C dX12_mark_61 rfl 1 rfl ?_
          refine g_iconst (v := 1) C dX12_mark_62 (by decide) ?_
          refine s_iadd C dX12_mark_63 (by show -2147483648 ≤ a1.toInt + 1 ∧ a1.toInt + 1 ≤ 2147483647; omega) (fun z22764 h22765 => ?_)
          have h22765 : z22764.toInt = a1.toInt + 1 := h22765
          refine s_imul C dX12_mark_64 (by show -2147483648 ≤ 4 * z22764.toInt ∧ 4 * z22764.toInt ≤ 2147483647; omega) (fun z22766 h22767 => ?_)
          have h22767 : z22766.toInt = 4 * z22764.toInt := h22767
          refine g_iload_n C dX12_mark_65 rfl 3 rfl ?_
          refine s_iadd C dX12_mark_66 (by show -2147483648 ≤ z22766.toInt + v31_3.toInt ∧ z22766.toInt + v31_3.toInt ≤ 2147483647; omega) (fun z22768 h22769 => ?_)
          have h22769 : z22768.toInt = z22766.toInt + v31_3.toInt := h22769
          exact J67 z22768 v52_s0 (by omega) (by omega) (by omega) (by omega) (by omega)
        · have h22763 : a2.toInt ≠ 0 := ti_ne h22763
          refine g_iload_n C dX12_mark_56 rfl 3 rfl ?_
          refine g_goto C 67 dX12_mark_57 (by decide) ?_
          exact J67 v31_3 v52_s0 (by omega) (by omega) (by omega) (by omega) (by omega)
      refine g_iload_n C dX12_mark_31 rfl 3 rfl ?_
      refine g_iconst (v := 4) C dX12_mark_32 (by decide) ?_
      refine b_icmp_ge C 76 dX12_mark_33 (by decide) (fun h22770 => ?_) (fun h22770 => ?_)
      · have h22770 : 4 ≤ v31_3.toInt := h22770
        refine g_aload_n C dX12_mark_76 rfl 0 rfl ?_
        obtain ⟨b22771, e22772, h22773⟩ := I31.fld (h22750) 26 15 4 rfl
        refine g_getR C fi_X12_87 rfl e22772 (h22750).1 (h22750).2 dX12_mark_77 ?_
        refine g_iload_n C dX12_mark_80 rfl 1 rfl ?_
        refine g_iconst (v := 1) C dX12_mark_81 (by decide) ?_
        refine g_zast (j := (a1.toInt.toNat)) C h22773.1 h22773.2.1 (ix_in h22773.2.2 (by omega)) (Or.inr rfl) dX12_mark_82 ?_
        refine gqW (ks := [26]) (I31.setA e22772 h22773 (by decide) (arOk.none rfl)) (EM.setA I31 e22772 rfl (by decide)) (fun Y22774 Iy22775 Xy22776 w22777 => ?_)
        have w22777 : (pI Y22774 b22771 (a1.toInt.toNat)).toInt = 1 := w22777
        have q22778 := Xy22776.keepF 0 (by decide)
        have Xz22779 : EM [0, 20, 21, 22, 23, 24, 25, 26] a0 P Y22774 := EM.tr ha0 X31 (Xy22776.mono (by decide))
        have e22780 := Xy22776.ref h22750 (by decide) e22772
        have h22781 := Xy22776.at h22750
        have h22782 := Xy22776.ar h22773
        refine g_iconst (v := 1) C dX12_mark_83 (by decide) ?_
        exact ret _ _ _ _ _ _ dX12_mark_84 rfl (by decide) (by decide) ⟨Iy22775, Xz22779, (by decide), Or.inr (by omega)⟩
      · have h22770 : v31_3.toInt < 4 := h22770
        refine g_aload_n C dX12_mark_36 rfl 0 rfl ?_
        refine g_iload_n C dX12_mark_37 rfl 2 rfl ?_
        refine b_if_eq C 51 dX12_mark_38 (by decide) (fun h22783 => ?_) (fun h22783 => ?_)
        · have h22783 : a2.toInt = 0 := congrArg Int32.toInt h22783
          refine g_iload_n C dX12_mark_51 rfl 3 rfl ?_
          exact J52 v31_3 (by omega) (by omega) (by omega) (by omega)
        · have h22783 : a2.toInt ≠ 0 := ti_ne h22783
          refine g_iconst (v := 4) C dX12_mark_41 (by decide) ?_
          refine g_iload_n C dX12_mark_42 rfl 1 rfl ?_
          refine g_iconst (v := 1) C dX12_mark_43 (by decide) ?_
          refine s_iadd C dX12_mark_44 (by show -2147483648 ≤ a1.toInt + 1 ∧ a1.toInt + 1 ≤ 2147483647; omega) (fun z22784 h22785 => ?_)
          have h22785 : z22784.toInt = a1.toInt + 1 := h22785
          refine s_imul C dX12_mark_45 (by show -2147483648 ≤ 4 * z22784.toInt ∧ 4 * z22784.toInt ≤ 2147483647; omega) (fun z22786 h22787 => ?_)
          have h22787 : z22786.toInt = 4 * z22784.toInt := h22787
          refine g_iload_n C dX12_mark_46 rfl 3 rfl ?_
          refine s_iadd C dX12_mark_47 (by show -2147483648 ≤ z22786.toInt + v31_3.toInt ∧ z22786.toInt + v31_3.toInt ≤ 2147483647; omega) (fun z22788 h22789 => ?_)
          have h22789 : z22788.toInt = z22786.toInt + v31_3.toInt := h22789
          refine g_goto C 52 dX12_mark_48 (by decide) ?_
          exact J52 z22788 (by omega) (by omega) (by omega) (by omega)
  have J29 : ∀ (P29 : PP), (IM P29 a0) → (EM [0, 20, 21, 22, 23, 24, 25, 26] a0 P P29) → (0 ≤ a1.toInt ∧ a1.toInt ≤ 3) → (0 ≤ (pI P29 a0 0).toInt ∧ (pI P29 a0 0).toInt ≤ 0) → G E ({ frames := 3, cells := 0, slots := 0, locals := 192 } : Room) D cy 4 P29 0 0 29 [(0, .ref a0), (1, .int a1), (2, .int a2)] [] := by
    intro P29 I29 X29 hv29_1 hq29_0
    have h22790 := X29.at ha0
    refine g_iconst (v := 0) C dX12_mark_29 (by decide) ?_
    refine g_istore_n (lv' := [(3, .int 0), (0, .ref a0), (1, .int a1), (2, .int a2)]) C dX12_mark_30 rfl (by decide) rfl ?_
    refine g_lv (lv' := [(0, .ref a0), (1, .int a1), (2, .int a2), (3, .int 0)]) [1, 2, 3, 0] rfl ?_
    exact J31 _ P29 0 (Nat.lt_succ_self _) I29 X29 (by omega) (by decide) (by omega)
  have J27 : ∀ (P27 : PP), (IM P27 a0) → (EM [0, 20, 21, 22, 23, 24, 25, 26] a0 P P27) → (0 ≤ (pI P27 a0 0).toInt ∧ (pI P27 a0 0).toInt ≤ 0) → G E ({ frames := 3, cells := 0, slots := 0, locals := 192 } : Room) D cy 4 P27 0 0 27 [] [] := by
    intro P27 I27 X27 hq27_0
    have h22791 := X27.at ha0
    refine g_iconst (v := 0) C dX12_mark_27 (by decide) ?_
    exact ret _ _ _ _ _ _ dX12_mark_28 rfl (by decide) (by decide) ⟨I27, X27, (by decide), Or.inl rfl⟩
  refine g_aload_n C dX12_mark_0 rfl 0 rfl ?_
  refine g_iconst (v := 0) C dX12_mark_1 (by decide) ?_
  refine g_putI C fi_X12_1 rfl (ha0).1 (ha0).2 dX12_mark_2 ?_
  refine gqW (ks := [0]) (I.setI (rgOk.of rfl (by decide))) (EM.setI I (by decide)) (fun Y22792 Iy22793 Xy22794 w22795 => ?_)
  have w22795 : (pI Y22792 a0 0).toInt = 0 := w22795
  have Xz22796 : EM [0, 20, 21, 22, 23, 24, 25, 26] a0 P Y22792 := Xy22794.mono (by decide)
  have h22797 := Xy22794.at ha0
  refine g_iload_n C dX12_mark_5 rfl 1 rfl ?_
  refine g_iconst (v := 0) C dX12_mark_6 (by decide) ?_
  refine g_iconst (v := 3) C dX12_mark_7 (by decide) ?_
  refine g_callSI (b := 0) (ci := 0) (rest := []) C ms_X12_178 [.int a1, .int 0, .int 3] (s_X12_within Iy22793.1) rfl rfl (by decide) (Nat.le_of_ble_eq_true rfl) (by decide) dX12_mark_8 (fun r22798 Y22799 h22800 => ?_)
  obtain ⟨rfl, h22800⟩ := h22800
  obtain ⟨h22800, hi22801⟩ := h22800
  have hi22801 : r22798.toInt = 0 ∨ (0 ≤ a1.toInt ∧ a1.toInt ≤ 3) := hi22801
  have h22800 : 0 ≤ r22798.toInt ∧ r22798.toInt ≤ 1 := h22800
  refine b_if_eq C 27 dX12_mark_11 (by decide) (fun h22802 => ?_) (fun h22802 => ?_)
  · have h22802 : r22798.toInt = 0 := congrArg Int32.toInt h22802
    clear hi22801
    refine g_lv (lv' := []) [] rfl ?_
    exact J27 Y22792 Iy22793 Xz22796 (by omega)
  · have h22802 : r22798.toInt ≠ 0 := ti_ne h22802
    replace hi22801 := hi22801.resolve_left (by omega)
    refine g_iload_n C dX12_mark_14 rfl 2 rfl ?_
    refine b_if_eq C 29 dX12_mark_15 (by decide) (fun h22803 => ?_) (fun h22803 => ?_)
    · have h22803 : a2.toInt = 0 := congrArg Int32.toInt h22803
      exact J29 Y22792 Iy22793 Xz22796 (by omega) (by omega)
    · have h22803 : a2.toInt ≠ 0 := ti_ne h22803
      refine g_aload_n C dX12_mark_18 rfl 0 rfl ?_
      obtain ⟨b22804, e22805, h22806⟩ := Iy22793.fld (h22797) 26 15 4 rfl
      refine g_getR C fi_X12_87 rfl e22805 (h22797).1 (h22797).2 dX12_mark_19 ?_
      refine g_iload_n C dX12_mark_22 rfl 1 rfl ?_
      refine g_zald (j := (a1.toInt.toNat)) C h22806.1 h22806.2.1 (ix_in h22806.2.2 (by omega)) dX12_mark_23 ?_
      have u22808 := ti_rng (pI Y22792 b22804 (a1.toInt.toNat))
      refine b_if_ne C 29 dX12_mark_24 (by decide) (fun h22807 => ?_) (fun h22807 => ?_)
      · have h22807 : (pI Y22792 b22804 (a1.toInt.toNat)).toInt ≠ 0 := ti_ne h22807
        exact J29 Y22792 Iy22793 Xz22796 (by omega) (by omega)
      · have h22807 : (pI Y22792 b22804 (a1.toInt.toNat)).toInt = 0 := congrArg Int32.toInt h22807
        refine g_lv (lv' := []) [] rfl ?_
        exact J27 Y22792 Iy22793 Xz22796 (by omega)
theorem dX12_nameless_0 : decode cX12_nameless 0 = .ok (.aload_n 0, 1) := by decide +kernel
theorem dX12_nameless_1 : decode cX12_nameless 1 = .ok (.iconst 0, 1) := by decide +kernel
theorem dX12_nameless_2 : decode cX12_nameless 2 = .ok (.putfield 1, 3) := by decide +kernel
theorem dX12_nameless_5 : decode cX12_nameless 5 = .ok (.iload_n 1, 1) := by decide +kernel
theorem dX12_nameless_6 : decode cX12_nameless 6 = .ok (.invokestatic 278, 3) := by decide +kernel
theorem dX12_nameless_9 : decode cX12_nameless 9 = .ok (.ifCond .eq 41, 3) := by decide +kernel
theorem dX12_nameless_12 : decode cX12_nameless 12 = .ok (.iload_n 2, 1) := by decide +kernel
theorem dX12_nameless_13 : decode cX12_nameless 13 = .ok (.invokestatic 258, 3) := by decide +kernel
theorem dX12_nameless_16 : decode cX12_nameless 16 = .ok (.ifCond .eq 34, 3) := by decide +kernel
theorem dX12_nameless_19 : decode cX12_nameless 19 = .ok (.iload_n 3, 1) := by decide +kernel
theorem dX12_nameless_20 : decode cX12_nameless 20 = .ok (.iconst 0, 1) := by decide +kernel
theorem dX12_nameless_21 : decode cX12_nameless 21 = .ok (.ldc 195, 2) := by decide +kernel
theorem dX12_nameless_23 : decode cX12_nameless 23 = .ok (.invokestatic 178, 3) := by decide +kernel
theorem dX12_nameless_26 : decode cX12_nameless 26 = .ok (.ifCond .eq 24, 3) := by decide +kernel
theorem dX12_nameless_29 : decode cX12_nameless 29 = .ok (.aload_n 0, 1) := by decide +kernel
theorem dX12_nameless_30 : decode cX12_nameless 30 = .ok (.getfield 69, 3) := by decide +kernel
theorem dX12_nameless_33 : decode cX12_nameless 33 = .ok (.iload_n 1, 1) := by decide +kernel
theorem dX12_nameless_34 : decode cX12_nameless 34 = .ok (.iaload, 1) := by decide +kernel
theorem dX12_nameless_35 : decode cX12_nameless 35 = .ok (.bipush 40, 2) := by decide +kernel
theorem dX12_nameless_37 : decode cX12_nameless 37 = .ok (.if_icmp .eq 13, 3) := by decide +kernel
theorem dX12_nameless_40 : decode cX12_nameless 40 = .ok (.aload_n 0, 1) := by decide +kernel
theorem dX12_nameless_41 : decode cX12_nameless 41 = .ok (.iload_n 1, 1) := by decide +kernel
theorem dX12_nameless_42 : decode cX12_nameless 42 = .ok (.invokevirtual 295, 3) := by decide +kernel
theorem dX12_nameless_45 : decode cX12_nameless 45 = .ok (.bipush 6, 2) := by decide +kernel
theorem dX12_nameless_47 : decode cX12_nameless 47 = .ok (.if_icmp .ne 5, 3) := by decide +kernel
theorem dX12_nameless_50 : decode cX12_nameless 50 = .ok (.iconst (-1), 1) := by decide +kernel
theorem dX12_nameless_51 : decode cX12_nameless 51 = .ok (.ireturn, 1) := by decide +kernel
theorem dX12_nameless_52 : decode cX12_nameless 52 = .ok (.aload_n 0, 1) := by decide +kernel
theorem dX12_nameless_53 : decode cX12_nameless 53 = .ok (.iload_n 1, 1) := by decide +kernel
theorem dX12_nameless_54 : decode cX12_nameless 54 = .ok (.iconst (-1), 1) := by decide +kernel
theorem dX12_nameless_55 : decode cX12_nameless 55 = .ok (.iload_n 2, 1) := by decide +kernel
theorem dX12_nameless_56 : decode cX12_nameless 56 = .ok (.iload_n 3, 1) := by decide +kernel
theorem dX12_nameless_57 : decode cX12_nameless 57 = .ok (.iconst 3, 1) := by decide +kernel
theorem dX12_nameless_58 : decode cX12_nameless 58 = .ok (.iconst 0, 1) := by decide +kernel
theorem dX12_nameless_59 : decode cX12_nameless 59 = .ok (.invokevirtual 284, 3) := by decide +kernel
theorem dX12_nameless_62 : decode cX12_nameless 62 = .ok (.ireturn, 1) := by decide +kernel
set_option maxHeartbeats 4000000 in
set_option maxRecDepth 100000 in
theorem s_X12_nameless {P : PP} {a0 : Nat} {a1 : Int32} {a2 : Int32} {a3 : Int32} (I : IM P a0) : CtrI yX12_nameless cX12_nameless 4 (some Jvm.ClassFile.FieldType.int) ({ frames := 3, cells := 0, slots := 0, locals := 192 } : Room) 0 0 P [.ref a0, .int a1, .int a2, .int a3] (fun r P2 => IM P2 a0 ∧ EM [0, 20, 21, 22, 23, 24, 25] a0 P P2 ∧ (-1 ≤ r.toInt ∧ r.toInt ≤ 39)) := by
  refine enI (lv := [(0, .ref a0), (1, .int a1), (2, .int a2), (3, .int a3)]) (by decide) (Nat.le_of_ble_eq_true rfl) rfl (fun E D cy C Ci0 ret => ?_)
  have ha0 := I.2.1
  have J50 : ∀ (P50 : PP), (IM P50 a0) → (EM [0, 20, 21, 22, 23, 24, 25] a0 P P50) → (0 ≤ (pI P50 a0 0).toInt ∧ (pI P50 a0 0).toInt ≤ 0) → G E ({ frames := 3, cells := 0, slots := 0, locals := 192 } : Room) D cy 4 P50 0 0 50 [] [] := by
    intro P50 I50 X50 hq50_0
    have h22849 := X50.at ha0
    refine g_iconst (v := (-1)) C dX12_nameless_50 (by decide) ?_
    exact ret _ _ _ _ _ _ dX12_nameless_51 rfl (by decide) (by decide) ⟨I50, X50, (by decide)⟩
  refine g_aload_n C dX12_nameless_0 rfl 0 rfl ?_
  refine g_iconst (v := 0) C dX12_nameless_1 (by decide) ?_
  refine g_putI C fi_X12_1 rfl (ha0).1 (ha0).2 dX12_nameless_2 ?_
  refine gqW (ks := [0]) (I.setI (rgOk.of rfl (by decide))) (EM.setI I (by decide)) (fun Y22850 Iy22851 Xy22852 w22853 => ?_)
  have w22853 : (pI Y22850 a0 0).toInt = 0 := w22853
  have Xz22854 : EM [0, 20, 21, 22, 23, 24, 25] a0 P Y22850 := Xy22852.mono (by decide)
  have h22855 := Xy22852.at ha0
  refine g_iload_n C dX12_nameless_5 rfl 1 rfl ?_
  refine g_callSI (b := 0) (ci := 0) (rest := []) C ms_X12_278 [.int a1] (s_X12_isQuarter Iy22851.1) rfl rfl (by decide) (Nat.le_of_ble_eq_true rfl) (by decide) dX12_nameless_6 (fun r22856 Y22857 h22858 => ?_)
  obtain ⟨rfl, h22858⟩ := h22858
  obtain ⟨h22858, hi22859⟩ := h22858
  have hi22859 : r22856.toInt = 0 ∨ (((0 : Int) ≤ a1.toInt ∧ a1.toInt ≤ (3 : Int))) := hi22859
  have h22858 : 0 ≤ r22856.toInt ∧ r22856.toInt ≤ 1 := h22858
  refine b_if_eq C 50 dX12_nameless_9 (by decide) (fun h22860 => ?_) (fun h22860 => ?_)
  · have h22860 : r22856.toInt = 0 := congrArg Int32.toInt h22860
    clear hi22859
    refine g_lv (lv' := []) [] rfl ?_
    exact J50 Y22850 Iy22851 Xz22854 (by omega)
  · have h22860 : r22856.toInt ≠ 0 := ti_ne h22860
    replace hi22859 := hi22859.resolve_left (by omega)
    refine g_iload_n C dX12_nameless_12 rfl 2 rfl ?_
    refine g_callSI (b := 0) (ci := 0) (rest := []) C ms_X12_258 [.int a2] (s_X12_isNumber Iy22851.1) rfl rfl (by decide) (Nat.le_of_ble_eq_true rfl) (by decide) dX12_nameless_13 (fun r22861 Y22862 h22863 => ?_)
    obtain ⟨rfl, h22863⟩ := h22863
    obtain ⟨h22863, hi22864⟩ := h22863
    have hi22864 : r22861.toInt = 0 ∨ (((0 : Int) ≤ a2.toInt ∧ a2.toInt ≤ (9999 : Int))) := hi22864
    have h22863 : 0 ≤ r22861.toInt ∧ r22861.toInt ≤ 1 := h22863
    refine b_if_eq C 50 dX12_nameless_16 (by decide) (fun h22865 => ?_) (fun h22865 => ?_)
    · have h22865 : r22861.toInt = 0 := congrArg Int32.toInt h22865
      clear hi22864
      refine g_lv (lv' := []) [] rfl ?_
      exact J50 Y22850 Iy22851 Xz22854 (by omega)
    · have h22865 : r22861.toInt ≠ 0 := ti_ne h22865
      replace hi22864 := hi22864.resolve_left (by omega)
      refine g_iload_n C dX12_nameless_19 rfl 3 rfl ?_
      refine g_iconst (v := 0) C dX12_nameless_20 (by decide) ?_
      refine g_ldc (v := 65535) C kc_X12_195 dX12_nameless_21 ?_
      refine g_callSI (b := 0) (ci := 0) (rest := []) C ms_X12_178 [.int a3, .int 0, .int 65535] (s_X12_within Iy22851.1) rfl rfl (by decide) (Nat.le_of_ble_eq_true rfl) (by decide) dX12_nameless_23 (fun r22866 Y22867 h22868 => ?_)
      obtain ⟨rfl, h22868⟩ := h22868
      obtain ⟨h22868, hi22869⟩ := h22868
      have hi22869 : r22866.toInt = 0 ∨ (0 ≤ a3.toInt ∧ a3.toInt ≤ 65535) := hi22869
      have h22868 : 0 ≤ r22866.toInt ∧ r22866.toInt ≤ 1 := h22868
      refine b_if_eq C 50 dX12_nameless_26 (by decide) (fun h22870 => ?_) (fun h22870 => ?_)
      · have h22870 : r22866.toInt = 0 := congrArg Int32.toInt h22870
        clear hi22869
        refine g_lv (lv' := []) [] rfl ?_
        exact J50 Y22850 Iy22851 Xz22854 (by omega)
      · have h22870 : r22866.toInt ≠ 0 := ti_ne h22870
        replace hi22869 := hi22869.resolve_left (by omega)
        refine g_aload_n C dX12_nameless_29 rfl 0 rfl ?_
        obtain ⟨b22871, e22872, h22873⟩ := Iy22851.fld (h22855) 20 13 20 rfl
        refine g_getR C fi_X12_69 rfl e22872 (h22855).1 (h22855).2 dX12_nameless_30 ?_
        refine g_iload_n C dX12_nameless_33 rfl 1 rfl ?_
        refine g_iald (j := (a1.toInt.toNat)) C h22873.1 h22873.2.1 (ix_in h22873.2.2 (by omega)) dX12_nameless_34 ?_
        have h22874 := Iy22851.arr e22872 rfl (a1.toInt.toNat)
        refine g_bipush (v := 40) C dX12_nameless_35 (by decide) ?_
        refine b_icmp_eq C 50 dX12_nameless_37 (by decide) (fun h22875 => ?_) (fun h22875 => ?_)
        · have h22875 : (pI Y22850 b22871 (a1.toInt.toNat)).toInt = 40 := congrArg Int32.toInt h22875
          refine g_lv (lv' := []) [] rfl ?_
          exact J50 Y22850 Iy22851 Xz22854 (by omega)
        · have h22875 : (pI Y22850 b22871 (a1.toInt.toNat)).toInt ≠ 40 := ti_ne h22875
          refine g_aload_n C dX12_nameless_40 rfl 0 rfl ?_
          refine g_iload_n C dX12_nameless_41 rfl 1 rfl ?_
          refine g_callVI (rest := []) C mv_X12_295 [.int a1] (s_X12_namelessIn Iy22851 (by omega)) (h22855).1 (h22855).2 rfl rfl (by decide) (Nat.le_of_ble_eq_true rfl) (by decide) dX12_nameless_42 (fun r22876 Y22877 h22878 => ?_)
          obtain ⟨rfl, h22878⟩ := h22878
          have h22878 : True := h22878
          refine g_bipush (v := 6) C dX12_nameless_45 (by decide) ?_
          have u22880 := ti_rng r22876
          refine b_icmp_ne C 52 dX12_nameless_47 (by decide) (fun h22879 => ?_) (fun h22879 => ?_)
          · have h22879 : r22876.toInt ≠ 6 := ti_ne h22879
            refine g_aload_n C dX12_nameless_52 rfl 0 rfl ?_
            refine g_iload_n C dX12_nameless_53 rfl 1 rfl ?_
            refine g_iconst (v := (-1)) C dX12_nameless_54 (by decide) ?_
            refine g_iload_n C dX12_nameless_55 rfl 2 rfl ?_
            refine g_iload_n C dX12_nameless_56 rfl 3 rfl ?_
            refine g_iconst (v := 3) C dX12_nameless_57 (by decide) ?_
            refine g_iconst (v := 0) C dX12_nameless_58 (by decide) ?_
            refine g_callVI (rest := []) C mv_X12_284 [.int a1, .int (-1), .int a2, .int a3, .int 3, .int 0] (s_X12_lays Iy22851 (by omega) (by decide) (fun b9 e9 => by rw [e22872] at e9; cases e9; show 0 ≤ (pI Y22850 b22871 (a1.toInt.toNat)).toInt ∧ (pI Y22850 b22871 (a1.toInt.toNat)).toInt ≤ 39; omega)) (h22855).1 (h22855).2 rfl rfl (by decide) (Nat.le_of_ble_eq_true rfl) (by decide) dX12_nameless_59 (fun r22881 Y22882 h22883 => ?_)
            obtain ⟨Iy22884, Xy22885, h22883⟩ := h22883
            have q22886 := Xy22885.keepF 0 (by decide)
            have Xz22887 : EM [0, 20, 21, 22, 23, 24, 25] a0 P Y22882 := EM.tr ha0 Xz22854 (Xy22885.mono (by decide))
            have h22888 := Xy22885.at h22855
            have h22883 : 0 ≤ r22881.toInt ∧ r22881.toInt ≤ 39 := h22883
            exact ret _ _ _ _ _ _ dX12_nameless_62 rfl (by decide) (by decide) ⟨Iy22884, Xz22887, (by omega)⟩
          · have h22879 : r22876.toInt = 6 := congrArg Int32.toInt h22879
            refine g_lv (lv' := []) [] rfl ?_
            exact J50 Y22850 Iy22851 Xz22854 (by omega)
theorem dX12_needs_0 : decode cX12_needs 0 = .ok (.aload_n 0, 1) := by decide +kernel
theorem dX12_needs_1 : decode cX12_needs 1 = .ok (.iconst 0, 1) := by decide +kernel
theorem dX12_needs_2 : decode cX12_needs 2 = .ok (.putfield 1, 3) := by decide +kernel
theorem dX12_needs_5 : decode cX12_needs 5 = .ok (.iload_n 1, 1) := by decide +kernel
theorem dX12_needs_6 : decode cX12_needs 6 = .ok (.invokestatic 278, 3) := by decide +kernel
theorem dX12_needs_9 : decode cX12_needs 9 = .ok (.ifCond .eq 11, 3) := by decide +kernel
theorem dX12_needs_12 : decode cX12_needs 12 = .ok (.aload_n 0, 1) := by decide +kernel
theorem dX12_needs_13 : decode cX12_needs 13 = .ok (.iload_n 2, 1) := by decide +kernel
theorem dX12_needs_14 : decode cX12_needs 14 = .ok (.invokevirtual 192, 3) := by decide +kernel
theorem dX12_needs_17 : decode cX12_needs 17 = .ok (.ifCond .ne 5, 3) := by decide +kernel
theorem dX12_needs_22 : decode cX12_needs 22 = .ok (.aload_n 0, 1) := by decide +kernel
theorem dX12_needs_23 : decode cX12_needs 23 = .ok (.iload_n 1, 1) := by decide +kernel
theorem dX12_needs_24 : decode cX12_needs 24 = .ok (.iload_n 2, 1) := by decide +kernel
theorem dX12_needs_25 : decode cX12_needs 25 = .ok (.invokevirtual 408, 3) := by decide +kernel
theorem dX12_needsOf_0 : decode cX12_needsOf 0 = .ok (.aload_n 0, 1) := by decide +kernel
theorem dX12_needsOf_1 : decode cX12_needsOf 1 = .ok (.iload_n 2, 1) := by decide +kernel
theorem dX12_needsOf_2 : decode cX12_needsOf 2 = .ok (.invokevirtual 312, 3) := by decide +kernel
theorem dX12_needsOf_5 : decode cX12_needsOf 5 = .ok (.iconst 0, 1) := by decide +kernel
theorem dX12_needsOf_6 : decode cX12_needsOf 6 = .ok (.istore_n 3, 1) := by decide +kernel
theorem dX12_needsOf_7 : decode cX12_needsOf 7 = .ok (.iload_n 3, 1) := by decide +kernel
theorem dX12_needsOf_8 : decode cX12_needsOf 8 = .ok (.bipush 60, 2) := by decide +kernel
theorem dX12_needsOf_10 : decode cX12_needsOf 10 = .ok (.if_icmp .gt 55, 3) := by decide +kernel
theorem dX12_needsOf_13 : decode cX12_needsOf 13 = .ok (.aload_n 0, 1) := by decide +kernel
theorem dX12_needsOf_14 : decode cX12_needsOf 14 = .ok (.invokevirtual 346, 3) := by decide +kernel
theorem dX12_needsOf_17 : decode cX12_needsOf 17 = .ok (.aload_n 0, 1) := by decide +kernel
theorem dX12_needsOf_18 : decode cX12_needsOf 18 = .ok (.iload_n 2, 1) := by decide +kernel
theorem dX12_needsOf_19 : decode cX12_needsOf 19 = .ok (.aload_n 0, 1) := by decide +kernel
theorem dX12_needsOf_20 : decode cX12_needsOf 20 = .ok (.invokevirtual 349, 3) := by decide +kernel
theorem dX12_needsOf_23 : decode cX12_needsOf 23 = .ok (.invokevirtual 371, 3) := by decide +kernel
theorem dX12_needsOf_26 : decode cX12_needsOf 26 = .ok (.ifCond .eq 5, 3) := by decide +kernel
theorem dX12_needsOf_31 : decode cX12_needsOf 31 = .ok (.iload_n 3, 1) := by decide +kernel
theorem dX12_needsOf_32 : decode cX12_needsOf 32 = .ok (.bipush 60, 2) := by decide +kernel
theorem dX12_needsOf_34 : decode cX12_needsOf 34 = .ok (.if_icmp .ge 25, 3) := by decide +kernel
theorem dX12_needsOf_37 : decode cX12_needsOf 37 = .ok (.aload_n 0, 1) := by decide +kernel
theorem dX12_needsOf_38 : decode cX12_needsOf 38 = .ok (.iload_n 1, 1) := by decide +kernel
theorem dX12_needsOf_39 : decode cX12_needsOf 39 = .ok (.iload_n 2, 1) := by decide +kernel
theorem dX12_needsOf_40 : decode cX12_needsOf 40 = .ok (.iload_n 3, 1) := by decide +kernel
theorem dX12_needsOf_41 : decode cX12_needsOf 41 = .ok (.invokevirtual 402, 3) := by decide +kernel
theorem dX12_needsOf_44 : decode cX12_needsOf 44 = .ok (.ifCond .eq 15, 3) := by decide +kernel
theorem dX12_needsOf_47 : decode cX12_needsOf 47 = .ok (.aload_n 0, 1) := by decide +kernel
theorem dX12_needsOf_48 : decode cX12_needsOf 48 = .ok (.aload_n 0, 1) := by decide +kernel
theorem dX12_needsOf_49 : decode cX12_needsOf 49 = .ok (.iload_n 2, 1) := by decide +kernel
theorem dX12_needsOf_50 : decode cX12_needsOf 50 = .ok (.iload_n 3, 1) := by decide +kernel
theorem dX12_needsOf_51 : decode cX12_needsOf 51 = .ok (.invokevirtual 261, 3) := by decide +kernel
theorem dX12_page_0 : decode cX12_page 0 = .ok (.aload_n 0, 1) := by decide +kernel
theorem dX12_page_1 : decode cX12_page 1 = .ok (.iconst 0, 1) := by decide +kernel
theorem dX12_page_2 : decode cX12_page 2 = .ok (.putfield 1, 3) := by decide +kernel
theorem dX12_page_5 : decode cX12_page 5 = .ok (.aload_n 0, 1) := by decide +kernel
theorem dX12_page_6 : decode cX12_page 6 = .ok (.iload_n 1, 1) := by decide +kernel
theorem dX12_page_7 : decode cX12_page 7 = .ok (.invokevirtual 192, 3) := by decide +kernel
theorem dX12_page_10 : decode cX12_page 10 = .ok (.ifCond .eq 37, 3) := by decide +kernel
theorem dX12_page_13 : decode cX12_page 13 = .ok (.iload_n 2, 1) := by decide +kernel
theorem dX12_page_14 : decode cX12_page 14 = .ok (.iconst 0, 1) := by decide +kernel
theorem dX12_page_15 : decode cX12_page 15 = .ok (.aload_n 0, 1) := by decide +kernel
theorem dX12_page_16 : decode cX12_page 16 = .ok (.getfield 45, 3) := by decide +kernel
theorem dX12_page_19 : decode cX12_page 19 = .ok (.iload_n 1, 1) := by decide +kernel
theorem dX12_page_20 : decode cX12_page 20 = .ok (.iaload, 1) := by decide +kernel
theorem dX12_page_21 : decode cX12_page 21 = .ok (.iconst 1, 1) := by decide +kernel
theorem dX12_page_22 : decode cX12_page 22 = .ok (.isub, 1) := by decide +kernel
theorem dX12_page_23 : decode cX12_page 23 = .ok (.invokestatic 178, 3) := by decide +kernel
theorem dX12_page_26 : decode cX12_page 26 = .ok (.ifCond .eq 21, 3) := by decide +kernel
theorem dX12_page_29 : decode cX12_page 29 = .ok (.iload_n 3, 1) := by decide +kernel
theorem dX12_page_30 : decode cX12_page 30 = .ok (.iconst 0, 1) := by decide +kernel
theorem dX12_page_31 : decode cX12_page 31 = .ok (.ldc 195, 2) := by decide +kernel
theorem dX12_page_33 : decode cX12_page 33 = .ok (.invokestatic 178, 3) := by decide +kernel
theorem dX12_page_36 : decode cX12_page 36 = .ok (.ifCond .eq 11, 3) := by decide +kernel
theorem dX12_page_39 : decode cX12_page 39 = .ok (.aload_n 0, 1) := by decide +kernel
theorem dX12_page_40 : decode cX12_page 40 = .ok (.iload_n 1, 1) := by decide +kernel
theorem dX12_page_41 : decode cX12_page 41 = .ok (.invokevirtual 196, 3) := by decide +kernel
theorem dX12_page_44 : decode cX12_page 44 = .ok (.ifCond .eq 5, 3) := by decide +kernel
theorem dX12_page_47 : decode cX12_page 47 = .ok (.iconst 0, 1) := by decide +kernel
theorem dX12_page_48 : decode cX12_page 48 = .ok (.ireturn, 1) := by decide +kernel
theorem dX12_page_49 : decode cX12_page 49 = .ok (.aload_n 0, 1) := by decide +kernel
theorem dX12_page_50 : decode cX12_page 50 = .ok (.getfield 48, 3) := by decide +kernel
theorem dX12_page_53 : decode cX12_page 53 = .ok (.bipush 16, 2) := by decide +kernel
theorem dX12_page_55 : decode cX12_page 55 = .ok (.iload_n 1, 1) := by decide +kernel
theorem dX12_page_56 : decode cX12_page 56 = .ok (.imul, 1) := by decide +kernel
theorem dX12_page_57 : decode cX12_page 57 = .ok (.iload_n 2, 1) := by decide +kernel
theorem dX12_page_58 : decode cX12_page 58 = .ok (.iadd, 1) := by decide +kernel
theorem dX12_page_59 : decode cX12_page 59 = .ok (.iload_n 3, 1) := by decide +kernel
theorem dX12_page_60 : decode cX12_page 60 = .ok (.iastore, 1) := by decide +kernel
theorem dX12_page_61 : decode cX12_page 61 = .ok (.iconst 1, 1) := by decide +kernel
theorem dX12_page_62 : decode cX12_page 62 = .ok (.ireturn, 1) := by decide +kernel
set_option maxHeartbeats 4000000 in
set_option maxRecDepth 100000 in
theorem s_X12_page {P : PP} {a0 : Nat} {a1 : Int32} {a2 : Int32} {a3 : Int32} (I : IM P a0) : CtrI yX12_page cX12_page 4 (some Jvm.ClassFile.FieldType.boolean) ({ frames := 3, cells := 0, slots := 0, locals := 192 } : Room) 0 0 P [.ref a0, .int a1, .int a2, .int a3] (fun r P2 => IM P2 a0 ∧ EM [0, 11] a0 P P2 ∧ (0 ≤ r.toInt ∧ r.toInt ≤ 1) ∧ (r.toInt = 0 ∨ (((0 : Int) ≤ a1.toInt ∧ a1.toInt ≤ (1 : Int)) ∧ ((0 : Int) ≤ a2.toInt ∧ a2.toInt ≤ (15 : Int)) ∧ ((0 : Int) ≤ a3.toInt ∧ a3.toInt ≤ (65535 : Int))))) := by
  refine enI (lv := [(0, .ref a0), (1, .int a1), (2, .int a2), (3, .int a3)]) (by decide) (Nat.le_of_ble_eq_true rfl) rfl (fun E D cy C Ci0 ret => ?_)
  have ha0 := I.2.1
  have J47 : ∀ (P47 : PP), (IM P47 a0) → (EM [0, 11] a0 P P47) → (0 ≤ (pI P47 a0 0).toInt ∧ (pI P47 a0 0).toInt ≤ 0) → G E ({ frames := 3, cells := 0, slots := 0, locals := 192 } : Room) D cy 4 P47 0 0 47 [] [] := by
    intro P47 I47 X47 hq47_0
    have h22986 := X47.at ha0
    refine g_iconst (v := 0) C dX12_page_47 (by decide) ?_
    exact ret _ _ _ _ _ _ dX12_page_48 rfl (by decide) (by decide) ⟨I47, X47, (by decide), Or.inl rfl⟩
  refine g_aload_n C dX12_page_0 rfl 0 rfl ?_
  refine g_iconst (v := 0) C dX12_page_1 (by decide) ?_
  refine g_putI C fi_X12_1 rfl (ha0).1 (ha0).2 dX12_page_2 ?_
  refine gqW (ks := [0]) (I.setI (rgOk.of rfl (by decide))) (EM.setI I (by decide)) (fun Y22987 Iy22988 Xy22989 w22990 => ?_)
  have w22990 : (pI Y22987 a0 0).toInt = 0 := w22990
  have Xz22991 : EM [0, 11] a0 P Y22987 := Xy22989.mono (by decide)
  have h22992 := Xy22989.at ha0
  refine g_aload_n C dX12_page_5 rfl 0 rfl ?_
  refine g_iload_n C dX12_page_6 rfl 1 rfl ?_
  refine g_callVI (rest := []) C mv_X12_192 [.int a1] (s_X12_isBook Iy22988) (h22992).1 (h22992).2 rfl rfl (by decide) (Nat.le_of_ble_eq_true rfl) (by decide) dX12_page_7 (fun r22993 Y22994 h22995 => ?_)
  obtain ⟨rfl, h22995⟩ := h22995
  obtain ⟨h22995, hi22996⟩ := h22995
  have hi22996 : r22993.toInt = 0 ∨ (((0 : Int) ≤ a1.toInt ∧ a1.toInt ≤ (1 : Int))) := hi22996
  have h22995 : 0 ≤ r22993.toInt ∧ r22993.toInt ≤ 1 := h22995
  refine b_if_eq C 47 dX12_page_10 (by decide) (fun h22997 => ?_) (fun h22997 => ?_)
  · have h22997 : r22993.toInt = 0 := congrArg Int32.toInt h22997
    clear hi22996
    refine g_lv (lv' := []) [] rfl ?_
    exact J47 Y22987 Iy22988 Xz22991 (by omega)
  · have h22997 : r22993.toInt ≠ 0 := ti_ne h22997
    replace hi22996 := hi22996.resolve_left (by omega)
    refine g_iload_n C dX12_page_13 rfl 2 rfl ?_
    refine g_iconst (v := 0) C dX12_page_14 (by decide) ?_
    refine g_aload_n C dX12_page_15 rfl 0 rfl ?_
    obtain ⟨b22998, e22999, h23000⟩ := Iy22988.fld (h22992) 10 13 2 rfl
    refine g_getR C fi_X12_45 rfl e22999 (h22992).1 (h22992).2 dX12_page_16 ?_
    refine g_iload_n C dX12_page_19 rfl 1 rfl ?_
    refine g_iald (j := (a1.toInt.toNat)) C h23000.1 h23000.2.1 (ix_in h23000.2.2 (by omega)) dX12_page_20 ?_
    have h23001 := Iy22988.arr e22999 rfl (a1.toInt.toNat)
    refine g_iconst (v := 1) C dX12_page_21 (by decide) ?_
    refine s_isub C dX12_page_22 (by show -2147483648 ≤ (pI Y22987 b22998 (a1.toInt.toNat)).toInt - 1 ∧ (pI Y22987 b22998 (a1.toInt.toNat)).toInt - 1 ≤ 2147483647; omega) (fun z23002 h23003 => ?_)
    have h23003 : z23002.toInt = (pI Y22987 b22998 (a1.toInt.toNat)).toInt - 1 := h23003
    refine g_callSI (b := 0) (ci := 0) (rest := []) C ms_X12_178 [.int a2, .int 0, .int z23002] (s_X12_within Iy22988.1) rfl rfl (by decide) (Nat.le_of_ble_eq_true rfl) (by decide) dX12_page_23 (fun r23004 Y23005 h23006 => ?_)
    obtain ⟨rfl, h23006⟩ := h23006
    obtain ⟨h23006, hi23007⟩ := h23006
    have hi23007 : r23004.toInt = 0 ∨ (0 ≤ a2.toInt ∧ a2.toInt ≤ z23002.toInt) := hi23007
    have h23006 : 0 ≤ r23004.toInt ∧ r23004.toInt ≤ 1 := h23006
    refine b_if_eq C 47 dX12_page_26 (by decide) (fun h23008 => ?_) (fun h23008 => ?_)
    · have h23008 : r23004.toInt = 0 := congrArg Int32.toInt h23008
      clear hi23007
      refine g_lv (lv' := []) [] rfl ?_
      exact J47 Y22987 Iy22988 Xz22991 (by omega)
    · have h23008 : r23004.toInt ≠ 0 := ti_ne h23008
      replace hi23007 := hi23007.resolve_left (by omega)
      refine g_iload_n C dX12_page_29 rfl 3 rfl ?_
      refine g_iconst (v := 0) C dX12_page_30 (by decide) ?_
      refine g_ldc (v := 65535) C kc_X12_195 dX12_page_31 ?_
      refine g_callSI (b := 0) (ci := 0) (rest := []) C ms_X12_178 [.int a3, .int 0, .int 65535] (s_X12_within Iy22988.1) rfl rfl (by decide) (Nat.le_of_ble_eq_true rfl) (by decide) dX12_page_33 (fun r23009 Y23010 h23011 => ?_)
      obtain ⟨rfl, h23011⟩ := h23011
      obtain ⟨h23011, hi23012⟩ := h23011
      have hi23012 : r23009.toInt = 0 ∨ (0 ≤ a3.toInt ∧ a3.toInt ≤ 65535) := hi23012
      have h23011 : 0 ≤ r23009.toInt ∧ r23009.toInt ≤ 1 := h23011
      refine b_if_eq C 47 dX12_page_36 (by decide) (fun h23013 => ?_) (fun h23013 => ?_)
      · have h23013 : r23009.toInt = 0 := congrArg Int32.toInt h23013
        clear hi23012
        refine g_lv (lv' := []) [] rfl ?_
        exact J47 Y22987 Iy22988 Xz22991 (by omega)
      · have h23013 : r23009.toInt ≠ 0 := ti_ne h23013
        replace hi23012 := hi23012.resolve_left (by omega)
        refine g_aload_n C dX12_page_39 rfl 0 rfl ?_
        refine g_iload_n C dX12_page_40 rfl 1 rfl ?_
        refine g_callVI (rest := []) C mv_X12_196 [.int a1] (s_X12_isOut Iy22988) (h22992).1 (h22992).2 rfl rfl (by decide) (Nat.le_of_ble_eq_true rfl) (by decide) dX12_page_41 (fun r23014 Y23015 h23016 => ?_)
        obtain ⟨rfl, h23016⟩ := h23016
        have h23016 : 0 ≤ r23014.toInt ∧ r23014.toInt ≤ 1 := h23016
        refine b_if_eq C 49 dX12_page_44 (by decide) (fun h23017 => ?_) (fun h23017 => ?_)
        · have h23017 : r23014.toInt = 0 := congrArg Int32.toInt h23017
          refine g_aload_n C dX12_page_49 rfl 0 rfl ?_
          obtain ⟨b23018, e23019, h23020⟩ := Iy22988.fld (h22992) 11 13 32 rfl
          refine g_getR C fi_X12_48 rfl e23019 (h22992).1 (h22992).2 dX12_page_50 ?_
          refine g_bipush (v := 16) C dX12_page_53 (by decide) ?_
          refine g_iload_n C dX12_page_55 rfl 1 rfl ?_
          refine s_imul C dX12_page_56 (by show -2147483648 ≤ 16 * a1.toInt ∧ 16 * a1.toInt ≤ 2147483647; omega) (fun z23021 h23022 => ?_)
          have h23022 : z23021.toInt = 16 * a1.toInt := h23022
          refine g_iload_n C dX12_page_57 rfl 2 rfl ?_
          refine s_iadd C dX12_page_58 (by show -2147483648 ≤ z23021.toInt + a2.toInt ∧ z23021.toInt + a2.toInt ≤ 2147483647; omega) (fun z23023 h23024 => ?_)
          have h23024 : z23023.toInt = z23021.toInt + a2.toInt := h23024
          refine g_iload_n C dX12_page_59 rfl 3 rfl ?_
          refine g_iast (j := (z23023.toInt.toNat)) C h23020.1 h23020.2.1 (ix_in h23020.2.2 (by omega)) dX12_page_60 ?_
          refine gqW (ks := [11]) (Iy22988.setA e23019 h23020 (by decide) (arOk.none rfl)) (EM.setA Iy22988 e23019 rfl (by decide)) (fun Y23025 Iy23026 Xy23027 w23028 => ?_)
          have w23028 : (pI Y23025 b23018 (z23023.toInt.toNat)).toInt = a3.toInt := w23028
          have q23029 := Xy23027.keepF 0 (by decide)
          have q23030 := Xy23027.keepA e22999 (by decide) rfl (a1.toInt.toNat)
          have Xz23031 : EM [0, 11] a0 P Y23025 := EM.tr ha0 Xz22991 (Xy23027.mono (by decide))
          have e23032 := Xy23027.ref h22992 (by decide) e22999
          have e23033 := Xy23027.ref h22992 (by decide) e23019
          have h23034 := Xy23027.at h22992
          have h23035 := Xy23027.ar h23000
          have h23036 := Xy23027.ar h23020
          refine g_iconst (v := 1) C dX12_page_61 (by decide) ?_
          exact ret _ _ _ _ _ _ dX12_page_62 rfl (by decide) (by decide) ⟨Iy23026, Xz23031, (by decide), Or.inr (by omega)⟩
        · have h23017 : r23014.toInt ≠ 0 := ti_ne h23017
          refine g_lv (lv' := []) [] rfl ?_
          exact J47 Y22987 Iy22988 Xz22991 (by omega)
theorem dX12_paper_0 : decode cX12_paper 0 = .ok (.aload_n 0, 1) := by decide +kernel
theorem dX12_paper_1 : decode cX12_paper 1 = .ok (.aload_n 0, 1) := by decide +kernel
theorem dX12_paper_2 : decode cX12_paper 2 = .ok (.iload_n 1, 1) := by decide +kernel
theorem dX12_paper_3 : decode cX12_paper 3 = .ok (.iload_n 2, 1) := by decide +kernel
theorem dX12_paper_4 : decode cX12_paper 4 = .ok (.invokevirtual 298, 3) := by decide +kernel
theorem dX12_paper_7 : decode cX12_paper 7 = .ok (.ifCond .eq 16, 3) := by decide +kernel
theorem dX12_paper_10 : decode cX12_paper 10 = .ok (.iload_n 3, 1) := by decide +kernel
theorem dX12_paper_11 : decode cX12_paper 11 = .ok (.iconst 0, 1) := by decide +kernel
theorem dX12_paper_12 : decode cX12_paper 12 = .ok (.iconst 5, 1) := by decide +kernel
theorem dX12_paper_13 : decode cX12_paper 13 = .ok (.invokestatic 178, 3) := by decide +kernel
theorem dX12_paper_16 : decode cX12_paper 16 = .ok (.ifCond .eq 7, 3) := by decide +kernel
theorem dX12_paper_19 : decode cX12_paper 19 = .ok (.iconst 0, 1) := by decide +kernel
theorem dX12_paper_20 : decode cX12_paper 20 = .ok (.goto 4, 3) := by decide +kernel
theorem dX12_paper_23 : decode cX12_paper 23 = .ok (.iconst 1, 1) := by decide +kernel
theorem dX12_paper_24 : decode cX12_paper 24 = .ok (.putfield 1, 3) := by decide +kernel
theorem dX12_paper_27 : decode cX12_paper 27 = .ok (.aload_n 0, 1) := by decide +kernel
theorem dX12_paper_28 : decode cX12_paper 28 = .ok (.getfield 1, 3) := by decide +kernel
theorem dX12_paper_31 : decode cX12_paper 31 = .ok (.ifCond .le 5, 3) := by decide +kernel
theorem dX12_paper_36 : decode cX12_paper 36 = .ok (.bipush 40, 2) := by decide +kernel
theorem dX12_paper_38 : decode cX12_paper 38 = .ok (.iload_n 1, 1) := by decide +kernel
theorem dX12_paper_39 : decode cX12_paper 39 = .ok (.imul, 1) := by decide +kernel
theorem dX12_paper_40 : decode cX12_paper 40 = .ok (.iload_n 2, 1) := by decide +kernel
theorem dX12_paper_41 : decode cX12_paper 41 = .ok (.iadd, 1) := by decide +kernel
theorem dX12_paper_42 : decode cX12_paper 42 = .ok (.istore 4, 2) := by decide +kernel
theorem dX12_paper_44 : decode cX12_paper 44 = .ok (.iload_n 3, 1) := by decide +kernel
theorem dX12_paper_45 : decode cX12_paper 45 = .ok (.tableswitch 75 0 4 #[35, 43, 51, 59, 67], 35) := by decide +kernel
theorem dX12_paper_120 : decode cX12_paper 120 = .ok (.aload_n 0, 1) := by decide +kernel
theorem dX12_paper_121 : decode cX12_paper 121 = .ok (.getfield 75, 3) := by decide +kernel
theorem dX12_paper_124 : decode cX12_paper 124 = .ok (.iload 4, 2) := by decide +kernel
theorem dX12_paper_126 : decode cX12_paper 126 = .ok (.iaload, 1) := by decide +kernel
theorem dX12_paper_127 : decode cX12_paper 127 = .ok (.ifCond .ge 7, 3) := by decide +kernel
theorem dX12_paper_134 : decode cX12_paper 134 = .ok (.aload_n 0, 1) := by decide +kernel
theorem dX12_paper_135 : decode cX12_paper 135 = .ok (.iload_n 1, 1) := by decide +kernel
theorem dX12_paper_136 : decode cX12_paper 136 = .ok (.iload_n 2, 1) := by decide +kernel
theorem dX12_paper_137 : decode cX12_paper 137 = .ok (.invokevirtual 358, 3) := by decide +kernel
theorem dX12_unknownOf_0 : decode cX12_unknownOf 0 = .ok (.bipush 40, 2) := by decide +kernel
theorem dX12_unknownOf_2 : decode cX12_unknownOf 2 = .ok (.iload_n 1, 1) := by decide +kernel
theorem dX12_unknownOf_3 : decode cX12_unknownOf 3 = .ok (.imul, 1) := by decide +kernel
theorem dX12_unknownOf_4 : decode cX12_unknownOf 4 = .ok (.iload_n 2, 1) := by decide +kernel
theorem dX12_unknownOf_5 : decode cX12_unknownOf 5 = .ok (.iadd, 1) := by decide +kernel
theorem dX12_unknownOf_6 : decode cX12_unknownOf 6 = .ok (.istore_n 3, 1) := by decide +kernel
theorem dX12_unknownOf_7 : decode cX12_unknownOf 7 = .ok (.aload_n 0, 1) := by decide +kernel
theorem dX12_unknownOf_8 : decode cX12_unknownOf 8 = .ok (.getfield 75, 3) := by decide +kernel
theorem dX12_unknownOf_11 : decode cX12_unknownOf 11 = .ok (.iload_n 3, 1) := by decide +kernel
theorem dX12_unknownOf_12 : decode cX12_unknownOf 12 = .ok (.iaload, 1) := by decide +kernel
theorem dX12_unknownOf_13 : decode cX12_unknownOf 13 = .ok (.istore 4, 2) := by decide +kernel
theorem dX12_unknownOf_15 : decode cX12_unknownOf 15 = .ok (.aload_n 0, 1) := by decide +kernel
theorem dX12_unknownOf_16 : decode cX12_unknownOf 16 = .ok (.invokevirtual 336, 3) := by decide +kernel
theorem dX12_unknownOf_19 : decode cX12_unknownOf 19 = .ok (.aload_n 0, 1) := by decide +kernel
theorem dX12_unknownOf_20 : decode cX12_unknownOf 20 = .ok (.iload 4, 2) := by decide +kernel
theorem dX12_unknownOf_22 : decode cX12_unknownOf 22 = .ok (.aload_n 0, 1) := by decide +kernel
theorem dX12_unknownOf_23 : decode cX12_unknownOf 23 = .ok (.getfield 72, 3) := by decide +kernel
theorem dX12_unknownOf_26 : decode cX12_unknownOf 26 = .ok (.iload_n 3, 1) := by decide +kernel
theorem dX12_unknownOf_27 : decode cX12_unknownOf 27 = .ok (.iaload, 1) := by decide +kernel
theorem dX12_unknownOf_28 : decode cX12_unknownOf 28 = .ok (.invokevirtual 261, 3) := by decide +kernel
theorem dX12_peels_0 : decode cX12_peels 0 = .ok (.aload_n 0, 1) := by decide +kernel
theorem dX12_peels_1 : decode cX12_peels 1 = .ok (.iconst 0, 1) := by decide +kernel
theorem dX12_peels_2 : decode cX12_peels 2 = .ok (.putfield 1, 3) := by decide +kernel
theorem dX12_peels_5 : decode cX12_peels 5 = .ok (.aload_n 0, 1) := by decide +kernel
theorem dX12_peels_6 : decode cX12_peels 6 = .ok (.iload_n 1, 1) := by decide +kernel
theorem dX12_peels_7 : decode cX12_peels 7 = .ok (.iload_n 2, 1) := by decide +kernel
theorem dX12_peels_8 : decode cX12_peels 8 = .ok (.iload_n 3, 1) := by decide +kernel
theorem dX12_peels_9 : decode cX12_peels 9 = .ok (.invokevirtual 333, 3) := by decide +kernel
theorem dX12_peels_12 : decode cX12_peels 12 = .ok (.ifCond .eq 13, 3) := by decide +kernel
theorem dX12_peels_15 : decode cX12_peels 15 = .ok (.iload 4, 2) := by decide +kernel
theorem dX12_peels_17 : decode cX12_peels 17 = .ok (.iconst 0, 1) := by decide +kernel
theorem dX12_peels_18 : decode cX12_peels 18 = .ok (.iconst 3, 1) := by decide +kernel
theorem dX12_peels_19 : decode cX12_peels 19 = .ok (.invokestatic 178, 3) := by decide +kernel
theorem dX12_peels_22 : decode cX12_peels 22 = .ok (.ifCond .ne 5, 3) := by decide +kernel
theorem dX12_peels_27 : decode cX12_peels 27 = .ok (.aload_n 0, 1) := by decide +kernel
theorem dX12_peels_28 : decode cX12_peels 28 = .ok (.invokevirtual 336, 3) := by decide +kernel
theorem dX12_peels_31 : decode cX12_peels 31 = .ok (.aload_n 0, 1) := by decide +kernel
theorem dX12_peels_32 : decode cX12_peels 32 = .ok (.iload_n 1, 1) := by decide +kernel
theorem dX12_peels_33 : decode cX12_peels 33 = .ok (.iload_n 2, 1) := by decide +kernel
theorem dX12_peels_34 : decode cX12_peels 34 = .ok (.iload_n 3, 1) := by decide +kernel
theorem dX12_peels_35 : decode cX12_peels 35 = .ok (.aload_n 0, 1) := by decide +kernel
theorem dX12_peels_36 : decode cX12_peels 36 = .ok (.getfield 69, 3) := by decide +kernel
theorem dX12_peels_39 : decode cX12_peels 39 = .ok (.iload_n 1, 1) := by decide +kernel
theorem dX12_peels_40 : decode cX12_peels 40 = .ok (.iaload, 1) := by decide +kernel
theorem dX12_peels_41 : decode cX12_peels 41 = .ok (.invokevirtual 339, 3) := by decide +kernel
theorem dX12_quarter_0 : decode cX12_quarter 0 = .ok (.aload_n 0, 1) := by decide +kernel
theorem dX12_quarter_1 : decode cX12_quarter 1 = .ok (.iconst 0, 1) := by decide +kernel
theorem dX12_quarter_2 : decode cX12_quarter 2 = .ok (.putfield 1, 3) := by decide +kernel
theorem dX12_quarter_5 : decode cX12_quarter 5 = .ok (.iload_n 1, 1) := by decide +kernel
theorem dX12_quarter_6 : decode cX12_quarter 6 = .ok (.invokestatic 278, 3) := by decide +kernel
theorem dX12_quarter_9 : decode cX12_quarter 9 = .ok (.ifCond .eq 24, 3) := by decide +kernel
theorem dX12_quarter_12 : decode cX12_quarter 12 = .ok (.iload_n 2, 1) := by decide +kernel
theorem dX12_quarter_13 : decode cX12_quarter 13 = .ok (.iconst 0, 1) := by decide +kernel
theorem dX12_quarter_14 : decode cX12_quarter 14 = .ok (.bipush 100, 2) := by decide +kernel
theorem dX12_quarter_16 : decode cX12_quarter 16 = .ok (.invokestatic 178, 3) := by decide +kernel
theorem dX12_quarter_19 : decode cX12_quarter 19 = .ok (.ifCond .eq 14, 3) := by decide +kernel
theorem dX12_quarter_22 : decode cX12_quarter 22 = .ok (.iload_n 3, 1) := by decide +kernel
theorem dX12_quarter_23 : decode cX12_quarter 23 = .ok (.iconst 0, 1) := by decide +kernel
theorem dX12_quarter_24 : decode cX12_quarter 24 = .ok (.sipush 999, 3) := by decide +kernel
theorem dX12_quarter_27 : decode cX12_quarter 27 = .ok (.invokestatic 178, 3) := by decide +kernel
theorem dX12_quarter_30 : decode cX12_quarter 30 = .ok (.ifCond .ne 5, 3) := by decide +kernel
theorem dX12_quarter_33 : decode cX12_quarter 33 = .ok (.iconst 0, 1) := by decide +kernel
theorem dX12_quarter_34 : decode cX12_quarter 34 = .ok (.ireturn, 1) := by decide +kernel
theorem dX12_quarter_35 : decode cX12_quarter 35 = .ok (.aload_n 0, 1) := by decide +kernel
theorem dX12_quarter_36 : decode cX12_quarter 36 = .ok (.getfield 127, 3) := by decide +kernel
theorem dX12_quarter_39 : decode cX12_quarter 39 = .ok (.iload_n 1, 1) := by decide +kernel
theorem dX12_quarter_40 : decode cX12_quarter 40 = .ok (.iload_n 2, 1) := by decide +kernel
theorem dX12_quarter_41 : decode cX12_quarter 41 = .ok (.iastore, 1) := by decide +kernel
theorem dX12_quarter_42 : decode cX12_quarter 42 = .ok (.aload_n 0, 1) := by decide +kernel
theorem dX12_quarter_43 : decode cX12_quarter 43 = .ok (.getfield 130, 3) := by decide +kernel
theorem dX12_quarter_46 : decode cX12_quarter 46 = .ok (.iload_n 1, 1) := by decide +kernel
theorem dX12_quarter_47 : decode cX12_quarter 47 = .ok (.iload_n 3, 1) := by decide +kernel
theorem dX12_quarter_48 : decode cX12_quarter 48 = .ok (.iastore, 1) := by decide +kernel
theorem dX12_quarter_49 : decode cX12_quarter 49 = .ok (.iconst 1, 1) := by decide +kernel
theorem dX12_quarter_50 : decode cX12_quarter 50 = .ok (.ireturn, 1) := by decide +kernel
set_option maxHeartbeats 4000000 in
set_option maxRecDepth 100000 in
theorem s_X12_quarter {P : PP} {a0 : Nat} {a1 : Int32} {a2 : Int32} {a3 : Int32} (I : IM P a0) : CtrI yX12_quarter cX12_quarter 4 (some Jvm.ClassFile.FieldType.boolean) ({ frames := 3, cells := 0, slots := 0, locals := 192 } : Room) 0 0 P [.ref a0, .int a1, .int a2, .int a3] (fun r P2 => IM P2 a0 ∧ EM [0, 45, 46] a0 P P2 ∧ (0 ≤ r.toInt ∧ r.toInt ≤ 1) ∧ (r.toInt = 0 ∨ (((0 : Int) ≤ a1.toInt ∧ a1.toInt ≤ (3 : Int)) ∧ ((0 : Int) ≤ a2.toInt ∧ a2.toInt ≤ (100 : Int)) ∧ ((0 : Int) ≤ a3.toInt ∧ a3.toInt ≤ (999 : Int))))) := by
  refine enI (lv := [(0, .ref a0), (1, .int a1), (2, .int a2), (3, .int a3)]) (by decide) (Nat.le_of_ble_eq_true rfl) rfl (fun E D cy C Ci0 ret => ?_)
  have ha0 := I.2.1
  have J33 : ∀ (P33 : PP), (IM P33 a0) → (EM [0, 45, 46] a0 P P33) → (0 ≤ (pI P33 a0 0).toInt ∧ (pI P33 a0 0).toInt ≤ 0) → G E ({ frames := 3, cells := 0, slots := 0, locals := 192 } : Room) D cy 4 P33 0 0 33 [] [] := by
    intro P33 I33 X33 hq33_0
    have h23170 := X33.at ha0
    refine g_iconst (v := 0) C dX12_quarter_33 (by decide) ?_
    exact ret _ _ _ _ _ _ dX12_quarter_34 rfl (by decide) (by decide) ⟨I33, X33, (by decide), Or.inl rfl⟩
  refine g_aload_n C dX12_quarter_0 rfl 0 rfl ?_
  refine g_iconst (v := 0) C dX12_quarter_1 (by decide) ?_
  refine g_putI C fi_X12_1 rfl (ha0).1 (ha0).2 dX12_quarter_2 ?_
  refine gqW (ks := [0]) (I.setI (rgOk.of rfl (by decide))) (EM.setI I (by decide)) (fun Y23171 Iy23172 Xy23173 w23174 => ?_)
  have w23174 : (pI Y23171 a0 0).toInt = 0 := w23174
  have Xz23175 : EM [0, 45, 46] a0 P Y23171 := Xy23173.mono (by decide)
  have h23176 := Xy23173.at ha0
  refine g_iload_n C dX12_quarter_5 rfl 1 rfl ?_
  refine g_callSI (b := 0) (ci := 0) (rest := []) C ms_X12_278 [.int a1] (s_X12_isQuarter Iy23172.1) rfl rfl (by decide) (Nat.le_of_ble_eq_true rfl) (by decide) dX12_quarter_6 (fun r23177 Y23178 h23179 => ?_)
  obtain ⟨rfl, h23179⟩ := h23179
  obtain ⟨h23179, hi23180⟩ := h23179
  have hi23180 : r23177.toInt = 0 ∨ (((0 : Int) ≤ a1.toInt ∧ a1.toInt ≤ (3 : Int))) := hi23180
  have h23179 : 0 ≤ r23177.toInt ∧ r23177.toInt ≤ 1 := h23179
  refine b_if_eq C 33 dX12_quarter_9 (by decide) (fun h23181 => ?_) (fun h23181 => ?_)
  · have h23181 : r23177.toInt = 0 := congrArg Int32.toInt h23181
    clear hi23180
    refine g_lv (lv' := []) [] rfl ?_
    exact J33 Y23171 Iy23172 Xz23175 (by omega)
  · have h23181 : r23177.toInt ≠ 0 := ti_ne h23181
    replace hi23180 := hi23180.resolve_left (by omega)
    refine g_iload_n C dX12_quarter_12 rfl 2 rfl ?_
    refine g_iconst (v := 0) C dX12_quarter_13 (by decide) ?_
    refine g_bipush (v := 100) C dX12_quarter_14 (by decide) ?_
    refine g_callSI (b := 0) (ci := 0) (rest := []) C ms_X12_178 [.int a2, .int 0, .int 100] (s_X12_within Iy23172.1) rfl rfl (by decide) (Nat.le_of_ble_eq_true rfl) (by decide) dX12_quarter_16 (fun r23182 Y23183 h23184 => ?_)
    obtain ⟨rfl, h23184⟩ := h23184
    obtain ⟨h23184, hi23185⟩ := h23184
    have hi23185 : r23182.toInt = 0 ∨ (0 ≤ a2.toInt ∧ a2.toInt ≤ 100) := hi23185
    have h23184 : 0 ≤ r23182.toInt ∧ r23182.toInt ≤ 1 := h23184
    refine b_if_eq C 33 dX12_quarter_19 (by decide) (fun h23186 => ?_) (fun h23186 => ?_)
    · have h23186 : r23182.toInt = 0 := congrArg Int32.toInt h23186
      clear hi23185
      refine g_lv (lv' := []) [] rfl ?_
      exact J33 Y23171 Iy23172 Xz23175 (by omega)
    · have h23186 : r23182.toInt ≠ 0 := ti_ne h23186
      replace hi23185 := hi23185.resolve_left (by omega)
      refine g_iload_n C dX12_quarter_22 rfl 3 rfl ?_
      refine g_iconst (v := 0) C dX12_quarter_23 (by decide) ?_
      refine g_sipush (v := 999) C dX12_quarter_24 (by decide) ?_
      refine g_callSI (b := 0) (ci := 0) (rest := []) C ms_X12_178 [.int a3, .int 0, .int 999] (s_X12_within Iy23172.1) rfl rfl (by decide) (Nat.le_of_ble_eq_true rfl) (by decide) dX12_quarter_27 (fun r23187 Y23188 h23189 => ?_)
      obtain ⟨rfl, h23189⟩ := h23189
      obtain ⟨h23189, hi23190⟩ := h23189
      have hi23190 : r23187.toInt = 0 ∨ (0 ≤ a3.toInt ∧ a3.toInt ≤ 999) := hi23190
      have h23189 : 0 ≤ r23187.toInt ∧ r23187.toInt ≤ 1 := h23189
      refine b_if_ne C 35 dX12_quarter_30 (by decide) (fun h23191 => ?_) (fun h23191 => ?_)
      · have h23191 : r23187.toInt ≠ 0 := ti_ne h23191
        replace hi23190 := hi23190.resolve_left (by omega)
        refine g_aload_n C dX12_quarter_35 rfl 0 rfl ?_
        obtain ⟨b23192, e23193, h23194⟩ := Iy23172.fld (h23176) 45 13 4 rfl
        refine g_getR C fi_X12_127 rfl e23193 (h23176).1 (h23176).2 dX12_quarter_36 ?_
        refine g_iload_n C dX12_quarter_39 rfl 1 rfl ?_
        refine g_iload_n C dX12_quarter_40 rfl 2 rfl ?_
        refine g_iast (j := (a1.toInt.toNat)) C h23194.1 h23194.2.1 (ix_in h23194.2.2 (by omega)) dX12_quarter_41 ?_
        refine gqW (ks := [45]) (Iy23172.setA e23193 h23194 (by decide) (arOk.none rfl)) (EM.setA Iy23172 e23193 rfl (by decide)) (fun Y23195 Iy23196 Xy23197 w23198 => ?_)
        have w23198 : (pI Y23195 b23192 (a1.toInt.toNat)).toInt = a2.toInt := w23198
        have q23199 := Xy23197.keepF 0 (by decide)
        have Xz23200 : EM [0, 45, 46] a0 P Y23195 := EM.tr ha0 Xz23175 (Xy23197.mono (by decide))
        have e23201 := Xy23197.ref h23176 (by decide) e23193
        have h23202 := Xy23197.at h23176
        have h23203 := Xy23197.ar h23194
        refine g_aload_n C dX12_quarter_42 rfl 0 rfl ?_
        obtain ⟨b23204, e23205, h23206⟩ := Iy23196.fld (h23202) 46 13 4 rfl
        refine g_getR C fi_X12_130 rfl e23205 (h23202).1 (h23202).2 dX12_quarter_43 ?_
        refine g_iload_n C dX12_quarter_46 rfl 1 rfl ?_
        refine g_iload_n C dX12_quarter_47 rfl 3 rfl ?_
        refine g_iast (j := (a1.toInt.toNat)) C h23206.1 h23206.2.1 (ix_in h23206.2.2 (by omega)) dX12_quarter_48 ?_
        refine gqW (ks := [46]) (Iy23196.setA e23205 h23206 (by decide) (arOk.none rfl)) (EM.setA Iy23196 e23205 rfl (by decide)) (fun Y23207 Iy23208 Xy23209 w23210 => ?_)
        have w23210 : (pI Y23207 b23204 (a1.toInt.toNat)).toInt = a3.toInt := w23210
        have q23211 := Xy23209.keepF 0 (by decide)
        have q23212 := Xy23209.keepA e23201 (by decide) rfl (a1.toInt.toNat)
        have Xz23213 : EM [0, 45, 46] a0 P Y23207 := EM.tr ha0 Xz23200 (Xy23209.mono (by decide))
        have e23214 := Xy23209.ref h23202 (by decide) e23201
        have e23215 := Xy23209.ref h23202 (by decide) e23205
        have h23216 := Xy23209.at h23202
        have h23217 := Xy23209.ar h23203
        have h23218 := Xy23209.ar h23206
        refine g_iconst (v := 1) C dX12_quarter_49 (by decide) ?_
        exact ret _ _ _ _ _ _ dX12_quarter_50 rfl (by decide) (by decide) ⟨Iy23208, Xz23213, (by decide), Or.inr (by omega)⟩
      · have h23191 : r23187.toInt = 0 := congrArg Int32.toInt h23191
        clear hi23190
        refine g_lv (lv' := []) [] rfl ?_
        exact J33 Y23171 Iy23172 Xz23175 (by omega)
theorem dX12_rank_0 : decode cX12_rank 0 = .ok (.iload_n 0, 1) := by decide +kernel
theorem dX12_rank_1 : decode cX12_rank 1 = .ok (.invokestatic 136, 3) := by decide +kernel
theorem dX12_read_0 : decode cX12_read 0 = .ok (.aload_n 0, 1) := by decide +kernel
theorem dX12_read_1 : decode cX12_read 1 = .ok (.iconst 0, 1) := by decide +kernel
theorem dX12_read_2 : decode cX12_read 2 = .ok (.putfield 1, 3) := by decide +kernel
theorem dX12_read_5 : decode cX12_read 5 = .ok (.iload_n 1, 1) := by decide +kernel
theorem dX12_read_6 : decode cX12_read 6 = .ok (.invokestatic 278, 3) := by decide +kernel
theorem dX12_read_9 : decode cX12_read 9 = .ok (.ifCond .eq 30, 3) := by decide +kernel
theorem dX12_read_12 : decode cX12_read 12 = .ok (.aload_n 0, 1) := by decide +kernel
theorem dX12_read_13 : decode cX12_read 13 = .ok (.iload_n 2, 1) := by decide +kernel
theorem dX12_read_14 : decode cX12_read 14 = .ok (.invokevirtual 192, 3) := by decide +kernel
theorem dX12_read_17 : decode cX12_read 17 = .ok (.ifCond .eq 22, 3) := by decide +kernel
theorem dX12_read_20 : decode cX12_read 20 = .ok (.aload_n 0, 1) := by decide +kernel
theorem dX12_read_21 : decode cX12_read 21 = .ok (.iload_n 2, 1) := by decide +kernel
theorem dX12_read_22 : decode cX12_read 22 = .ok (.iload_n 3, 1) := by decide +kernel
theorem dX12_read_23 : decode cX12_read 23 = .ok (.invokevirtual 352, 3) := by decide +kernel
theorem dX12_read_26 : decode cX12_read 26 = .ok (.ifCond .eq 13, 3) := by decide +kernel
theorem dX12_read_29 : decode cX12_read 29 = .ok (.iload 4, 2) := by decide +kernel
theorem dX12_read_31 : decode cX12_read 31 = .ok (.iconst 0, 1) := by decide +kernel
theorem dX12_read_32 : decode cX12_read 32 = .ok (.iconst 1, 1) := by decide +kernel
theorem dX12_read_33 : decode cX12_read 33 = .ok (.invokestatic 178, 3) := by decide +kernel
theorem dX12_read_36 : decode cX12_read 36 = .ok (.ifCond .ne 5, 3) := by decide +kernel
theorem dX12_read_41 : decode cX12_read 41 = .ok (.aload_n 0, 1) := by decide +kernel
theorem dX12_read_42 : decode cX12_read 42 = .ok (.invokevirtual 336, 3) := by decide +kernel
theorem dX12_read_45 : decode cX12_read 45 = .ok (.aload_n 0, 1) := by decide +kernel
theorem dX12_read_46 : decode cX12_read 46 = .ok (.iload_n 1, 1) := by decide +kernel
theorem dX12_read_47 : decode cX12_read 47 = .ok (.iload_n 2, 1) := by decide +kernel
theorem dX12_read_48 : decode cX12_read 48 = .ok (.iload_n 3, 1) := by decide +kernel
theorem dX12_read_49 : decode cX12_read 49 = .ok (.iload 4, 2) := by decide +kernel
theorem dX12_read_51 : decode cX12_read 51 = .ok (.aload_n 0, 1) := by decide +kernel
theorem dX12_read_52 : decode cX12_read 52 = .ok (.getfield 69, 3) := by decide +kernel
theorem dX12_read_55 : decode cX12_read 55 = .ok (.iload_n 1, 1) := by decide +kernel
theorem dX12_read_56 : decode cX12_read 56 = .ok (.iaload, 1) := by decide +kernel
theorem dX12_read_57 : decode cX12_read 57 = .ok (.invokevirtual 355, 3) := by decide +kernel
theorem dX12_readBy_0 : decode cX12_readBy 0 = .ok (.iconst 0, 1) := by decide +kernel
theorem dX12_readBy_1 : decode cX12_readBy 1 = .ok (.istore 6, 2) := by decide +kernel
theorem dX12_readBy_3 : decode cX12_readBy 3 = .ok (.iconst 0, 1) := by decide +kernel
theorem dX12_readBy_4 : decode cX12_readBy 4 = .ok (.istore 7, 2) := by decide +kernel
theorem dX12_readBy_6 : decode cX12_readBy 6 = .ok (.iload 7, 2) := by decide +kernel
theorem dX12_readBy_8 : decode cX12_readBy 8 = .ok (.iconst 2, 1) := by decide +kernel
theorem dX12_readBy_9 : decode cX12_readBy 9 = .ok (.if_icmp .ge 105, 3) := by decide +kernel
theorem dX12_readBy_12 : decode cX12_readBy 12 = .ok (.aload_n 0, 1) := by decide +kernel
theorem dX12_readBy_13 : decode cX12_readBy 13 = .ok (.iload_n 1, 1) := by decide +kernel
theorem dX12_readBy_14 : decode cX12_readBy 14 = .ok (.iload_n 2, 1) := by decide +kernel
theorem dX12_readBy_15 : decode cX12_readBy 15 = .ok (.iload 7, 2) := by decide +kernel
theorem dX12_readBy_17 : decode cX12_readBy 17 = .ok (.iload 5, 2) := by decide +kernel
theorem dX12_readBy_19 : decode cX12_readBy 19 = .ok (.invokevirtual 339, 3) := by decide +kernel
theorem dX12_readLine_0 : decode cX12_readLine 0 = .ok (.aload_n 0, 1) := by decide +kernel
theorem dX12_readLine_1 : decode cX12_readLine 1 = .ok (.iconst 1, 1) := by decide +kernel
theorem dX12_readLine_2 : decode cX12_readLine 2 = .ok (.invokevirtual 172, 3) := by decide +kernel
theorem dX12_readLine_5 : decode cX12_readLine 5 = .ok (.ifCond .eq 12, 3) := by decide +kernel
theorem dX12_readLine_8 : decode cX12_readLine 8 = .ok (.aload_n 0, 1) := by decide +kernel
theorem dX12_readLine_9 : decode cX12_readLine 9 = .ok (.getfield 54, 3) := by decide +kernel
theorem dX12_readLine_12 : decode cX12_readLine 12 = .ok (.iconst 2, 1) := by decide +kernel
theorem dX12_readLine_13 : decode cX12_readLine 13 = .ok (.iaload, 1) := by decide +kernel
theorem dX12_readLine_14 : decode cX12_readLine 14 = .ok (.ifCond .gt 20, 3) := by decide +kernel
theorem dX12_readLine_17 : decode cX12_readLine 17 = .ok (.aload_n 0, 1) := by decide +kernel
theorem dX12_readLine_18 : decode cX12_readLine 18 = .ok (.iconst 3, 1) := by decide +kernel
theorem dX12_readLine_19 : decode cX12_readLine 19 = .ok (.invokevirtual 172, 3) := by decide +kernel
theorem dX12_readLine_22 : decode cX12_readLine 22 = .ok (.ifCond .eq 16, 3) := by decide +kernel
theorem dX12_readLine_25 : decode cX12_readLine 25 = .ok (.aload_n 0, 1) := by decide +kernel
theorem dX12_readLine_26 : decode cX12_readLine 26 = .ok (.getfield 66, 3) := by decide +kernel
theorem dX12_readLine_29 : decode cX12_readLine 29 = .ok (.iconst 2, 1) := by decide +kernel
theorem dX12_readLine_30 : decode cX12_readLine 30 = .ok (.iaload, 1) := by decide +kernel
theorem dX12_readLine_31 : decode cX12_readLine 31 = .ok (.ifCond .le 7, 3) := by decide +kernel
theorem dX12_readLine_34 : decode cX12_readLine 34 = .ok (.iconst 1, 1) := by decide +kernel
theorem dX12_readLine_35 : decode cX12_readLine 35 = .ok (.goto 4, 3) := by decide +kernel
theorem dX12_readLine_38 : decode cX12_readLine 38 = .ok (.iconst 0, 1) := by decide +kernel
theorem dX12_readLine_39 : decode cX12_readLine 39 = .ok (.istore_n 1, 1) := by decide +kernel
theorem dX12_readLine_40 : decode cX12_readLine 40 = .ok (.aload_n 0, 1) := by decide +kernel
theorem dX12_readLine_41 : decode cX12_readLine 41 = .ok (.iconst 0, 1) := by decide +kernel
theorem dX12_readLine_42 : decode cX12_readLine 42 = .ok (.invokevirtual 172, 3) := by decide +kernel
theorem dX12_readLine_45 : decode cX12_readLine 45 = .ok (.ifCond .ne 35, 3) := by decide +kernel
theorem dX12_readLine_48 : decode cX12_readLine 48 = .ok (.aload_n 0, 1) := by decide +kernel
theorem dX12_readLine_49 : decode cX12_readLine 49 = .ok (.iconst 1, 1) := by decide +kernel
theorem dX12_readLine_50 : decode cX12_readLine 50 = .ok (.invokevirtual 172, 3) := by decide +kernel
theorem dX12_readLine_53 : decode cX12_readLine 53 = .ok (.ifCond .ne 27, 3) := by decide +kernel
theorem dX12_readLine_56 : decode cX12_readLine 56 = .ok (.aload_n 0, 1) := by decide +kernel
theorem dX12_readLine_57 : decode cX12_readLine 57 = .ok (.iconst 2, 1) := by decide +kernel
theorem dX12_readLine_58 : decode cX12_readLine 58 = .ok (.invokevirtual 172, 3) := by decide +kernel
theorem dX12_readLine_61 : decode cX12_readLine 61 = .ok (.ifCond .ne 19, 3) := by decide +kernel
theorem dX12_readLine_64 : decode cX12_readLine 64 = .ok (.aload_n 0, 1) := by decide +kernel
theorem dX12_readLine_65 : decode cX12_readLine 65 = .ok (.iconst 3, 1) := by decide +kernel
theorem dX12_readLine_66 : decode cX12_readLine 66 = .ok (.invokevirtual 172, 3) := by decide +kernel
theorem dX12_readLine_69 : decode cX12_readLine 69 = .ok (.ifCond .ne 11, 3) := by decide +kernel
theorem dX12_readLine_72 : decode cX12_readLine 72 = .ok (.aload_n 0, 1) := by decide +kernel
theorem dX12_readLine_73 : decode cX12_readLine 73 = .ok (.iconst 1, 1) := by decide +kernel
theorem dX12_readLine_74 : decode cX12_readLine 74 = .ok (.invokevirtual 168, 3) := by decide +kernel
theorem dX12_wrong_0 : decode cX12_wrong 0 = .ok (.aload_n 0, 1) := by decide +kernel
theorem dX12_wrong_1 : decode cX12_wrong 1 = .ok (.getfield 162, 3) := by decide +kernel
theorem dX12_wrong_4 : decode cX12_wrong 4 = .ok (.ifCond .ne 21, 3) := by decide +kernel
theorem dX12_wrong_7 : decode cX12_wrong 7 = .ok (.aload_n 0, 1) := by decide +kernel
theorem dX12_wrong_8 : decode cX12_wrong 8 = .ok (.iload_n 1, 1) := by decide +kernel
theorem dX12_wrong_9 : decode cX12_wrong 9 = .ok (.bipush 16, 2) := by decide +kernel
theorem dX12_wrong_11 : decode cX12_wrong 11 = .ok (.aload_n 0, 1) := by decide +kernel
theorem dX12_wrong_12 : decode cX12_wrong 12 = .ok (.getfield 27, 3) := by decide +kernel
theorem dX12_wrong_15 : decode cX12_wrong 15 = .ok (.aload_n 0, 1) := by decide +kernel
theorem dX12_wrong_16 : decode cX12_wrong 16 = .ok (.getfield 159, 3) := by decide +kernel
theorem dX12_wrong_19 : decode cX12_wrong 19 = .ok (.iaload, 1) := by decide +kernel
theorem dX12_wrong_20 : decode cX12_wrong 20 = .ok (.imul, 1) := by decide +kernel
theorem dX12_wrong_21 : decode cX12_wrong 21 = .ok (.iadd, 1) := by decide +kernel
theorem dX12_wrong_22 : decode cX12_wrong 22 = .ok (.putfield 162, 3) := by decide +kernel
theorem dX12_wrong_25 : decode cX12_wrong 25 = .ok (.return_, 1) := by decide +kernel
set_option maxHeartbeats 4000000 in
set_option maxRecDepth 100000 in
theorem s_X12_wrong {P : PP} {a0 : Nat} {a1 : Int32} (I : IM P a0) (ha1 : 1 ≤ a1.toInt ∧ a1.toInt ≤ 5) : CtrV yX12_wrong cX12_wrong 2 none ({ frames := 1, cells := 0, slots := 0, locals := 64 } : Room) 0 0 P [.ref a0, .int a1] (fun P2 => IM P2 a0 ∧ EM [8] a0 P P2) := by
  refine enV (lv := [(0, .ref a0), (1, .int a1)]) (by decide) (Nat.le_of_ble_eq_true rfl) rfl (fun E D cy C Ci0 ret => ?_)
  have ha0 := I.2.1
  refine g_aload_n C dX12_wrong_0 rfl 0 rfl ?_
  refine g_getI C fi_X12_162 (by decide) (ha0).1 (ha0).2 dX12_wrong_1 ?_
  have h23310 := I.rg (ha0) 8 rfl
  refine b_if_ne C 25 dX12_wrong_4 (by decide) (fun h23311 => ?_) (fun h23311 => ?_)
  · have h23311 : (pI P a0 8).toInt ≠ 0 := ti_ne h23311
    exact ret _ _ _ _ _ dX12_wrong_25 (by decide) (by decide) ⟨I, EM.rf⟩
  · have h23311 : (pI P a0 8).toInt = 0 := congrArg Int32.toInt h23311
    refine g_aload_n C dX12_wrong_7 rfl 0 rfl ?_
    refine g_iload_n C dX12_wrong_8 rfl 1 rfl ?_
    refine g_bipush (v := 16) C dX12_wrong_9 (by decide) ?_
    refine g_aload_n C dX12_wrong_11 rfl 0 rfl ?_
    obtain ⟨b23312, e23313, h23314⟩ := I.fld (ha0) 5 13 1002 rfl
    refine g_getR C fi_X12_27 rfl e23313 (ha0).1 (ha0).2 dX12_wrong_12 ?_
    refine g_aload_n C dX12_wrong_15 rfl 0 rfl ?_
    refine g_getI C fi_X12_159 (by decide) (ha0).1 (ha0).2 dX12_wrong_16 ?_
    have h23315 := I.rg (ha0) 7 rfl
    refine g_iald (j := ((pI P a0 7).toInt.toNat)) C h23314.1 h23314.2.1 (ix_in h23314.2.2 (by omega)) dX12_wrong_19 ?_
    have h23316 := I.arr e23313 rfl ((pI P a0 7).toInt.toNat)
    refine s_imul C dX12_wrong_20 (by show -2147483648 ≤ 16 * (pI P b23312 ((pI P a0 7).toInt.toNat)).toInt ∧ 16 * (pI P b23312 ((pI P a0 7).toInt.toNat)).toInt ≤ 2147483647; omega) (fun z23317 h23318 => ?_)
    have h23318 : z23317.toInt = 16 * (pI P b23312 ((pI P a0 7).toInt.toNat)).toInt := h23318
    refine s_iadd C dX12_wrong_21 (by show -2147483648 ≤ a1.toInt + z23317.toInt ∧ a1.toInt + z23317.toInt ≤ 2147483647; omega) (fun z23319 h23320 => ?_)
    have h23320 : z23319.toInt = a1.toInt + z23317.toInt := h23320
    refine g_putI C fi_X12_162 rfl (ha0).1 (ha0).2 dX12_wrong_22 ?_
    refine gqW (ks := [8]) (I.setI (rgOk.of rfl (by omega))) (EM.setI I (by decide)) (fun Y23321 Iy23322 Xy23323 w23324 => ?_)
    have w23324 : (pI Y23321 a0 8).toInt = z23319.toInt := w23324
    have q23325 := Xy23323.keepF 7 (by decide)
    have Xz23326 : EM [8] a0 P Y23321 := Xy23323.mono (by decide)
    have h23327 := Xy23323.at ha0
    exact ret _ _ _ _ _ dX12_wrong_25 (by decide) (by decide) ⟨Iy23322, Xz23326⟩
theorem dX12_readLine_77 : decode cX12_readLine 77 = .ok (.goto 38, 3) := by decide +kernel
theorem dX12_readLine_80 : decode cX12_readLine 80 = .ok (.iload_n 1, 1) := by decide +kernel
theorem dX12_readLine_81 : decode cX12_readLine 81 = .ok (.ifCond .eq 11, 3) := by decide +kernel
theorem dX12_readLine_84 : decode cX12_readLine 84 = .ok (.aload_n 0, 1) := by decide +kernel
theorem dX12_readLine_85 : decode cX12_readLine 85 = .ok (.iconst 3, 1) := by decide +kernel
theorem dX12_readLine_86 : decode cX12_readLine 86 = .ok (.invokevirtual 168, 3) := by decide +kernel
theorem dX12_readLine_89 : decode cX12_readLine 89 = .ok (.goto 26, 3) := by decide +kernel
theorem dX12_readLine_92 : decode cX12_readLine 92 = .ok (.aload_n 0, 1) := by decide +kernel
theorem dX12_readLine_93 : decode cX12_readLine 93 = .ok (.iconst 2, 1) := by decide +kernel
theorem dX12_readLine_94 : decode cX12_readLine 94 = .ok (.invokevirtual 172, 3) := by decide +kernel
theorem dX12_readLine_97 : decode cX12_readLine 97 = .ok (.ifCond .eq 18, 3) := by decide +kernel
theorem dX12_readLine_100 : decode cX12_readLine 100 = .ok (.aload_n 0, 1) := by decide +kernel
theorem dX12_readLine_101 : decode cX12_readLine 101 = .ok (.getfield 60, 3) := by decide +kernel
theorem dX12_readLine_104 : decode cX12_readLine 104 = .ok (.iconst 2, 1) := by decide +kernel
theorem dX12_readLine_105 : decode cX12_readLine 105 = .ok (.iaload, 1) := by decide +kernel
theorem dX12_readLine_106 : decode cX12_readLine 106 = .ok (.iconst 4, 1) := by decide +kernel
theorem dX12_readLine_107 : decode cX12_readLine 107 = .ok (.if_icmp .ne 8, 3) := by decide +kernel
theorem dX12_readLine_110 : decode cX12_readLine 110 = .ok (.aload_n 0, 1) := by decide +kernel
theorem dX12_readLine_111 : decode cX12_readLine 111 = .ok (.iconst 5, 1) := by decide +kernel
theorem dX12_readLine_112 : decode cX12_readLine 112 = .ok (.invokevirtual 168, 3) := by decide +kernel
theorem dX12_readLine_115 : decode cX12_readLine 115 = .ok (.aload_n 0, 1) := by decide +kernel
theorem dX12_readLine_116 : decode cX12_readLine 116 = .ok (.getfield 162, 3) := by decide +kernel
theorem dX12_readLine_119 : decode cX12_readLine 119 = .ok (.ifCond .le 4, 3) := by decide +kernel
theorem dX12_readLine_123 : decode cX12_readLine 123 = .ok (.aload_n 0, 1) := by decide +kernel
theorem dX12_readLine_124 : decode cX12_readLine 124 = .ok (.iconst 0, 1) := by decide +kernel
theorem dX12_readLine_125 : decode cX12_readLine 125 = .ok (.invokevirtual 175, 3) := by decide +kernel
theorem dX12_readOdds_0 : decode cX12_readOdds 0 = .ok (.aload_n 0, 1) := by decide +kernel
theorem dX12_readOdds_1 : decode cX12_readOdds 1 = .ok (.getfield 24, 3) := by decide +kernel
theorem dX12_readOdds_4 : decode cX12_readOdds 4 = .ok (.aload_n 0, 1) := by decide +kernel
theorem dX12_readOdds_5 : decode cX12_readOdds 5 = .ok (.getfield 159, 3) := by decide +kernel
theorem dX12_readOdds_8 : decode cX12_readOdds 8 = .ok (.iaload, 1) := by decide +kernel
theorem dX12_readOdds_9 : decode cX12_readOdds 9 = .ok (.iconst 2, 1) := by decide +kernel
theorem dX12_readOdds_10 : decode cX12_readOdds 10 = .ok (.if_icmp .ne 59, 3) := by decide +kernel
theorem dX12_readOdds_13 : decode cX12_readOdds 13 = .ok (.aload_n 0, 1) := by decide +kernel
theorem dX12_readOdds_14 : decode cX12_readOdds 14 = .ok (.getfield 30, 3) := by decide +kernel
theorem dX12_readOdds_17 : decode cX12_readOdds 17 = .ok (.aload_n 0, 1) := by decide +kernel
theorem dX12_readOdds_18 : decode cX12_readOdds 18 = .ok (.getfield 159, 3) := by decide +kernel
theorem dX12_readOdds_21 : decode cX12_readOdds 21 = .ok (.laload, 1) := by decide +kernel
theorem dX12_readOdds_22 : decode cX12_readOdds 22 = .ok (.lconst 1, 1) := by decide +kernel
theorem dX12_readOdds_23 : decode cX12_readOdds 23 = .ok (.lcmp, 1) := by decide +kernel
theorem dX12_readOdds_24 : decode cX12_readOdds 24 = .ok (.ifCond .lt 45, 3) := by decide +kernel
theorem dX12_readOdds_27 : decode cX12_readOdds 27 = .ok (.aload_n 0, 1) := by decide +kernel
theorem dX12_readOdds_28 : decode cX12_readOdds 28 = .ok (.getfield 30, 3) := by decide +kernel
theorem dX12_readOdds_31 : decode cX12_readOdds 31 = .ok (.aload_n 0, 1) := by decide +kernel
theorem dX12_readOdds_32 : decode cX12_readOdds 32 = .ok (.getfield 159, 3) := by decide +kernel
theorem dX12_readOdds_35 : decode cX12_readOdds 35 = .ok (.laload, 1) := by decide +kernel
theorem dX12_readOdds_36 : decode cX12_readOdds 36 = .ok (.ldc2_w 221, 3) := by decide +kernel
theorem dX12_readOdds_39 : decode cX12_readOdds 39 = .ok (.lcmp, 1) := by decide +kernel
theorem dX12_readOdds_40 : decode cX12_readOdds 40 = .ok (.ifCond .gt 29, 3) := by decide +kernel
theorem dX12_readOdds_43 : decode cX12_readOdds 43 = .ok (.aload_n 0, 1) := by decide +kernel
theorem dX12_readOdds_44 : decode cX12_readOdds 44 = .ok (.getfield 51, 3) := by decide +kernel
theorem dX12_readOdds_47 : decode cX12_readOdds 47 = .ok (.bipush 42, 2) := by decide +kernel
theorem dX12_readOdds_49 : decode cX12_readOdds 49 = .ok (.aload_n 0, 1) := by decide +kernel
theorem dX12_readOdds_50 : decode cX12_readOdds 50 = .ok (.getfield 30, 3) := by decide +kernel
theorem dX12_readOdds_53 : decode cX12_readOdds 53 = .ok (.aload_n 0, 1) := by decide +kernel
theorem dX12_readOdds_54 : decode cX12_readOdds 54 = .ok (.getfield 159, 3) := by decide +kernel
theorem dX12_readOdds_57 : decode cX12_readOdds 57 = .ok (.laload, 1) := by decide +kernel
theorem dX12_readOdds_58 : decode cX12_readOdds 58 = .ok (.l2i, 1) := by decide +kernel
theorem dX12_readOdds_59 : decode cX12_readOdds 59 = .ok (.iadd, 1) := by decide +kernel
theorem dX12_readOdds_60 : decode cX12_readOdds 60 = .ok (.iaload, 1) := by decide +kernel
theorem dX12_readSum_0 : decode cX12_readSum 0 = .ok (.iconst 0, 1) := by decide +kernel
theorem dX12_readSum_1 : decode cX12_readSum 1 = .ok (.istore_n 1, 1) := by decide +kernel
theorem dX12_readSum_2 : decode cX12_readSum 2 = .ok (.iconst 0, 1) := by decide +kernel
theorem dX12_readSum_3 : decode cX12_readSum 3 = .ok (.istore_n 2, 1) := by decide +kernel
theorem dX12_readSum_4 : decode cX12_readSum 4 = .ok (.aload_n 0, 1) := by decide +kernel
theorem dX12_readSum_5 : decode cX12_readSum 5 = .ok (.getfield 162, 3) := by decide +kernel
theorem dX12_readSum_8 : decode cX12_readSum 8 = .ok (.ifCond .ne 97, 3) := by decide +kernel
theorem dX12_readSum_11 : decode cX12_readSum 11 = .ok (.iload_n 2, 1) := by decide +kernel
theorem dX12_readSum_12 : decode cX12_readSum 12 = .ok (.iconst 2, 1) := by decide +kernel
theorem dX12_readSum_13 : decode cX12_readSum 13 = .ok (.if_icmp .lt 16, 3) := by decide +kernel
theorem dX12_readSum_105 : decode cX12_readSum 105 = .ok (.aload_n 0, 1) := by decide +kernel
theorem dX12_readSum_106 : decode cX12_readSum 106 = .ok (.getfield 63, 3) := by decide +kernel
theorem dX12_readSum_109 : decode cX12_readSum 109 = .ok (.bipush 8, 2) := by decide +kernel
theorem dX12_readSum_111 : decode cX12_readSum 111 = .ok (.aload_n 0, 1) := by decide +kernel
theorem dX12_readSum_112 : decode cX12_readSum 112 = .ok (.getfield 60, 3) := by decide +kernel
theorem dX12_readSum_115 : decode cX12_readSum 115 = .ok (.iconst 2, 1) := by decide +kernel
theorem dX12_readSum_116 : decode cX12_readSum 116 = .ok (.iaload, 1) := by decide +kernel
theorem dX12_readSum_117 : decode cX12_readSum 117 = .ok (.iadd, 1) := by decide +kernel
theorem dX12_readSum_118 : decode cX12_readSum 118 = .ok (.iload_n 1, 1) := by decide +kernel
theorem dX12_readSum_119 : decode cX12_readSum 119 = .ok (.iastore, 1) := by decide +kernel
theorem dX12_right_0 : decode cX12_right 0 = .ok (.aload_n 0, 1) := by decide +kernel
theorem dX12_right_1 : decode cX12_right 1 = .ok (.iconst 0, 1) := by decide +kernel
theorem dX12_right_2 : decode cX12_right 2 = .ok (.putfield 1, 3) := by decide +kernel
theorem dX12_right_5 : decode cX12_right 5 = .ok (.aload_n 0, 1) := by decide +kernel
theorem dX12_right_6 : decode cX12_right 6 = .ok (.iload_n 1, 1) := by decide +kernel
theorem dX12_right_7 : decode cX12_right 7 = .ok (.iload_n 2, 1) := by decide +kernel
theorem dX12_right_8 : decode cX12_right 8 = .ok (.iload_n 3, 1) := by decide +kernel
theorem dX12_right_9 : decode cX12_right 9 = .ok (.invokevirtual 333, 3) := by decide +kernel
theorem dX12_right_12 : decode cX12_right 12 = .ok (.ifCond .eq 23, 3) := by decide +kernel
theorem dX12_right_15 : decode cX12_right 15 = .ok (.aload_n 0, 1) := by decide +kernel
theorem dX12_right_16 : decode cX12_right 16 = .ok (.iload_n 2, 1) := by decide +kernel
theorem dX12_right_17 : decode cX12_right 17 = .ok (.iload 4, 2) := by decide +kernel
theorem dX12_right_19 : decode cX12_right 19 = .ok (.invokevirtual 352, 3) := by decide +kernel
theorem dX12_right_22 : decode cX12_right 22 = .ok (.ifCond .eq 13, 3) := by decide +kernel
theorem dX12_right_25 : decode cX12_right 25 = .ok (.aload_n 0, 1) := by decide +kernel
theorem dX12_right_26 : decode cX12_right 26 = .ok (.iload_n 1, 1) := by decide +kernel
theorem dX12_right_27 : decode cX12_right 27 = .ok (.iload_n 2, 1) := by decide +kernel
theorem dX12_right_28 : decode cX12_right 28 = .ok (.iload_n 3, 1) := by decide +kernel
theorem dX12_right_29 : decode cX12_right 29 = .ok (.invokevirtual 364, 3) := by decide +kernel
theorem dX12_scatter_0 : decode cX12_scatter 0 = .ok (.aload_n 0, 1) := by decide +kernel
theorem dX12_scatter_1 : decode cX12_scatter 1 = .ok (.iconst 0, 1) := by decide +kernel
theorem dX12_scatter_2 : decode cX12_scatter 2 = .ok (.putfield 1, 3) := by decide +kernel
theorem dX12_scatter_5 : decode cX12_scatter 5 = .ok (.aload_n 0, 1) := by decide +kernel
theorem dX12_scatter_6 : decode cX12_scatter 6 = .ok (.iload_n 1, 1) := by decide +kernel
theorem dX12_scatter_7 : decode cX12_scatter 7 = .ok (.invokevirtual 192, 3) := by decide +kernel
theorem dX12_scatter_10 : decode cX12_scatter 10 = .ok (.ifCond .eq 30, 3) := by decide +kernel
theorem dX12_scatter_13 : decode cX12_scatter 13 = .ok (.iload_n 2, 1) := by decide +kernel
theorem dX12_scatter_14 : decode cX12_scatter 14 = .ok (.invokestatic 258, 3) := by decide +kernel
theorem dX12_scatter_17 : decode cX12_scatter 17 = .ok (.ifCond .eq 23, 3) := by decide +kernel
theorem dX12_scatter_20 : decode cX12_scatter 20 = .ok (.iload_n 3, 1) := by decide +kernel
theorem dX12_scatter_21 : decode cX12_scatter 21 = .ok (.invokestatic 258, 3) := by decide +kernel
theorem dX12_scatter_24 : decode cX12_scatter 24 = .ok (.ifCond .eq 16, 3) := by decide +kernel
theorem dX12_scatter_27 : decode cX12_scatter 27 = .ok (.iload_n 3, 1) := by decide +kernel
theorem dX12_scatter_28 : decode cX12_scatter 28 = .ok (.iload_n 2, 1) := by decide +kernel
theorem dX12_scatter_29 : decode cX12_scatter 29 = .ok (.if_icmp .lt 11, 3) := by decide +kernel
theorem dX12_scatter_32 : decode cX12_scatter 32 = .ok (.iload_n 3, 1) := by decide +kernel
theorem dX12_scatter_33 : decode cX12_scatter 33 = .ok (.iload_n 2, 1) := by decide +kernel
theorem dX12_scatter_34 : decode cX12_scatter 34 = .ok (.isub, 1) := by decide +kernel
theorem dX12_scatter_35 : decode cX12_scatter 35 = .ok (.bipush 99, 2) := by decide +kernel
theorem dX12_scatter_37 : decode cX12_scatter 37 = .ok (.if_icmp .le 5, 3) := by decide +kernel
theorem dX12_scatter_40 : decode cX12_scatter 40 = .ok (.iconst (-1), 1) := by decide +kernel
theorem dX12_scatter_41 : decode cX12_scatter 41 = .ok (.ireturn, 1) := by decide +kernel
theorem dX12_scatter_42 : decode cX12_scatter 42 = .ok (.iconst 0, 1) := by decide +kernel
theorem dX12_scatter_43 : decode cX12_scatter 43 = .ok (.istore 4, 2) := by decide +kernel
theorem dX12_scatter_45 : decode cX12_scatter 45 = .ok (.iload_n 2, 1) := by decide +kernel
theorem dX12_scatter_46 : decode cX12_scatter 46 = .ok (.istore 5, 2) := by decide +kernel
theorem dX12_scatter_48 : decode cX12_scatter 48 = .ok (.iload 5, 2) := by decide +kernel
theorem dX12_scatter_50 : decode cX12_scatter 50 = .ok (.iload_n 3, 1) := by decide +kernel
theorem dX12_scatter_51 : decode cX12_scatter 51 = .ok (.if_icmp .gt 119, 3) := by decide +kernel
theorem dX12_scatter_54 : decode cX12_scatter 54 = .ok (.aload_n 0, 1) := by decide +kernel
theorem dX12_scatter_55 : decode cX12_scatter 55 = .ok (.iload_n 1, 1) := by decide +kernel
theorem dX12_scatter_56 : decode cX12_scatter 56 = .ok (.aload_n 0, 1) := by decide +kernel
theorem dX12_scatter_57 : decode cX12_scatter 57 = .ok (.iload_n 1, 1) := by decide +kernel
theorem dX12_scatter_58 : decode cX12_scatter 58 = .ok (.iload 5, 2) := by decide +kernel
theorem dX12_scatter_60 : decode cX12_scatter 60 = .ok (.invokevirtual 261, 3) := by decide +kernel
theorem dX12_scatter_170 : decode cX12_scatter 170 = .ok (.iload 4, 2) := by decide +kernel
theorem dX12_scatter_172 : decode cX12_scatter 172 = .ok (.ireturn, 1) := by decide +kernel
theorem dX12_slip_0 : decode cX12_slip 0 = .ok (.aload_n 0, 1) := by decide +kernel
theorem dX12_slip_1 : decode cX12_slip 1 = .ok (.iconst 0, 1) := by decide +kernel
theorem dX12_slip_2 : decode cX12_slip 2 = .ok (.putfield 1, 3) := by decide +kernel
theorem dX12_slip_5 : decode cX12_slip 5 = .ok (.iload_n 1, 1) := by decide +kernel
theorem dX12_slip_6 : decode cX12_slip 6 = .ok (.invokestatic 278, 3) := by decide +kernel
theorem dX12_slip_9 : decode cX12_slip 9 = .ok (.ifCond .eq 40, 3) := by decide +kernel
theorem dX12_slip_12 : decode cX12_slip 12 = .ok (.aload_n 0, 1) := by decide +kernel
theorem dX12_slip_13 : decode cX12_slip 13 = .ok (.iload_n 2, 1) := by decide +kernel
theorem dX12_slip_14 : decode cX12_slip 14 = .ok (.invokevirtual 192, 3) := by decide +kernel
theorem dX12_slip_17 : decode cX12_slip 17 = .ok (.ifCond .eq 32, 3) := by decide +kernel
theorem dX12_slip_20 : decode cX12_slip 20 = .ok (.iload_n 3, 1) := by decide +kernel
theorem dX12_slip_21 : decode cX12_slip 21 = .ok (.invokestatic 258, 3) := by decide +kernel
theorem dX12_slip_24 : decode cX12_slip 24 = .ok (.ifCond .eq 25, 3) := by decide +kernel
theorem dX12_slip_27 : decode cX12_slip 27 = .ok (.iload 4, 2) := by decide +kernel
theorem dX12_slip_29 : decode cX12_slip 29 = .ok (.iconst 1, 1) := by decide +kernel
theorem dX12_slip_30 : decode cX12_slip 30 = .ok (.ldc 195, 2) := by decide +kernel
theorem dX12_slip_32 : decode cX12_slip 32 = .ok (.invokestatic 178, 3) := by decide +kernel
theorem dX12_slip_35 : decode cX12_slip 35 = .ok (.ifCond .eq 14, 3) := by decide +kernel
theorem dX12_slip_38 : decode cX12_slip 38 = .ok (.aload_n 0, 1) := by decide +kernel
theorem dX12_slip_39 : decode cX12_slip 39 = .ok (.getfield 69, 3) := by decide +kernel
theorem dX12_slip_42 : decode cX12_slip 42 = .ok (.iload_n 1, 1) := by decide +kernel
theorem dX12_slip_43 : decode cX12_slip 43 = .ok (.iaload, 1) := by decide +kernel
theorem dX12_slip_44 : decode cX12_slip 44 = .ok (.bipush 40, 2) := by decide +kernel
theorem dX12_slip_46 : decode cX12_slip 46 = .ok (.if_icmp .ne 5, 3) := by decide +kernel
theorem dX12_slip_51 : decode cX12_slip 51 = .ok (.aload_n 0, 1) := by decide +kernel
theorem dX12_slip_52 : decode cX12_slip 52 = .ok (.iload_n 2, 1) := by decide +kernel
theorem dX12_slip_53 : decode cX12_slip 53 = .ok (.aload_n 0, 1) := by decide +kernel
theorem dX12_slip_54 : decode cX12_slip 54 = .ok (.iload_n 2, 1) := by decide +kernel
theorem dX12_slip_55 : decode cX12_slip 55 = .ok (.iload_n 3, 1) := by decide +kernel
theorem dX12_slip_56 : decode cX12_slip 56 = .ok (.invokevirtual 261, 3) := by decide +kernel
theorem dX12_slipped_0 : decode cX12_slipped 0 = .ok (.aload_n 0, 1) := by decide +kernel
theorem dX12_slipped_1 : decode cX12_slipped 1 = .ok (.iconst 0, 1) := by decide +kernel
theorem dX12_slipped_2 : decode cX12_slipped 2 = .ok (.putfield 1, 3) := by decide +kernel
theorem dX12_slipped_5 : decode cX12_slipped 5 = .ok (.aload_n 0, 1) := by decide +kernel
theorem dX12_slipped_6 : decode cX12_slipped 6 = .ok (.iload_n 1, 1) := by decide +kernel
theorem dX12_slipped_7 : decode cX12_slipped 7 = .ok (.iload_n 2, 1) := by decide +kernel
theorem dX12_slipped_8 : decode cX12_slipped 8 = .ok (.iload_n 3, 1) := by decide +kernel
theorem dX12_slipped_9 : decode cX12_slipped 9 = .ok (.invokevirtual 333, 3) := by decide +kernel
theorem dX12_slipped_12 : decode cX12_slipped 12 = .ok (.ifCond .eq 23, 3) := by decide +kernel
theorem dX12_slipped_15 : decode cX12_slipped 15 = .ok (.iload 4, 2) := by decide +kernel
theorem dX12_slipped_17 : decode cX12_slipped 17 = .ok (.iconst 0, 1) := by decide +kernel
theorem dX12_slipped_18 : decode cX12_slipped 18 = .ok (.iconst 2, 1) := by decide +kernel
theorem dX12_slipped_19 : decode cX12_slipped 19 = .ok (.invokestatic 178, 3) := by decide +kernel
theorem dX12_slipped_22 : decode cX12_slipped 22 = .ok (.ifCond .eq 13, 3) := by decide +kernel
theorem dX12_slipped_25 : decode cX12_slipped 25 = .ok (.aload_n 0, 1) := by decide +kernel
theorem dX12_slipped_26 : decode cX12_slipped 26 = .ok (.iload_n 1, 1) := by decide +kernel
theorem dX12_slipped_27 : decode cX12_slipped 27 = .ok (.iload_n 2, 1) := by decide +kernel
theorem dX12_slipped_28 : decode cX12_slipped 28 = .ok (.iload_n 3, 1) := by decide +kernel
theorem dX12_slipped_29 : decode cX12_slipped 29 = .ok (.invokevirtual 364, 3) := by decide +kernel
theorem dX12_solves_0 : decode cX12_solves 0 = .ok (.aload_n 0, 1) := by decide +kernel
theorem dX12_solves_1 : decode cX12_solves 1 = .ok (.iconst 0, 1) := by decide +kernel
theorem dX12_solves_2 : decode cX12_solves 2 = .ok (.putfield 1, 3) := by decide +kernel
theorem dX12_solves_5 : decode cX12_solves 5 = .ok (.aload_n 0, 1) := by decide +kernel
theorem dX12_solves_6 : decode cX12_solves 6 = .ok (.iload_n 1, 1) := by decide +kernel
theorem dX12_solves_7 : decode cX12_solves 7 = .ok (.iload_n 2, 1) := by decide +kernel
theorem dX12_solves_8 : decode cX12_solves 8 = .ok (.iload_n 3, 1) := by decide +kernel
theorem dX12_solves_9 : decode cX12_solves 9 = .ok (.invokevirtual 333, 3) := by decide +kernel
theorem dX12_solves_12 : decode cX12_solves 12 = .ok (.ifCond .eq 13, 3) := by decide +kernel
theorem dX12_solves_15 : decode cX12_solves 15 = .ok (.iload 4, 2) := by decide +kernel
theorem dX12_solves_17 : decode cX12_solves 17 = .ok (.iconst 0, 1) := by decide +kernel
theorem dX12_solves_18 : decode cX12_solves 18 = .ok (.iconst 3, 1) := by decide +kernel
theorem dX12_solves_19 : decode cX12_solves 19 = .ok (.invokestatic 178, 3) := by decide +kernel
theorem dX12_solves_22 : decode cX12_solves 22 = .ok (.ifCond .ne 5, 3) := by decide +kernel
theorem dX12_solves_27 : decode cX12_solves 27 = .ok (.aload_n 0, 1) := by decide +kernel
theorem dX12_solves_28 : decode cX12_solves 28 = .ok (.invokevirtual 336, 3) := by decide +kernel
theorem dX12_solves_31 : decode cX12_solves 31 = .ok (.aload_n 0, 1) := by decide +kernel
theorem dX12_solves_32 : decode cX12_solves 32 = .ok (.iload_n 1, 1) := by decide +kernel
theorem dX12_solves_33 : decode cX12_solves 33 = .ok (.iload_n 2, 1) := by decide +kernel
theorem dX12_solves_34 : decode cX12_solves 34 = .ok (.iload_n 3, 1) := by decide +kernel
theorem dX12_solves_35 : decode cX12_solves 35 = .ok (.aload_n 0, 1) := by decide +kernel
theorem dX12_solves_36 : decode cX12_solves 36 = .ok (.getfield 69, 3) := by decide +kernel
theorem dX12_solves_39 : decode cX12_solves 39 = .ok (.iload_n 1, 1) := by decide +kernel
theorem dX12_solves_40 : decode cX12_solves 40 = .ok (.iaload, 1) := by decide +kernel
theorem dX12_solves_41 : decode cX12_solves 41 = .ok (.invokevirtual 339, 3) := by decide +kernel
theorem dX12_soon_0 : decode cX12_soon 0 = .ok (.aload_n 0, 1) := by decide +kernel
theorem dX12_soon_1 : decode cX12_soon 1 = .ok (.iconst 0, 1) := by decide +kernel
theorem dX12_soon_2 : decode cX12_soon 2 = .ok (.putfield 1, 3) := by decide +kernel
theorem dX12_soon_5 : decode cX12_soon 5 = .ok (.iload_n 1, 1) := by decide +kernel
theorem dX12_soon_6 : decode cX12_soon 6 = .ok (.invokestatic 278, 3) := by decide +kernel
theorem dX12_soon_9 : decode cX12_soon 9 = .ok (.ifCond .eq 30, 3) := by decide +kernel
theorem dX12_soon_12 : decode cX12_soon 12 = .ok (.aload_n 0, 1) := by decide +kernel
theorem dX12_soon_13 : decode cX12_soon 13 = .ok (.iload_n 2, 1) := by decide +kernel
theorem dX12_soon_14 : decode cX12_soon 14 = .ok (.invokevirtual 192, 3) := by decide +kernel
theorem dX12_soon_17 : decode cX12_soon 17 = .ok (.ifCond .eq 22, 3) := by decide +kernel
theorem dX12_soon_20 : decode cX12_soon 20 = .ok (.aload_n 0, 1) := by decide +kernel
theorem dX12_soon_21 : decode cX12_soon 21 = .ok (.iload_n 2, 1) := by decide +kernel
theorem dX12_soon_22 : decode cX12_soon 22 = .ok (.iload_n 3, 1) := by decide +kernel
theorem dX12_soon_23 : decode cX12_soon 23 = .ok (.invokevirtual 352, 3) := by decide +kernel
theorem dX12_soon_26 : decode cX12_soon 26 = .ok (.ifCond .eq 13, 3) := by decide +kernel
theorem dX12_soon_29 : decode cX12_soon 29 = .ok (.iload 4, 2) := by decide +kernel
theorem dX12_soon_31 : decode cX12_soon 31 = .ok (.iconst 0, 1) := by decide +kernel
theorem dX12_soon_32 : decode cX12_soon 32 = .ok (.iconst 1, 1) := by decide +kernel
theorem dX12_soon_33 : decode cX12_soon 33 = .ok (.invokestatic 178, 3) := by decide +kernel
theorem dX12_soon_36 : decode cX12_soon 36 = .ok (.ifCond .ne 5, 3) := by decide +kernel
theorem dX12_soon_39 : decode cX12_soon 39 = .ok (.iconst (-1), 1) := by decide +kernel
theorem dX12_soon_40 : decode cX12_soon 40 = .ok (.ireturn, 1) := by decide +kernel
theorem dX12_soon_41 : decode cX12_soon 41 = .ok (.aload_n 0, 1) := by decide +kernel
theorem dX12_soon_42 : decode cX12_soon 42 = .ok (.invokevirtual 336, 3) := by decide +kernel
theorem dX12_soon_45 : decode cX12_soon 45 = .ok (.iconst 0, 1) := by decide +kernel
theorem dX12_soon_46 : decode cX12_soon 46 = .ok (.istore 5, 2) := by decide +kernel
theorem dX12_soon_48 : decode cX12_soon 48 = .ok (.iload 5, 2) := by decide +kernel
theorem dX12_soon_50 : decode cX12_soon 50 = .ok (.aload_n 0, 1) := by decide +kernel
theorem dX12_soon_51 : decode cX12_soon 51 = .ok (.getfield 69, 3) := by decide +kernel
theorem dX12_soon_54 : decode cX12_soon 54 = .ok (.iload_n 1, 1) := by decide +kernel
theorem dX12_soon_55 : decode cX12_soon 55 = .ok (.iaload, 1) := by decide +kernel
theorem dX12_soon_56 : decode cX12_soon 56 = .ok (.if_icmp .gt 26, 3) := by decide +kernel
theorem dX12_soon_59 : decode cX12_soon 59 = .ok (.aload_n 0, 1) := by decide +kernel
theorem dX12_soon_60 : decode cX12_soon 60 = .ok (.iload_n 1, 1) := by decide +kernel
theorem dX12_soon_61 : decode cX12_soon 61 = .ok (.iload_n 2, 1) := by decide +kernel
theorem dX12_soon_62 : decode cX12_soon 62 = .ok (.iload_n 3, 1) := by decide +kernel
theorem dX12_soon_63 : decode cX12_soon 63 = .ok (.iload 4, 2) := by decide +kernel
theorem dX12_soon_65 : decode cX12_soon 65 = .ok (.iload 5, 2) := by decide +kernel
theorem dX12_soon_67 : decode cX12_soon 67 = .ok (.invokevirtual 355, 3) := by decide +kernel
theorem dX12_sumOf_0 : decode cX12_sumOf 0 = .ok (.iconst 0, 1) := by decide +kernel
theorem dX12_sumOf_1 : decode cX12_sumOf 1 = .ok (.istore_n 3, 1) := by decide +kernel
theorem dX12_sumOf_2 : decode cX12_sumOf 2 = .ok (.iconst 0, 1) := by decide +kernel
theorem dX12_sumOf_3 : decode cX12_sumOf 3 = .ok (.istore 4, 2) := by decide +kernel
theorem dX12_sumOf_5 : decode cX12_sumOf 5 = .ok (.iload 4, 2) := by decide +kernel
theorem dX12_sumOf_7 : decode cX12_sumOf 7 = .ok (.aload_n 0, 1) := by decide +kernel
theorem dX12_sumOf_8 : decode cX12_sumOf 8 = .ok (.getfield 45, 3) := by decide +kernel
theorem dX12_sumOf_11 : decode cX12_sumOf 11 = .ok (.iload_n 1, 1) := by decide +kernel
theorem dX12_sumOf_12 : decode cX12_sumOf 12 = .ok (.iaload, 1) := by decide +kernel
theorem dX12_sumOf_13 : decode cX12_sumOf 13 = .ok (.if_icmp .ge 38, 3) := by decide +kernel
theorem dX12_sumOf_16 : decode cX12_sumOf 16 = .ok (.iload_n 3, 1) := by decide +kernel
theorem dX12_sumOf_17 : decode cX12_sumOf 17 = .ok (.iload_n 2, 1) := by decide +kernel
theorem dX12_sumOf_18 : decode cX12_sumOf 18 = .ok (.iload 4, 2) := by decide +kernel
theorem dX12_sumOf_20 : decode cX12_sumOf 20 = .ok (.ishr, 1) := by decide +kernel
theorem dX12_sumOf_21 : decode cX12_sumOf 21 = .ok (.iconst 1, 1) := by decide +kernel
theorem dX12_sumOf_22 : decode cX12_sumOf 22 = .ok (.iand, 1) := by decide +kernel
theorem dX12_sumOf_23 : decode cX12_sumOf 23 = .ok (.iconst 1, 1) := by decide +kernel
theorem dX12_sumOf_24 : decode cX12_sumOf 24 = .ok (.if_icmp .ne 18, 3) := by decide +kernel
theorem dX12_sumOf_27 : decode cX12_sumOf 27 = .ok (.aload_n 0, 1) := by decide +kernel
theorem dX12_sumOf_28 : decode cX12_sumOf 28 = .ok (.getfield 48, 3) := by decide +kernel
theorem dX12_sumOf_31 : decode cX12_sumOf 31 = .ok (.bipush 16, 2) := by decide +kernel
theorem dX12_sumOf_33 : decode cX12_sumOf 33 = .ok (.iload_n 1, 1) := by decide +kernel
theorem dX12_sumOf_34 : decode cX12_sumOf 34 = .ok (.imul, 1) := by decide +kernel
theorem dX12_sumOf_35 : decode cX12_sumOf 35 = .ok (.iload 4, 2) := by decide +kernel
theorem dX12_sumOf_37 : decode cX12_sumOf 37 = .ok (.iadd, 1) := by decide +kernel
theorem dX12_sumOf_38 : decode cX12_sumOf 38 = .ok (.iaload, 1) := by decide +kernel
theorem dX12_sumOf_39 : decode cX12_sumOf 39 = .ok (.goto 4, 3) := by decide +kernel
theorem dX12_sumOf_42 : decode cX12_sumOf 42 = .ok (.iconst 0, 1) := by decide +kernel
theorem dX12_sumOf_43 : decode cX12_sumOf 43 = .ok (.ixor, 1) := by decide +kernel
theorem dX12_sumOf_44 : decode cX12_sumOf 44 = .ok (.istore_n 3, 1) := by decide +kernel
theorem dX12_sumOf_45 : decode cX12_sumOf 45 = .ok (.iinc 4 1, 3) := by decide +kernel
theorem dX12_sumOf_48 : decode cX12_sumOf 48 = .ok (.goto (-43), 3) := by decide +kernel
theorem dX12_sumOf_51 : decode cX12_sumOf 51 = .ok (.iconst 0, 1) := by decide +kernel
theorem dX12_sumOf_52 : decode cX12_sumOf 52 = .ok (.istore 4, 2) := by decide +kernel
theorem dX12_sumOf_54 : decode cX12_sumOf 54 = .ok (.iload 4, 2) := by decide +kernel
theorem dX12_sumOf_56 : decode cX12_sumOf 56 = .ok (.aload_n 0, 1) := by decide +kernel
theorem dX12_sumOf_57 : decode cX12_sumOf 57 = .ok (.getfield 60, 3) := by decide +kernel
theorem dX12_sumOf_60 : decode cX12_sumOf 60 = .ok (.iload_n 1, 1) := by decide +kernel
theorem dX12_sumOf_61 : decode cX12_sumOf 61 = .ok (.iaload, 1) := by decide +kernel
theorem dX12_sumOf_62 : decode cX12_sumOf 62 = .ok (.if_icmp .ge 85, 3) := by decide +kernel
theorem dX12_sumOf_65 : decode cX12_sumOf 65 = .ok (.iconst 0, 1) := by decide +kernel
theorem dX12_sumOf_66 : decode cX12_sumOf 66 = .ok (.istore 5, 2) := by decide +kernel
theorem dX12_sumOf_68 : decode cX12_sumOf 68 = .ok (.iload 5, 2) := by decide +kernel
theorem dX12_sumOf_70 : decode cX12_sumOf 70 = .ok (.aload_n 0, 1) := by decide +kernel
theorem dX12_sumOf_71 : decode cX12_sumOf 71 = .ok (.getfield 45, 3) := by decide +kernel
theorem dX12_sumOf_74 : decode cX12_sumOf 74 = .ok (.iload_n 1, 1) := by decide +kernel
theorem dX12_sumOf_75 : decode cX12_sumOf 75 = .ok (.iaload, 1) := by decide +kernel
theorem dX12_sumOf_76 : decode cX12_sumOf 76 = .ok (.if_icmp .ge 65, 3) := by decide +kernel
theorem dX12_sumOf_79 : decode cX12_sumOf 79 = .ok (.iload_n 2, 1) := by decide +kernel
theorem dX12_sumOf_80 : decode cX12_sumOf 80 = .ok (.aload_n 0, 1) := by decide +kernel
theorem dX12_sumOf_81 : decode cX12_sumOf 81 = .ok (.getfield 45, 3) := by decide +kernel
theorem dX12_sumOf_84 : decode cX12_sumOf 84 = .ok (.iload_n 1, 1) := by decide +kernel
theorem dX12_sumOf_85 : decode cX12_sumOf 85 = .ok (.iaload, 1) := by decide +kernel
theorem dX12_sumOf_86 : decode cX12_sumOf 86 = .ok (.iload 4, 2) := by decide +kernel
theorem dX12_sumOf_88 : decode cX12_sumOf 88 = .ok (.iadd, 1) := by decide +kernel
theorem dX12_sumOf_89 : decode cX12_sumOf 89 = .ok (.ishr, 1) := by decide +kernel
theorem dX12_sumOf_90 : decode cX12_sumOf 90 = .ok (.iconst 1, 1) := by decide +kernel
theorem dX12_sumOf_91 : decode cX12_sumOf 91 = .ok (.iand, 1) := by decide +kernel
theorem dX12_sumOf_92 : decode cX12_sumOf 92 = .ok (.iconst 1, 1) := by decide +kernel
theorem dX12_sumOf_93 : decode cX12_sumOf 93 = .ok (.if_icmp .ne 48, 3) := by decide +kernel
theorem dX12_sumOf_96 : decode cX12_sumOf 96 = .ok (.iload_n 3, 1) := by decide +kernel
theorem dX12_sumOf_97 : decode cX12_sumOf 97 = .ok (.aload_n 0, 1) := by decide +kernel
theorem dX12_sumOf_98 : decode cX12_sumOf 98 = .ok (.getfield 63, 3) := by decide +kernel
theorem dX12_sumOf_101 : decode cX12_sumOf 101 = .ok (.iconst 4, 1) := by decide +kernel
theorem dX12_sumOf_102 : decode cX12_sumOf 102 = .ok (.iload_n 1, 1) := by decide +kernel
theorem dX12_sumOf_103 : decode cX12_sumOf 103 = .ok (.imul, 1) := by decide +kernel
theorem dX12_sumOf_104 : decode cX12_sumOf 104 = .ok (.iload 4, 2) := by decide +kernel
theorem dX12_sumOf_106 : decode cX12_sumOf 106 = .ok (.iadd, 1) := by decide +kernel
theorem dX12_sumOf_107 : decode cX12_sumOf 107 = .ok (.iaload, 1) := by decide +kernel
theorem dX12_sumOf_108 : decode cX12_sumOf 108 = .ok (.iload 5, 2) := by decide +kernel
theorem dX12_sumOf_110 : decode cX12_sumOf 110 = .ok (.ishr, 1) := by decide +kernel
theorem dX12_sumOf_111 : decode cX12_sumOf 111 = .ok (.iconst 1, 1) := by decide +kernel
theorem dX12_sumOf_112 : decode cX12_sumOf 112 = .ok (.iand, 1) := by decide +kernel
theorem dX12_sumOf_113 : decode cX12_sumOf 113 = .ok (.iconst 1, 1) := by decide +kernel
theorem dX12_sumOf_114 : decode cX12_sumOf 114 = .ok (.if_icmp .ne 18, 3) := by decide +kernel
theorem dX12_sumOf_117 : decode cX12_sumOf 117 = .ok (.aload_n 0, 1) := by decide +kernel
theorem dX12_sumOf_118 : decode cX12_sumOf 118 = .ok (.getfield 48, 3) := by decide +kernel
theorem dX12_sumOf_121 : decode cX12_sumOf 121 = .ok (.bipush 16, 2) := by decide +kernel
theorem dX12_sumOf_123 : decode cX12_sumOf 123 = .ok (.iload_n 1, 1) := by decide +kernel
theorem dX12_sumOf_124 : decode cX12_sumOf 124 = .ok (.imul, 1) := by decide +kernel
theorem dX12_sumOf_125 : decode cX12_sumOf 125 = .ok (.iload 5, 2) := by decide +kernel
theorem dX12_sumOf_127 : decode cX12_sumOf 127 = .ok (.iadd, 1) := by decide +kernel
theorem dX12_sumOf_128 : decode cX12_sumOf 128 = .ok (.iaload, 1) := by decide +kernel
theorem dX12_sumOf_129 : decode cX12_sumOf 129 = .ok (.goto 4, 3) := by decide +kernel
theorem dX12_sumOf_132 : decode cX12_sumOf 132 = .ok (.iconst 0, 1) := by decide +kernel
theorem dX12_sumOf_133 : decode cX12_sumOf 133 = .ok (.ixor, 1) := by decide +kernel
theorem dX12_sumOf_134 : decode cX12_sumOf 134 = .ok (.istore_n 3, 1) := by decide +kernel
theorem dX12_sumOf_135 : decode cX12_sumOf 135 = .ok (.iinc 5 1, 3) := by decide +kernel
theorem dX12_sumOf_138 : decode cX12_sumOf 138 = .ok (.goto (-70), 3) := by decide +kernel
theorem dX12_sumOf_141 : decode cX12_sumOf 141 = .ok (.iinc 4 1, 3) := by decide +kernel
theorem dX12_sumOf_144 : decode cX12_sumOf 144 = .ok (.goto (-90), 3) := by decide +kernel
theorem dX12_sumOf_147 : decode cX12_sumOf 147 = .ok (.iload_n 3, 1) := by decide +kernel
theorem dX12_sumOf_148 : decode cX12_sumOf 148 = .ok (.ireturn, 1) := by decide +kernel
set_option maxHeartbeats 4000000 in
set_option maxRecDepth 100000 in
theorem s_X12_sumOf {P : PP} {a0 : Nat} {a1 : Int32} {a2 : Int32} (I : IM P a0) (ha1 : 0 ≤ a1.toInt ∧ a1.toInt ≤ 1) : CtrI yX12_sumOf cX12_sumOf 6 (some Jvm.ClassFile.FieldType.int) ({ frames := 1, cells := 0, slots := 0, locals := 64 } : Room) 0 0 P [.ref a0, .int a1, .int a2] (fun r P2 => P = P2 ∧ (True)) := by
  refine enI (lv := [(0, .ref a0), (1, .int a1), (2, .int a2)]) (by decide) (Nat.le_of_ble_eq_true rfl) rfl (fun E D cy C Ci0 ret => ?_)
  have ha0 := I.2.1
  have J54 : ∀ (n54 : Nat) (v54_3 : Int32) (v54_4 : Int32), (4 - v54_4.toInt).toNat < n54 → (0 ≤ v54_4.toInt ∧ v54_4.toInt ≤ 4) → G E ({ frames := 1, cells := 0, slots := 0, locals := 64 } : Room) D cy 6 P 0 0 54 [(0, .ref a0), (1, .int a1), (2, .int a2), (3, .int v54_3), (4, .int v54_4)] [] := by
    intro n54
    induction n54 with
    | zero => intro v54_3 v54_4 hm54 hv54_4; omega
    | succ n54 ih54 =>
      intro v54_3 v54_4 hm54 hv54_4
      have J141 : ∀ (v141_3 : Int32), (0 ≤ v54_4.toInt ∧ v54_4.toInt ≤ 3) → (∀ b, pR P a0 15 = some b → 1 ≤ (pI P b (a1.toInt.toNat)).toInt ∧ (pI P b (a1.toInt.toNat)).toInt ≤ 4) → G E ({ frames := 1, cells := 0, slots := 0, locals := 64 } : Room) D cy 6 P 0 0 141 [(0, .ref a0), (1, .int a1), (2, .int a2), (3, .int v141_3), (4, .int v54_4)] [] := by
        intro v141_3 hv141_4 hq141_0
        obtain ⟨b24521, e24522, h24523⟩ := I.fld (ha0) 15 13 3 rfl
        have hq141_0 := hq141_0 b24521 e24522
        refine s_iinc (lv0 := [(0, .ref a0), (1, .int a1), (2, .int a2), (3, .int v141_3)]) (m := 1) C dX12_sumOf_141 4 rfl (by decide) rfl (by decide) (by omega) (fun z24524 h24525 => ?_)
        have h24525 : z24524.toInt = v54_4.toInt + 1 := h24525
        refine g_goto C 54 dX12_sumOf_144 (by decide) ?_
        refine g_lv (lv' := [(0, .ref a0), (1, .int a1), (2, .int a2), (3, .int v141_3), (4, .int z24524)]) [1, 2, 3, 4, 0] rfl ?_
        exact ih54 v141_3 z24524 (by omega) (by omega)
      have J68 : ∀ (n68 : Nat) (v68_3 : Int32) (v68_5 : Int32), (16 - v68_5.toInt).toNat < n68 → (0 ≤ v54_4.toInt ∧ v54_4.toInt ≤ 3) → (0 ≤ v68_5.toInt ∧ v68_5.toInt ≤ 16) → (∀ b, pR P a0 15 = some b → 1 ≤ (pI P b (a1.toInt.toNat)).toInt ∧ (pI P b (a1.toInt.toNat)).toInt ≤ 4) → G E ({ frames := 1, cells := 0, slots := 0, locals := 64 } : Room) D cy 6 P 0 0 68 [(0, .ref a0), (1, .int a1), (2, .int a2), (3, .int v68_3), (4, .int v54_4), (5, .int v68_5)] [] := by
        intro n68
        induction n68 with
        | zero => intro v68_3 v68_5 hm68 hv68_4 hv68_5 hq68_0; omega
        | succ n68 ih68 =>
          intro v68_3 v68_5 hm68 hv68_4 hv68_5 hq68_0
          obtain ⟨b24526, e24527, h24528⟩ := I.fld (ha0) 15 13 3 rfl
          have hq68_0 := hq68_0 b24526 e24527
          have J133 : ∀ (v133_s0 : Int32), (0 ≤ v54_4.toInt ∧ v54_4.toInt ≤ 3) → (0 ≤ v68_5.toInt ∧ v68_5.toInt ≤ 15) → (∀ b, pR P a0 10 = some b → 1 ≤ (pI P b (a1.toInt.toNat)).toInt ∧ (pI P b (a1.toInt.toNat)).toInt ≤ 16) → (∀ b, pR P a0 15 = some b → 1 ≤ (pI P b (a1.toInt.toNat)).toInt ∧ (pI P b (a1.toInt.toNat)).toInt ≤ 4) → G E ({ frames := 1, cells := 0, slots := 0, locals := 64 } : Room) D cy 6 P 0 0 133 [(0, .ref a0), (1, .int a1), (2, .int a2), (4, .int v54_4), (5, .int v68_5)] [.int v133_s0, .int v68_3] := by
            intro v133_s0 hv133_4 hv133_5 hq133_0 hq133_1
            obtain ⟨b24529, e24530, h24531⟩ := I.fld (ha0) 10 13 2 rfl
            have hq133_0 := hq133_0 b24529 e24530
            obtain ⟨b24532, e24533, h24534⟩ := I.fld (ha0) 15 13 3 rfl
            have hq133_1 := hq133_1 b24532 e24533
            refine a_ixor C dX12_sumOf_133 (fun z24535 => ?_)
            refine g_istore_n (lv' := [(3, .int z24535), (0, .ref a0), (1, .int a1), (2, .int a2), (4, .int v54_4), (5, .int v68_5)]) C dX12_sumOf_134 rfl (by decide) rfl ?_
            refine s_iinc (lv0 := [(3, .int z24535), (0, .ref a0), (1, .int a1), (2, .int a2), (4, .int v54_4)]) (m := 1) C dX12_sumOf_135 5 rfl (by decide) rfl (by decide) (by omega) (fun z24537 h24538 => ?_)
            have h24538 : z24537.toInt = v68_5.toInt + 1 := h24538
            refine g_goto C 68 dX12_sumOf_138 (by decide) ?_
            refine g_lv (lv' := [(0, .ref a0), (1, .int a1), (2, .int a2), (3, .int z24535), (4, .int v54_4), (5, .int z24537)]) [2, 3, 4, 1, 5, 0] rfl ?_
            exact ih68 z24535 z24537 (by omega) (by omega) (by omega) (fun b9 e9 => by rw [e24533] at e9; cases e9; omega)
          refine g_iload C dX12_sumOf_68 5 rfl ?_
          refine g_aload_n C dX12_sumOf_70 rfl 0 rfl ?_
          obtain ⟨b24539, e24540, h24541⟩ := I.fld (ha0) 10 13 2 rfl
          refine g_getR C fi_X12_45 rfl e24540 (ha0).1 (ha0).2 dX12_sumOf_71 ?_
          refine g_iload_n C dX12_sumOf_74 rfl 1 rfl ?_
          refine g_iald (j := (a1.toInt.toNat)) C h24541.1 h24541.2.1 (ix_in h24541.2.2 (by omega)) dX12_sumOf_75 ?_
          have h24542 := I.arr e24540 rfl (a1.toInt.toNat)
          refine b_icmp_ge C 141 dX12_sumOf_76 (by decide) (fun h24543 => ?_) (fun h24543 => ?_)
          · have h24543 : (pI P b24539 (a1.toInt.toNat)).toInt ≤ v68_5.toInt := h24543
            refine g_lv (lv' := [(0, .ref a0), (1, .int a1), (2, .int a2), (3, .int v68_3), (4, .int v54_4)]) [0, 1, 2, 3, 4] rfl ?_
            exact J141 v68_3 (by omega) (fun b9 e9 => by rw [e24527] at e9; cases e9; omega)
          · have h24543 : v68_5.toInt < (pI P b24539 (a1.toInt.toNat)).toInt := h24543
            refine g_iload_n C dX12_sumOf_79 rfl 2 rfl ?_
            refine g_aload_n C dX12_sumOf_80 rfl 0 rfl ?_
            refine g_getR C fi_X12_45 rfl e24540 (ha0).1 (ha0).2 dX12_sumOf_81 ?_
            refine g_iload_n C dX12_sumOf_84 rfl 1 rfl ?_
            refine g_iald (j := (a1.toInt.toNat)) C h24541.1 h24541.2.1 (ix_in h24541.2.2 (by omega)) dX12_sumOf_85 ?_
            refine g_iload C dX12_sumOf_86 4 rfl ?_
            refine s_iadd C dX12_sumOf_88 (by show -2147483648 ≤ (pI P b24539 (a1.toInt.toNat)).toInt + v54_4.toInt ∧ (pI P b24539 (a1.toInt.toNat)).toInt + v54_4.toInt ≤ 2147483647; omega) (fun z24544 h24545 => ?_)
            have h24545 : z24544.toInt = (pI P b24539 (a1.toInt.toNat)).toInt + v54_4.toInt := h24545
            refine a_ishr C dX12_sumOf_89 (fun z24546 => ?_)
            refine g_iconst (v := 1) C dX12_sumOf_90 (by decide) ?_
            refine s_iand C dX12_sumOf_91 (by show 0 ≤ 1; omega) (fun z24548 h24549 => ?_)
            have h24549 : 0 ≤ z24548.toInt ∧ z24548.toInt ≤ 1 := h24549
            refine g_iconst (v := 1) C dX12_sumOf_92 (by decide) ?_
            refine b_icmp_ne C 141 dX12_sumOf_93 (by decide) (fun h24550 => ?_) (fun h24550 => ?_)
            · have h24550 : z24548.toInt ≠ 1 := ti_ne h24550
              refine g_lv (lv' := [(0, .ref a0), (1, .int a1), (2, .int a2), (3, .int v68_3), (4, .int v54_4)]) [0, 1, 2, 3, 4] rfl ?_
              exact J141 v68_3 (by omega) (fun b9 e9 => by rw [e24527] at e9; cases e9; omega)
            · have h24550 : z24548.toInt = 1 := congrArg Int32.toInt h24550
              refine g_iload_n C dX12_sumOf_96 rfl 3 rfl ?_
              refine g_aload_n C dX12_sumOf_97 rfl 0 rfl ?_
              obtain ⟨b24551, e24552, h24553⟩ := I.fld (ha0) 16 13 12 rfl
              refine g_getR C fi_X12_63 rfl e24552 (ha0).1 (ha0).2 dX12_sumOf_98 ?_
              refine g_iconst (v := 4) C dX12_sumOf_101 (by decide) ?_
              refine g_iload_n C dX12_sumOf_102 rfl 1 rfl ?_
              refine s_imul C dX12_sumOf_103 (by show -2147483648 ≤ 4 * a1.toInt ∧ 4 * a1.toInt ≤ 2147483647; omega) (fun z24554 h24555 => ?_)
              have h24555 : z24554.toInt = 4 * a1.toInt := h24555
              refine g_iload C dX12_sumOf_104 4 rfl ?_
              refine s_iadd C dX12_sumOf_106 (by show -2147483648 ≤ z24554.toInt + v54_4.toInt ∧ z24554.toInt + v54_4.toInt ≤ 2147483647; omega) (fun z24556 h24557 => ?_)
              have h24557 : z24556.toInt = z24554.toInt + v54_4.toInt := h24557
              refine g_iald (j := (z24556.toInt.toNat)) C h24553.1 h24553.2.1 (ix_in h24553.2.2 (by omega)) dX12_sumOf_107 ?_
              refine g_iload C dX12_sumOf_108 5 rfl ?_
              refine a_ishr C dX12_sumOf_110 (fun z24558 => ?_)
              refine g_iconst (v := 1) C dX12_sumOf_111 (by decide) ?_
              refine s_iand C dX12_sumOf_112 (by show 0 ≤ 1; omega) (fun z24560 h24561 => ?_)
              have h24561 : 0 ≤ z24560.toInt ∧ z24560.toInt ≤ 1 := h24561
              refine g_iconst (v := 1) C dX12_sumOf_113 (by decide) ?_
              refine b_icmp_ne C 132 dX12_sumOf_114 (by decide) (fun h24562 => ?_) (fun h24562 => ?_)
              · have h24562 : z24560.toInt ≠ 1 := ti_ne h24562
                refine g_iconst (v := 0) C dX12_sumOf_132 (by decide) ?_
                refine g_lv (lv' := [(0, .ref a0), (1, .int a1), (2, .int a2), (4, .int v54_4), (5, .int v68_5)]) [0, 1, 2, 4, 5] rfl ?_
                exact J133 0 (by omega) (by omega) (fun b9 e9 => by rw [e24540] at e9; cases e9; omega) (fun b9 e9 => by rw [e24527] at e9; cases e9; omega)
              · have h24562 : z24560.toInt = 1 := congrArg Int32.toInt h24562
                refine g_aload_n C dX12_sumOf_117 rfl 0 rfl ?_
                obtain ⟨b24563, e24564, h24565⟩ := I.fld (ha0) 11 13 32 rfl
                refine g_getR C fi_X12_48 rfl e24564 (ha0).1 (ha0).2 dX12_sumOf_118 ?_
                refine g_bipush (v := 16) C dX12_sumOf_121 (by decide) ?_
                refine g_iload_n C dX12_sumOf_123 rfl 1 rfl ?_
                refine s_imul C dX12_sumOf_124 (by show -2147483648 ≤ 16 * a1.toInt ∧ 16 * a1.toInt ≤ 2147483647; omega) (fun z24566 h24567 => ?_)
                have h24567 : z24566.toInt = 16 * a1.toInt := h24567
                refine g_iload C dX12_sumOf_125 5 rfl ?_
                refine s_iadd C dX12_sumOf_127 (by show -2147483648 ≤ z24566.toInt + v68_5.toInt ∧ z24566.toInt + v68_5.toInt ≤ 2147483647; omega) (fun z24568 h24569 => ?_)
                have h24569 : z24568.toInt = z24566.toInt + v68_5.toInt := h24569
                refine g_iald (j := (z24568.toInt.toNat)) C h24565.1 h24565.2.1 (ix_in h24565.2.2 (by omega)) dX12_sumOf_128 ?_
                refine g_goto C 133 dX12_sumOf_129 (by decide) ?_
                refine g_lv (lv' := [(0, .ref a0), (1, .int a1), (2, .int a2), (4, .int v54_4), (5, .int v68_5)]) [0, 1, 2, 4, 5] rfl ?_
                exact J133 (pI P b24563 (z24568.toInt.toNat)) (by omega) (by omega) (fun b9 e9 => by rw [e24540] at e9; cases e9; omega) (fun b9 e9 => by rw [e24527] at e9; cases e9; omega)
      refine g_iload C dX12_sumOf_54 4 rfl ?_
      refine g_aload_n C dX12_sumOf_56 rfl 0 rfl ?_
      obtain ⟨b24570, e24571, h24572⟩ := I.fld (ha0) 15 13 3 rfl
      refine g_getR C fi_X12_60 rfl e24571 (ha0).1 (ha0).2 dX12_sumOf_57 ?_
      refine g_iload_n C dX12_sumOf_60 rfl 1 rfl ?_
      refine g_iald (j := (a1.toInt.toNat)) C h24572.1 h24572.2.1 (ix_in h24572.2.2 (by omega)) dX12_sumOf_61 ?_
      have h24573 := I.arr e24571 rfl (a1.toInt.toNat)
      refine b_icmp_ge C 147 dX12_sumOf_62 (by decide) (fun h24574 => ?_) (fun h24574 => ?_)
      · have h24574 : (pI P b24570 (a1.toInt.toNat)).toInt ≤ v54_4.toInt := h24574
        refine g_iload_n C dX12_sumOf_147 rfl 3 rfl ?_
        exact ret _ _ _ _ _ _ dX12_sumOf_148 rfl (by decide) (by decide) ⟨rfl, trivial⟩
      · have h24574 : v54_4.toInt < (pI P b24570 (a1.toInt.toNat)).toInt := h24574
        refine g_iconst (v := 0) C dX12_sumOf_65 (by decide) ?_
        refine g_istore (lv' := [(5, .int 0), (0, .ref a0), (1, .int a1), (2, .int a2), (3, .int v54_3), (4, .int v54_4)]) C dX12_sumOf_66 (by decide) rfl ?_
        refine g_lv (lv' := [(0, .ref a0), (1, .int a1), (2, .int a2), (3, .int v54_3), (4, .int v54_4), (5, .int 0)]) [1, 2, 3, 4, 5, 0] rfl ?_
        exact J68 _ v54_3 0 (Nat.lt_succ_self _) (by omega) (by decide) (fun b9 e9 => by rw [e24571] at e9; cases e9; omega)
  have J5 : ∀ (n5 : Nat) (v5_3 : Int32) (v5_4 : Int32), (16 - v5_4.toInt).toNat < n5 → (0 ≤ v5_4.toInt ∧ v5_4.toInt ≤ 16) → G E ({ frames := 1, cells := 0, slots := 0, locals := 64 } : Room) D cy 6 P 0 0 5 [(0, .ref a0), (1, .int a1), (2, .int a2), (3, .int v5_3), (4, .int v5_4)] [] := by
    intro n5
    induction n5 with
    | zero => intro v5_3 v5_4 hm5 hv5_4; omega
    | succ n5 ih5 =>
      intro v5_3 v5_4 hm5 hv5_4
      have J43 : ∀ (v43_s0 : Int32), (0 ≤ v5_4.toInt ∧ v5_4.toInt ≤ 15) → (∀ b, pR P a0 10 = some b → 1 ≤ (pI P b (a1.toInt.toNat)).toInt ∧ (pI P b (a1.toInt.toNat)).toInt ≤ 16) → G E ({ frames := 1, cells := 0, slots := 0, locals := 64 } : Room) D cy 6 P 0 0 43 [(0, .ref a0), (1, .int a1), (2, .int a2), (4, .int v5_4)] [.int v43_s0, .int v5_3] := by
        intro v43_s0 hv43_4 hq43_0
        obtain ⟨b24575, e24576, h24577⟩ := I.fld (ha0) 10 13 2 rfl
        have hq43_0 := hq43_0 b24575 e24576
        refine a_ixor C dX12_sumOf_43 (fun z24578 => ?_)
        refine g_istore_n (lv' := [(3, .int z24578), (0, .ref a0), (1, .int a1), (2, .int a2), (4, .int v5_4)]) C dX12_sumOf_44 rfl (by decide) rfl ?_
        refine s_iinc (lv0 := [(3, .int z24578), (0, .ref a0), (1, .int a1), (2, .int a2)]) (m := 1) C dX12_sumOf_45 4 rfl (by decide) rfl (by decide) (by omega) (fun z24580 h24581 => ?_)
        have h24581 : z24580.toInt = v5_4.toInt + 1 := h24581
        refine g_goto C 5 dX12_sumOf_48 (by decide) ?_
        refine g_lv (lv' := [(0, .ref a0), (1, .int a1), (2, .int a2), (3, .int z24578), (4, .int z24580)]) [2, 3, 4, 1, 0] rfl ?_
        exact ih5 z24578 z24580 (by omega) (by omega)
      refine g_iload C dX12_sumOf_5 4 rfl ?_
      refine g_aload_n C dX12_sumOf_7 rfl 0 rfl ?_
      obtain ⟨b24582, e24583, h24584⟩ := I.fld (ha0) 10 13 2 rfl
      refine g_getR C fi_X12_45 rfl e24583 (ha0).1 (ha0).2 dX12_sumOf_8 ?_
      refine g_iload_n C dX12_sumOf_11 rfl 1 rfl ?_
      refine g_iald (j := (a1.toInt.toNat)) C h24584.1 h24584.2.1 (ix_in h24584.2.2 (by omega)) dX12_sumOf_12 ?_
      have h24585 := I.arr e24583 rfl (a1.toInt.toNat)
      refine b_icmp_ge C 51 dX12_sumOf_13 (by decide) (fun h24586 => ?_) (fun h24586 => ?_)
      · have h24586 : (pI P b24582 (a1.toInt.toNat)).toInt ≤ v5_4.toInt := h24586
        refine g_iconst (v := 0) C dX12_sumOf_51 (by decide) ?_
        refine g_istore (lv' := [(4, .int 0), (0, .ref a0), (1, .int a1), (2, .int a2), (3, .int v5_3)]) C dX12_sumOf_52 (by decide) rfl ?_
        refine g_lv (lv' := [(0, .ref a0), (1, .int a1), (2, .int a2), (3, .int v5_3), (4, .int 0)]) [1, 2, 3, 4, 0] rfl ?_
        exact J54 _ v5_3 0 (Nat.lt_succ_self _) (by decide)
      · have h24586 : v5_4.toInt < (pI P b24582 (a1.toInt.toNat)).toInt := h24586
        refine g_iload_n C dX12_sumOf_16 rfl 3 rfl ?_
        refine g_iload_n C dX12_sumOf_17 rfl 2 rfl ?_
        refine g_iload C dX12_sumOf_18 4 rfl ?_
        refine a_ishr C dX12_sumOf_20 (fun z24587 => ?_)
        refine g_iconst (v := 1) C dX12_sumOf_21 (by decide) ?_
        refine s_iand C dX12_sumOf_22 (by show 0 ≤ 1; omega) (fun z24589 h24590 => ?_)
        have h24590 : 0 ≤ z24589.toInt ∧ z24589.toInt ≤ 1 := h24590
        refine g_iconst (v := 1) C dX12_sumOf_23 (by decide) ?_
        refine b_icmp_ne C 42 dX12_sumOf_24 (by decide) (fun h24591 => ?_) (fun h24591 => ?_)
        · have h24591 : z24589.toInt ≠ 1 := ti_ne h24591
          refine g_iconst (v := 0) C dX12_sumOf_42 (by decide) ?_
          refine g_lv (lv' := [(0, .ref a0), (1, .int a1), (2, .int a2), (4, .int v5_4)]) [0, 1, 2, 4] rfl ?_
          exact J43 0 (by omega) (fun b9 e9 => by rw [e24583] at e9; cases e9; omega)
        · have h24591 : z24589.toInt = 1 := congrArg Int32.toInt h24591
          refine g_aload_n C dX12_sumOf_27 rfl 0 rfl ?_
          obtain ⟨b24592, e24593, h24594⟩ := I.fld (ha0) 11 13 32 rfl
          refine g_getR C fi_X12_48 rfl e24593 (ha0).1 (ha0).2 dX12_sumOf_28 ?_
          refine g_bipush (v := 16) C dX12_sumOf_31 (by decide) ?_
          refine g_iload_n C dX12_sumOf_33 rfl 1 rfl ?_
          refine s_imul C dX12_sumOf_34 (by show -2147483648 ≤ 16 * a1.toInt ∧ 16 * a1.toInt ≤ 2147483647; omega) (fun z24595 h24596 => ?_)
          have h24596 : z24595.toInt = 16 * a1.toInt := h24596
          refine g_iload C dX12_sumOf_35 4 rfl ?_
          refine s_iadd C dX12_sumOf_37 (by show -2147483648 ≤ z24595.toInt + v5_4.toInt ∧ z24595.toInt + v5_4.toInt ≤ 2147483647; omega) (fun z24597 h24598 => ?_)
          have h24598 : z24597.toInt = z24595.toInt + v5_4.toInt := h24598
          refine g_iald (j := (z24597.toInt.toNat)) C h24594.1 h24594.2.1 (ix_in h24594.2.2 (by omega)) dX12_sumOf_38 ?_
          refine g_goto C 43 dX12_sumOf_39 (by decide) ?_
          refine g_lv (lv' := [(0, .ref a0), (1, .int a1), (2, .int a2), (4, .int v5_4)]) [0, 1, 2, 4] rfl ?_
          exact J43 (pI P b24592 (z24597.toInt.toNat)) (by omega) (fun b9 e9 => by rw [e24583] at e9; cases e9; omega)
  refine g_iconst (v := 0) C dX12_sumOf_0 (by decide) ?_
  refine g_istore_n (lv' := [(3, .int 0), (0, .ref a0), (1, .int a1), (2, .int a2)]) C dX12_sumOf_1 rfl (by decide) rfl ?_
  refine g_iconst (v := 0) C dX12_sumOf_2 (by decide) ?_
  refine g_istore (lv' := [(4, .int 0), (3, .int 0), (0, .ref a0), (1, .int a1), (2, .int a2)]) C dX12_sumOf_3 (by decide) rfl ?_
  refine g_lv (lv' := [(0, .ref a0), (1, .int a1), (2, .int a2), (3, .int 0), (4, .int 0)]) [2, 3, 4, 1, 0] rfl ?_
  exact J5 _ 0 0 (Nat.lt_succ_self _) (by decide)
