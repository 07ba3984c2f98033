theorem dX12_chancesOf_92 : decode cX12_chancesOf 92 = .ok (.aload_n 0, 1) := by decide +kernel
theorem dX12_chancesOf_93 : decode cX12_chancesOf 93 = .ok (.getfield 318, 3) := by decide +kernel
theorem dX12_chancesOf_96 : decode cX12_chancesOf 96 = .ok (.goto 7, 3) := by decide +kernel
theorem dX12_chancesOf_103 : decode cX12_chancesOf 103 = .ok (.invokevirtual 371, 3) := by decide +kernel
theorem dX12_givesAll_0 : decode cX12_givesAll 0 = .ok (.iload_n 2, 1) := by decide +kernel
theorem dX12_givesAll_1 : decode cX12_givesAll 1 = .ok (.iconst (-1), 1) := by decide +kernel
theorem dX12_givesAll_2 : decode cX12_givesAll 2 = .ok (.ixor, 1) := by decide +kernel
theorem dX12_givesAll_3 : decode cX12_givesAll 3 = .ok (.iconst 1, 1) := by decide +kernel
theorem dX12_givesAll_4 : decode cX12_givesAll 4 = .ok (.aload_n 0, 1) := by decide +kernel
theorem dX12_givesAll_5 : decode cX12_givesAll 5 = .ok (.getfield 45, 3) := by decide +kernel
theorem dX12_givesAll_8 : decode cX12_givesAll 8 = .ok (.iload_n 1, 1) := by decide +kernel
theorem dX12_givesAll_9 : decode cX12_givesAll 9 = .ok (.iaload, 1) := by decide +kernel
theorem dX12_givesAll_10 : decode cX12_givesAll 10 = .ok (.ishl, 1) := by decide +kernel
theorem dX12_givesAll_11 : decode cX12_givesAll 11 = .ok (.iconst 1, 1) := by decide +kernel
theorem dX12_givesAll_12 : decode cX12_givesAll 12 = .ok (.isub, 1) := by decide +kernel
theorem dX12_givesAll_13 : decode cX12_givesAll 13 = .ok (.iand, 1) := by decide +kernel
theorem dX12_givesAll_14 : decode cX12_givesAll 14 = .ok (.ifCond .ne 7, 3) := by decide +kernel
theorem dX12_givesAll_17 : decode cX12_givesAll 17 = .ok (.iconst 1, 1) := by decide +kernel
theorem dX12_givesAll_18 : decode cX12_givesAll 18 = .ok (.goto 4, 3) := by decide +kernel
theorem dX12_givesAll_21 : decode cX12_givesAll 21 = .ok (.iconst 0, 1) := by decide +kernel
theorem dX12_givesAll_22 : decode cX12_givesAll 22 = .ok (.ireturn, 1) := by decide +kernel
set_option maxHeartbeats 4000000 in
set_option maxRecDepth 100000 in
theorem s_X12_givesAll {P : PP} {a0 : Nat} {a1 : Int32} {a2 : Int32} (I : IM P a0) (ha1 : 0 ≤ a1.toInt ∧ a1.toInt ≤ 1) (hW : MW P a0) : CtrI yX12_givesAll cX12_givesAll 3 (some Jvm.ClassFile.FieldType.boolean) ({ frames := 1, cells := 0, slots := 0, locals := 64 } : Room) 0 0 P [.ref a0, .int a1, .int a2] (fun r P2 => P = P2 ∧ (0 ≤ r.toInt ∧ r.toInt ≤ 1)) := by
  refine enI (lv := [(0, .ref a0), (1, .int a1), (2, .int a2)]) (by decide) (Nat.le_of_ble_eq_true rfl) rfl (fun E D cy C Ci0 ret => ?_)
  have ha0 := I.2.1
  refine g_iload_n C dX12_givesAll_0 rfl 2 rfl ?_
  refine g_iconst (v := (-1)) C dX12_givesAll_1 (by decide) ?_
  refine a_ixor C dX12_givesAll_2 (fun z17122 => ?_)
  refine g_iconst (v := 1) C dX12_givesAll_3 (by decide) ?_
  refine g_aload_n C dX12_givesAll_4 rfl 0 rfl ?_
  obtain ⟨b17124, e17125, h17126⟩ := I.fld (ha0) 10 13 2 rfl
  refine g_getR C fi_X12_45 rfl e17125 (ha0).1 (ha0).2 dX12_givesAll_5 ?_
  refine g_iload_n C dX12_givesAll_8 rfl 1 rfl ?_
  refine g_iald (j := (a1.toInt.toNat)) C h17126.1 h17126.2.1 (ix_in h17126.2.2 (by omega)) dX12_givesAll_9 ?_
  have h17127 := I.arr e17125 rfl (a1.toInt.toNat)
  refine a_ishl C dX12_givesAll_10 (fun z17128 => ?_)
  refine g_iconst (v := 1) C dX12_givesAll_11 (by decide) ?_
  refine a_isub C dX12_givesAll_12 (fun z17130 => ?_)
  refine a_iand C dX12_givesAll_13 (fun z17132 => ?_)
  have u17135 := ti_rng z17132
  refine b_if_ne C 21 dX12_givesAll_14 (by decide) (fun h17134 => ?_) (fun h17134 => ?_)
  · have h17134 : z17132.toInt ≠ 0 := ti_ne h17134
    refine g_iconst (v := 0) C dX12_givesAll_21 (by decide) ?_
    exact ret _ _ _ _ _ _ dX12_givesAll_22 rfl (by decide) (by decide) ⟨rfl, (by decide)⟩
  · have h17134 : z17132.toInt = 0 := congrArg Int32.toInt h17134
    refine g_iconst (v := 1) C dX12_givesAll_17 (by decide) ?_
    refine g_goto C 22 dX12_givesAll_18 (by decide) ?_
    exact ret _ _ _ _ _ _ dX12_givesAll_22 rfl (by decide) (by decide) ⟨rfl, (by decide)⟩
theorem dX12_chancesOf_106 : decode cX12_chancesOf 106 = .ok (.ifCond .eq 7, 3) := by decide +kernel
theorem dX12_chancesOf_109 : decode cX12_chancesOf 109 = .ok (.iconst 1, 1) := by decide +kernel
theorem dX12_chancesOf_110 : decode cX12_chancesOf 110 = .ok (.goto 4, 3) := by decide +kernel
theorem dX12_chancesOf_113 : decode cX12_chancesOf 113 = .ok (.iconst 0, 1) := by decide +kernel
theorem dX12_chancesOf_114 : decode cX12_chancesOf 114 = .ok (.iadd, 1) := by decide +kernel
theorem dX12_chancesOf_115 : decode cX12_chancesOf 115 = .ok (.istore 5, 2) := by decide +kernel
set_option maxHeartbeats 4000000 in
set_option maxRecDepth 100000 in
theorem s_X12_chancesOf {P : PP} {a0 : Nat} {a1 : Int32} {a2 : Int32} {a3 : Int32} {a4 : Int32} (I : IM P a0) (ha1 : 0 ≤ a1.toInt ∧ a1.toInt ≤ 1) (ha2 : 1 ≤ a2.toInt ∧ a2.toInt ≤ 11) (hf0 : ∀ b, pR P a0 10 = some b → 1 ≤ (pI P b (a1.toInt.toNat)).toInt ∧ (pI P b (a1.toInt.toNat)).toInt ≤ 16) (hW : MW P a0) : CtrI yX12_chancesOf cX12_chancesOf 8 (some Jvm.ClassFile.FieldType.int) ({ frames := 3, cells := 0, slots := 0, locals := 192 } : Room) 0 0 P [.ref a0, .int a1, .int a2, .int a3, .int a4] (fun r P2 => IM P2 a0 ∧ EM [28, 29, 30, 31, 33, 34, 35, 36, 37, 38] a0 P P2 ∧ MW P2 a0 ∧ (True)) := by
  refine enI (lv := [(0, .ref a0), (1, .int a1), (2, .int a2), (3, .int a3), (4, .int a4)]) (by decide) (Nat.le_of_ble_eq_true rfl) rfl (fun E D cy C Ci0 ret => ?_)
  have ha0 := I.2.1
  have J6 : ∀ (n6 : Nat) (P6 : PP) (v6_5 : Int32) (v6_6 : Int32), (2147483647 - v6_6.toInt).toNat < n6 → (IM P6 a0) → (EM [28, 29, 30, 31, 33, 34, 35, 36, 37, 38] a0 P P6) → (MW P6 a0) → (0 ≤ v6_6.toInt) → (∀ b, pR P6 a0 10 = some b → 1 ≤ (pI P6 b (a1.toInt.toNat)).toInt ∧ (pI P6 b (a1.toInt.toNat)).toInt ≤ 16) → G E ({ frames := 3, cells := 0, slots := 0, locals := 192 } : Room) D cy 8 P6 0 0 6 [(0, .ref a0), (1, .int a1), (2, .int a2), (3, .int a3), (4, .int a4), (5, .int v6_5), (6, .int v6_6)] [] := by
    intro n6
    induction n6 with
    | zero => intro P6 v6_5 v6_6 hm6 I6 X6 W6 hv6_6 hq6_0; omega
    | succ n6 ih6 =>
      intro P6 v6_5 v6_6 hm6 I6 X6 W6 hv6_6 hq6_0
      have h23494 := X6.at ha0
      obtain ⟨b23495, e23496, h23497⟩ := I6.fld (h23494) 10 13 2 rfl
      have hq6_0 := hq6_0 b23495 e23496
      have J117 : ∀ (P117 : PP) (v117_5 : Int32), (IM P117 a0) → (EM [28, 29, 30, 31, 33, 34, 35, 36, 37, 38] a0 P P117) → (MW P117 a0) → (0 ≤ v6_6.toInt ∧ v6_6.toInt ≤ 2147483646) → (∀ b, pR P117 a0 10 = some b → 1 ≤ (pI P117 b (a1.toInt.toNat)).toInt ∧ (pI P117 b (a1.toInt.toNat)).toInt ≤ 16) → G E ({ frames := 3, cells := 0, slots := 0, locals := 192 } : Room) D cy 8 P117 0 0 117 [(0, .ref a0), (1, .int a1), (2, .int a2), (3, .int a3), (4, .int a4), (5, .int v117_5), (6, .int v6_6)] [] := by
        intro P117 v117_5 I117 X117 W117 hv117_6 hq117_0
        have h23498 := X117.at ha0
        obtain ⟨b23499, e23500, h23501⟩ := I117.fld (h23498) 10 13 2 rfl
        have hq117_0 := hq117_0 b23499 e23500
        refine s_iinc (lv0 := [(0, .ref a0), (1, .int a1), (2, .int a2), (3, .int a3), (4, .int a4), (5, .int v117_5)]) (m := 1) C dX12_chancesOf_117 6 rfl (by decide) rfl (by decide) (by omega) (fun z23502 h23503 => ?_)
        have h23503 : z23502.toInt = v6_6.toInt + 1 := h23503
        refine g_goto C 6 dX12_chancesOf_120 (by decide) ?_
        refine g_lv (lv' := [(0, .ref a0), (1, .int a1), (2, .int a2), (3, .int a3), (4, .int a4), (5, .int v117_5), (6, .int z23502)]) [1, 2, 3, 4, 5, 6, 0] rfl ?_
        exact ih6 P117 v117_5 z23502 (by omega) I117 X117 W117 (by omega) (fun b9 e9 => by rw [e23500] at e9; cases e9; omega)
      have J114 : ∀ (P114 : PP) (v114_s0 : Int32), (IM P114 a0) → (EM [28, 29, 30, 31, 33, 34, 35, 36, 37, 38] a0 P P114) → (MW P114 a0) → (0 ≤ a3.toInt ∧ a3.toInt ≤ 20) → (0 ≤ v6_6.toInt ∧ v6_6.toInt ≤ 2147483646) → (0 ≤ v114_s0.toInt ∧ v114_s0.toInt ≤ 1) → (∀ b, pR P114 a0 10 = some b → 1 ≤ (pI P114 b (a1.toInt.toNat)).toInt ∧ (pI P114 b (a1.toInt.toNat)).toInt ≤ 16) → G E ({ frames := 3, cells := 0, slots := 0, locals := 192 } : Room) D cy 8 P114 0 0 114 [(0, .ref a0), (1, .int a1), (2, .int a2), (3, .int a3), (4, .int a4), (6, .int v6_6)] [.int v114_s0, .int v6_5] := by
        intro P114 v114_s0 I114 X114 W114 hv114_3 hv114_6 hv114_s0 hq114_0
        have h23504 := X114.at ha0
        obtain ⟨b23505, e23506, h23507⟩ := I114.fld (h23504) 10 13 2 rfl
        have hq114_0 := hq114_0 b23505 e23506
        refine a_iadd C dX12_chancesOf_114 (fun z23508 => ?_)
        refine g_istore (lv' := [(5, .int z23508), (0, .ref a0), (1, .int a1), (2, .int a2), (3, .int a3), (4, .int a4), (6, .int v6_6)]) C dX12_chancesOf_115 (by decide) rfl ?_
        refine g_lv (lv' := [(0, .ref a0), (1, .int a1), (2, .int a2), (3, .int a3), (4, .int a4), (5, .int z23508), (6, .int v6_6)]) [1, 2, 3, 4, 5, 0, 6] rfl ?_
        exact J117 P114 z23508 I114 X114 W114 (by omega) (fun b9 e9 => by rw [e23506] at e9; cases e9; omega)
      have J103 : ∀ (P103 : PP) (v103_s0 : Int32), (IM P103 a0) → (EM [28, 29, 30, 31, 33, 34, 35, 36, 37, 38] a0 P P103) → (MW P103 a0) → (0 ≤ a3.toInt ∧ a3.toInt ≤ 20) → (0 ≤ v6_6.toInt ∧ v6_6.toInt ≤ 2147483646) → (∀ b, pR P103 a0 10 = some b → 1 ≤ (pI P103 b (a1.toInt.toNat)).toInt ∧ (pI P103 b (a1.toInt.toNat)).toInt ≤ 16) → G E ({ frames := 3, cells := 0, slots := 0, locals := 192 } : Room) D cy 8 P103 0 0 103 [(0, .ref a0), (1, .int a1), (2, .int a2), (3, .int a3), (4, .int a4), (6, .int v6_6)] [.int v103_s0, .int a1, .ref a0, .int v6_5] := by
        intro P103 v103_s0 I103 X103 W103 hv103_3 hv103_6 hq103_0
        have h23510 := X103.at ha0
        obtain ⟨b23511, e23512, h23513⟩ := I103.fld (h23510) 10 13 2 rfl
        have hq103_0 := hq103_0 b23511 e23512
        refine g_callVI (rest := [.int v6_5]) C mv_X12_371 [.int a1, .int v103_s0] (s_X12_givesAll I103 (by omega) W103) (h23510).1 (h23510).2 rfl rfl (by decide) (Nat.le_of_ble_eq_true rfl) (by decide) dX12_chancesOf_103 (fun r23514 Y23515 h23516 => ?_)
        obtain ⟨rfl, h23516⟩ := h23516
        have h23516 : 0 ≤ r23514.toInt ∧ r23514.toInt ≤ 1 := h23516
        refine b_if_eq C 113 dX12_chancesOf_106 (by decide) (fun h23517 => ?_) (fun h23517 => ?_)
        · have h23517 : r23514.toInt = 0 := congrArg Int32.toInt h23517
          refine g_iconst (v := 0) C dX12_chancesOf_113 (by decide) ?_
          exact J114 P103 0 I103 X103 W103 (by omega) (by omega) (by decide) (fun b9 e9 => by rw [e23512] at e9; cases e9; omega)
        · have h23517 : r23514.toInt ≠ 0 := ti_ne h23517
          refine g_iconst (v := 1) C dX12_chancesOf_109 (by decide) ?_
          refine g_goto C 114 dX12_chancesOf_110 (by decide) ?_
          exact J114 P103 1 I103 X103 W103 (by omega) (by omega) (by decide) (fun b9 e9 => by rw [e23512] at e9; cases e9; omega)
      have J83 : ∀ (P83 : PP), (IM P83 a0) → (EM [28, 29, 30, 31, 33, 34, 35, 36, 37, 38] a0 P P83) → (MW P83 a0) → (0 ≤ a3.toInt ∧ a3.toInt ≤ 20) → (0 ≤ v6_6.toInt ∧ v6_6.toInt ≤ 2147483646) → (∀ b, pR P83 a0 10 = some b → 1 ≤ (pI P83 b (a1.toInt.toNat)).toInt ∧ (pI P83 b (a1.toInt.toNat)).toInt ≤ 16) → G E ({ frames := 3, cells := 0, slots := 0, locals := 192 } : Room) D cy 8 P83 0 0 83 [(0, .ref a0), (1, .int a1), (2, .int a2), (3, .int a3), (4, .int a4), (5, .int v6_5), (6, .int v6_6)] [] := by
        intro P83 I83 X83 W83 hv83_3 hv83_6 hq83_0
        have h23518 := X83.at ha0
        obtain ⟨b23519, e23520, h23521⟩ := I83.fld (h23518) 10 13 2 rfl
        have hq83_0 := hq83_0 b23519 e23520
        refine g_iload C dX12_chancesOf_83 5 rfl ?_
        refine g_aload_n C dX12_chancesOf_85 rfl 0 rfl ?_
        refine g_iload_n C dX12_chancesOf_86 rfl 1 rfl ?_
        refine g_iload C dX12_chancesOf_87 4 rfl ?_
        have u23523 := ti_rng a4
        refine b_if_ne C 99 dX12_chancesOf_89 (by decide) (fun h23522 => ?_) (fun h23522 => ?_)
        · have h23522 : a4.toInt ≠ 0 := ti_ne h23522
          refine g_aload_n C dX12_chancesOf_99 rfl 0 rfl ?_
          refine g_callVI (rest := [.int a1, .ref a0, .int v6_5]) C mv_X12_349 [] (s_X12_fixedSet I83 W83) (h23518).1 (h23518).2 rfl rfl (by decide) (Nat.le_of_ble_eq_true rfl) (by decide) dX12_chancesOf_100 (fun r23524 Y23525 h23526 => ?_)
          obtain ⟨rfl, h23526⟩ := h23526
          have h23526 : True := h23526
          refine g_lv (lv' := [(0, .ref a0), (1, .int a1), (2, .int a2), (3, .int a3), (4, .int a4), (6, .int v6_6)]) [0, 1, 2, 3, 4, 6] rfl ?_
          exact J103 P83 r23524 I83 X83 W83 (by omega) (by omega) (fun b9 e9 => by rw [e23520] at e9; cases e9; omega)
        · have h23522 : a4.toInt = 0 := congrArg Int32.toInt h23522
          refine g_aload_n C dX12_chancesOf_92 rfl 0 rfl ?_
          refine g_getI C fi_X12_318 (by decide) (h23518).1 (h23518).2 dX12_chancesOf_93 ?_
          refine g_goto C 103 dX12_chancesOf_96 (by decide) ?_
          refine g_lv (lv' := [(0, .ref a0), (1, .int a1), (2, .int a2), (3, .int a3), (4, .int a4), (6, .int v6_6)]) [0, 1, 2, 3, 4, 6] rfl ?_
          exact J103 P83 (pI P83 a0 33) I83 X83 W83 (by omega) (by omega) (fun b9 e9 => by rw [e23520] at e9; cases e9; omega)
      have J31 : ∀ (n31 : Nat) (P31 : PP) (v31_7 : Int32), (11 - v31_7.toInt).toNat < n31 → (IM P31 a0) → (EM [28, 29, 30, 31, 33, 34, 35, 36, 37, 38] a0 P P31) → (MW P31 a0) → (0 ≤ a3.toInt ∧ a3.toInt ≤ 20) → (0 ≤ v6_6.toInt ∧ v6_6.toInt ≤ 2147483646) → (0 ≤ v31_7.toInt ∧ v31_7.toInt ≤ 11) → (∀ b, pR P31 a0 10 = some b → 1 ≤ (pI P31 b (a1.toInt.toNat)).toInt ∧ (pI P31 b (a1.toInt.toNat)).toInt ≤ 16) → ((pI P31 a0 28).toInt ≤ 4 + v31_7.toInt) → G E ({ frames := 3, cells := 0, slots := 0, locals := 192 } : Room) D cy 8 P31 0 0 31 [(0, .ref a0), (1, .int a1), (2, .int a2), (3, .int a3), (4, .int a4), (5, .int v6_5), (6, .int v6_6), (7, .int v31_7)] [] := by
        intro n31
        induction n31 with
        | zero => intro P31 v31_7 hm31 I31 X31 W31 hv31_3 hv31_6 hv31_7 hq31_0 rel31_0; omega
        | succ n31 ih31 =>
          intro P31 v31_7 hm31 I31 X31 W31 hv31_3 hv31_6 hv31_7 hq31_0 rel31_0
          have h23527 := X31.at ha0
          obtain ⟨b23528, e23529, h23530⟩ := I31.fld (h23527) 10 13 2 rfl
          have hq31_0 := hq31_0 b23528 e23529
          have h23531 := I31.rg h23527 28 rfl
          have J61 : ∀ (P61 : PP), (IM P61 a0) → (EM [28, 29, 30, 31, 33, 34, 35, 36, 37, 38] a0 P P61) → (MW P61 a0) → (0 ≤ a3.toInt ∧ a3.toInt ≤ 20) → (0 ≤ v6_6.toInt ∧ v6_6.toInt ≤ 2147483646) → (0 ≤ v31_7.toInt ∧ v31_7.toInt ≤ 10) → (∀ b, pR P61 a0 10 = some b → 1 ≤ (pI P61 b (a1.toInt.toNat)).toInt ∧ (pI P61 b (a1.toInt.toNat)).toInt ≤ 16) → ((pI P61 a0 28).toInt ≤ 5 + v31_7.toInt) → G E ({ frames := 3, cells := 0, slots := 0, locals := 192 } : Room) D cy 8 P61 0 0 61 [(0, .ref a0), (1, .int a1), (2, .int a2), (3, .int a3), (4, .int a4), (5, .int v6_5), (6, .int v6_6), (7, .int v31_7)] [] := by
            intro P61 I61 X61 W61 hv61_3 hv61_6 hv61_7 hq61_0 rel61_0
            have h23532 := X61.at ha0
            obtain ⟨b23533, e23534, h23535⟩ := I61.fld (h23532) 10 13 2 rfl
            have hq61_0 := hq61_0 b23533 e23534
            have h23536 := I61.rg h23532 28 rfl
            refine s_iinc (lv0 := [(0, .ref a0), (1, .int a1), (2, .int a2), (3, .int a3), (4, .int a4), (5, .int v6_5), (6, .int v6_6)]) (m := 1) C dX12_chancesOf_61 7 rfl (by decide) rfl (by decide) (by omega) (fun z23537 h23538 => ?_)
            have h23538 : z23537.toInt = v31_7.toInt + 1 := h23538
            refine g_goto C 31 dX12_chancesOf_64 (by decide) ?_
            refine g_lv (lv' := [(0, .ref a0), (1, .int a1), (2, .int a2), (3, .int a3), (4, .int a4), (5, .int v6_5), (6, .int v6_6), (7, .int z23537)]) [1, 2, 3, 4, 5, 6, 7, 0] rfl ?_
            exact ih31 P61 z23537 (by omega) I61 X61 W61 (by omega) (by omega) (by omega) (fun b9 e9 => by rw [e23534] at e9; cases e9; omega) (by show (pI P61 a0 28).toInt ≤ 4 + z23537.toInt; omega)
          refine g_iload C dX12_chancesOf_31 7 rfl ?_
          refine g_iload_n C dX12_chancesOf_33 rfl 2 rfl ?_
          refine b_icmp_ge C 67 dX12_chancesOf_34 (by decide) (fun h23539 => ?_) (fun h23539 => ?_)
          · have h23539 : a2.toInt ≤ v31_7.toInt := h23539
            refine g_iload C dX12_chancesOf_67 4 rfl ?_
            have u23541 := ti_rng a4
            refine b_if_ne C 79 dX12_chancesOf_69 (by decide) (fun h23540 => ?_) (fun h23540 => ?_)
            · have h23540 : a4.toInt ≠ 0 := ti_ne h23540
              refine g_aload_n C dX12_chancesOf_79 rfl 0 rfl ?_
              refine g_callVV (rest := []) C mv_X12_346 [] (s_X12_findSolved I31 W31) (h23527).1 (h23527).2 rfl rfl (by decide) (Nat.le_of_ble_eq_true rfl) (by decide) dX12_chancesOf_80 (fun Y23543 h23544 => ?_)
              obtain ⟨Iy23545, Xy23546, W23547⟩ := h23544
              have q23548 := Xy23546.keepA e23529 (by decide) rfl (a1.toInt.toNat)
              have q23549 := Xy23546.keepF 28 (by decide)
              have Xz23550 : EM [28, 29, 30, 31, 33, 34, 35, 36, 37, 38] a0 P Y23543 := EM.tr ha0 X31 (Xy23546.mono (by decide))
              have e23551 := Xy23546.ref h23527 (by decide) e23529
              have h23552 := Xy23546.at h23527
              have h23553 := Xy23546.ar h23530
              refine g_lv (lv' := [(0, .ref a0), (1, .int a1), (2, .int a2), (3, .int a3), (4, .int a4), (5, .int v6_5), (6, .int v6_6)]) [0, 1, 2, 3, 4, 5, 6] rfl ?_
              exact J83 Y23543 Iy23545 Xz23550 W23547 (by omega) (by omega) (fun b9 e9 => by rw [e23551] at e9; cases e9; omega)
            · have h23540 : a4.toInt = 0 := congrArg Int32.toInt h23540
              refine g_aload_n C dX12_chancesOf_72 rfl 0 rfl ?_
              refine g_callVV (rest := []) C mv_X12_343 [] (s_X12_findPeeled I31 W31) (h23527).1 (h23527).2 rfl rfl (by decide) (Nat.le_of_ble_eq_true rfl) (by decide) dX12_chancesOf_73 (fun Y23555 h23556 => ?_)
              obtain ⟨Iy23557, Xy23558, W23559⟩ := h23556
              have q23560 := Xy23558.keepA e23529 (by decide) rfl (a1.toInt.toNat)
              have q23561 := Xy23558.keepF 28 (by decide)
              have Xz23562 : EM [28, 29, 30, 31, 33, 34, 35, 36, 37, 38] a0 P Y23555 := EM.tr ha0 X31 (Xy23558.mono (by decide))
              have e23563 := Xy23558.ref h23527 (by decide) e23529
              have h23564 := Xy23558.at h23527
              have h23565 := Xy23558.ar h23530
              refine g_goto C 83 dX12_chancesOf_76 (by decide) ?_
              refine g_lv (lv' := [(0, .ref a0), (1, .int a1), (2, .int a2), (3, .int a3), (4, .int a4), (5, .int v6_5), (6, .int v6_6)]) [0, 1, 2, 3, 4, 5, 6] rfl ?_
              exact J83 Y23555 Iy23557 Xz23562 W23559 (by omega) (by omega) (fun b9 e9 => by rw [e23563] at e9; cases e9; omega)
          · have h23539 : v31_7.toInt < a2.toInt := h23539
            refine g_iload C dX12_chancesOf_37 6 rfl ?_
            refine g_iload C dX12_chancesOf_39 7 rfl ?_
            refine a_ishr C dX12_chancesOf_41 (fun z23566 => ?_)
            refine g_iconst (v := 1) C dX12_chancesOf_42 (by decide) ?_
            refine s_iand C dX12_chancesOf_43 (by show 0 ≤ 1; omega) (fun z23568 h23569 => ?_)
            have h23569 : 0 ≤ z23568.toInt ∧ z23568.toInt ≤ 1 := h23569
            refine g_iconst (v := 1) C dX12_chancesOf_44 (by decide) ?_
            refine b_icmp_ne C 61 dX12_chancesOf_45 (by decide) (fun h23570 => ?_) (fun h23570 => ?_)
            · have h23570 : z23568.toInt ≠ 1 := ti_ne h23570
              exact J61 P31 I31 X31 W31 (by omega) (by omega) (by omega) (fun b9 e9 => by rw [e23529] at e9; cases e9; omega) (by show (pI P31 a0 28).toInt ≤ 5 + v31_7.toInt; omega)
            · have h23570 : z23568.toInt = 1 := congrArg Int32.toInt h23570
              refine g_aload_n C dX12_chancesOf_48 rfl 0 rfl ?_
              refine g_aload_n C dX12_chancesOf_49 rfl 0 rfl ?_
              obtain ⟨b23571, e23572, h23573⟩ := I31.fld (h23527) 43 13 60 rfl
              refine g_getR C fi_X12_121 rfl e23572 (h23527).1 (h23527).2 dX12_chancesOf_50 ?_
              refine g_iload C dX12_chancesOf_53 7 rfl ?_
              refine g_iald (j := (v31_7.toInt.toNat)) C h23573.1 h23573.2.1 (ix_in h23573.2.2 (by omega)) dX12_chancesOf_55 ?_
              refine g_iconst (v := 0) C dX12_chancesOf_56 (by decide) ?_
              refine g_iconst (v := (-1)) C dX12_chancesOf_57 (by decide) ?_
              refine g_callVV (rest := []) C mv_X12_308 [.int (pI P31 b23571 (v31_7.toInt.toNat)), .int 0, .int (-1)] (s_X12_adds I31 (by omega) W31) (h23527).1 (h23527).2 rfl rfl (by decide) (Nat.le_of_ble_eq_true rfl) (by decide) dX12_chancesOf_58 (fun Y23575 h23576 => ?_)
              obtain ⟨Iy23577, Xy23578, W23579, p23580⟩ := h23576
              have p23580 : (pI Y23575 a0 28).toInt = (pI P31 a0 28).toInt + 1 := p23580
              have q23581 := Xy23578.keepA e23529 (by decide) rfl (a1.toInt.toNat)
              have Xz23582 : EM [28, 29, 30, 31, 33, 34, 35, 36, 37, 38] a0 P Y23575 := EM.tr ha0 X31 (Xy23578.mono (by decide))
              have e23583 := Xy23578.ref h23527 (by decide) e23529
              have h23584 := Xy23578.at h23527
              have h23585 := Xy23578.ar h23530
              have h23586 := Iy23577.rg h23584 28 rfl
              exact J61 Y23575 Iy23577 Xz23582 W23579 (by omega) (by omega) (by omega) (fun b9 e9 => by rw [e23583] at e9; cases e9; omega) (by show (pI Y23575 a0 28).toInt ≤ 5 + v31_7.toInt; omega)
      refine g_iload C dX12_chancesOf_6 6 rfl ?_
      refine g_iconst (v := 1) C dX12_chancesOf_8 (by decide) ?_
      refine g_iload_n C dX12_chancesOf_9 rfl 2 rfl ?_
      refine a_ishl C dX12_chancesOf_10 (fun z23587 => ?_)
      have u23590 := ti_rng v6_6
      have u23591 := ti_rng z23587
      refine b_icmp_ge C 123 dX12_chancesOf_11 (by decide) (fun h23589 => ?_) (fun h23589 => ?_)
      · have h23589 : z23587.toInt ≤ v6_6.toInt := h23589
        refine g_iload C dX12_chancesOf_123 5 rfl ?_
        exact ret _ _ _ _ _ _ dX12_chancesOf_125 rfl (by decide) (by decide) ⟨I6, X6, W6, trivial⟩
      · have h23589 : v6_6.toInt < z23587.toInt := h23589
        refine g_iload C dX12_chancesOf_14 6 rfl ?_
        refine g_callSI (b := 0) (ci := 0) (rest := []) C ms_X12_264 [.int v6_6] (s_X12_bits I6.1) rfl rfl (by decide) (Nat.le_of_ble_eq_true rfl) (by decide) dX12_chancesOf_16 (fun r23592 Y23593 h23594 => ?_)
        obtain ⟨rfl, h23594⟩ := h23594
        obtain ⟨h23594, hi23595⟩ := h23594
        have hi23595 : r23592.toInt = 0 ∨ v6_6.toInt ≠ 0 := hi23595
        have h23594 : 0 ≤ r23592.toInt ∧ r23592.toInt ≤ 20 := h23594
        refine g_iload_n C dX12_chancesOf_19 rfl 3 rfl ?_
        have u23597 := ti_rng a3
        refine b_icmp_ne C 117 dX12_chancesOf_20 (by decide) (fun h23596 => ?_) (fun h23596 => ?_)
        · have h23596 : r23592.toInt ≠ a3.toInt := ti_ne h23596
          exact J117 P6 v6_5 I6 X6 W6 (by omega) (fun b9 e9 => by rw [e23496] at e9; cases e9; omega)
        · have h23596 : r23592.toInt = a3.toInt := congrArg Int32.toInt h23596
          refine g_aload_n C dX12_chancesOf_23 rfl 0 rfl ?_
          refine g_iload_n C dX12_chancesOf_24 rfl 1 rfl ?_
          refine g_callVV (rest := []) C mv_X12_312 [.int a1] (s_X12_begins I6 (by omega) W6) (h23494).1 (h23494).2 rfl rfl (by decide) (Nat.le_of_ble_eq_true rfl) (by decide) dX12_chancesOf_25 (fun Y23599 h23600 => ?_)
          obtain ⟨Iy23601, Xy23602, W23603, p23604⟩ := h23600
          have p23604 : (pI Y23599 a0 28).toInt ≤ 4 := p23604
          have q23605 := Xy23602.keepA e23496 (by decide) rfl (a1.toInt.toNat)
          have Xz23606 : EM [28, 29, 30, 31, 33, 34, 35, 36, 37, 38] a0 P Y23599 := EM.tr ha0 X6 (Xy23602.mono (by decide))
          have e23607 := Xy23602.ref h23494 (by decide) e23496
          have h23608 := Xy23602.at h23494
          have h23609 := Xy23602.ar h23497
          have h23610 := Iy23601.rg h23608 28 rfl
          refine g_iconst (v := 0) C dX12_chancesOf_28 (by decide) ?_
          refine g_istore (lv' := [(7, .int 0), (0, .ref a0), (1, .int a1), (2, .int a2), (3, .int a3), (4, .int a4), (5, .int v6_5), (6, .int v6_6)]) C dX12_chancesOf_29 (by decide) rfl ?_
          refine g_lv (lv' := [(0, .ref a0), (1, .int a1), (2, .int a2), (3, .int a3), (4, .int a4), (5, .int v6_5), (6, .int v6_6), (7, .int 0)]) [1, 2, 3, 4, 5, 6, 7, 0] rfl ?_
          exact J31 _ Y23599 0 (Nat.lt_succ_self _) Iy23601 Xz23606 W23603 (by omega) (by omega) (by decide) (fun b9 e9 => by rw [e23607] at e9; cases e9; omega) (by show (pI Y23599 a0 28).toInt ≤ 4 + 0; omega)
  obtain ⟨b23611, e23612, h23613⟩ := I.fld (ha0) 10 13 2 rfl
  have hf0 := hf0 b23611 e23612
  refine g_iconst (v := 0) C dX12_chancesOf_0 (by decide) ?_
  refine g_istore (lv' := [(5, .int 0), (0, .ref a0), (1, .int a1), (2, .int a2), (3, .int a3), (4, .int a4)]) C dX12_chancesOf_1 (by decide) rfl ?_
  refine g_iconst (v := 0) C dX12_chancesOf_3 (by decide) ?_
  refine g_istore (lv' := [(6, .int 0), (5, .int 0), (0, .ref a0), (1, .int a1), (2, .int a2), (3, .int a3), (4, .int a4)]) C dX12_chancesOf_4 (by decide) rfl ?_
  refine g_lv (lv' := [(0, .ref a0), (1, .int a1), (2, .int a2), (3, .int a3), (4, .int a4), (5, .int 0), (6, .int 0)]) [2, 3, 4, 5, 6, 1, 0] rfl ?_
  exact J6 _ P 0 0 (Nat.lt_succ_self _) I EM.rf hW (by decide) (fun b9 e9 => by rw [e23612] at e9; cases e9; omega)
theorem dX12_average_25 : decode cX12_average 25 = .ok (.ldc2_w 390, 3) := by decide +kernel
theorem dX12_average_28 : decode cX12_average 28 = .ok (.lreturn, 1) := by decide +kernel
theorem dX12_average_43 : decode cX12_average 43 = .ok (.ifCond .ne 7, 3) := by decide +kernel
theorem dX12_average_46 : decode cX12_average 46 = .ok (.ldc2_w 390, 3) := by decide +kernel
theorem dX12_average_49 : decode cX12_average 49 = .ok (.lreturn, 1) := by decide +kernel
theorem dX12_average_50 : decode cX12_average 50 = .ok (.lconst 0, 1) := by decide +kernel
theorem dX12_average_51 : decode cX12_average 51 = .ok (.lstore 5, 2) := by decide +kernel
theorem dX12_average_53 : decode cX12_average 53 = .ok (.lconst 1, 1) := by decide +kernel
theorem dX12_average_54 : decode cX12_average 54 = .ok (.lstore 7, 2) := by decide +kernel
theorem dX12_average_56 : decode cX12_average 56 = .ok (.iconst 0, 1) := by decide +kernel
theorem dX12_average_57 : decode cX12_average 57 = .ok (.istore 9, 2) := by decide +kernel
theorem dX12_average_59 : decode cX12_average 59 = .ok (.iload 9, 2) := by decide +kernel
theorem dX12_average_61 : decode cX12_average 61 = .ok (.iload_n 2, 1) := by decide +kernel
theorem dX12_average_62 : decode cX12_average 62 = .ok (.if_icmp .ge 76, 3) := by decide +kernel
theorem dX12_average_65 : decode cX12_average 65 = .ok (.iload_n 2, 1) := by decide +kernel
theorem dX12_average_66 : decode cX12_average 66 = .ok (.iload 9, 2) := by decide +kernel
theorem dX12_average_68 : decode cX12_average 68 = .ok (.invokestatic 387, 3) := by decide +kernel
theorem dX12_choices_0 : decode cX12_choices 0 = .ok (.iconst 1, 1) := by decide +kernel
theorem dX12_choices_1 : decode cX12_choices 1 = .ok (.istore_n 2, 1) := by decide +kernel
theorem dX12_choices_2 : decode cX12_choices 2 = .ok (.iconst 0, 1) := by decide +kernel
theorem dX12_choices_3 : decode cX12_choices 3 = .ok (.istore_n 3, 1) := by decide +kernel
theorem dX12_choices_4 : decode cX12_choices 4 = .ok (.iload_n 3, 1) := by decide +kernel
theorem dX12_choices_5 : decode cX12_choices 5 = .ok (.iload_n 1, 1) := by decide +kernel
theorem dX12_choices_6 : decode cX12_choices 6 = .ok (.if_icmp .ge 19, 3) := by decide +kernel
theorem dX12_choices_9 : decode cX12_choices 9 = .ok (.iload_n 2, 1) := by decide +kernel
theorem dX12_choices_10 : decode cX12_choices 10 = .ok (.iload_n 0, 1) := by decide +kernel
theorem dX12_choices_11 : decode cX12_choices 11 = .ok (.iload_n 3, 1) := by decide +kernel
theorem dX12_choices_12 : decode cX12_choices 12 = .ok (.isub, 1) := by decide +kernel
theorem dX12_choices_13 : decode cX12_choices 13 = .ok (.imul, 1) := by decide +kernel
theorem dX12_choices_14 : decode cX12_choices 14 = .ok (.iload_n 3, 1) := by decide +kernel
theorem dX12_choices_15 : decode cX12_choices 15 = .ok (.iconst 1, 1) := by decide +kernel
theorem dX12_choices_16 : decode cX12_choices 16 = .ok (.iadd, 1) := by decide +kernel
theorem dX12_choices_17 : decode cX12_choices 17 = .ok (.idiv, 1) := by decide +kernel
theorem dX12_choices_18 : decode cX12_choices 18 = .ok (.istore_n 2, 1) := by decide +kernel
theorem dX12_choices_19 : decode cX12_choices 19 = .ok (.iinc 3 1, 3) := by decide +kernel
theorem dX12_choices_22 : decode cX12_choices 22 = .ok (.goto (-18), 3) := by decide +kernel
theorem dX12_choices_25 : decode cX12_choices 25 = .ok (.iload_n 2, 1) := by decide +kernel
theorem dX12_choices_26 : decode cX12_choices 26 = .ok (.ireturn, 1) := by decide +kernel
set_option maxHeartbeats 4000000 in
set_option maxRecDepth 100000 in
theorem s_X12_choices {P : PP} {a0 : Int32} {a1 : Int32} (I : IV P) (ha0 : 0 ≤ a0.toInt ∧ a0.toInt ≤ 11) (ha1 : 0 ≤ a1.toInt ∧ a1.toInt ≤ 11) : CtrI yX12_choices cX12_choices 4 (some Jvm.ClassFile.FieldType.int) ({ frames := 1, cells := 0, slots := 0, locals := 64 } : Room) 0 0 P [.int a0, .int a1] (fun r P2 => P = P2 ∧ (True) ∧ (a1.toInt ≤ a0.toInt → (1 ≤ r.toInt ∧ r.toInt ≤ 462) ∧ r.toInt.natAbs ∣ 27720)) := by
  refine enI (lv := [(0, .int a0), (1, .int a1)]) (by decide) (Nat.le_of_ble_eq_true rfl) rfl (fun E D cy C Ci0 ret => ?_)
  have J4 : ∀ (n4 : Nat) (v4_2 : Int32) (v4_3 : Int32), (11 - v4_3.toInt).toNat < n4 → (0 ≤ v4_3.toInt ∧ v4_3.toInt ≤ 11) → (v4_2.toInt = (chF a0 (v4_3.toInt : Int).toNat).toInt) → (v4_3.toInt ≤ a1.toInt) → G E ({ frames := 1, cells := 0, slots := 0, locals := 64 } : Room) D cy 4 P 0 0 4 [(0, .int a0), (1, .int a1), (2, .int v4_2), (3, .int v4_3)] [] := by
    intro n4
    induction n4 with
    | zero => intro v4_2 v4_3 hm4 hv4_3 rel4_0 rel4_1; omega
    | succ n4 ih4 =>
      intro v4_2 v4_3 hm4 hv4_3 rel4_0 rel4_1
      refine g_iload_n C dX12_choices_4 rfl 3 rfl ?_
      refine g_iload_n C dX12_choices_5 rfl 1 rfl ?_
      refine b_icmp_ge C 25 dX12_choices_6 (by decide) (fun h23769 => ?_) (fun h23769 => ?_)
      · have h23769 : a1.toInt ≤ v4_3.toInt := h23769
        refine g_iload_n C dX12_choices_25 rfl 2 rfl ?_
        exact ret _ _ _ _ _ _ dX12_choices_26 rfl (by decide) (by decide) ⟨rfl, trivial, (fun _ => by have h9 := chF_rg (m := a0) (k := v4_3.toInt.toNat) ha0 (by omega); rw [← rel4_0] at h9; exact h9)⟩
      · have h23769 : v4_3.toInt < a1.toInt := h23769
        refine g_iload_n C dX12_choices_9 rfl 2 rfl ?_
        refine g_iload_n C dX12_choices_10 rfl 0 rfl ?_
        refine g_iload_n C dX12_choices_11 rfl 3 rfl ?_
        refine g_isub C dX12_choices_12 ?_
        refine g_topi (fun z23770 h23771 => ?_)
        refine g_imul C dX12_choices_13 ?_
        refine g_topi (fun z23772 h23773 => ?_)
        refine g_iload_n C dX12_choices_14 rfl 3 rfl ?_
        refine g_iconst (v := 1) C dX12_choices_15 (by decide) ?_
        refine g_iadd C dX12_choices_16 ?_
        refine g_topi (fun z23774 h23775 => ?_)
        have hc9 : z23774.toInt = v4_3.toInt + 1 := by rw [h23775]; exact (ti_add (y := 1) (by show -2147483648 ≤ v4_3.toInt + 1 ∧ v4_3.toInt + 1 ≤ 2147483647; omega))
        refine g_idiv C dX12_choices_17 (fun e9 => by have h8 : z23774.toInt = 0 := congrArg Int32.toInt e9; omega) ?_
        refine g_topi (fun z23776 h23777 => ?_)
        refine g_istore_n (lv' := [(2, .int z23776), (0, .int a0), (1, .int a1), (3, .int v4_3)]) C dX12_choices_18 rfl (by decide) rfl ?_
        refine s_iinc (lv0 := [(2, .int z23776), (0, .int a0), (1, .int a1)]) (m := 1) C dX12_choices_19 3 rfl (by decide) rfl (by decide) (by omega) (fun z23778 h23779 => ?_)
        have h23779 : z23778.toInt = v4_3.toInt + 1 := h23779
        have st := chF_step (i := v4_3) rel4_0 (by omega) h23771 h23773 h23775 h23777 (d := z23778.toInt) (by omega)
        refine g_goto C 4 dX12_choices_22 (by decide) ?_
        refine g_lv (lv' := [(0, .int a0), (1, .int a1), (2, .int z23776), (3, .int z23778)]) [2, 3, 1, 0] rfl ?_
        exact ih4 z23776 z23778 (by omega) (by omega) (by show z23776.toInt = (chF a0 (z23778.toInt : Int).toNat).toInt; omega) (by show z23778.toInt ≤ a1.toInt; omega)
  refine g_iconst (v := 1) C dX12_choices_0 (by decide) ?_
  refine g_istore_n (lv' := [(2, .int 1), (0, .int a0), (1, .int a1)]) C dX12_choices_1 rfl (by decide) rfl ?_
  have h0c : (chF a0 (0 : Int).toNat).toInt = 1 := rfl
  refine g_iconst (v := 0) C dX12_choices_2 (by decide) ?_
  refine g_istore_n (lv' := [(3, .int 0), (2, .int 1), (0, .int a0), (1, .int a1)]) C dX12_choices_3 rfl (by decide) rfl ?_
  refine g_lv (lv' := [(0, .int a0), (1, .int a1), (2, .int 1), (3, .int 0)]) [2, 3, 1, 0] rfl ?_
  exact J4 _ 1 0 (Nat.lt_succ_self _) (by decide) (by show 1 = (chF a0 (0 : Int).toNat).toInt; omega) (by show 0 ≤ a1.toInt; omega)
theorem dX12_average_71 : decode cX12_average 71 = .ok (.i2l, 1) := by decide +kernel
theorem dX12_average_72 : decode cX12_average 72 = .ok (.lstore 10, 2) := by decide +kernel
theorem dX12_average_74 : decode cX12_average 74 = .ok (.lload 10, 2) := by decide +kernel
theorem dX12_average_76 : decode cX12_average 76 = .ok (.aload_n 0, 1) := by decide +kernel
theorem dX12_average_77 : decode cX12_average 77 = .ok (.iload_n 1, 1) := by decide +kernel
theorem dX12_average_78 : decode cX12_average 78 = .ok (.iload_n 2, 1) := by decide +kernel
theorem dX12_average_79 : decode cX12_average 79 = .ok (.iload 9, 2) := by decide +kernel
theorem dX12_average_81 : decode cX12_average 81 = .ok (.iload_n 3, 1) := by decide +kernel
theorem dX12_average_82 : decode cX12_average 82 = .ok (.invokevirtual 383, 3) := by decide +kernel
theorem dX12_average_85 : decode cX12_average 85 = .ok (.i2l, 1) := by decide +kernel
theorem dX12_average_86 : decode cX12_average 86 = .ok (.lsub, 1) := by decide +kernel
theorem dX12_average_87 : decode cX12_average 87 = .ok (.lstore 12, 2) := by decide +kernel
theorem dX12_average_89 : decode cX12_average 89 = .ok (.lload 5, 2) := by decide +kernel
theorem dX12_average_91 : decode cX12_average 91 = .ok (.lload 10, 2) := by decide +kernel
theorem dX12_average_93 : decode cX12_average 93 = .ok (.lmul, 1) := by decide +kernel
theorem dX12_average_94 : decode cX12_average 94 = .ok (.lload 12, 2) := by decide +kernel
theorem dX12_average_96 : decode cX12_average 96 = .ok (.lload 7, 2) := by decide +kernel
theorem dX12_average_98 : decode cX12_average 98 = .ok (.lmul, 1) := by decide +kernel
theorem dX12_average_99 : decode cX12_average 99 = .ok (.ladd, 1) := by decide +kernel
theorem dX12_average_100 : decode cX12_average 100 = .ok (.lstore 5, 2) := by decide +kernel
theorem dX12_average_102 : decode cX12_average 102 = .ok (.lload 7, 2) := by decide +kernel
theorem dX12_average_104 : decode cX12_average 104 = .ok (.lload 10, 2) := by decide +kernel
theorem dX12_average_106 : decode cX12_average 106 = .ok (.lmul, 1) := by decide +kernel
theorem dX12_average_107 : decode cX12_average 107 = .ok (.lstore 7, 2) := by decide +kernel
theorem dX12_average_109 : decode cX12_average 109 = .ok (.lload 7, 2) := by decide +kernel
theorem dX12_average_111 : decode cX12_average 111 = .ok (.lload 5, 2) := by decide +kernel
theorem dX12_average_113 : decode cX12_average 113 = .ok (.invokestatic 392, 3) := by decide +kernel
theorem dX12_common_0 : decode cX12_common 0 = .ok (.lload_n 0, 1) := by decide +kernel
theorem dX12_common_1 : decode cX12_common 1 = .ok (.lstore 4, 2) := by decide +kernel
theorem dX12_common_3 : decode cX12_common 3 = .ok (.lload_n 2, 1) := by decide +kernel
theorem dX12_common_4 : decode cX12_common 4 = .ok (.lstore 6, 2) := by decide +kernel
theorem dX12_common_6 : decode cX12_common 6 = .ok (.lload 6, 2) := by decide +kernel
theorem dX12_common_8 : decode cX12_common 8 = .ok (.lconst 0, 1) := by decide +kernel
theorem dX12_common_9 : decode cX12_common 9 = .ok (.lcmp, 1) := by decide +kernel
theorem dX12_common_10 : decode cX12_common 10 = .ok (.ifCond .eq 21, 3) := by decide +kernel
theorem dX12_common_13 : decode cX12_common 13 = .ok (.lload 4, 2) := by decide +kernel
theorem dX12_common_15 : decode cX12_common 15 = .ok (.lload 6, 2) := by decide +kernel
theorem dX12_common_17 : decode cX12_common 17 = .ok (.lrem, 1) := by decide +kernel
theorem dX12_common_18 : decode cX12_common 18 = .ok (.lstore 8, 2) := by decide +kernel
theorem dX12_common_20 : decode cX12_common 20 = .ok (.lload 6, 2) := by decide +kernel
theorem dX12_common_22 : decode cX12_common 22 = .ok (.lstore 4, 2) := by decide +kernel
theorem dX12_common_24 : decode cX12_common 24 = .ok (.lload 8, 2) := by decide +kernel
theorem dX12_common_26 : decode cX12_common 26 = .ok (.lstore 6, 2) := by decide +kernel
theorem dX12_common_28 : decode cX12_common 28 = .ok (.goto (-22), 3) := by decide +kernel
theorem dX12_common_31 : decode cX12_common 31 = .ok (.lload 4, 2) := by decide +kernel
theorem dX12_common_33 : decode cX12_common 33 = .ok (.lreturn, 1) := by decide +kernel
set_option maxHeartbeats 4000000 in
set_option maxRecDepth 100000 in
theorem s_X12_common {P : PP} {a0 : Int64} {a1 : Int64} (I : IV P) : CtrL yX12_common cX12_common 10 (some Jvm.ClassFile.FieldType.long) ({ frames := 1, cells := 0, slots := 0, locals := 64 } : Room) 0 0 P [.long a0, .long a1] (fun r P2 => P = P2 ∧ (r.toInt.natAbs = Nat.gcd a0.toInt.natAbs a1.toInt.natAbs)) := by
  refine enL (lv := [(0, .long a0), (2, .long a1)]) (by decide) (Nat.le_of_ble_eq_true rfl) rfl (fun E D cy C Ci0 ret => ?_)
  have J6 : ∀ (n6 : Nat) (l6_4 : Int64) (l6_6 : Int64), l6_6.toInt.natAbs < n6 → (gcI l6_4 l6_6 a0 a1) → G E ({ frames := 1, cells := 0, slots := 0, locals := 64 } : Room) D cy 10 P 0 0 6 [(4, .long l6_4), (6, .long l6_6)] [] := by
    intro n6
    induction n6 with
    | zero => intro l6_4 l6_6 hm6 rel6_0; omega
    | succ n6 ih6 =>
      intro l6_4 l6_6 hm6 rel6_0
      refine g_lload C dX12_common_6 1 rfl ?_
      refine g_lconst (v := 0) C dX12_common_8 (by decide) ?_
      refine a_lcmp0e C dX12_common_9 (fun z23872 h23873 => ?_)
      have u23875 := ti_rng z23872
      refine b_if_eq C 31 dX12_common_10 (by decide) (fun h23874 => ?_) (fun h23874 => ?_)
      · have h23874 : z23872.toInt = 0 := congrArg Int32.toInt h23874
        have he_l6_6 := h23873.2 h23874
        refine g_lload C dX12_common_31 0 rfl ?_
        exact ret _ _ _ _ _ _ dX12_common_33 (by decide) (by decide) ⟨rfl, gc_end rel6_0 he_l6_6⟩
      · have h23874 : z23872.toInt ≠ 0 := ti_ne h23874
        have hz_l6_6 := h23873.1 h23874
        refine g_lload C dX12_common_13 0 rfl ?_
        refine g_lload C dX12_common_15 1 rfl ?_
        refine g_lrem C dX12_common_17 hz_l6_6 ?_
        refine g_topl (fun l23876 h23877 => ?_)
        obtain ⟨hgs, hls⟩ := gc_step rel6_0 hz_l6_6 h23877
        refine g_lstore (lv' := [(8, .long l23876), (4, .long l6_4), (6, .long l6_6)]) C dX12_common_18 (by decide) rfl ?_
        refine g_lload C dX12_common_20 2 rfl ?_
        refine g_lstore (lv' := [(4, .long l6_6), (8, .long l23876), (6, .long l6_6)]) C dX12_common_22 (by decide) rfl ?_
        refine g_lload C dX12_common_24 1 rfl ?_
        refine g_lstore (lv' := [(6, .long l23876), (4, .long l6_6), (8, .long l23876)]) C dX12_common_26 (by decide) rfl ?_
        refine g_goto C 6 dX12_common_28 (by decide) ?_
        refine g_lv (lv' := [(4, .long l6_6), (6, .long l23876)]) [1, 0] rfl ?_
        exact ih6 l6_6 l23876 (by omega) (by show gcI l6_6 l23876 a0 a1; assumption)
  refine g_lload_n C dX12_common_0 rfl 0 rfl ?_
  refine g_lstore (lv' := [(4, .long a0), (0, .long a0), (2, .long a1)]) C dX12_common_1 (by decide) rfl ?_
  refine g_lload_n C dX12_common_3 rfl 2 rfl ?_
  have hg0 : gcI a0 a1 a0 a1 := rfl
  refine g_lstore (lv' := [(6, .long a1), (4, .long a0), (0, .long a0), (2, .long a1)]) C dX12_common_4 (by decide) rfl ?_
  refine g_lv (lv' := [(4, .long a0), (6, .long a1)]) [1, 0] rfl ?_
  exact J6 _ a0 a1 (Nat.lt_succ_self _) (by show gcI a0 a1 a0 a1; assumption)
theorem dX12_average_116 : decode cX12_average 116 = .ok (.lstore 14, 2) := by decide +kernel
theorem dX12_average_118 : decode cX12_average 118 = .ok (.lload 5, 2) := by decide +kernel
theorem dX12_average_120 : decode cX12_average 120 = .ok (.lload 14, 2) := by decide +kernel
theorem dX12_average_122 : decode cX12_average 122 = .ok (.ldiv, 1) := by decide +kernel
theorem dX12_average_123 : decode cX12_average 123 = .ok (.lstore 5, 2) := by decide +kernel
theorem dX12_average_125 : decode cX12_average 125 = .ok (.lload 7, 2) := by decide +kernel
theorem dX12_average_127 : decode cX12_average 127 = .ok (.lload 14, 2) := by decide +kernel
theorem dX12_average_129 : decode cX12_average 129 = .ok (.ldiv, 1) := by decide +kernel
theorem dX12_average_130 : decode cX12_average 130 = .ok (.lstore 7, 2) := by decide +kernel
theorem dX12_average_132 : decode cX12_average 132 = .ok (.iinc 9 1, 3) := by decide +kernel
theorem dX12_average_135 : decode cX12_average 135 = .ok (.goto (-76), 3) := by decide +kernel
theorem dX12_average_138 : decode cX12_average 138 = .ok (.iload 4, 2) := by decide +kernel
theorem dX12_average_140 : decode cX12_average 140 = .ok (.ifCond .ne 8, 3) := by decide +kernel
theorem dX12_average_143 : decode cX12_average 143 = .ok (.lload 5, 2) := by decide +kernel
theorem dX12_average_145 : decode cX12_average 145 = .ok (.goto 5, 3) := by decide +kernel
theorem dX12_average_148 : decode cX12_average 148 = .ok (.lload 7, 2) := by decide +kernel
theorem dX12_average_150 : decode cX12_average 150 = .ok (.lreturn, 1) := by decide +kernel
set_option maxHeartbeats 4000000 in
set_option maxRecDepth 100000 in
theorem s_X12_average {P : PP} {a0 : Nat} {a1 : Int32} {a2 : Int32} {a3 : Int32} {a4 : Int32} (I : IM P a0) (hW : MW P a0) : CtrL yX12_average cX12_average 16 (some Jvm.ClassFile.FieldType.long) ({ frames := 5, cells := 0, slots := 0, locals := 320 } : Room) 0 0 P [.ref a0, .int a1, .int a2, .int a3, .int a4] (fun r P2 => IM P2 a0 ∧ EM [0, 28, 29, 30, 31, 33, 34, 35, 36, 37, 38, 43] a0 P P2 ∧ MW P2 a0 ∧ (True)) := by
  refine enL (lv := [(0, .ref a0), (1, .int a1), (2, .int a2), (3, .int a3), (4, .int a4)]) (by decide) (Nat.le_of_ble_eq_true rfl) rfl (fun E D cy C Ci0 ret => ?_)
  have ha0 := I.2.1
  have J59 : ∀ (n59 : Nat) (P59 : PP) (l59_5 : Int64) (l59_7 : Int64) (v59_9 : Int32), (11 - v59_9.toInt).toNat < n59 → (IM P59 a0) → (EM [0, 28, 29, 30, 31, 33, 34, 35, 36, 37, 38, 43] a0 P P59) → (MW P59 a0) → (0 ≤ a1.toInt ∧ a1.toInt ≤ 1) → (1 ≤ a2.toInt ∧ a2.toInt ≤ 11) → (0 ≤ a3.toInt ∧ a3.toInt ≤ 1) → (0 ≤ a4.toInt ∧ a4.toInt ≤ 1) → (0 ≤ v59_9.toInt ∧ v59_9.toInt ≤ 11) → (0 ≤ (pI P59 a0 0).toInt ∧ (pI P59 a0 0).toInt ≤ 0) → (∀ b, pR P59 a0 10 = some b → 1 ≤ (pI P59 b (a1.toInt.toNat)).toInt ∧ (pI P59 b (a1.toInt.toNat)).toInt ≤ 16) → (avI l59_5 l59_7 v59_9.toInt) → G E ({ frames := 5, cells := 0, slots := 0, locals := 320 } : Room) D cy 16 P59 0 0 59 [(0, .ref a0), (1, .int a1), (2, .int a2), (3, .int a3), (4, .int a4), (5, .long l59_5), (7, .long l59_7), (9, .int v59_9)] [] := by
    intro n59
    induction n59 with
    | zero => intro P59 l59_5 l59_7 v59_9 hm59 I59 X59 W59 hv59_1 hv59_2 hv59_3 hv59_4 hv59_9 hq59_0 hq59_1 rel59_0; omega
    | succ n59 ih59 =>
      intro P59 l59_5 l59_7 v59_9 hm59 I59 X59 W59 hv59_1 hv59_2 hv59_3 hv59_4 hv59_9 hq59_0 hq59_1 rel59_0
      have h24333 := X59.at ha0
      obtain ⟨b24334, e24335, h24336⟩ := I59.fld (h24333) 10 13 2 rfl
      have hq59_1 := hq59_1 b24334 e24335
      refine g_iload C dX12_average_59 7 rfl ?_
      refine g_iload_n C dX12_average_61 rfl 2 rfl ?_
      refine b_icmp_ge C 138 dX12_average_62 (by decide) (fun h24337 => ?_) (fun h24337 => ?_)
      · have h24337 : a2.toInt ≤ v59_9.toInt := h24337
        refine g_iload C dX12_average_138 4 rfl ?_
        refine b_if_ne C 148 dX12_average_140 (by decide) (fun h24338 => ?_) (fun h24338 => ?_)
        · have h24338 : a4.toInt ≠ 0 := ti_ne h24338
          refine g_lload C dX12_average_148 6 rfl ?_
          exact ret _ _ _ _ _ _ dX12_average_150 (by decide) (by decide) ⟨I59, X59, W59, trivial⟩
        · have h24338 : a4.toInt = 0 := congrArg Int32.toInt h24338
          refine g_lload C dX12_average_143 5 rfl ?_
          refine g_goto C 150 dX12_average_145 (by decide) ?_
          exact ret _ _ _ _ _ _ dX12_average_150 (by decide) (by decide) ⟨I59, X59, W59, trivial⟩
      · have h24337 : v59_9.toInt < a2.toInt := h24337
        refine g_iload_n C dX12_average_65 rfl 2 rfl ?_
        refine g_iload C dX12_average_66 7 rfl ?_
        refine g_callSI (b := 0) (ci := 0) (rest := []) C ms_X12_387 [.int a2, .int v59_9] (s_X12_choices I59.1 (by omega) (by omega)) rfl rfl (by decide) (Nat.le_of_ble_eq_true rfl) (by decide) dX12_average_68 (fun r24339 Y24340 h24341 => ?_)
        obtain ⟨rfl, h24341⟩ := h24341
        obtain ⟨h24341, hi24342⟩ := h24341
        have hi24342 : v59_9.toInt ≤ a2.toInt → (1 ≤ r24339.toInt ∧ r24339.toInt ≤ 462) ∧ r24339.toInt.natAbs ∣ 27720 := hi24342
        have h24341 : True := h24341
        refine g_i2l C dX12_average_71 rfl ?_
        refine g_topl (fun l24343 h24344 => ?_)
        refine g_lstore (lv' := [(10, .long l24343), (0, .ref a0), (1, .int a1), (2, .int a2), (3, .int a3), (4, .int a4), (5, .long l59_5), (7, .long l59_7), (9, .int v59_9)]) C dX12_average_72 (by decide) rfl ?_
        refine g_lload C dX12_average_74 0 rfl ?_
        refine g_aload_n C dX12_average_76 rfl 1 rfl ?_
        refine g_iload_n C dX12_average_77 rfl 2 rfl ?_
        refine g_iload_n C dX12_average_78 rfl 3 rfl ?_
        refine g_iload C dX12_average_79 8 rfl ?_
        refine g_iload_n C dX12_average_81 rfl 4 rfl ?_
        refine g_callVI (rest := [.long l24343]) C mv_X12_383 [.int a1, .int a2, .int v59_9, .int a3] (s_X12_chancesOf I59 (by omega) (by omega) (fun b9 e9 => by rw [e24335] at e9; cases e9; show 1 ≤ (pI P59 b24334 (a1.toInt.toNat)).toInt ∧ (pI P59 b24334 (a1.toInt.toNat)).toInt ≤ 16; omega) W59) (h24333).1 (h24333).2 rfl rfl (by decide) (Nat.le_of_ble_eq_true rfl) (by decide) dX12_average_82 (fun r24345 Y24346 h24347 => ?_)
        obtain ⟨Iy24348, Xy24349, W24350, h24347⟩ := h24347
        have q24351 := Xy24349.keepF 0 (by decide)
        have q24352 := Xy24349.keepA e24335 (by decide) rfl (a1.toInt.toNat)
        have Xz24353 : EM [0, 28, 29, 30, 31, 33, 34, 35, 36, 37, 38, 43] a0 P Y24346 := EM.tr ha0 X59 (Xy24349.mono (by decide))
        have e24354 := Xy24349.ref h24333 (by decide) e24335
        have h24355 := Xy24349.at h24333
        have h24356 := Xy24349.ar h24336
        have h24347 : True := h24347
        refine g_i2l C dX12_average_85 rfl ?_
        refine g_topl (fun l24357 h24358 => ?_)
        refine g_lsub C dX12_average_86 ?_
        refine g_topl (fun l24359 h24360 => ?_)
        refine g_lstore (lv' := [(12, .long l24359), (10, .long l24343), (0, .ref a0), (1, .int a1), (2, .int a2), (3, .int a3), (4, .int a4), (5, .long l59_5), (7, .long l59_7), (9, .int v59_9)]) C dX12_average_87 (by decide) rfl ?_
        refine g_lload C dX12_average_89 7 rfl ?_
        refine g_lload C dX12_average_91 1 rfl ?_
        refine g_lmul C dX12_average_93 ?_
        refine g_topl (fun l24361 h24362 => ?_)
        refine g_lload C dX12_average_94 0 rfl ?_
        refine g_lload C dX12_average_96 8 rfl ?_
        refine g_lmul C dX12_average_98 ?_
        refine g_topl (fun l24363 h24364 => ?_)
        refine g_ladd C dX12_average_99 ?_
        refine g_topl (fun l24365 h24366 => ?_)
        refine g_lstore (lv' := [(5, .long l24365), (12, .long l24359), (10, .long l24343), (0, .ref a0), (1, .int a1), (2, .int a2), (3, .int a3), (4, .int a4), (7, .long l59_7), (9, .int v59_9)]) C dX12_average_100 (by decide) rfl ?_
        refine g_lload C dX12_average_102 8 rfl ?_
        refine g_lload C dX12_average_104 2 rfl ?_
        refine g_lmul C dX12_average_106 ?_
        refine g_topl (fun l24367 h24368 => ?_)
        refine g_lstore (lv' := [(7, .long l24367), (5, .long l24365), (12, .long l24359), (10, .long l24343), (0, .ref a0), (1, .int a1), (2, .int a2), (3, .int a3), (4, .int a4), (9, .int v59_9)]) C dX12_average_107 (by decide) rfl ?_
        refine g_lload C dX12_average_109 0 rfl ?_
        refine g_lload C dX12_average_111 1 rfl ?_
        refine g_callSL (b := 0) (ci := 0) (rest := []) C ms_X12_392 [.long l24367, .long l24365] (s_X12_common Iy24348.1) rfl rfl (by decide) (Nat.le_of_ble_eq_true rfl) (by decide) dX12_average_113 (fun r24369 Y24370 h24371 => ?_)
        obtain ⟨rfl, h24371⟩ := h24371
        have h24371 : r24369.toInt.natAbs = Nat.gcd l24367.toInt.natAbs l24365.toInt.natAbs := h24371
        refine g_lstore (lv' := [(14, .long r24369), (7, .long l24367), (5, .long l24365), (12, .long l24359), (10, .long l24343), (0, .ref a0), (1, .int a1), (2, .int a2), (3, .int a3), (4, .int a4), (9, .int v59_9)]) C dX12_average_116 (by decide) rfl ?_
        have hch := hi24342 (by omega)
        have hA : (1 ≤ l24343.toInt ∧ l24343.toInt ≤ 462) ∧ l24343.toInt.natAbs ∣ 27720 := by rw [h24344, Int32.toInt_toInt64]; exact hch
        have hN := n_sub h24344 h24358 (by omega) h24360
        have hst := av_step (k2 := v59_9.toInt + 1) rel59_0 (by omega) rfl hA hN (h24366.trans (by rw [h24362, h24364])) h24368 h24371
        have hz_r24369 := hst.1
        refine g_lload C dX12_average_118 2 rfl ?_
        refine g_lload C dX12_average_120 0 rfl ?_
        refine g_ldiv C dX12_average_122 hz_r24369 ?_
        refine g_topl (fun l24372 h24373 => ?_)
        refine g_lstore (lv' := [(5, .long l24372), (14, .long r24369), (7, .long l24367), (12, .long l24359), (10, .long l24343), (0, .ref a0), (1, .int a1), (2, .int a2), (3, .int a3), (4, .int a4), (9, .int v59_9)]) C dX12_average_123 (by decide) rfl ?_
        refine g_lload C dX12_average_125 2 rfl ?_
        refine g_lload C dX12_average_127 1 rfl ?_
        refine g_ldiv C dX12_average_129 hz_r24369 ?_
        refine g_topl (fun l24374 h24375 => ?_)
        refine g_lstore (lv' := [(7, .long l24374), (5, .long l24372), (14, .long r24369), (12, .long l24359), (10, .long l24343), (0, .ref a0), (1, .int a1), (2, .int a2), (3, .int a3), (4, .int a4), (9, .int v59_9)]) C dX12_average_130 (by decide) rfl ?_
        refine s_iinc (lv0 := [(7, .long l24374), (5, .long l24372), (14, .long r24369), (12, .long l24359), (10, .long l24343), (0, .ref a0), (1, .int a1), (2, .int a2), (3, .int a3), (4, .int a4)]) (m := 1) C dX12_average_132 10 rfl (by decide) rfl (by decide) (by omega) (fun z24376 h24377 => ?_)
        have h24377 : z24376.toInt = v59_9.toInt + 1 := h24377
        have hav2 : avI l24372 l24374 z24376.toInt := by rw [show z24376.toInt = v59_9.toInt + 1 by omega]; exact hst.2 _ _ h24373 h24375
        refine g_goto C 59 dX12_average_135 (by decide) ?_
        refine g_lv (lv' := [(0, .ref a0), (1, .int a1), (2, .int a2), (3, .int a3), (4, .int a4), (5, .long l24372), (7, .long l24374), (9, .int z24376)]) [6, 7, 8, 9, 10, 2, 1, 0] rfl ?_
        exact ih59 Y24346 l24372 l24374 z24376 (by omega) Iy24348 Xz24353 W24350 (by omega) (by omega) (by omega) (by omega) (by omega) (by omega) (fun b9 e9 => by rw [e24354] at e9; cases e9; omega) (by show avI l24372 l24374 z24376.toInt; assumption)
  have J25 : ∀ (P25 : PP), (IM P25 a0) → (EM [0, 28, 29, 30, 31, 33, 34, 35, 36, 37, 38, 43] a0 P P25) → (MW P25 a0) → (0 ≤ (pI P25 a0 0).toInt ∧ (pI P25 a0 0).toInt ≤ 0) → G E ({ frames := 5, cells := 0, slots := 0, locals := 320 } : Room) D cy 16 P25 0 0 25 [] [] := by
    intro P25 I25 X25 W25 hq25_0
    have h24378 := X25.at ha0
    refine g_ldc2 (v := -1) C kl_X12_390 dX12_average_25 ?_
    refine g_topl (fun l24379 el24379 => ?_)
    have hz_l24379 : ¬ l24379 = 0 := by rw [el24379]; decide
    exact ret _ _ _ _ _ _ dX12_average_28 (by decide) (by decide) ⟨I25, X25, W25, trivial⟩
  refine g_aload_n C dX12_average_0 rfl 0 rfl ?_
  refine g_iconst (v := 0) C dX12_average_1 (by decide) ?_
  refine g_putI C fi_X12_1 rfl (ha0).1 (ha0).2 dX12_average_2 ?_
  refine gqW (ks := [0]) (I.setI (rgOk.of rfl (by decide))) (EM.setI I (by decide)) (fun Y24380 Iy24381 Xy24382 w24383 => ?_)
  have w24383 : (pI Y24380 a0 0).toInt = 0 := w24383
  have W24384 := hW.keep I Xy24382 (by decide) (by decide) (by decide)
  have Xz24385 : EM [0, 28, 29, 30, 31, 33, 34, 35, 36, 37, 38, 43] a0 P Y24380 := Xy24382.mono (by decide)
  have h24386 := Xy24382.at ha0
  refine g_aload_n C dX12_average_5 rfl 0 rfl ?_
  refine g_iload_n C dX12_average_6 rfl 1 rfl ?_
  refine g_iload_n C dX12_average_7 rfl 2 rfl ?_
  refine g_iload_n C dX12_average_8 rfl 3 rfl ?_
  refine g_callVI (rest := []) C mv_X12_377 [.int a1, .int a2, .int a3] (s_X12_areChances Iy24381 W24384) (h24386).1 (h24386).2 rfl rfl (by decide) (Nat.le_of_ble_eq_true rfl) (by decide) dX12_average_9 (fun r24387 Y24388 h24389 => ?_)
  obtain ⟨rfl, h24389⟩ := h24389
  obtain ⟨h24389, hi24390, hi24391⟩ := h24389
  have hi24390 : r24387.toInt = 0 ∨ (((0 : Int) ≤ a1.toInt ∧ a1.toInt ≤ (1 : Int)) ∧ ((1 : Int) ≤ a2.toInt ∧ a2.toInt ≤ (11 : Int)) ∧ ((0 : Int) ≤ a3.toInt ∧ a3.toInt ≤ (1 : Int))) := hi24390
  have h24389 : 0 ≤ r24387.toInt ∧ r24387.toInt ≤ 1 := h24389
  refine b_if_eq C 25 dX12_average_12 (by decide) (fun h24392 => ?_) (fun h24392 => ?_)
  · have h24392 : r24387.toInt = 0 := congrArg Int32.toInt h24392
    clear hi24390
    refine g_lv (lv' := []) [] rfl ?_
    exact J25 Y24380 Iy24381 Xz24385 W24384 (by omega)
  · have h24392 : r24387.toInt ≠ 0 := ti_ne h24392
    replace hi24390 := hi24390.resolve_left (by omega)
    obtain ⟨b24393, e24394, h24395⟩ := Iy24381.fld (h24386) 10 13 2 rfl
    have hi24391 := (hi24391.resolve_left (by omega)) b24393 e24394
    have hi24391 : 0 < (pI Y24380 b24393 (a1.toInt.toNat)).toInt := hi24391
    have h24396 := Iy24381.arr e24394 rfl (a1.toInt.toNat)
    refine g_iload C dX12_average_15 4 rfl ?_
    refine g_iconst (v := 0) C dX12_average_17 (by decide) ?_
    refine g_iconst (v := 1) C dX12_average_18 (by decide) ?_
    refine g_callSI (b := 0) (ci := 0) (rest := []) C ms_X12_178 [.int a4, .int 0, .int 1] (s_X12_within Iy24381.1) rfl rfl (by decide) (Nat.le_of_ble_eq_true rfl) (by decide) dX12_average_19 (fun r24397 Y24398 h24399 => ?_)
    obtain ⟨rfl, h24399⟩ := h24399
    obtain ⟨h24399, hi24400⟩ := h24399
    have hi24400 : r24397.toInt = 0 ∨ (0 ≤ a4.toInt ∧ a4.toInt ≤ 1) := hi24400
    have h24399 : 0 ≤ r24397.toInt ∧ r24397.toInt ≤ 1 := h24399
    refine b_if_ne C 29 dX12_average_22 (by decide) (fun h24401 => ?_) (fun h24401 => ?_)
    · have h24401 : r24397.toInt ≠ 0 := ti_ne h24401
      replace hi24400 := hi24400.resolve_left (by omega)
      refine g_aload_n C dX12_average_29 rfl 0 rfl ?_
      refine g_iload_n C dX12_average_30 rfl 1 rfl ?_
      refine g_iload_n C dX12_average_31 rfl 2 rfl ?_
      refine g_callVV (rest := []) C mv_X12_380 [.int a1, .int a2] (s_X12_keepsSets Iy24381 (by omega) (by omega) (fun b9 e9 => by rw [e24394] at e9; cases e9; show 1 ≤ (pI Y24380 b24393 (a1.toInt.toNat)).toInt ∧ (pI Y24380 b24393 (a1.toInt.toNat)).toInt ≤ 16; omega) W24384) (h24386).1 (h24386).2 rfl rfl (by decide) (Nat.le_of_ble_eq_true rfl) (by decide) dX12_average_32 (fun Y24403 h24404 => ?_)
      obtain ⟨Iy24405, Xy24406, W24407⟩ := h24404
      have q24408 := Xy24406.keepF 0 (by decide)
      have q24409 := Xy24406.keepA e24394 (by decide) rfl (a1.toInt.toNat)
      have Xz24410 : EM [0, 28, 29, 30, 31, 33, 34, 35, 36, 37, 38, 43] a0 P Y24403 := EM.tr ha0 Xz24385 (Xy24406.mono (by decide))
      have e24411 := Xy24406.ref h24386 (by decide) e24394
      have h24412 := Xy24406.at h24386
      have h24413 := Xy24406.ar h24395
      refine g_aload_n C dX12_average_35 rfl 0 rfl ?_
      refine g_iload_n C dX12_average_36 rfl 1 rfl ?_
      refine g_iload_n C dX12_average_37 rfl 2 rfl ?_
      refine g_iload_n C dX12_average_38 rfl 2 rfl ?_
      refine g_iload_n C dX12_average_39 rfl 3 rfl ?_
      refine g_callVI (rest := []) C mv_X12_383 [.int a1, .int a2, .int a2, .int a3] (s_X12_chancesOf Iy24405 (by omega) (by omega) (fun b9 e9 => by rw [e24411] at e9; cases e9; show 1 ≤ (pI Y24403 b24393 (a1.toInt.toNat)).toInt ∧ (pI Y24403 b24393 (a1.toInt.toNat)).toInt ≤ 16; omega) W24407) (h24412).1 (h24412).2 rfl rfl (by decide) (Nat.le_of_ble_eq_true rfl) (by decide) dX12_average_40 (fun r24414 Y24415 h24416 => ?_)
      obtain ⟨Iy24417, Xy24418, W24419, h24416⟩ := h24416
      have q24420 := Xy24418.keepF 0 (by decide)
      have q24421 := Xy24418.keepA e24411 (by decide) rfl (a1.toInt.toNat)
      have Xz24422 : EM [0, 28, 29, 30, 31, 33, 34, 35, 36, 37, 38, 43] a0 P Y24415 := EM.tr ha0 Xz24410 (Xy24418.mono (by decide))
      have e24423 := Xy24418.ref h24412 (by decide) e24411
      have h24424 := Xy24418.at h24412
      have h24425 := Xy24418.ar h24413
      have h24416 : True := h24416
      have u24427 := ti_rng r24414
      refine b_if_ne C 50 dX12_average_43 (by decide) (fun h24426 => ?_) (fun h24426 => ?_)
      · have h24426 : r24414.toInt ≠ 0 := ti_ne h24426
        refine g_lconst (v := 0) C dX12_average_50 (by decide) ?_
        refine g_lstore (lv' := [(5, .long 0), (0, .ref a0), (1, .int a1), (2, .int a2), (3, .int a3), (4, .int a4)]) C dX12_average_51 (by decide) rfl ?_
        refine g_lconst (v := 1) C dX12_average_53 (by decide) ?_
        refine g_lstore (lv' := [(7, .long 1), (5, .long 0), (0, .ref a0), (1, .int a1), (2, .int a2), (3, .int a3), (4, .int a4)]) C dX12_average_54 (by decide) rfl ?_
        refine g_iconst (v := 0) C dX12_average_56 (by decide) ?_
        have hav := av_0
        refine g_istore (lv' := [(9, .int 0), (7, .long 1), (5, .long 0), (0, .ref a0), (1, .int a1), (2, .int a2), (3, .int a3), (4, .int a4)]) C dX12_average_57 (by decide) rfl ?_
        refine g_lv (lv' := [(0, .ref a0), (1, .int a1), (2, .int a2), (3, .int a3), (4, .int a4), (5, .long 0), (7, .long 1), (9, .int 0)]) [3, 4, 5, 6, 7, 2, 1, 0] rfl ?_
        exact J59 _ Y24415 0 1 0 (Nat.lt_succ_self _) Iy24417 Xz24422 W24419 (by omega) (by omega) (by omega) (by omega) (by decide) (by omega) (fun b9 e9 => by rw [e24423] at e9; cases e9; omega) (by show avI 0 1 0; assumption)
      · have h24426 : r24414.toInt = 0 := congrArg Int32.toInt h24426
        refine g_ldc2 (v := -1) C kl_X12_390 dX12_average_46 ?_
        refine g_topl (fun l24428 el24428 => ?_)
        have hz_l24428 : ¬ l24428 = 0 := by rw [el24428]; decide
        exact ret _ _ _ _ _ _ dX12_average_49 (by decide) (by decide) ⟨Iy24417, Xz24422, W24419, trivial⟩
    · have h24401 : r24397.toInt = 0 := congrArg Int32.toInt h24401
      clear hi24400
      refine g_lv (lv' := []) [] rfl ?_
      exact J25 Y24380 Iy24381 Xz24385 W24384 (by omega)
