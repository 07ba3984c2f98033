theorem dX12_howMany_0 : decode cX12_howMany 0 = .ok (.iconst 0, 1) := by decide +kernel
theorem dX12_howMany_1 : decode cX12_howMany 1 = .ok (.istore_n 2, 1) := by decide +kernel
theorem dX12_howMany_2 : decode cX12_howMany 2 = .ok (.iconst 1, 1) := by decide +kernel
theorem dX12_howMany_3 : decode cX12_howMany 3 = .ok (.istore_n 3, 1) := by decide +kernel
theorem dX12_howMany_4 : decode cX12_howMany 4 = .ok (.iload_n 3, 1) := by decide +kernel
theorem dX12_howMany_5 : decode cX12_howMany 5 = .ok (.aload_n 0, 1) := by decide +kernel
theorem dX12_howMany_6 : decode cX12_howMany 6 = .ok (.iload_n 1, 1) := by decide +kernel
theorem dX12_howMany_7 : decode cX12_howMany 7 = .ok (.invokevirtual 238, 3) := by decide +kernel
theorem dX12_allOf_0 : decode cX12_allOf 0 = .ok (.aload_n 0, 1) := by decide +kernel
theorem dX12_allOf_1 : decode cX12_allOf 1 = .ok (.getfield 45, 3) := by decide +kernel
theorem dX12_allOf_4 : decode cX12_allOf 4 = .ok (.iload_n 1, 1) := by decide +kernel
theorem dX12_allOf_5 : decode cX12_allOf 5 = .ok (.iaload, 1) := by decide +kernel
theorem dX12_allOf_6 : decode cX12_allOf 6 = .ok (.ifCond .ne 7, 3) := by decide +kernel
theorem dX12_allOf_9 : decode cX12_allOf 9 = .ok (.iconst 0, 1) := by decide +kernel
theorem dX12_allOf_10 : decode cX12_allOf 10 = .ok (.goto 16, 3) := by decide +kernel
theorem dX12_allOf_13 : decode cX12_allOf 13 = .ok (.aload_n 0, 1) := by decide +kernel
theorem dX12_allOf_14 : decode cX12_allOf 14 = .ok (.getfield 45, 3) := by decide +kernel
theorem dX12_allOf_17 : decode cX12_allOf 17 = .ok (.iload_n 1, 1) := by decide +kernel
theorem dX12_allOf_18 : decode cX12_allOf 18 = .ok (.iaload, 1) := by decide +kernel
theorem dX12_allOf_19 : decode cX12_allOf 19 = .ok (.aload_n 0, 1) := by decide +kernel
theorem dX12_allOf_20 : decode cX12_allOf 20 = .ok (.getfield 60, 3) := by decide +kernel
theorem dX12_allOf_23 : decode cX12_allOf 23 = .ok (.iload_n 1, 1) := by decide +kernel
theorem dX12_allOf_24 : decode cX12_allOf 24 = .ok (.iaload, 1) := by decide +kernel
theorem dX12_allOf_25 : decode cX12_allOf 25 = .ok (.iadd, 1) := by decide +kernel
theorem dX12_allOf_26 : decode cX12_allOf 26 = .ok (.ireturn, 1) := by decide +kernel
set_option maxHeartbeats 4000000 in
set_option maxRecDepth 100000 in
theorem s_X12_allOf {P : PP} {a0 : Nat} {a1 : Int32} (I : IM P a0) (ha1 : 0 ≤ a1.toInt ∧ a1.toInt ≤ 1) (hW : MW P a0) : CtrI yX12_allOf cX12_allOf 2 (some Jvm.ClassFile.FieldType.int) ({ frames := 1, cells := 0, slots := 0, locals := 64 } : Room) 0 0 P [.ref a0, .int a1] (fun r P2 => P = P2 ∧ (0 ≤ r.toInt ∧ r.toInt ≤ 20) ∧ (∀ b c, pR P2 a0 10 = some b → pR P2 a0 15 = some c → (r.toInt = 0 ∧ (pI P2 b (a1.toInt.toNat)).toInt = 0) ∨ r.toInt = (pI P2 b (a1.toInt.toNat)).toInt + (pI P2 c (a1.toInt.toNat)).toInt)) := by
  refine enI (lv := [(0, .ref a0), (1, .int a1)]) (by decide) (Nat.le_of_ble_eq_true rfl) rfl (fun E D cy C Ci0 ret => ?_)
  have ha0 := I.2.1
  refine g_aload_n C dX12_allOf_0 rfl 0 rfl ?_
  obtain ⟨b34, e35, h36⟩ := I.fld (ha0) 10 13 2 rfl
  refine g_getR C fi_X12_45 rfl e35 (ha0).1 (ha0).2 dX12_allOf_1 ?_
  refine g_iload_n C dX12_allOf_4 rfl 1 rfl ?_
  refine g_iald (j := (a1.toInt.toNat)) C h36.1 h36.2.1 (ix_in h36.2.2 (by omega)) dX12_allOf_5 ?_
  have h37 := I.arr e35 rfl (a1.toInt.toNat)
  refine b_if_ne C 13 dX12_allOf_6 (by decide) (fun h38 => ?_) (fun h38 => ?_)
  · have h38 : (pI P b34 (a1.toInt.toNat)).toInt ≠ 0 := ti_ne h38
    refine g_aload_n C dX12_allOf_13 rfl 0 rfl ?_
    refine g_getR C fi_X12_45 rfl e35 (ha0).1 (ha0).2 dX12_allOf_14 ?_
    refine g_iload_n C dX12_allOf_17 rfl 1 rfl ?_
    refine g_iald (j := (a1.toInt.toNat)) C h36.1 h36.2.1 (ix_in h36.2.2 (by omega)) dX12_allOf_18 ?_
    refine g_aload_n C dX12_allOf_19 rfl 0 rfl ?_
    obtain ⟨b39, e40, h41⟩ := I.fld (ha0) 15 13 3 rfl
    refine g_getR C fi_X12_60 rfl e40 (ha0).1 (ha0).2 dX12_allOf_20 ?_
    refine g_iload_n C dX12_allOf_23 rfl 1 rfl ?_
    refine g_iald (j := (a1.toInt.toNat)) C h41.1 h41.2.1 (ix_in h41.2.2 (by omega)) dX12_allOf_24 ?_
    have h42 := I.arr e40 rfl (a1.toInt.toNat)
    refine s_iadd C dX12_allOf_25 (by show -2147483648 ≤ (pI P b34 (a1.toInt.toNat)).toInt + (pI P b39 (a1.toInt.toNat)).toInt ∧ (pI P b34 (a1.toInt.toNat)).toInt + (pI P b39 (a1.toInt.toNat)).toInt ≤ 2147483647; omega) (fun z43 h44 => ?_)
    have h44 : z43.toInt = (pI P b34 (a1.toInt.toNat)).toInt + (pI P b39 (a1.toInt.toNat)).toInt := h44
    exact ret _ _ _ _ _ _ dX12_allOf_26 rfl (by decide) (by decide) ⟨rfl, (by omega), (fun b9 c9 e9 f9 => by rw [e35] at e9; cases e9; rw [e40] at f9; cases f9; show (z43.toInt = 0 ∧ (pI P b34 (a1.toInt.toNat)).toInt = 0) ∨ z43.toInt = (pI P b34 (a1.toInt.toNat)).toInt + (pI P b39 (a1.toInt.toNat)).toInt; omega)⟩
  · have h38 : (pI P b34 (a1.toInt.toNat)).toInt = 0 := congrArg Int32.toInt h38
    refine g_iconst (v := 0) C dX12_allOf_9 (by decide) ?_
    refine g_goto C 26 dX12_allOf_10 (by decide) ?_
    obtain ⟨b45, e46, h47⟩ := I.fld (ha0) 15 13 3 rfl
    exact ret _ _ _ _ _ _ dX12_allOf_26 rfl (by decide) (by decide) ⟨rfl, (by decide), (fun b9 c9 e9 f9 => by rw [e35] at e9; cases e9; rw [e46] at f9; cases f9; show ((0 : Int) = 0 ∧ (pI P b34 (a1.toInt.toNat)).toInt = 0) ∨ (0 : Int) = (pI P b34 (a1.toInt.toNat)).toInt + (pI P b45 (a1.toInt.toNat)).toInt; omega)⟩
theorem dX12_howMany_10 : decode cX12_howMany 10 = .ok (.if_icmp .gt 18, 3) := by decide +kernel
theorem dX12_howMany_13 : decode cX12_howMany 13 = .ok (.iload_n 2, 1) := by decide +kernel
theorem dX12_howMany_14 : decode cX12_howMany 14 = .ok (.aload_n 0, 1) := by decide +kernel
theorem dX12_howMany_15 : decode cX12_howMany 15 = .ok (.iload_n 1, 1) := by decide +kernel
theorem dX12_howMany_16 : decode cX12_howMany 16 = .ok (.iload_n 3, 1) := by decide +kernel
theorem dX12_howMany_17 : decode cX12_howMany 17 = .ok (.invokevirtual 241, 3) := by decide +kernel
theorem dX12_howMany_28 : decode cX12_howMany 28 = .ok (.iload_n 2, 1) := by decide +kernel
theorem dX12_howMany_29 : decode cX12_howMany 29 = .ok (.ifCond .ne 5, 3) := by decide +kernel
theorem dX12_howMany_32 : decode cX12_howMany 32 = .ok (.iconst 1, 1) := by decide +kernel
theorem dX12_howMany_33 : decode cX12_howMany 33 = .ok (.ireturn, 1) := by decide +kernel
theorem dX12_oddsOf_0 : decode cX12_oddsOf 0 = .ok (.aload_n 0, 1) := by decide +kernel
theorem dX12_oddsOf_1 : decode cX12_oddsOf 1 = .ok (.getfield 51, 3) := by decide +kernel
theorem dX12_oddsOf_4 : decode cX12_oddsOf 4 = .ok (.bipush 21, 2) := by decide +kernel
theorem dX12_oddsOf_6 : decode cX12_oddsOf 6 = .ok (.iload_n 1, 1) := by decide +kernel
theorem dX12_oddsOf_7 : decode cX12_oddsOf 7 = .ok (.imul, 1) := by decide +kernel
theorem dX12_oddsOf_8 : decode cX12_oddsOf 8 = .ok (.iload_n 2, 1) := by decide +kernel
theorem dX12_oddsOf_9 : decode cX12_oddsOf 9 = .ok (.iadd, 1) := by decide +kernel
theorem dX12_oddsOf_10 : decode cX12_oddsOf 10 = .ok (.iaload, 1) := by decide +kernel
theorem dX12_oddsOf_11 : decode cX12_oddsOf 11 = .ok (.ifCond .ge 7, 3) := by decide +kernel
theorem dX12_oddsOf_14 : decode cX12_oddsOf 14 = .ok (.iconst 0, 1) := by decide +kernel
theorem dX12_oddsOf_15 : decode cX12_oddsOf 15 = .ok (.goto 14, 3) := by decide +kernel
theorem dX12_oddsOf_18 : decode cX12_oddsOf 18 = .ok (.aload_n 0, 1) := by decide +kernel
theorem dX12_oddsOf_19 : decode cX12_oddsOf 19 = .ok (.getfield 51, 3) := by decide +kernel
theorem dX12_oddsOf_22 : decode cX12_oddsOf 22 = .ok (.bipush 21, 2) := by decide +kernel
theorem dX12_oddsOf_24 : decode cX12_oddsOf 24 = .ok (.iload_n 1, 1) := by decide +kernel
theorem dX12_oddsOf_25 : decode cX12_oddsOf 25 = .ok (.imul, 1) := by decide +kernel
theorem dX12_oddsOf_26 : decode cX12_oddsOf 26 = .ok (.iload_n 2, 1) := by decide +kernel
theorem dX12_oddsOf_27 : decode cX12_oddsOf 27 = .ok (.iadd, 1) := by decide +kernel
theorem dX12_oddsOf_28 : decode cX12_oddsOf 28 = .ok (.iaload, 1) := by decide +kernel
theorem dX12_oddsOf_29 : decode cX12_oddsOf 29 = .ok (.ireturn, 1) := by decide +kernel
set_option maxHeartbeats 4000000 in
set_option maxRecDepth 100000 in
theorem s_X12_oddsOf {P : PP} {a0 : Nat} {a1 : Int32} {a2 : Int32} (I : IM P a0) (ha1 : 0 ≤ a1.toInt ∧ a1.toInt ≤ 1) (ha2 : 0 ≤ a2.toInt ∧ a2.toInt ≤ 20) (hW : MW P a0) : CtrI yX12_oddsOf cX12_oddsOf 3 (some Jvm.ClassFile.FieldType.int) ({ frames := 1, cells := 0, slots := 0, locals := 64 } : Room) 0 0 P [.ref a0, .int a1, .int a2] (fun r P2 => P = P2 ∧ (0 ≤ r.toInt ∧ r.toInt ≤ 999) ∧ (∀ b, pR P2 a0 12 = some b → r.toInt = opos (pI P2 b (21 * a1.toInt + a2.toInt).toNat))) := by
  refine enI (lv := [(0, .ref a0), (1, .int a1), (2, .int a2)]) (by decide) (Nat.le_of_ble_eq_true rfl) rfl (fun E D cy C Ci0 ret => ?_)
  have ha0 := I.2.1
  refine g_aload_n C dX12_oddsOf_0 rfl 0 rfl ?_
  obtain ⟨b94, e95, h96⟩ := I.fld (ha0) 12 13 63 rfl
  refine g_getR C fi_X12_51 rfl e95 (ha0).1 (ha0).2 dX12_oddsOf_1 ?_
  refine g_bipush (v := 21) C dX12_oddsOf_4 (by decide) ?_
  refine g_iload_n C dX12_oddsOf_6 rfl 1 rfl ?_
  refine s_imul C dX12_oddsOf_7 (by show -2147483648 ≤ 21 * a1.toInt ∧ 21 * a1.toInt ≤ 2147483647; omega) (fun z97 h98 => ?_)
  have h98 : z97.toInt = 21 * a1.toInt := h98
  refine g_iload_n C dX12_oddsOf_8 rfl 2 rfl ?_
  refine s_iadd C dX12_oddsOf_9 (by show -2147483648 ≤ z97.toInt + a2.toInt ∧ z97.toInt + a2.toInt ≤ 2147483647; omega) (fun z99 h100 => ?_)
  have h100 : z99.toInt = z97.toInt + a2.toInt := h100
  refine g_iald (j := (z99.toInt.toNat)) C h96.1 h96.2.1 (ix_in h96.2.2 (by omega)) dX12_oddsOf_10 ?_
  have h101 := I.arr e95 rfl (z99.toInt.toNat)
  refine b_if_ge C 18 dX12_oddsOf_11 (by decide) (fun h102 => ?_) (fun h102 => ?_)
  · have h102 : 0 ≤ (pI P b94 (z99.toInt.toNat)).toInt := h102
    refine g_aload_n C dX12_oddsOf_18 rfl 0 rfl ?_
    refine g_getR C fi_X12_51 rfl e95 (ha0).1 (ha0).2 dX12_oddsOf_19 ?_
    refine g_bipush (v := 21) C dX12_oddsOf_22 (by decide) ?_
    refine g_iload_n C dX12_oddsOf_24 rfl 1 rfl ?_
    refine s_imul C dX12_oddsOf_25 (by show -2147483648 ≤ 21 * a1.toInt ∧ 21 * a1.toInt ≤ 2147483647; omega) (fun z103 h104 => ?_)
    have h104 : z103.toInt = 21 * a1.toInt := h104
    refine g_iload_n C dX12_oddsOf_26 rfl 2 rfl ?_
    refine s_iadd C dX12_oddsOf_27 (by show -2147483648 ≤ z103.toInt + a2.toInt ∧ z103.toInt + a2.toInt ≤ 2147483647; omega) (fun z105 h106 => ?_)
    have h106 : z105.toInt = z103.toInt + a2.toInt := h106
    refine g_iald (j := (z105.toInt.toNat)) C h96.1 h96.2.1 (ix_in h96.2.2 (by omega)) dX12_oddsOf_28 ?_
    have h107 := I.arr e95 rfl (z105.toInt.toNat)
    have hk108 : (pI P b94 (z99.toInt.toNat)).toInt = (pI P b94 (21 * a1.toInt + a2.toInt).toNat).toInt := by rw [show z99.toInt.toNat = (21 * a1.toInt + a2.toInt).toNat by omega]
    have hk109 : (pI P b94 (z105.toInt.toNat)).toInt = (pI P b94 (21 * a1.toInt + a2.toInt).toNat).toInt := by rw [show z105.toInt.toNat = (21 * a1.toInt + a2.toInt).toNat by omega]
    exact ret _ _ _ _ _ _ dX12_oddsOf_29 rfl (by decide) (by decide) ⟨rfl, (by omega), (fun b9 e9 => by rw [e95] at e9; cases e9; show (pI P b94 (z105.toInt.toNat)).toInt = opos (pI P b94 (21 * a1.toInt + a2.toInt).toNat); unfold opos; split <;> omega)⟩
  · have h102 : (pI P b94 (z99.toInt.toNat)).toInt < 0 := h102
    refine g_iconst (v := 0) C dX12_oddsOf_14 (by decide) ?_
    refine g_goto C 29 dX12_oddsOf_15 (by decide) ?_
    have hk110 : (pI P b94 (z99.toInt.toNat)).toInt = (pI P b94 (21 * a1.toInt + a2.toInt).toNat).toInt := by rw [show z99.toInt.toNat = (21 * a1.toInt + a2.toInt).toNat by omega]
    exact ret _ _ _ _ _ _ dX12_oddsOf_29 rfl (by decide) (by decide) ⟨rfl, (by decide), (fun b9 e9 => by rw [e95] at e9; cases e9; show (0 : Int) = opos (pI P b94 (21 * a1.toInt + a2.toInt).toNat); unfold opos; split <;> omega)⟩
theorem dX12_howMany_20 : decode cX12_howMany 20 = .ok (.iadd, 1) := by decide +kernel
theorem dX12_howMany_21 : decode cX12_howMany 21 = .ok (.istore_n 2, 1) := by decide +kernel
theorem dX12_howMany_22 : decode cX12_howMany 22 = .ok (.iinc 3 1, 3) := by decide +kernel
theorem dX12_howMany_25 : decode cX12_howMany 25 = .ok (.goto (-21), 3) := by decide +kernel
theorem dX12_howMany_34 : decode cX12_howMany 34 = .ok (.aload_n 0, 1) := by decide +kernel
theorem dX12_howMany_35 : decode cX12_howMany 35 = .ok (.invokevirtual 244, 3) := by decide +kernel
theorem dX12_drawn_0 : decode cX12_drawn 0 = .ok (.aload_n 0, 1) := by decide +kernel
theorem dX12_drawn_1 : decode cX12_drawn 1 = .ok (.aload_n 0, 1) := by decide +kernel
theorem dX12_drawn_2 : decode cX12_drawn 2 = .ok (.getfield 226, 3) := by decide +kernel
theorem dX12_drawn_5 : decode cX12_drawn 5 = .ok (.ldc2_w 230, 3) := by decide +kernel
theorem dX12_drawn_8 : decode cX12_drawn 8 = .ok (.lmul, 1) := by decide +kernel
theorem dX12_drawn_9 : decode cX12_drawn 9 = .ok (.ldc2_w 232, 3) := by decide +kernel
theorem dX12_drawn_12 : decode cX12_drawn 12 = .ok (.ladd, 1) := by decide +kernel
theorem dX12_drawn_13 : decode cX12_drawn 13 = .ok (.ldc2_w 234, 3) := by decide +kernel
theorem dX12_drawn_16 : decode cX12_drawn 16 = .ok (.lrem, 1) := by decide +kernel
theorem dX12_drawn_17 : decode cX12_drawn 17 = .ok (.putfield 226, 3) := by decide +kernel
theorem dX12_drawn_20 : decode cX12_drawn 20 = .ok (.aload_n 0, 1) := by decide +kernel
theorem dX12_drawn_21 : decode cX12_drawn 21 = .ok (.getfield 226, 3) := by decide +kernel
theorem dX12_drawn_24 : decode cX12_drawn 24 = .ok (.ldc2_w 236, 3) := by decide +kernel
theorem dX12_drawn_27 : decode cX12_drawn 27 = .ok (.ldiv, 1) := by decide +kernel
theorem dX12_drawn_28 : decode cX12_drawn 28 = .ok (.l2i, 1) := by decide +kernel
theorem dX12_drawn_29 : decode cX12_drawn 29 = .ok (.ireturn, 1) := by decide +kernel
set_option maxHeartbeats 4000000 in
set_option maxRecDepth 100000 in
theorem s_X12_drawn {P : PP} {a0 : Nat} (I : IM P a0) (hW : MW P a0) : CtrI yX12_drawn cX12_drawn 1 (some Jvm.ClassFile.FieldType.int) ({ frames := 1, cells := 0, slots := 0, locals := 64 } : Room) 0 0 P [.ref a0] (fun r P2 => IM P2 a0 ∧ EM [] a0 P P2 ∧ MW P2 a0 ∧ (True)) := by
  refine enI (lv := [(0, .ref a0)]) (by decide) (Nat.le_of_ble_eq_true rfl) rfl (fun E D cy C Ci0 ret => ?_)
  have ha0 := I.2.1
  refine g_aload_n C dX12_drawn_0 rfl 0 rfl ?_
  refine g_aload_n C dX12_drawn_1 rfl 0 rfl ?_
  refine g_getJ C fi_X12_226 rfl (ha0).1 (ha0).2 dX12_drawn_2 ?_
  refine g_topl (fun l183 _ => ?_)
  refine g_ldc2 (v := 1103515245) C kl_X12_230 dX12_drawn_5 ?_
  refine g_topl (fun l184 el184 => ?_)
  have hz_l184 : ¬ l184 = 0 := by rw [el184]; decide
  refine a_lmul C dX12_drawn_8 (fun l185 => ?_)
  refine g_ldc2 (v := 12345) C kl_X12_232 dX12_drawn_9 ?_
  refine g_topl (fun l186 el186 => ?_)
  have hz_l186 : ¬ l186 = 0 := by rw [el186]; decide
  refine a_ladd C dX12_drawn_12 (fun l187 => ?_)
  refine g_ldc2 (v := 2147483648) C kl_X12_234 dX12_drawn_13 ?_
  refine g_topl (fun l188 el188 => ?_)
  have hz_l188 : ¬ l188 = 0 := by rw [el188]; decide
  refine a_lrem C dX12_drawn_16 hz_l188 (fun l189 => ?_)
  refine g_putJ C fi_X12_226 rfl (ha0).1 (ha0).2 dX12_drawn_17 ?_
  refine gq (ks := []) (I.setJ) (EM.setJ) (fun Y190 Iy191 Xy192 => ?_)
  have W193 := hW.keep I Xy192 (by decide) (by decide) (by decide)
  have Xz194 : EM [] a0 P Y190 := Xy192.mono (by decide)
  have h195 := Xy192.at ha0
  refine g_aload_n C dX12_drawn_20 rfl 0 rfl ?_
  refine g_getJ C fi_X12_226 rfl (h195).1 (h195).2 dX12_drawn_21 ?_
  refine g_topl (fun l196 _ => ?_)
  refine g_ldc2 (v := 65536) C kl_X12_236 dX12_drawn_24 ?_
  refine g_topl (fun l197 el197 => ?_)
  have hz_l197 : ¬ l197 = 0 := by rw [el197]; decide
  refine a_ldiv C dX12_drawn_27 hz_l197 (fun l198 => ?_)
  refine a_l2i C dX12_drawn_28 (fun z199 => ?_)
  exact ret _ _ _ _ _ _ dX12_drawn_29 rfl (by decide) (by decide) ⟨Iy191, Xz194, W193, trivial⟩
theorem dX12_howMany_38 : decode cX12_howMany 38 = .ok (.iload_n 2, 1) := by decide +kernel
theorem dX12_howMany_39 : decode cX12_howMany 39 = .ok (.irem, 1) := by decide +kernel
theorem dX12_howMany_40 : decode cX12_howMany 40 = .ok (.istore_n 3, 1) := by decide +kernel
theorem dX12_howMany_41 : decode cX12_howMany 41 = .ok (.iconst 1, 1) := by decide +kernel
theorem dX12_howMany_42 : decode cX12_howMany 42 = .ok (.istore 4, 2) := by decide +kernel
theorem dX12_howMany_44 : decode cX12_howMany 44 = .ok (.aload_n 0, 1) := by decide +kernel
theorem dX12_howMany_45 : decode cX12_howMany 45 = .ok (.iload_n 1, 1) := by decide +kernel
theorem dX12_howMany_46 : decode cX12_howMany 46 = .ok (.iconst 1, 1) := by decide +kernel
theorem dX12_howMany_47 : decode cX12_howMany 47 = .ok (.invokevirtual 241, 3) := by decide +kernel
theorem dX12_howMany_50 : decode cX12_howMany 50 = .ok (.istore 5, 2) := by decide +kernel
theorem dX12_howMany_52 : decode cX12_howMany 52 = .ok (.iload 5, 2) := by decide +kernel
theorem dX12_howMany_54 : decode cX12_howMany 54 = .ok (.iload_n 3, 1) := by decide +kernel
theorem dX12_howMany_55 : decode cX12_howMany 55 = .ok (.if_icmp .gt 21, 3) := by decide +kernel
theorem dX12_howMany_58 : decode cX12_howMany 58 = .ok (.iinc 4 1, 3) := by decide +kernel
theorem dX12_howMany_61 : decode cX12_howMany 61 = .ok (.iload 5, 2) := by decide +kernel
theorem dX12_howMany_63 : decode cX12_howMany 63 = .ok (.aload_n 0, 1) := by decide +kernel
theorem dX12_howMany_64 : decode cX12_howMany 64 = .ok (.iload_n 1, 1) := by decide +kernel
theorem dX12_howMany_65 : decode cX12_howMany 65 = .ok (.iload 4, 2) := by decide +kernel
theorem dX12_howMany_67 : decode cX12_howMany 67 = .ok (.invokevirtual 241, 3) := by decide +kernel
theorem dX12_howMany_70 : decode cX12_howMany 70 = .ok (.iadd, 1) := by decide +kernel
theorem dX12_howMany_71 : decode cX12_howMany 71 = .ok (.istore 5, 2) := by decide +kernel
theorem dX12_howMany_73 : decode cX12_howMany 73 = .ok (.goto (-21), 3) := by decide +kernel
theorem dX12_howMany_76 : decode cX12_howMany 76 = .ok (.iload 4, 2) := by decide +kernel
theorem dX12_howMany_78 : decode cX12_howMany 78 = .ok (.ireturn, 1) := by decide +kernel
set_option maxHeartbeats 4000000 in
set_option maxRecDepth 100000 in
theorem s_X12_howMany {P : PP} {a0 : Nat} {a1 : Int32} (I : IM P a0) (ha1 : 0 ≤ a1.toInt ∧ a1.toInt ≤ 1) (hf0 : ∀ b, pR P a0 10 = some b → 1 ≤ (pI P b (a1.toInt.toNat)).toInt ∧ (pI P b (a1.toInt.toNat)).toInt ≤ 16) (hW : MW P a0) : CtrI yX12_howMany cX12_howMany 6 (some Jvm.ClassFile.FieldType.int) ({ frames := 2, cells := 0, slots := 0, locals := 128 } : Room) 0 0 P [.ref a0, .int a1] (fun r P2 => IM P2 a0 ∧ EM [] a0 P P2 ∧ MW P2 a0 ∧ (1 ≤ r.toInt ∧ r.toInt ≤ 20) ∧ (∀ b c, pR P2 a0 10 = some b → pR P2 a0 15 = some c → r.toInt ≤ (pI P2 b (a1.toInt.toNat)).toInt + (pI P2 c (a1.toInt.toNat)).toInt)) := by
  refine enI (lv := [(0, .ref a0), (1, .int a1)]) (by decide) (Nat.le_of_ble_eq_true rfl) rfl (fun E D cy C Ci0 ret => ?_)
  have ha0 := I.2.1
  have J52 : ∀ (n52 : Nat) (P52 : PP) (v52_3 : Int32) (v52_4 : Int32) (v52_5 : Int32), (20 - v52_4.toInt).toNat < n52 → (IM P52 a0) → (EM [] a0 P P52) → (MW P52 a0) → (-19979 ≤ v52_3.toInt ∧ v52_3.toInt ≤ 19979) → (1 ≤ v52_4.toInt ∧ v52_4.toInt ≤ 20) → (0 ≤ v52_5.toInt ∧ v52_5.toInt ≤ 19980) → (∀ b, pR P52 a0 10 = some b → 1 ≤ (pI P52 b (a1.toInt.toNat)).toInt ∧ (pI P52 b (a1.toInt.toNat)).toInt ≤ 16) → (∀ b912, pR P52 a0 12 = some b912 → v52_5.toInt = oS (pI P b912) (21 * a1.toInt).toNat (v52_4.toInt : Int).toNat) → (∀ b910 b915, pR P52 a0 10 = some b910 → pR P52 a0 15 = some b915 → 1 ≤ v52_4.toInt ∧ v52_4.toInt ≤ ((pI P b910 (a1.toInt.toNat)).toInt + (pI P b915 (a1.toInt.toNat)).toInt)) → (∀ b910 b912 b915, pR P52 a0 10 = some b910 → pR P52 a0 12 = some b912 → pR P52 a0 15 = some b915 → v52_3.toInt < oS (pI P b912) (21 * a1.toInt).toNat (((pI P b910 (a1.toInt.toNat)).toInt + (pI P b915 (a1.toInt.toNat)).toInt)).toNat) → (0 ≤ v52_5.toInt ∧ v52_5.toInt ≤ 999 * v52_4.toInt) → G E ({ frames := 2, cells := 0, slots := 0, locals := 128 } : Room) D cy 6 P52 0 0 52 [(0, .ref a0), (1, .int a1), (3, .int v52_3), (4, .int v52_4), (5, .int v52_5)] [] := by
    intro n52
    induction n52 with
    | zero => intro P52 v52_3 v52_4 v52_5 hm52 I52 X52 W52 hv52_3 hv52_4 hv52_5 hq52_0 rel52_0 rel52_1 rel52_2 rel52_3; omega
    | succ n52 ih52 =>
      intro P52 v52_3 v52_4 v52_5 hm52 I52 X52 W52 hv52_3 hv52_4 hv52_5 hq52_0 rel52_0 rel52_1 rel52_2 rel52_3
      have h1101 := X52.at ha0
      obtain ⟨b1102, e1103, h1104⟩ := I52.fld (h1101) 10 13 2 rfl
      have hq52_0 := hq52_0 b1102 e1103
      obtain ⟨b1105, e1106, h1107⟩ := I52.fld (h1101) 12 13 63 rfl
      have rel52_0 := rel52_0 b1105 e1106
      obtain ⟨b1108, e1109, h1110⟩ := I52.fld (h1101) 15 13 3 rfl
      have rel52_1 := rel52_1 b1102 b1108 e1103 e1109
      have h1111 := I.arr (EM.refB X52 ha0 e1103) rfl (a1.toInt.toNat)
      have h1112 := I.arr (EM.refB X52 ha0 e1109) rfl (a1.toInt.toNat)
      have rel52_2 := rel52_2 b1102 b1105 b1108 e1103 e1106 e1109
      have h1113 := I.arr (EM.refB X52 ha0 e1103) rfl (a1.toInt.toNat)
      have h1114 := I.arr (EM.refB X52 ha0 e1109) rfl (a1.toInt.toNat)
      refine g_iload C dX12_howMany_52 4 rfl ?_
      refine g_iload_n C dX12_howMany_54 rfl 2 rfl ?_
      refine b_icmp_gt C 76 dX12_howMany_55 (by decide) (fun h1115 => ?_) (fun h1115 => ?_)
      · have h1115 : v52_3.toInt < v52_5.toInt := h1115
        refine g_iload C dX12_howMany_76 3 rfl ?_
        exact ret _ _ _ _ _ _ dX12_howMany_78 rfl (by decide) (by decide) ⟨I52, X52, W52, (by omega), (fun b9 c9 e9 f9 => by rw [e1103] at e9; cases e9; rw [e1109] at f9; cases f9; have k1 := X52.keepA (EM.refB X52 ha0 e1103) (by decide) rfl (a1.toInt.toNat); have k2 := X52.keepA (EM.refB X52 ha0 e1109) (by decide) rfl (a1.toInt.toNat); show v52_4.toInt ≤ (pI P52 b1102 (a1.toInt.toNat)).toInt + (pI P52 b1108 (a1.toInt.toNat)).toInt; omega)⟩
      · have h1115 : v52_5.toInt ≤ v52_3.toInt := h1115
        refine s_iinc (lv0 := [(0, .ref a0), (1, .int a1), (3, .int v52_3), (5, .int v52_5)]) (m := 1) C dX12_howMany_58 3 rfl (by decide) rfl (by decide) (by omega) (fun z1116 h1117 => ?_)
        have h1117 : z1116.toInt = v52_4.toInt + 1 := h1117
        have hd : v52_4.toInt ≠ (pI P b1102 (a1.toInt.toNat)).toInt + (pI P b1108 (a1.toInt.toNat)).toInt := fun h9 => by have h8 := rel52_2; rw [show ((pI P b1102 (a1.toInt.toNat)).toInt + (pI P b1108 (a1.toInt.toNat)).toInt).toNat = v52_4.toInt.toNat by omega] at h8; omega
        refine g_iload C dX12_howMany_61 4 rfl ?_
        refine g_aload_n C dX12_howMany_63 rfl 1 rfl ?_
        refine g_iload_n C dX12_howMany_64 rfl 2 rfl ?_
        refine g_iload C dX12_howMany_65 0 rfl ?_
        refine g_callVI (rest := [.int v52_5]) C mv_X12_241 [.int a1, .int z1116] (s_X12_oddsOf I52 (by omega) (by omega) W52) (h1101).1 (h1101).2 rfl rfl (by decide) (Nat.le_of_ble_eq_true rfl) (by decide) dX12_howMany_67 (fun r1118 Y1119 h1120 => ?_)
        obtain ⟨rfl, h1120⟩ := h1120
        obtain ⟨h1120, hi1121⟩ := h1120
        have hi1121 := hi1121 b1105 e1106
        rw [X52.2.2.2 12 (by decide) rfl b1105 (EM.refB X52 ha0 e1106)] at hi1121
        have hi1121 : r1118.toInt = opos (pI P b1105 (21 * a1.toInt + z1116.toInt).toNat) := hi1121
        have h1120 : 0 ≤ r1118.toInt ∧ r1118.toInt ≤ 999 := h1120
        refine s_iadd C dX12_howMany_70 (by show -2147483648 ≤ v52_5.toInt + r1118.toInt ∧ v52_5.toInt + r1118.toInt ≤ 2147483647; omega) (fun z1122 h1123 => ?_)
        have h1123 : z1122.toInt = v52_5.toInt + r1118.toInt := h1123
        refine g_istore (lv' := [(5, .int z1122), (4, .int z1116), (0, .ref a0), (1, .int a1), (3, .int v52_3)]) C dX12_howMany_71 (by decide) rfl ?_
        have st := oS_step2 (f := pI P b1105) (o := (21 * a1.toInt).toNat) (k := (21 * a1.toInt + z1116.toInt).toNat) (d := v52_4.toInt) (d2 := z1116.toInt) (by omega) (by omega) (by omega)
        refine g_goto C 52 dX12_howMany_73 (by decide) ?_
        refine g_lv (lv' := [(0, .ref a0), (1, .int a1), (3, .int v52_3), (4, .int z1116), (5, .int z1122)]) [2, 3, 4, 1, 0] rfl ?_
        exact ih52 P52 v52_3 z1116 z1122 (by omega) I52 X52 W52 (by omega) (by omega) (by omega) (fun b9 e9 => by rw [e1103] at e9; cases e9; omega) (by intro b912 e912; rw [e1106] at e912; cases e912; show z1122.toInt = oS (pI P b1105) (21 * a1.toInt).toNat (z1116.toInt : Int).toNat; omega) (by intro b910 b915 e910 e915; rw [e1103] at e910; cases e910; rw [e1109] at e915; cases e915; show 1 ≤ z1116.toInt ∧ z1116.toInt ≤ ((pI P b1102 (a1.toInt.toNat)).toInt + (pI P b1108 (a1.toInt.toNat)).toInt); omega) (by intro b910 b912 b915 e910 e912 e915; rw [e1103] at e910; cases e910; rw [e1106] at e912; cases e912; rw [e1109] at e915; cases e915; show v52_3.toInt < oS (pI P b1105) (21 * a1.toInt).toNat (((pI P b1102 (a1.toInt.toNat)).toInt + (pI P b1108 (a1.toInt.toNat)).toInt)).toNat; omega) (by show 0 ≤ z1122.toInt ∧ z1122.toInt ≤ 999 * z1116.toInt; omega)
  have J4 : ∀ (n4 : Nat) (v4_2 : Int32) (v4_3 : Int32), (21 - v4_3.toInt).toNat < n4 → (0 ≤ v4_2.toInt ∧ v4_2.toInt ≤ 19980) → (1 ≤ v4_3.toInt ∧ v4_3.toInt ≤ 21) → (∀ b, pR P a0 10 = some b → 1 ≤ (pI P b (a1.toInt.toNat)).toInt ∧ (pI P b (a1.toInt.toNat)).toInt ≤ 16) → (∀ b912, pR P a0 12 = some b912 → v4_2.toInt = oS (pI P b912) (21 * a1.toInt).toNat (v4_3.toInt - 1 : Int).toNat) → (∀ b910 b915, pR P a0 10 = some b910 → pR P a0 15 = some b915 → v4_3.toInt ≤ ((pI P b910 (a1.toInt.toNat)).toInt + (pI P b915 (a1.toInt.toNat)).toInt) + 1) → (0 ≤ v4_2.toInt ∧ v4_2.toInt ≤ 999 * (v4_3.toInt - 1)) → G E ({ frames := 2, cells := 0, slots := 0, locals := 128 } : Room) D cy 6 P 0 0 4 [(0, .ref a0), (1, .int a1), (2, .int v4_2), (3, .int v4_3)] [] := by
    intro n4
    induction n4 with
    | zero => intro v4_2 v4_3 hm4 hv4_2 hv4_3 hq4_0 rel4_0 rel4_1 rel4_2; omega
    | succ n4 ih4 =>
      intro v4_2 v4_3 hm4 hv4_2 hv4_3 hq4_0 rel4_0 rel4_1 rel4_2
      obtain ⟨b1124, e1125, h1126⟩ := I.fld (ha0) 10 13 2 rfl
      have hq4_0 := hq4_0 b1124 e1125
      obtain ⟨b1127, e1128, h1129⟩ := I.fld (ha0) 12 13 63 rfl
      have rel4_0 := rel4_0 b1127 e1128
      obtain ⟨b1130, e1131, h1132⟩ := I.fld (ha0) 15 13 3 rfl
      have rel4_1 := rel4_1 b1124 b1130 e1125 e1131
      have h1133 := I.arr e1125 rfl (a1.toInt.toNat)
      have h1134 := I.arr e1131 rfl (a1.toInt.toNat)
      refine g_iload_n C dX12_howMany_4 rfl 3 rfl ?_
      refine g_aload_n C dX12_howMany_5 rfl 0 rfl ?_
      refine g_iload_n C dX12_howMany_6 rfl 1 rfl ?_
      refine g_callVI (rest := [.int v4_3]) C mv_X12_238 [.int a1] (s_X12_allOf I (by omega) hW) (ha0).1 (ha0).2 rfl rfl (by decide) (Nat.le_of_ble_eq_true rfl) (by decide) dX12_howMany_7 (fun r1135 Y1136 h1137 => ?_)
      obtain ⟨rfl, h1137⟩ := h1137
      obtain ⟨h1137, hi1138⟩ := h1137
      have hi1138 : (r1135.toInt = 0 ∧ (pI P b1124 (a1.toInt.toNat)).toInt = 0) ∨ r1135.toInt = (pI P b1124 (a1.toInt.toNat)).toInt + (pI P b1130 (a1.toInt.toNat)).toInt := hi1138 b1124 b1130 e1125 e1131
      have h1139 := I.arr e1131 rfl (a1.toInt.toNat)
      have h1137 : 0 ≤ r1135.toInt ∧ r1135.toInt ≤ 20 := h1137
      refine b_icmp_gt C 28 dX12_howMany_10 (by decide) (fun h1140 => ?_) (fun h1140 => ?_)
      · have h1140 : r1135.toInt < v4_3.toInt := h1140
        refine g_iload_n C dX12_howMany_28 rfl 2 rfl ?_
        refine b_if_ne C 34 dX12_howMany_29 (by decide) (fun h1141 => ?_) (fun h1141 => ?_)
        · have h1141 : v4_2.toInt ≠ 0 := ti_ne h1141
          have htot : v4_2.toInt = oS (pI P b1127) (21 * a1.toInt).toNat ((pI P b1124 (a1.toInt.toNat)).toInt + (pI P b1130 (a1.toInt.toNat)).toInt).toNat := by rw [show ((pI P b1124 (a1.toInt.toNat)).toInt + (pI P b1130 (a1.toInt.toNat)).toInt).toNat = (v4_3.toInt - 1).toNat by omega]; omega
          refine g_aload_n C dX12_howMany_34 rfl 0 rfl ?_
          refine g_callVI (rest := []) C mv_X12_244 [] (s_X12_drawn I hW) (ha0).1 (ha0).2 rfl rfl (by decide) (Nat.le_of_ble_eq_true rfl) (by decide) dX12_howMany_35 (fun r1142 Y1143 h1144 => ?_)
          obtain ⟨Iy1145, Xy1146, W1147, h1144⟩ := h1144
          have q1148 := Xy1146.keepA e1125 (by decide) rfl (a1.toInt.toNat)
          have q1149 := Xy1146.keepA e1131 (by decide) rfl (a1.toInt.toNat)
          have Xz1150 : EM [] a0 P Y1143 := Xy1146.mono (by decide)
          have e1151 := Xy1146.ref ha0 (by decide) e1125
          have e1152 := Xy1146.ref ha0 (by decide) e1131
          have h1153 := Xy1146.at ha0
          have h1154 := Xy1146.ar h1126
          have h1155 := Xy1146.ar h1132
          have h1144 : True := h1144
          refine g_iload_n C dX12_howMany_38 rfl 2 rfl ?_
          refine s_irem C dX12_howMany_39 (by show 0 < v4_2.toInt; omega) (fun z1156 h1157 => ?_)
          have h1157 : -v4_2.toInt < z1156.toInt ∧ z1156.toInt < v4_2.toInt := h1157
          refine g_istore_n (lv' := [(3, .int z1156), (0, .ref a0), (1, .int a1), (2, .int v4_2)]) C dX12_howMany_40 rfl (by decide) rfl ?_
          refine g_iconst (v := 1) C dX12_howMany_41 (by decide) ?_
          refine g_istore (lv' := [(4, .int 1), (3, .int z1156), (0, .ref a0), (1, .int a1), (2, .int v4_2)]) C dX12_howMany_42 (by decide) rfl ?_
          refine g_aload_n C dX12_howMany_44 rfl 2 rfl ?_
          refine g_iload_n C dX12_howMany_45 rfl 3 rfl ?_
          refine g_iconst (v := 1) C dX12_howMany_46 (by decide) ?_
          refine g_callVI (rest := []) C mv_X12_241 [.int a1, .int 1] (s_X12_oddsOf Iy1145 (by omega) (by decide) W1147) (h1153).1 (h1153).2 rfl rfl (by decide) (Nat.le_of_ble_eq_true rfl) (by decide) dX12_howMany_47 (fun r1158 Y1159 h1160 => ?_)
          obtain ⟨rfl, h1160⟩ := h1160
          obtain ⟨h1160, hi1161⟩ := h1160
          obtain ⟨b1162, e1163, h1164⟩ := Iy1145.fld (h1153) 12 13 63 rfl
          have hi1161 := hi1161 b1162 e1163
          rw [Xz1150.2.2.2 12 (by decide) rfl b1162 (EM.refB Xz1150 ha0 e1163)] at hi1161
          have hi1161 : r1158.toInt = opos (pI P b1162 (21 * a1.toInt + 1).toNat) := hi1161
          have h1160 : 0 ≤ r1158.toInt ∧ r1158.toInt ≤ 999 := h1160
          have hb9 : b1162 = b1127 := Option.some.inj ((EM.refB Xz1150 ha0 e1163).symm.trans (e1128))
          subst hb9
          have s1 := oS_first (f := pI P b1162) (o := (21 * a1.toInt).toNat) (k := (21 * a1.toInt + 1).toNat) (by omega)
          refine g_istore (lv' := [(5, .int r1158), (4, .int 1), (3, .int z1156), (0, .ref a0), (1, .int a1), (2, .int v4_2)]) C dX12_howMany_50 (by decide) rfl ?_
          refine g_lv (lv' := [(0, .ref a0), (1, .int a1), (3, .int z1156), (4, .int 1), (5, .int r1158)]) [3, 4, 2, 1, 0] rfl ?_
          exact J52 _ Y1143 z1156 1 r1158 (Nat.lt_succ_self _) Iy1145 Xz1150 W1147 (by omega) (by decide) (by omega) (fun b9 e9 => by rw [e1151] at e9; cases e9; omega) (by intro b912 e912; rw [e1163] at e912; cases e912; show r1158.toInt = oS (pI P b1162) (21 * a1.toInt).toNat (1 : Int).toNat; omega) (by intro b910 b915 e910 e915; rw [e1151] at e910; cases e910; rw [e1152] at e915; cases e915; show 1 ≤ 1 ∧ 1 ≤ ((pI P b1124 (a1.toInt.toNat)).toInt + (pI P b1130 (a1.toInt.toNat)).toInt); omega) (by intro b910 b912 b915 e910 e912 e915; rw [e1151] at e910; cases e910; rw [e1163] at e912; cases e912; rw [e1152] at e915; cases e915; show z1156.toInt < oS (pI P b1162) (21 * a1.toInt).toNat (((pI P b1124 (a1.toInt.toNat)).toInt + (pI P b1130 (a1.toInt.toNat)).toInt)).toNat; omega) (by show 0 ≤ r1158.toInt ∧ r1158.toInt ≤ 999 * 1; omega)
        · have h1141 : v4_2.toInt = 0 := congrArg Int32.toInt h1141
          refine g_iconst (v := 1) C dX12_howMany_32 (by decide) ?_
          exact ret _ _ _ _ _ _ dX12_howMany_33 rfl (by decide) (by decide) ⟨I, EM.rf, hW, (by decide), (fun b9 c9 e9 f9 => by rw [e1125] at e9; cases e9; rw [e1131] at f9; cases f9; show (1 : Int) ≤ (pI P b1124 (a1.toInt.toNat)).toInt + (pI P b1130 (a1.toInt.toNat)).toInt; omega)⟩
      · have h1140 : v4_3.toInt ≤ r1135.toInt := h1140
        refine g_iload_n C dX12_howMany_13 rfl 2 rfl ?_
        refine g_aload_n C dX12_howMany_14 rfl 0 rfl ?_
        refine g_iload_n C dX12_howMany_15 rfl 1 rfl ?_
        refine g_iload_n C dX12_howMany_16 rfl 3 rfl ?_
        refine g_callVI (rest := [.int v4_2]) C mv_X12_241 [.int a1, .int v4_3] (s_X12_oddsOf I (by omega) (by omega) hW) (ha0).1 (ha0).2 rfl rfl (by decide) (Nat.le_of_ble_eq_true rfl) (by decide) dX12_howMany_17 (fun r1165 Y1166 h1167 => ?_)
        obtain ⟨rfl, h1167⟩ := h1167
        obtain ⟨h1167, hi1168⟩ := h1167
        have hi1168 := hi1168 b1127 e1128
        have hi1168 : r1165.toInt = opos (pI P b1127 (21 * a1.toInt + v4_3.toInt).toNat) := hi1168
        have h1167 : 0 ≤ r1165.toInt ∧ r1165.toInt ≤ 999 := h1167
        refine s_iadd C dX12_howMany_20 (by show -2147483648 ≤ v4_2.toInt + r1165.toInt ∧ v4_2.toInt + r1165.toInt ≤ 2147483647; omega) (fun z1169 h1170 => ?_)
        have h1170 : z1169.toInt = v4_2.toInt + r1165.toInt := h1170
        refine g_istore_n (lv' := [(2, .int z1169), (0, .ref a0), (1, .int a1), (3, .int v4_3)]) C dX12_howMany_21 rfl (by decide) rfl ?_
        refine s_iinc (lv0 := [(2, .int z1169), (0, .ref a0), (1, .int a1)]) (m := 1) C dX12_howMany_22 3 rfl (by decide) rfl (by decide) (by omega) (fun z1171 h1172 => ?_)
        have h1172 : z1171.toInt = v4_3.toInt + 1 := h1172
        have st := oS_step (f := pI P b1127) (o := (21 * a1.toInt).toNat) (k := (21 * a1.toInt + v4_3.toInt).toNat) (d := v4_3.toInt) (d2 := z1171.toInt) (by omega) (by omega) (by omega)
        refine g_goto C 4 dX12_howMany_25 (by decide) ?_
        refine g_lv (lv' := [(0, .ref a0), (1, .int a1), (2, .int z1169), (3, .int z1171)]) [2, 3, 1, 0] rfl ?_
        exact ih4 z1169 z1171 (by omega) (by omega) (by omega) (fun b9 e9 => by rw [e1125] at e9; cases e9; omega) (by intro b912 e912; rw [e1128] at e912; cases e912; show z1169.toInt = oS (pI P b1127) (21 * a1.toInt).toNat (z1171.toInt - 1 : Int).toNat; omega) (by intro b910 b915 e910 e915; rw [e1125] at e910; cases e910; rw [e1131] at e915; cases e915; show z1171.toInt ≤ ((pI P b1124 (a1.toInt.toNat)).toInt + (pI P b1130 (a1.toInt.toNat)).toInt) + 1; omega) (by show 0 ≤ z1169.toInt ∧ z1169.toInt ≤ 999 * (z1171.toInt - 1); omega)
  obtain ⟨b1173, e1174, h1175⟩ := I.fld (ha0) 10 13 2 rfl
  have hf0 := hf0 b1173 e1174
  have h1176 := I.arr e1174 rfl (a1.toInt.toNat)
  obtain ⟨b1177, e1178, h1179⟩ := I.fld (ha0) 15 13 3 rfl
  have h1180 := I.arr e1178 rfl (a1.toInt.toNat)
  obtain ⟨b1181, e1182, h1183⟩ := I.fld (ha0) 12 13 63 rfl
  have s0 := oS_zero (f := pI P b1181) (o := (21 * a1.toInt).toNat)
  refine g_iconst (v := 0) C dX12_howMany_0 (by decide) ?_
  refine g_istore_n (lv' := [(2, .int 0), (0, .ref a0), (1, .int a1)]) C dX12_howMany_1 rfl (by decide) rfl ?_
  refine g_iconst (v := 1) C dX12_howMany_2 (by decide) ?_
  refine g_istore_n (lv' := [(3, .int 1), (2, .int 0), (0, .ref a0), (1, .int a1)]) C dX12_howMany_3 rfl (by decide) rfl ?_
  refine g_lv (lv' := [(0, .ref a0), (1, .int a1), (2, .int 0), (3, .int 1)]) [2, 3, 1, 0] rfl ?_
  exact J4 _ 0 1 (Nat.lt_succ_self _) (by decide) (by decide) (fun b9 e9 => by rw [e1174] at e9; cases e9; omega) (by intro b912 e912; rw [e1182] at e912; cases e912; show 0 = oS (pI P b1181) (21 * a1.toInt).toNat (1 - 1 : Int).toNat; omega) (by intro b910 b915 e910 e915; rw [e1174] at e910; cases e910; rw [e1178] at e915; cases e915; show 1 ≤ ((pI P b1173 (a1.toInt.toNat)).toInt + (pI P b1177 (a1.toInt.toNat)).toInt) + 1; omega) (by show 0 ≤ 0 ∧ 0 ≤ 999 * (1 - 1); omega)
