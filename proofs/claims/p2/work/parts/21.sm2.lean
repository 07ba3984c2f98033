theorem dX12_setOf_28 : decode cX12_setOf 28 = .ok (.istore_n 3, 1) := by decide +kernel
theorem dX12_setOf_29 : decode cX12_setOf 29 = .ok (.iconst 0, 1) := by decide +kernel
theorem dX12_setOf_30 : decode cX12_setOf 30 = .ok (.istore 4, 2) := by decide +kernel
theorem dX12_setOf_32 : decode cX12_setOf 32 = .ok (.iconst 0, 1) := by decide +kernel
theorem dX12_setOf_33 : decode cX12_setOf 33 = .ok (.istore 5, 2) := by decide +kernel
theorem dX12_setOf_35 : decode cX12_setOf 35 = .ok (.iload 5, 2) := by decide +kernel
theorem dX12_setOf_37 : decode cX12_setOf 37 = .ok (.iload_n 3, 1) := by decide +kernel
theorem dX12_setOf_38 : decode cX12_setOf 38 = .ok (.if_icmp .ge 136, 3) := by decide +kernel
theorem dX12_setOf_41 : decode cX12_setOf 41 = .ok (.iconst 0, 1) := by decide +kernel
theorem dX12_setOf_42 : decode cX12_setOf 42 = .ok (.istore 6, 2) := by decide +kernel
theorem dX12_setOf_44 : decode cX12_setOf 44 = .ok (.iconst 0, 1) := by decide +kernel
theorem dX12_setOf_45 : decode cX12_setOf 45 = .ok (.istore 7, 2) := by decide +kernel
theorem dX12_setOf_47 : decode cX12_setOf 47 = .ok (.iload 7, 2) := by decide +kernel
theorem dX12_setOf_49 : decode cX12_setOf 49 = .ok (.aload_n 0, 1) := by decide +kernel
theorem dX12_setOf_50 : decode cX12_setOf 50 = .ok (.iload_n 1, 1) := by decide +kernel
theorem dX12_setOf_51 : decode cX12_setOf 51 = .ok (.invokevirtual 238, 3) := by decide +kernel
theorem dX12_setOf_54 : decode cX12_setOf 54 = .ok (.if_icmp .ge 35, 3) := by decide +kernel
theorem dX12_setOf_89 : decode cX12_setOf 89 = .ok (.aload_n 0, 1) := by decide +kernel
theorem dX12_setOf_90 : decode cX12_setOf 90 = .ok (.invokevirtual 244, 3) := by decide +kernel
theorem dX12_setOf_93 : decode cX12_setOf 93 = .ok (.iload 6, 2) := by decide +kernel
theorem dX12_setOf_95 : decode cX12_setOf 95 = .ok (.irem, 1) := by decide +kernel
theorem dX12_setOf_96 : decode cX12_setOf 96 = .ok (.istore 7, 2) := by decide +kernel
theorem dX12_setOf_98 : decode cX12_setOf 98 = .ok (.iconst 0, 1) := by decide +kernel
theorem dX12_setOf_99 : decode cX12_setOf 99 = .ok (.istore 8, 2) := by decide +kernel
theorem dX12_setOf_101 : decode cX12_setOf 101 = .ok (.iload 4, 2) := by decide +kernel
theorem dX12_setOf_103 : decode cX12_setOf 103 = .ok (.iconst 1, 1) := by decide +kernel
theorem dX12_setOf_104 : decode cX12_setOf 104 = .ok (.iand, 1) := by decide +kernel
theorem dX12_setOf_105 : decode cX12_setOf 105 = .ok (.ifCond .ne 12, 3) := by decide +kernel
theorem dX12_setOf_108 : decode cX12_setOf 108 = .ok (.aload_n 0, 1) := by decide +kernel
theorem dX12_setOf_109 : decode cX12_setOf 109 = .ok (.iload_n 1, 1) := by decide +kernel
theorem dX12_setOf_110 : decode cX12_setOf 110 = .ok (.iconst 0, 1) := by decide +kernel
theorem dX12_setOf_111 : decode cX12_setOf 111 = .ok (.invokevirtual 255, 3) := by decide +kernel
theorem dX12_setOf_117 : decode cX12_setOf 117 = .ok (.iconst 0, 1) := by decide +kernel
theorem dX12_weightOf_0 : decode cX12_weightOf 0 = .ok (.iload_n 2, 1) := by decide +kernel
theorem dX12_weightOf_1 : decode cX12_weightOf 1 = .ok (.aload_n 0, 1) := by decide +kernel
theorem dX12_weightOf_2 : decode cX12_weightOf 2 = .ok (.getfield 54, 3) := by decide +kernel
theorem dX12_weightOf_5 : decode cX12_weightOf 5 = .ok (.iload_n 1, 1) := by decide +kernel
theorem dX12_weightOf_6 : decode cX12_weightOf 6 = .ok (.iaload, 1) := by decide +kernel
theorem dX12_weightOf_7 : decode cX12_weightOf 7 = .ok (.if_icmp .ge 12, 3) := by decide +kernel
theorem dX12_weightOf_10 : decode cX12_weightOf 10 = .ok (.aload_n 0, 1) := by decide +kernel
theorem dX12_weightOf_11 : decode cX12_weightOf 11 = .ok (.getfield 57, 3) := by decide +kernel
theorem dX12_weightOf_14 : decode cX12_weightOf 14 = .ok (.iload_n 1, 1) := by decide +kernel
theorem dX12_weightOf_15 : decode cX12_weightOf 15 = .ok (.iaload, 1) := by decide +kernel
theorem dX12_weightOf_16 : decode cX12_weightOf 16 = .ok (.goto 4, 3) := by decide +kernel
theorem dX12_weightOf_19 : decode cX12_weightOf 19 = .ok (.iconst 1, 1) := by decide +kernel
theorem dX12_weightOf_20 : decode cX12_weightOf 20 = .ok (.ireturn, 1) := by decide +kernel
set_option maxHeartbeats 4000000 in
set_option maxRecDepth 100000 in
theorem s_X12_weightOf {P : PP} {a0 : Nat} {a1 : Int32} {a2 : Int32} (I : IM P a0) (ha1 : 0 ≤ a1.toInt ∧ a1.toInt ≤ 1) (ha2 : 0 ≤ a2.toInt ∧ a2.toInt ≤ 19) (hW : MW P a0) : CtrI yX12_weightOf cX12_weightOf 3 (some Jvm.ClassFile.FieldType.int) ({ frames := 1, cells := 0, slots := 0, locals := 64 } : Room) 0 0 P [.ref a0, .int a1, .int a2] (fun r P2 => P = P2 ∧ (0 ≤ r.toInt ∧ r.toInt ≤ 9) ∧ (∀ b c, pR P2 a0 13 = some b → pR P2 a0 14 = some c → r.toInt = wt (pI P2 b (a1.toInt.toNat)).toInt (pI P2 c (a1.toInt.toNat)).toInt a2.toInt.toNat)) := by
  refine enI (lv := [(0, .ref a0), (1, .int a1), (2, .int a2)]) (by decide) (Nat.le_of_ble_eq_true rfl) rfl (fun E D cy C Ci0 ret => ?_)
  have ha0 := I.2.1
  refine g_iload_n C dX12_weightOf_0 rfl 2 rfl ?_
  refine g_aload_n C dX12_weightOf_1 rfl 0 rfl ?_
  obtain ⟨b11665, e11666, h11667⟩ := I.fld (ha0) 13 13 3 rfl
  refine g_getR C fi_X12_54 rfl e11666 (ha0).1 (ha0).2 dX12_weightOf_2 ?_
  refine g_iload_n C dX12_weightOf_5 rfl 1 rfl ?_
  refine g_iald (j := (a1.toInt.toNat)) C h11667.1 h11667.2.1 (ix_in h11667.2.2 (by omega)) dX12_weightOf_6 ?_
  have u11669 := ti_rng (pI P b11665 (a1.toInt.toNat))
  refine b_icmp_ge C 19 dX12_weightOf_7 (by decide) (fun h11668 => ?_) (fun h11668 => ?_)
  · have h11668 : (pI P b11665 (a1.toInt.toNat)).toInt ≤ a2.toInt := h11668
    refine g_iconst (v := 1) C dX12_weightOf_19 (by decide) ?_
    obtain ⟨b11670, e11671, h11672⟩ := I.fld (ha0) 14 13 3 rfl
    exact ret _ _ _ _ _ _ dX12_weightOf_20 rfl (by decide) (by decide) ⟨rfl, (by decide), (fun b9 c9 e9 f9 => by rw [e11666] at e9; cases e9; rw [e11671] at f9; cases f9; show (1 : Int) = wt (pI P b11665 (a1.toInt.toNat)).toInt (pI P b11670 (a1.toInt.toNat)).toInt a2.toInt.toNat; unfold wt; split <;> omega)⟩
  · have h11668 : a2.toInt < (pI P b11665 (a1.toInt.toNat)).toInt := h11668
    refine g_aload_n C dX12_weightOf_10 rfl 0 rfl ?_
    obtain ⟨b11673, e11674, h11675⟩ := I.fld (ha0) 14 13 3 rfl
    refine g_getR C fi_X12_57 rfl e11674 (ha0).1 (ha0).2 dX12_weightOf_11 ?_
    refine g_iload_n C dX12_weightOf_14 rfl 1 rfl ?_
    refine g_iald (j := (a1.toInt.toNat)) C h11675.1 h11675.2.1 (ix_in h11675.2.2 (by omega)) dX12_weightOf_15 ?_
    have h11676 := I.arr e11674 rfl (a1.toInt.toNat)
    refine g_goto C 20 dX12_weightOf_16 (by decide) ?_
    exact ret _ _ _ _ _ _ dX12_weightOf_20 rfl (by decide) (by decide) ⟨rfl, (by omega), (fun b9 c9 e9 f9 => by rw [e11666] at e9; cases e9; rw [e11674] at f9; cases f9; show (pI P b11673 (a1.toInt.toNat)).toInt = wt (pI P b11665 (a1.toInt.toNat)).toInt (pI P b11673 (a1.toInt.toNat)).toInt a2.toInt.toNat; unfold wt; split <;> omega)⟩
theorem dX12_setOf_57 : decode cX12_setOf 57 = .ok (.iload 6, 2) := by decide +kernel
theorem dX12_setOf_59 : decode cX12_setOf 59 = .ok (.iload 4, 2) := by decide +kernel
theorem dX12_setOf_61 : decode cX12_setOf 61 = .ok (.iload 7, 2) := by decide +kernel
theorem dX12_setOf_63 : decode cX12_setOf 63 = .ok (.ishr, 1) := by decide +kernel
theorem dX12_setOf_64 : decode cX12_setOf 64 = .ok (.iconst 1, 1) := by decide +kernel
theorem dX12_setOf_65 : decode cX12_setOf 65 = .ok (.iand, 1) := by decide +kernel
theorem dX12_setOf_66 : decode cX12_setOf 66 = .ok (.ifCond .ne 13, 3) := by decide +kernel
theorem dX12_setOf_69 : decode cX12_setOf 69 = .ok (.aload_n 0, 1) := by decide +kernel
theorem dX12_setOf_70 : decode cX12_setOf 70 = .ok (.iload_n 1, 1) := by decide +kernel
theorem dX12_setOf_71 : decode cX12_setOf 71 = .ok (.iload 7, 2) := by decide +kernel
theorem dX12_setOf_73 : decode cX12_setOf 73 = .ok (.invokevirtual 255, 3) := by decide +kernel
theorem dX12_setOf_76 : decode cX12_setOf 76 = .ok (.goto 4, 3) := by decide +kernel
theorem dX12_setOf_79 : decode cX12_setOf 79 = .ok (.iconst 0, 1) := by decide +kernel
theorem dX12_setOf_80 : decode cX12_setOf 80 = .ok (.iadd, 1) := by decide +kernel
theorem dX12_setOf_81 : decode cX12_setOf 81 = .ok (.istore 6, 2) := by decide +kernel
theorem dX12_setOf_83 : decode cX12_setOf 83 = .ok (.iinc 7 1, 3) := by decide +kernel
theorem dX12_setOf_86 : decode cX12_setOf 86 = .ok (.goto (-39), 3) := by decide +kernel
theorem dX12_setOf_114 : decode cX12_setOf 114 = .ok (.goto 4, 3) := by decide +kernel
theorem dX12_setOf_118 : decode cX12_setOf 118 = .ok (.istore 9, 2) := by decide +kernel
theorem dX12_setOf_120 : decode cX12_setOf 120 = .ok (.iload 9, 2) := by decide +kernel
theorem dX12_setOf_122 : decode cX12_setOf 122 = .ok (.iload 7, 2) := by decide +kernel
theorem dX12_setOf_124 : decode cX12_setOf 124 = .ok (.if_icmp .gt 35, 3) := by decide +kernel
theorem dX12_setOf_127 : decode cX12_setOf 127 = .ok (.iinc 8 1, 3) := by decide +kernel
theorem dX12_setOf_130 : decode cX12_setOf 130 = .ok (.iload 9, 2) := by decide +kernel
theorem dX12_setOf_132 : decode cX12_setOf 132 = .ok (.iload 4, 2) := by decide +kernel
theorem dX12_setOf_134 : decode cX12_setOf 134 = .ok (.iload 8, 2) := by decide +kernel
theorem dX12_setOf_136 : decode cX12_setOf 136 = .ok (.ishr, 1) := by decide +kernel
theorem dX12_setOf_137 : decode cX12_setOf 137 = .ok (.iconst 1, 1) := by decide +kernel
theorem dX12_setOf_138 : decode cX12_setOf 138 = .ok (.iand, 1) := by decide +kernel
theorem dX12_setOf_139 : decode cX12_setOf 139 = .ok (.ifCond .ne 13, 3) := by decide +kernel
theorem dX12_setOf_142 : decode cX12_setOf 142 = .ok (.aload_n 0, 1) := by decide +kernel
theorem dX12_setOf_143 : decode cX12_setOf 143 = .ok (.iload_n 1, 1) := by decide +kernel
theorem dX12_setOf_144 : decode cX12_setOf 144 = .ok (.iload 8, 2) := by decide +kernel
theorem dX12_setOf_146 : decode cX12_setOf 146 = .ok (.invokevirtual 255, 3) := by decide +kernel
theorem dX12_setOf_149 : decode cX12_setOf 149 = .ok (.goto 4, 3) := by decide +kernel
theorem dX12_setOf_152 : decode cX12_setOf 152 = .ok (.iconst 0, 1) := by decide +kernel
theorem dX12_setOf_153 : decode cX12_setOf 153 = .ok (.iadd, 1) := by decide +kernel
theorem dX12_setOf_154 : decode cX12_setOf 154 = .ok (.istore 9, 2) := by decide +kernel
theorem dX12_setOf_156 : decode cX12_setOf 156 = .ok (.goto (-36), 3) := by decide +kernel
theorem dX12_setOf_159 : decode cX12_setOf 159 = .ok (.iload 4, 2) := by decide +kernel
theorem dX12_setOf_161 : decode cX12_setOf 161 = .ok (.iconst 1, 1) := by decide +kernel
theorem dX12_setOf_162 : decode cX12_setOf 162 = .ok (.iload 8, 2) := by decide +kernel
theorem dX12_setOf_164 : decode cX12_setOf 164 = .ok (.ishl, 1) := by decide +kernel
theorem dX12_setOf_165 : decode cX12_setOf 165 = .ok (.ior, 1) := by decide +kernel
theorem dX12_setOf_166 : decode cX12_setOf 166 = .ok (.istore 4, 2) := by decide +kernel
theorem dX12_setOf_168 : decode cX12_setOf 168 = .ok (.iinc 5 1, 3) := by decide +kernel
theorem dX12_setOf_171 : decode cX12_setOf 171 = .ok (.goto (-136), 3) := by decide +kernel
theorem dX12_setOf_174 : decode cX12_setOf 174 = .ok (.iload 4, 2) := by decide +kernel
theorem dX12_setOf_176 : decode cX12_setOf 176 = .ok (.ireturn, 1) := by decide +kernel
set_option maxHeartbeats 4000000 in
set_option maxRecDepth 100000 in
theorem s_X12_setOf {P : PP} {a0 : Nat} {a1 : Int32} {a2 : Int32} (I : IM P a0) (ha1 : 0 ≤ a1.toInt ∧ a1.toInt ≤ 1) (hf0 : ∀ b, pR P a0 10 = some b → 1 ≤ (pI P b (a1.toInt.toNat)).toInt ∧ (pI P b (a1.toInt.toNat)).toInt ≤ 16) (hW : MW P a0) : CtrI yX12_setOf cX12_setOf 10 (some Jvm.ClassFile.FieldType.int) ({ frames := 3, cells := 0, slots := 0, locals := 192 } : Room) 0 0 P [.ref a0, .int a1, .int a2] (fun r P2 => IM P2 a0 ∧ EM [] a0 P P2 ∧ MW P2 a0 ∧ (True)) := by
  refine enI (lv := [(0, .ref a0), (1, .int a1), (2, .int a2)]) (by decide) (Nat.le_of_ble_eq_true rfl) rfl (fun E D cy C Ci0 ret => ?_)
  have ha0 := I.2.1
  have J35 : ∀ (n35 : Nat) (P35 : PP) (v35_3 : Int32) (v35_4 : Int32) (v35_5 : Int32), (20 - v35_5.toInt).toNat < n35 → (IM P35 a0) → (EM [] a0 P P35) → (MW P35 a0) → (1 ≤ v35_3.toInt ∧ v35_3.toInt ≤ 20) → (0 ≤ v35_5.toInt ∧ v35_5.toInt ≤ 20) → (∀ b, pR P35 a0 10 = some b → 1 ≤ (pI P35 b (a1.toInt.toNat)).toInt ∧ (pI P35 b (a1.toInt.toNat)).toInt ≤ 16) → (cB v35_4 20 ≤ v35_5.toInt) → (0 ≤ v35_5.toInt) → (∀ b910 b915, pR P35 a0 10 = some b910 → pR P35 a0 15 = some b915 → v35_3.toInt ≤ ((pI P b910 (a1.toInt.toNat)).toInt + (pI P b915 (a1.toInt.toNat)).toInt)) → G E ({ frames := 3, cells := 0, slots := 0, locals := 192 } : Room) D cy 10 P35 0 0 35 [(0, .ref a0), (1, .int a1), (3, .int v35_3), (4, .int v35_4), (5, .int v35_5)] [] := by
    intro n35
    induction n35 with
    | zero => intro P35 v35_3 v35_4 v35_5 hm35 I35 X35 W35 hv35_3 hv35_5 hq35_0 rel35_0 rel35_1 rel35_2; omega
    | succ n35 ih35 =>
      intro P35 v35_3 v35_4 v35_5 hm35 I35 X35 W35 hv35_3 hv35_5 hq35_0 rel35_0 rel35_1 rel35_2
      have h15601 := X35.at ha0
      obtain ⟨b15602, e15603, h15604⟩ := I35.fld (h15601) 10 13 2 rfl
      have hq35_0 := hq35_0 b15602 e15603
      obtain ⟨b15605, e15606, h15607⟩ := I35.fld (h15601) 15 13 3 rfl
      have rel35_2 := rel35_2 b15602 b15605 e15603 e15606
      have h15608 := I.arr (EM.refB X35 ha0 e15603) rfl (a1.toInt.toNat)
      have h15609 := I.arr (EM.refB X35 ha0 e15606) rfl (a1.toInt.toNat)
      have J120 : ∀ (n120 : Nat) (P120 : PP) (v120_7 : Int32) (v120_8 : Int32) (v120_9 : Int32), (20 - v120_8.toInt).toNat < n120 → (IM P120 a0) → (EM [] a0 P P120) → (MW P120 a0) → (0 ≤ v35_5.toInt ∧ v35_5.toInt ≤ 19) → (-179 ≤ v120_7.toInt ∧ v120_7.toInt ≤ 179) → (0 ≤ v120_8.toInt ∧ v120_8.toInt ≤ 19) → (0 ≤ v120_9.toInt ∧ v120_9.toInt ≤ 180) → (∀ b, pR P120 a0 10 = some b → 1 ≤ (pI P120 b (a1.toInt.toNat)).toInt ∧ (pI P120 b (a1.toInt.toNat)).toInt ≤ 16) → (∀ b913 b914, pR P120 a0 13 = some b913 → pR P120 a0 14 = some b914 → v120_9.toInt = cS v35_4 (pI P b913 (a1.toInt.toNat)).toInt (pI P b914 (a1.toInt.toNat)).toInt (v120_8.toInt + 1 : Int).toNat) → (∀ b910 b915, pR P120 a0 10 = some b910 → pR P120 a0 15 = some b915 → 0 ≤ v120_8.toInt ∧ v120_8.toInt < ((pI P b910 (a1.toInt.toNat)).toInt + (pI P b915 (a1.toInt.toNat)).toInt)) → (∀ b910 b913 b914 b915, pR P120 a0 10 = some b910 → pR P120 a0 13 = some b913 → pR P120 a0 14 = some b914 → pR P120 a0 15 = some b915 → v120_7.toInt < cS v35_4 (pI P b913 (a1.toInt.toNat)).toInt (pI P b914 (a1.toInt.toNat)).toInt (((pI P b910 (a1.toInt.toNat)).toInt + (pI P b915 (a1.toInt.toNat)).toInt) : Int).toNat) → (0 ≤ v120_9.toInt ∧ v120_9.toInt ≤ 9 * (v120_8.toInt + 1)) → (∀ b910 b915, pR P120 a0 10 = some b910 → pR P120 a0 15 = some b915 → v35_3.toInt ≤ ((pI P b910 (a1.toInt.toNat)).toInt + (pI P b915 (a1.toInt.toNat)).toInt)) → (v35_5.toInt < v35_3.toInt) → G E ({ frames := 3, cells := 0, slots := 0, locals := 192 } : Room) D cy 10 P120 0 0 120 [(0, .ref a0), (1, .int a1), (3, .int v35_3), (4, .int v35_4), (5, .int v35_5), (7, .int v120_7), (8, .int v120_8), (9, .int v120_9)] [] := by
        intro n120
        induction n120 with
        | zero => intro P120 v120_7 v120_8 v120_9 hm120 I120 X120 W120 hv120_5 hv120_7 hv120_8 hv120_9 hq120_0 rel120_0 rel120_1 rel120_2 rel120_3 rel120_4 rel120_5; omega
        | succ n120 ih120 =>
          intro P120 v120_7 v120_8 v120_9 hm120 I120 X120 W120 hv120_5 hv120_7 hv120_8 hv120_9 hq120_0 rel120_0 rel120_1 rel120_2 rel120_3 rel120_4 rel120_5
          have h15610 := X120.at ha0
          obtain ⟨b15611, e15612, h15613⟩ := I120.fld (h15610) 10 13 2 rfl
          have hq120_0 := hq120_0 b15611 e15612
          obtain ⟨b15614, e15615, h15616⟩ := I120.fld (h15610) 13 13 3 rfl
          obtain ⟨b15617, e15618, h15619⟩ := I120.fld (h15610) 14 13 3 rfl
          have rel120_0 := rel120_0 b15614 b15617 e15615 e15618
          have h15620 := I.arr (EM.refB X120 ha0 e15618) rfl (a1.toInt.toNat)
          obtain ⟨b15621, e15622, h15623⟩ := I120.fld (h15610) 15 13 3 rfl
          have rel120_1 := rel120_1 b15611 b15621 e15612 e15622
          have h15624 := I.arr (EM.refB X120 ha0 e15612) rfl (a1.toInt.toNat)
          have h15625 := I.arr (EM.refB X120 ha0 e15622) rfl (a1.toInt.toNat)
          have rel120_2 := rel120_2 b15611 b15614 b15617 b15621 e15612 e15615 e15618 e15622
          have h15626 := I.arr (EM.refB X120 ha0 e15618) rfl (a1.toInt.toNat)
          have h15627 := I.arr (EM.refB X120 ha0 e15612) rfl (a1.toInt.toNat)
          have h15628 := I.arr (EM.refB X120 ha0 e15622) rfl (a1.toInt.toNat)
          have rel120_4 := rel120_4 b15611 b15621 e15612 e15622
          have h15629 := I.arr (EM.refB X120 ha0 e15612) rfl (a1.toInt.toNat)
          have h15630 := I.arr (EM.refB X120 ha0 e15622) rfl (a1.toInt.toNat)
          have J153 : ∀ (v153_8 : Int32) (v153_s0 : Int32), (0 ≤ v35_5.toInt ∧ v35_5.toInt ≤ 19) → (0 ≤ v120_7.toInt ∧ v120_7.toInt ≤ 179) → (1 ≤ v153_8.toInt ∧ v153_8.toInt ≤ 19) → (0 ≤ v153_s0.toInt ∧ v153_s0.toInt ≤ 9) → (0 ≤ v120_9.toInt ∧ v120_9.toInt ≤ 179) → (∀ b, pR P120 a0 10 = some b → 1 ≤ (pI P120 b (a1.toInt.toNat)).toInt ∧ (pI P120 b (a1.toInt.toNat)).toInt ≤ 16) → (∀ b913 b914, pR P120 a0 13 = some b913 → pR P120 a0 14 = some b914 → v120_9.toInt = cS v35_4 (pI P b913 (a1.toInt.toNat)).toInt (pI P b914 (a1.toInt.toNat)).toInt (v153_8.toInt : Int).toNat) → (∀ b913 b914, pR P120 a0 13 = some b913 → pR P120 a0 14 = some b914 → v153_s0.toInt = fS v35_4 (pI P b913 (a1.toInt.toNat)).toInt (pI P b914 (a1.toInt.toNat)).toInt (v153_8.toInt : Int).toNat) → (∀ b910 b915, pR P120 a0 10 = some b910 → pR P120 a0 15 = some b915 → 0 ≤ v153_8.toInt ∧ v153_8.toInt < ((pI P b910 (a1.toInt.toNat)).toInt + (pI P b915 (a1.toInt.toNat)).toInt)) → (∀ b910 b913 b914 b915, pR P120 a0 10 = some b910 → pR P120 a0 13 = some b913 → pR P120 a0 14 = some b914 → pR P120 a0 15 = some b915 → v120_7.toInt < cS v35_4 (pI P b913 (a1.toInt.toNat)).toInt (pI P b914 (a1.toInt.toNat)).toInt (((pI P b910 (a1.toInt.toNat)).toInt + (pI P b915 (a1.toInt.toNat)).toInt) : Int).toNat) → (0 ≤ v120_9.toInt ∧ v120_9.toInt ≤ 9 * v153_8.toInt) → (v153_8.toInt = v120_8.toInt + 1) → (∀ b910 b915, pR P120 a0 10 = some b910 → pR P120 a0 15 = some b915 → v35_3.toInt ≤ ((pI P b910 (a1.toInt.toNat)).toInt + (pI P b915 (a1.toInt.toNat)).toInt)) → (v35_5.toInt < v35_3.toInt) → G E ({ frames := 3, cells := 0, slots := 0, locals := 192 } : Room) D cy 10 P120 0 0 153 [(0, .ref a0), (1, .int a1), (3, .int v35_3), (4, .int v35_4), (5, .int v35_5), (7, .int v120_7), (8, .int v153_8)] [.int v153_s0, .int v120_9] := by
            intro v153_8 v153_s0 hv153_5 hv153_7 hv153_8 hv153_s0 hv153_s1 hq153_0 rel153_0 rel153_1 rel153_2 rel153_3 rel153_4 rel153_5 rel153_6 rel153_7
            have h15631 := X120.at ha0
            obtain ⟨b15632, e15633, h15634⟩ := I120.fld (h15631) 10 13 2 rfl
            have hq153_0 := hq153_0 b15632 e15633
            obtain ⟨b15635, e15636, h15637⟩ := I120.fld (h15631) 13 13 3 rfl
            obtain ⟨b15638, e15639, h15640⟩ := I120.fld (h15631) 14 13 3 rfl
            have rel153_0 := rel153_0 b15635 b15638 e15636 e15639
            have h15641 := I.arr (EM.refB X120 ha0 e15639) rfl (a1.toInt.toNat)
            have rel153_1 := rel153_1 b15635 b15638 e15636 e15639
            have h15642 := I.arr (EM.refB X120 ha0 e15639) rfl (a1.toInt.toNat)
            obtain ⟨b15643, e15644, h15645⟩ := I120.fld (h15631) 15 13 3 rfl
            have rel153_2 := rel153_2 b15632 b15643 e15633 e15644
            have h15646 := I.arr (EM.refB X120 ha0 e15633) rfl (a1.toInt.toNat)
            have h15647 := I.arr (EM.refB X120 ha0 e15644) rfl (a1.toInt.toNat)
            have rel153_3 := rel153_3 b15632 b15635 b15638 b15643 e15633 e15636 e15639 e15644
            have h15648 := I.arr (EM.refB X120 ha0 e15639) rfl (a1.toInt.toNat)
            have h15649 := I.arr (EM.refB X120 ha0 e15633) rfl (a1.toInt.toNat)
            have h15650 := I.arr (EM.refB X120 ha0 e15644) rfl (a1.toInt.toNat)
            have rel153_6 := rel153_6 b15632 b15643 e15633 e15644
            have h15651 := I.arr (EM.refB X120 ha0 e15633) rfl (a1.toInt.toNat)
            have h15652 := I.arr (EM.refB X120 ha0 e15644) rfl (a1.toInt.toNat)
            have hc := hW.1 b15632 b15638 (EM.refB X120 ha0 (e15633)) (EM.refB X120 ha0 (e15639)) (a1.toInt.toNat) (by omega) (by have h9 := hf0 _ (EM.refB X120 ha0 (e15633)); omega)
            have h15653 := I.arr (EM.refB X120 ha0 (e15633)) rfl (a1.toInt.toNat)
            have h15654 := I.arr (EM.refB X120 ha0 (e15639)) rfl (a1.toInt.toNat)
            have h15655 := I.arr (EM.refB X120 ha0 (e15644)) rfl (a1.toInt.toNat)
            have q15656 := X120.keepA (EM.refB X120 ha0 (e15633)) (by decide) rfl (a1.toInt.toNat)
            have q15657 := X120.keepA (EM.refB X120 ha0 (e15639)) (by decide) rfl (a1.toInt.toNat)
            have q15658 := X120.keepA (EM.refB X120 ha0 (e15644)) (by decide) rfl (a1.toInt.toNat)
            refine s_iadd C dX12_setOf_153 (by show -2147483648 ≤ v120_9.toInt + v153_s0.toInt ∧ v120_9.toInt + v153_s0.toInt ≤ 2147483647; omega) (fun z15659 h15660 => ?_)
            have h15660 : z15659.toInt = v120_9.toInt + v153_s0.toInt := h15660
            refine g_istore (lv' := [(9, .int z15659), (0, .ref a0), (1, .int a1), (3, .int v35_3), (4, .int v35_4), (5, .int v35_5), (7, .int v120_7), (8, .int v153_8)]) C dX12_setOf_154 (by decide) rfl ?_
            have st := cS_step (s := v35_4) (a := (pI P b15635 (a1.toInt.toNat)).toInt) (c := (pI P b15638 (a1.toInt.toNat)).toInt) (d := v153_8.toInt) (d2 := v153_8.toInt + 1) (by omega) (by omega)
            refine g_goto C 120 dX12_setOf_156 (by decide) ?_
            refine g_lv (lv' := [(0, .ref a0), (1, .int a1), (3, .int v35_3), (4, .int v35_4), (5, .int v35_5), (7, .int v120_7), (8, .int v153_8), (9, .int z15659)]) [1, 2, 3, 4, 5, 6, 7, 0] rfl ?_
            exact ih120 P120 v120_7 v153_8 z15659 (by omega) I120 X120 W120 (by omega) (by omega) (by omega) (by omega) (fun b9 e9 => by rw [e15633] at e9; cases e9; omega) (by intro b913 b914 e913 e914; rw [e15636] at e913; cases e913; rw [e15639] at e914; cases e914; show z15659.toInt = cS v35_4 (pI P b15635 (a1.toInt.toNat)).toInt (pI P b15638 (a1.toInt.toNat)).toInt (v153_8.toInt + 1 : Int).toNat; omega) (by intro b910 b915 e910 e915; rw [e15633] at e910; cases e910; rw [e15644] at e915; cases e915; show 0 ≤ v153_8.toInt ∧ v153_8.toInt < ((pI P b15632 (a1.toInt.toNat)).toInt + (pI P b15643 (a1.toInt.toNat)).toInt); omega) (by intro b910 b913 b914 b915 e910 e913 e914 e915; rw [e15633] at e910; cases e910; rw [e15636] at e913; cases e913; rw [e15639] at e914; cases e914; rw [e15644] at e915; cases e915; show v120_7.toInt < cS v35_4 (pI P b15635 (a1.toInt.toNat)).toInt (pI P b15638 (a1.toInt.toNat)).toInt (((pI P b15632 (a1.toInt.toNat)).toInt + (pI P b15643 (a1.toInt.toNat)).toInt) : Int).toNat; omega) (by show 0 ≤ z15659.toInt ∧ z15659.toInt ≤ 9 * (v153_8.toInt + 1); omega) (by intro b910 b915 e910 e915; rw [e15633] at e910; cases e910; rw [e15644] at e915; cases e915; show v35_3.toInt ≤ ((pI P b15632 (a1.toInt.toNat)).toInt + (pI P b15643 (a1.toInt.toNat)).toInt); omega) (by show v35_5.toInt < v35_3.toInt; omega)
          have hc := hW.1 b15611 b15617 (EM.refB X120 ha0 (e15612)) (EM.refB X120 ha0 (e15618)) (a1.toInt.toNat) (by omega) (by have h9 := hf0 _ (EM.refB X120 ha0 (e15612)); omega)
          have h15661 := I.arr (EM.refB X120 ha0 (e15612)) rfl (a1.toInt.toNat)
          have h15662 := I.arr (EM.refB X120 ha0 (e15618)) rfl (a1.toInt.toNat)
          have h15663 := I.arr (EM.refB X120 ha0 (e15622)) rfl (a1.toInt.toNat)
          have q15664 := X120.keepA (EM.refB X120 ha0 (e15612)) (by decide) rfl (a1.toInt.toNat)
          have q15665 := X120.keepA (EM.refB X120 ha0 (e15618)) (by decide) rfl (a1.toInt.toNat)
          have q15666 := X120.keepA (EM.refB X120 ha0 (e15622)) (by decide) rfl (a1.toInt.toNat)
          refine g_iload C dX12_setOf_120 7 rfl ?_
          refine g_iload C dX12_setOf_122 5 rfl ?_
          refine b_icmp_gt C 159 dX12_setOf_124 (by decide) (fun h15667 => ?_) (fun h15667 => ?_)
          · have h15667 : v120_7.toInt < v120_9.toInt := h15667
            refine g_iload C dX12_setOf_159 3 rfl ?_
            refine g_iconst (v := 1) C dX12_setOf_161 (by decide) ?_
            refine g_iload C dX12_setOf_162 6 rfl ?_
            refine g_ishl C dX12_setOf_164 ?_
            refine g_topi (fun z15668 h15669 => ?_)
            refine g_ior C dX12_setOf_165 ?_
            refine g_topi (fun z15670 h15671 => ?_)
            have hcb := set_bit h15669 h15671 (by omega)
            refine g_istore (lv' := [(4, .int z15670), (0, .ref a0), (1, .int a1), (3, .int v35_3), (5, .int v35_5), (7, .int v120_7), (8, .int v120_8), (9, .int v120_9)]) C dX12_setOf_166 (by decide) rfl ?_
            refine s_iinc (lv0 := [(4, .int z15670), (0, .ref a0), (1, .int a1), (3, .int v35_3), (7, .int v120_7), (8, .int v120_8), (9, .int v120_9)]) (m := 1) C dX12_setOf_168 4 rfl (by decide) rfl (by decide) (by omega) (fun z15672 h15673 => ?_)
            have h15673 : z15672.toInt = v35_5.toInt + 1 := h15673
            refine g_goto C 35 dX12_setOf_171 (by decide) ?_
            refine g_lv (lv' := [(0, .ref a0), (1, .int a1), (3, .int v35_3), (4, .int z15670), (5, .int z15672)]) [2, 3, 4, 1, 0] rfl ?_
            exact ih35 P120 v35_3 z15670 z15672 (by omega) I120 X120 W120 (by omega) (by omega) (fun b9 e9 => by rw [e15612] at e9; cases e9; omega) (by show cB z15670 20 ≤ z15672.toInt; omega) (by show 0 ≤ z15672.toInt; omega) (by intro b910 b915 e910 e915; rw [e15612] at e910; cases e910; rw [e15622] at e915; cases e915; show v35_3.toInt ≤ ((pI P b15611 (a1.toInt.toNat)).toInt + (pI P b15621 (a1.toInt.toNat)).toInt); omega)
          · have h15667 : v120_9.toInt ≤ v120_7.toInt := h15667
            have hd : v120_8.toInt + 1 ≠ (pI P b15611 (a1.toInt.toNat)).toInt + (pI P b15621 (a1.toInt.toNat)).toInt := fun h9 => by have h8 := rel120_2; rw [show ((pI P b15611 (a1.toInt.toNat)).toInt + (pI P b15621 (a1.toInt.toNat)).toInt).toNat = (v120_8.toInt + 1).toNat by omega] at h8; omega
            refine s_iinc (lv0 := [(0, .ref a0), (1, .int a1), (3, .int v35_3), (4, .int v35_4), (5, .int v35_5), (7, .int v120_7), (9, .int v120_9)]) (m := 1) C dX12_setOf_127 6 rfl (by decide) rfl (by decide) (by omega) (fun z15674 h15675 => ?_)
            have h15675 : z15674.toInt = v120_8.toInt + 1 := h15675
            have hcz : cS v35_4 ((pI P b15614 (a1.toInt.toNat)).toInt) ((pI P b15617 (a1.toInt.toNat)).toInt) (v120_8.toInt + 1).toNat = cS v35_4 ((pI P b15614 (a1.toInt.toNat)).toInt) ((pI P b15617 (a1.toInt.toNat)).toInt) (z15674.toInt).toNat := by rw [show v120_8.toInt + 1 = z15674.toInt by omega]
            refine g_iload C dX12_setOf_130 7 rfl ?_
            refine g_iload C dX12_setOf_132 4 rfl ?_
            refine g_iload C dX12_setOf_134 0 rfl ?_
            refine g_ishr C dX12_setOf_136 ?_
            refine g_topi (fun z15676 h15677 => ?_)
            refine g_iconst (v := 1) C dX12_setOf_137 (by decide) ?_
            refine g_iand C dX12_setOf_138 ?_
            refine g_topi (fun z15678 h15679 => ?_)
            have hbv := bit_val h15677 h15679 (by omega)
            have hfs := fS_of (p := (z15674.toInt).toNat) ((pI P b15614 (a1.toInt.toNat)).toInt) ((pI P b15617 (a1.toInt.toNat)).toInt) hbv
            have hwr := wt_rg (a := (pI P b15614 (a1.toInt.toNat)).toInt) (z15674.toInt).toNat (show 1 ≤ (pI P b15617 (a1.toInt.toNat)).toInt ∧ (pI P b15617 (a1.toInt.toNat)).toInt ≤ 9 by omega)
            refine b_if_ne C 152 dX12_setOf_139 (by decide) (fun h15680 => ?_) (fun h15680 => ?_)
            · have h15680 : z15678.toInt ≠ 0 := ti_ne h15680
              refine g_iconst (v := 0) C dX12_setOf_152 (by decide) ?_
              refine g_lv (lv' := [(0, .ref a0), (1, .int a1), (3, .int v35_3), (4, .int v35_4), (5, .int v35_5), (7, .int v120_7), (8, .int z15674)]) [1, 2, 3, 4, 5, 6, 0] rfl ?_
              exact J153 z15674 0 (by omega) (by omega) (by omega) (by decide) (by omega) (fun b9 e9 => by rw [e15612] at e9; cases e9; omega) (by intro b913 b914 e913 e914; rw [e15615] at e913; cases e913; rw [e15618] at e914; cases e914; show v120_9.toInt = cS v35_4 (pI P b15614 (a1.toInt.toNat)).toInt (pI P b15617 (a1.toInt.toNat)).toInt (z15674.toInt : Int).toNat; omega) (by intro b913 b914 e913 e914; rw [e15615] at e913; cases e913; rw [e15618] at e914; cases e914; show 0 = fS v35_4 (pI P b15614 (a1.toInt.toNat)).toInt (pI P b15617 (a1.toInt.toNat)).toInt (z15674.toInt : Int).toNat; omega) (by intro b910 b915 e910 e915; rw [e15612] at e910; cases e910; rw [e15622] at e915; cases e915; show 0 ≤ z15674.toInt ∧ z15674.toInt < ((pI P b15611 (a1.toInt.toNat)).toInt + (pI P b15621 (a1.toInt.toNat)).toInt); omega) (by intro b910 b913 b914 b915 e910 e913 e914 e915; rw [e15612] at e910; cases e910; rw [e15615] at e913; cases e913; rw [e15618] at e914; cases e914; rw [e15622] at e915; cases e915; show v120_7.toInt < cS v35_4 (pI P b15614 (a1.toInt.toNat)).toInt (pI P b15617 (a1.toInt.toNat)).toInt (((pI P b15611 (a1.toInt.toNat)).toInt + (pI P b15621 (a1.toInt.toNat)).toInt) : Int).toNat; omega) (by show 0 ≤ v120_9.toInt ∧ v120_9.toInt ≤ 9 * z15674.toInt; omega) (by show z15674.toInt = v120_8.toInt + 1; omega) (by intro b910 b915 e910 e915; rw [e15612] at e910; cases e910; rw [e15622] at e915; cases e915; show v35_3.toInt ≤ ((pI P b15611 (a1.toInt.toNat)).toInt + (pI P b15621 (a1.toInt.toNat)).toInt); omega) (by show v35_5.toInt < v35_3.toInt; omega)
            · have h15680 : z15678.toInt = 0 := congrArg Int32.toInt h15680
              refine g_aload_n C dX12_setOf_142 rfl 1 rfl ?_
              refine g_iload_n C dX12_setOf_143 rfl 2 rfl ?_
              refine g_iload C dX12_setOf_144 0 rfl ?_
              refine g_callVI (rest := [.int v120_9]) C mv_X12_255 [.int a1, .int z15674] (s_X12_weightOf I120 (by omega) (by omega) W120) (h15610).1 (h15610).2 rfl rfl (by decide) (Nat.le_of_ble_eq_true rfl) (by decide) dX12_setOf_146 (fun r15681 Y15682 h15683 => ?_)
              obtain ⟨rfl, h15683⟩ := h15683
              obtain ⟨h15683, hi15684⟩ := h15683
              have hi15684 := hi15684 b15614 b15617 e15615 e15618
              rw [X120.2.2.2 13 (by decide) rfl b15614 (EM.refB X120 ha0 e15615), X120.2.2.2 14 (by decide) rfl b15617 (EM.refB X120 ha0 e15618)] at hi15684
              have hi15684 : r15681.toInt = wt (pI P b15614 (a1.toInt.toNat)).toInt (pI P b15617 (a1.toInt.toNat)).toInt (z15674.toInt).toNat := hi15684
              have h15683 : 0 ≤ r15681.toInt ∧ r15681.toInt ≤ 9 := h15683
              refine g_goto C 153 dX12_setOf_149 (by decide) ?_
              refine g_lv (lv' := [(0, .ref a0), (1, .int a1), (3, .int v35_3), (4, .int v35_4), (5, .int v35_5), (7, .int v120_7), (8, .int z15674)]) [1, 2, 3, 4, 5, 6, 0] rfl ?_
              exact J153 z15674 r15681 (by omega) (by omega) (by omega) (by omega) (by omega) (fun b9 e9 => by rw [e15612] at e9; cases e9; omega) (by intro b913 b914 e913 e914; rw [e15615] at e913; cases e913; rw [e15618] at e914; cases e914; show v120_9.toInt = cS v35_4 (pI P b15614 (a1.toInt.toNat)).toInt (pI P b15617 (a1.toInt.toNat)).toInt (z15674.toInt : Int).toNat; omega) (by intro b913 b914 e913 e914; rw [e15615] at e913; cases e913; rw [e15618] at e914; cases e914; show r15681.toInt = fS v35_4 (pI P b15614 (a1.toInt.toNat)).toInt (pI P b15617 (a1.toInt.toNat)).toInt (z15674.toInt : Int).toNat; omega) (by intro b910 b915 e910 e915; rw [e15612] at e910; cases e910; rw [e15622] at e915; cases e915; show 0 ≤ z15674.toInt ∧ z15674.toInt < ((pI P b15611 (a1.toInt.toNat)).toInt + (pI P b15621 (a1.toInt.toNat)).toInt); omega) (by intro b910 b913 b914 b915 e910 e913 e914 e915; rw [e15612] at e910; cases e910; rw [e15615] at e913; cases e913; rw [e15618] at e914; cases e914; rw [e15622] at e915; cases e915; show v120_7.toInt < cS v35_4 (pI P b15614 (a1.toInt.toNat)).toInt (pI P b15617 (a1.toInt.toNat)).toInt (((pI P b15611 (a1.toInt.toNat)).toInt + (pI P b15621 (a1.toInt.toNat)).toInt) : Int).toNat; omega) (by show 0 ≤ v120_9.toInt ∧ v120_9.toInt ≤ 9 * z15674.toInt; omega) (by show z15674.toInt = v120_8.toInt + 1; omega) (by intro b910 b915 e910 e915; rw [e15612] at e910; cases e910; rw [e15622] at e915; cases e915; show v35_3.toInt ≤ ((pI P b15611 (a1.toInt.toNat)).toInt + (pI P b15621 (a1.toInt.toNat)).toInt); omega) (by show v35_5.toInt < v35_3.toInt; omega)
      have J118 : ∀ (P118 : PP) (v118_7 : Int32) (v118_s0 : Int32), (IM P118 a0) → (EM [] a0 P P118) → (MW P118 a0) → (0 ≤ v35_5.toInt ∧ v35_5.toInt ≤ 19) → (-179 ≤ v118_7.toInt ∧ v118_7.toInt ≤ 179) → (0 ≤ v118_s0.toInt ∧ v118_s0.toInt ≤ 9) → (∀ b, pR P118 a0 10 = some b → 1 ≤ (pI P118 b (a1.toInt.toNat)).toInt ∧ (pI P118 b (a1.toInt.toNat)).toInt ≤ 16) → (∀ b913 b914, pR P118 a0 13 = some b913 → pR P118 a0 14 = some b914 → v118_s0.toInt = fS v35_4 (pI P b913 (a1.toInt.toNat)).toInt (pI P b914 (a1.toInt.toNat)).toInt (0 : Int).toNat) → (∀ b910 b913 b914 b915, pR P118 a0 10 = some b910 → pR P118 a0 13 = some b913 → pR P118 a0 14 = some b914 → pR P118 a0 15 = some b915 → v118_7.toInt < cS v35_4 (pI P b913 (a1.toInt.toNat)).toInt (pI P b914 (a1.toInt.toNat)).toInt (((pI P b910 (a1.toInt.toNat)).toInt + (pI P b915 (a1.toInt.toNat)).toInt) : Int).toNat) → (∀ b910 b915, pR P118 a0 10 = some b910 → pR P118 a0 15 = some b915 → v35_3.toInt ≤ ((pI P b910 (a1.toInt.toNat)).toInt + (pI P b915 (a1.toInt.toNat)).toInt)) → (v35_5.toInt < v35_3.toInt) → G E ({ frames := 3, cells := 0, slots := 0, locals := 192 } : Room) D cy 10 P118 0 0 118 [(0, .ref a0), (1, .int a1), (3, .int v35_3), (4, .int v35_4), (5, .int v35_5), (7, .int v118_7), (8, .int 0)] [.int v118_s0] := by
        intro P118 v118_7 v118_s0 I118 X118 W118 hv118_5 hv118_7 hv118_s0 hq118_0 rel118_0 rel118_1 rel118_2 rel118_3
        have h15685 := X118.at ha0
        obtain ⟨b15686, e15687, h15688⟩ := I118.fld (h15685) 10 13 2 rfl
        have hq118_0 := hq118_0 b15686 e15687
        obtain ⟨b15689, e15690, h15691⟩ := I118.fld (h15685) 13 13 3 rfl
        obtain ⟨b15692, e15693, h15694⟩ := I118.fld (h15685) 14 13 3 rfl
        have rel118_0 := rel118_0 b15689 b15692 e15690 e15693
        have h15695 := I.arr (EM.refB X118 ha0 e15693) rfl (a1.toInt.toNat)
        obtain ⟨b15696, e15697, h15698⟩ := I118.fld (h15685) 15 13 3 rfl
        have rel118_1 := rel118_1 b15686 b15689 b15692 b15696 e15687 e15690 e15693 e15697
        have h15699 := I.arr (EM.refB X118 ha0 e15693) rfl (a1.toInt.toNat)
        have h15700 := I.arr (EM.refB X118 ha0 e15687) rfl (a1.toInt.toNat)
        have h15701 := I.arr (EM.refB X118 ha0 e15697) rfl (a1.toInt.toNat)
        have rel118_2 := rel118_2 b15686 b15696 e15687 e15697
        have h15702 := I.arr (EM.refB X118 ha0 e15687) rfl (a1.toInt.toNat)
        have h15703 := I.arr (EM.refB X118 ha0 e15697) rfl (a1.toInt.toNat)
        have hc := hW.1 b15686 b15692 (EM.refB X118 ha0 (e15687)) (EM.refB X118 ha0 (e15693)) (a1.toInt.toNat) (by omega) (by have h9 := hf0 _ (EM.refB X118 ha0 (e15687)); omega)
        have h15704 := I.arr (EM.refB X118 ha0 (e15687)) rfl (a1.toInt.toNat)
        have h15705 := I.arr (EM.refB X118 ha0 (e15693)) rfl (a1.toInt.toNat)
        have h15706 := I.arr (EM.refB X118 ha0 (e15697)) rfl (a1.toInt.toNat)
        have q15707 := X118.keepA (EM.refB X118 ha0 (e15687)) (by decide) rfl (a1.toInt.toNat)
        have q15708 := X118.keepA (EM.refB X118 ha0 (e15693)) (by decide) rfl (a1.toInt.toNat)
        have q15709 := X118.keepA (EM.refB X118 ha0 (e15697)) (by decide) rfl (a1.toInt.toNat)
        have s1 := cS_one (s := v35_4) (a := (pI P b15689 (a1.toInt.toNat)).toInt) (c := (pI P b15692 (a1.toInt.toNat)).toInt)
        refine g_istore (lv' := [(9, .int v118_s0), (0, .ref a0), (1, .int a1), (3, .int v35_3), (4, .int v35_4), (5, .int v35_5), (7, .int v118_7), (8, .int 0)]) C dX12_setOf_118 (by decide) rfl ?_
        refine g_lv (lv' := [(0, .ref a0), (1, .int a1), (3, .int v35_3), (4, .int v35_4), (5, .int v35_5), (7, .int v118_7), (8, .int 0), (9, .int v118_s0)]) [1, 2, 3, 4, 5, 6, 7, 0] rfl ?_
        exact J120 _ P118 v118_7 0 v118_s0 (Nat.lt_succ_self _) I118 X118 W118 (by omega) (by omega) (by decide) (by omega) (fun b9 e9 => by rw [e15687] at e9; cases e9; omega) (by intro b913 b914 e913 e914; rw [e15690] at e913; cases e913; rw [e15693] at e914; cases e914; show v118_s0.toInt = cS v35_4 (pI P b15689 (a1.toInt.toNat)).toInt (pI P b15692 (a1.toInt.toNat)).toInt (0 + 1 : Int).toNat; omega) (by intro b910 b915 e910 e915; rw [e15687] at e910; cases e910; rw [e15697] at e915; cases e915; show 0 ≤ 0 ∧ 0 < ((pI P b15686 (a1.toInt.toNat)).toInt + (pI P b15696 (a1.toInt.toNat)).toInt); omega) (by intro b910 b913 b914 b915 e910 e913 e914 e915; rw [e15687] at e910; cases e910; rw [e15690] at e913; cases e913; rw [e15693] at e914; cases e914; rw [e15697] at e915; cases e915; show v118_7.toInt < cS v35_4 (pI P b15689 (a1.toInt.toNat)).toInt (pI P b15692 (a1.toInt.toNat)).toInt (((pI P b15686 (a1.toInt.toNat)).toInt + (pI P b15696 (a1.toInt.toNat)).toInt) : Int).toNat; omega) (by show 0 ≤ v118_s0.toInt ∧ v118_s0.toInt ≤ 9 * (0 + 1); omega) (by intro b910 b915 e910 e915; rw [e15687] at e910; cases e910; rw [e15697] at e915; cases e915; show v35_3.toInt ≤ ((pI P b15686 (a1.toInt.toNat)).toInt + (pI P b15696 (a1.toInt.toNat)).toInt); omega) (by show v35_5.toInt < v35_3.toInt; omega)
      have J47 : ∀ (n47 : Nat) (v47_6 : Int32) (v47_7 : Int32), (20 - v47_7.toInt).toNat < n47 → (0 ≤ v35_5.toInt ∧ v35_5.toInt ≤ 19) → (0 ≤ v47_6.toInt ∧ v47_6.toInt ≤ 180) → (0 ≤ v47_7.toInt ∧ v47_7.toInt ≤ 20) → (∀ b, pR P35 a0 10 = some b → 1 ≤ (pI P35 b (a1.toInt.toNat)).toInt ∧ (pI P35 b (a1.toInt.toNat)).toInt ≤ 16) → (∀ b913 b914, pR P35 a0 13 = some b913 → pR P35 a0 14 = some b914 → v47_6.toInt = cS v35_4 (pI P b913 (a1.toInt.toNat)).toInt (pI P b914 (a1.toInt.toNat)).toInt (v47_7.toInt : Int).toNat) → (∀ b910 b915, pR P35 a0 10 = some b910 → pR P35 a0 15 = some b915 → v47_7.toInt ≤ ((pI P b910 (a1.toInt.toNat)).toInt + (pI P b915 (a1.toInt.toNat)).toInt)) → (0 ≤ v47_6.toInt ∧ v47_6.toInt ≤ 9 * v47_7.toInt) → (∀ b910 b915, pR P35 a0 10 = some b910 → pR P35 a0 15 = some b915 → v35_3.toInt ≤ ((pI P b910 (a1.toInt.toNat)).toInt + (pI P b915 (a1.toInt.toNat)).toInt)) → (v35_5.toInt < v35_3.toInt) → G E ({ frames := 3, cells := 0, slots := 0, locals := 192 } : Room) D cy 10 P35 0 0 47 [(0, .ref a0), (1, .int a1), (3, .int v35_3), (4, .int v35_4), (5, .int v35_5), (6, .int v47_6), (7, .int v47_7)] [] := by
        intro n47
        induction n47 with
        | zero => intro v47_6 v47_7 hm47 hv47_5 hv47_6 hv47_7 hq47_0 rel47_0 rel47_1 rel47_2 rel47_3 rel47_4; omega
        | succ n47 ih47 =>
          intro v47_6 v47_7 hm47 hv47_5 hv47_6 hv47_7 hq47_0 rel47_0 rel47_1 rel47_2 rel47_3 rel47_4
          have h15710 := X35.at ha0
          obtain ⟨b15711, e15712, h15713⟩ := I35.fld (h15710) 10 13 2 rfl
          have hq47_0 := hq47_0 b15711 e15712
          obtain ⟨b15714, e15715, h15716⟩ := I35.fld (h15710) 13 13 3 rfl
          obtain ⟨b15717, e15718, h15719⟩ := I35.fld (h15710) 14 13 3 rfl
          have rel47_0 := rel47_0 b15714 b15717 e15715 e15718
          have h15720 := I.arr (EM.refB X35 ha0 e15718) rfl (a1.toInt.toNat)
          obtain ⟨b15721, e15722, h15723⟩ := I35.fld (h15710) 15 13 3 rfl
          have rel47_1 := rel47_1 b15711 b15721 e15712 e15722
          have h15724 := I.arr (EM.refB X35 ha0 e15712) rfl (a1.toInt.toNat)
          have h15725 := I.arr (EM.refB X35 ha0 e15722) rfl (a1.toInt.toNat)
          have rel47_3 := rel47_3 b15711 b15721 e15712 e15722
          have h15726 := I.arr (EM.refB X35 ha0 e15712) rfl (a1.toInt.toNat)
          have h15727 := I.arr (EM.refB X35 ha0 e15722) rfl (a1.toInt.toNat)
          have J80 : ∀ (v80_s0 : Int32), (0 ≤ v35_5.toInt ∧ v35_5.toInt ≤ 19) → (0 ≤ v47_7.toInt ∧ v47_7.toInt ≤ 19) → (0 ≤ v80_s0.toInt ∧ v80_s0.toInt ≤ 9) → (∀ b, pR P35 a0 10 = some b → 1 ≤ (pI P35 b (a1.toInt.toNat)).toInt ∧ (pI P35 b (a1.toInt.toNat)).toInt ≤ 16) → (∀ b913 b914, pR P35 a0 13 = some b913 → pR P35 a0 14 = some b914 → v47_6.toInt = cS v35_4 (pI P b913 (a1.toInt.toNat)).toInt (pI P b914 (a1.toInt.toNat)).toInt (v47_7.toInt : Int).toNat) → (∀ b913 b914, pR P35 a0 13 = some b913 → pR P35 a0 14 = some b914 → v80_s0.toInt = fS v35_4 (pI P b913 (a1.toInt.toNat)).toInt (pI P b914 (a1.toInt.toNat)).toInt (v47_7.toInt : Int).toNat) → (∀ b910 b915, pR P35 a0 10 = some b910 → pR P35 a0 15 = some b915 → 0 ≤ v47_7.toInt ∧ v47_7.toInt < ((pI P b910 (a1.toInt.toNat)).toInt + (pI P b915 (a1.toInt.toNat)).toInt)) → (0 ≤ v47_6.toInt ∧ v47_6.toInt ≤ 9 * v47_7.toInt) → (∀ b910 b915, pR P35 a0 10 = some b910 → pR P35 a0 15 = some b915 → v35_3.toInt ≤ ((pI P b910 (a1.toInt.toNat)).toInt + (pI P b915 (a1.toInt.toNat)).toInt)) → (v35_5.toInt < v35_3.toInt) → G E ({ frames := 3, cells := 0, slots := 0, locals := 192 } : Room) D cy 10 P35 0 0 80 [(0, .ref a0), (1, .int a1), (3, .int v35_3), (4, .int v35_4), (5, .int v35_5), (7, .int v47_7)] [.int v80_s0, .int v47_6] := by
            intro v80_s0 hv80_5 hv80_7 hv80_s0 hq80_0 rel80_0 rel80_1 rel80_2 rel80_3 rel80_4 rel80_5
            have h15728 := X35.at ha0
            obtain ⟨b15729, e15730, h15731⟩ := I35.fld (h15728) 10 13 2 rfl
            have hq80_0 := hq80_0 b15729 e15730
            obtain ⟨b15732, e15733, h15734⟩ := I35.fld (h15728) 13 13 3 rfl
            obtain ⟨b15735, e15736, h15737⟩ := I35.fld (h15728) 14 13 3 rfl
            have rel80_0 := rel80_0 b15732 b15735 e15733 e15736
            have h15738 := I.arr (EM.refB X35 ha0 e15736) rfl (a1.toInt.toNat)
            have rel80_1 := rel80_1 b15732 b15735 e15733 e15736
            have h15739 := I.arr (EM.refB X35 ha0 e15736) rfl (a1.toInt.toNat)
            obtain ⟨b15740, e15741, h15742⟩ := I35.fld (h15728) 15 13 3 rfl
            have rel80_2 := rel80_2 b15729 b15740 e15730 e15741
            have h15743 := I.arr (EM.refB X35 ha0 e15730) rfl (a1.toInt.toNat)
            have h15744 := I.arr (EM.refB X35 ha0 e15741) rfl (a1.toInt.toNat)
            have rel80_4 := rel80_4 b15729 b15740 e15730 e15741
            have h15745 := I.arr (EM.refB X35 ha0 e15730) rfl (a1.toInt.toNat)
            have h15746 := I.arr (EM.refB X35 ha0 e15741) rfl (a1.toInt.toNat)
            have hc := hW.1 b15729 b15735 (EM.refB X35 ha0 (e15730)) (EM.refB X35 ha0 (e15736)) (a1.toInt.toNat) (by omega) (by have h9 := hf0 _ (EM.refB X35 ha0 (e15730)); omega)
            have h15747 := I.arr (EM.refB X35 ha0 (e15730)) rfl (a1.toInt.toNat)
            have h15748 := I.arr (EM.refB X35 ha0 (e15736)) rfl (a1.toInt.toNat)
            have h15749 := I.arr (EM.refB X35 ha0 (e15741)) rfl (a1.toInt.toNat)
            have q15750 := X35.keepA (EM.refB X35 ha0 (e15730)) (by decide) rfl (a1.toInt.toNat)
            have q15751 := X35.keepA (EM.refB X35 ha0 (e15736)) (by decide) rfl (a1.toInt.toNat)
            have q15752 := X35.keepA (EM.refB X35 ha0 (e15741)) (by decide) rfl (a1.toInt.toNat)
            refine s_iadd C dX12_setOf_80 (by show -2147483648 ≤ v47_6.toInt + v80_s0.toInt ∧ v47_6.toInt + v80_s0.toInt ≤ 2147483647; omega) (fun z15753 h15754 => ?_)
            have h15754 : z15753.toInt = v47_6.toInt + v80_s0.toInt := h15754
            refine g_istore (lv' := [(6, .int z15753), (0, .ref a0), (1, .int a1), (3, .int v35_3), (4, .int v35_4), (5, .int v35_5), (7, .int v47_7)]) C dX12_setOf_81 (by decide) rfl ?_
            refine s_iinc (lv0 := [(6, .int z15753), (0, .ref a0), (1, .int a1), (3, .int v35_3), (4, .int v35_4), (5, .int v35_5)]) (m := 1) C dX12_setOf_83 6 rfl (by decide) rfl (by decide) (by omega) (fun z15755 h15756 => ?_)
            have h15756 : z15755.toInt = v47_7.toInt + 1 := h15756
            have st := cS_step (s := v35_4) (a := (pI P b15732 (a1.toInt.toNat)).toInt) (c := (pI P b15735 (a1.toInt.toNat)).toInt) (d := v47_7.toInt) (d2 := z15755.toInt) (by omega) (by omega)
            refine g_goto C 47 dX12_setOf_86 (by decide) ?_
            refine g_lv (lv' := [(0, .ref a0), (1, .int a1), (3, .int v35_3), (4, .int v35_4), (5, .int v35_5), (6, .int z15753), (7, .int z15755)]) [2, 3, 4, 5, 6, 1, 0] rfl ?_
            exact ih47 z15753 z15755 (by omega) (by omega) (by omega) (by omega) (fun b9 e9 => by rw [e15730] at e9; cases e9; omega) (by intro b913 b914 e913 e914; rw [e15733] at e913; cases e913; rw [e15736] at e914; cases e914; show z15753.toInt = cS v35_4 (pI P b15732 (a1.toInt.toNat)).toInt (pI P b15735 (a1.toInt.toNat)).toInt (z15755.toInt : Int).toNat; omega) (by intro b910 b915 e910 e915; rw [e15730] at e910; cases e910; rw [e15741] at e915; cases e915; show z15755.toInt ≤ ((pI P b15729 (a1.toInt.toNat)).toInt + (pI P b15740 (a1.toInt.toNat)).toInt); omega) (by show 0 ≤ z15753.toInt ∧ z15753.toInt ≤ 9 * z15755.toInt; omega) (by intro b910 b915 e910 e915; rw [e15730] at e910; cases e910; rw [e15741] at e915; cases e915; show v35_3.toInt ≤ ((pI P b15729 (a1.toInt.toNat)).toInt + (pI P b15740 (a1.toInt.toNat)).toInt); omega) (by show v35_5.toInt < v35_3.toInt; omega)
          have hc := hW.1 b15711 b15717 (EM.refB X35 ha0 (e15712)) (EM.refB X35 ha0 (e15718)) (a1.toInt.toNat) (by omega) (by have h9 := hf0 _ (EM.refB X35 ha0 (e15712)); omega)
          have h15757 := I.arr (EM.refB X35 ha0 (e15712)) rfl (a1.toInt.toNat)
          have h15758 := I.arr (EM.refB X35 ha0 (e15718)) rfl (a1.toInt.toNat)
          have h15759 := I.arr (EM.refB X35 ha0 (e15722)) rfl (a1.toInt.toNat)
          have q15760 := X35.keepA (EM.refB X35 ha0 (e15712)) (by decide) rfl (a1.toInt.toNat)
          have q15761 := X35.keepA (EM.refB X35 ha0 (e15718)) (by decide) rfl (a1.toInt.toNat)
          have q15762 := X35.keepA (EM.refB X35 ha0 (e15722)) (by decide) rfl (a1.toInt.toNat)
          refine g_iload C dX12_setOf_47 6 rfl ?_
          refine g_aload_n C dX12_setOf_49 rfl 0 rfl ?_
          refine g_iload_n C dX12_setOf_50 rfl 1 rfl ?_
          refine g_callVI (rest := [.int v47_7]) C mv_X12_238 [.int a1] (s_X12_allOf I35 (by omega) W35) (h15710).1 (h15710).2 rfl rfl (by decide) (Nat.le_of_ble_eq_true rfl) (by decide) dX12_setOf_51 (fun r15763 Y15764 h15765 => ?_)
          obtain ⟨rfl, h15765⟩ := h15765
          obtain ⟨h15765, hi15766⟩ := h15765
          have hi15766 : (r15763.toInt = 0 ∧ (pI P35 b15711 (a1.toInt.toNat)).toInt = 0) ∨ r15763.toInt = (pI P35 b15711 (a1.toInt.toNat)).toInt + (pI P35 b15721 (a1.toInt.toNat)).toInt := hi15766 b15711 b15721 e15712 e15722
          have h15765 : 0 ≤ r15763.toInt ∧ r15763.toInt ≤ 20 := h15765
          refine b_icmp_ge C 89 dX12_setOf_54 (by decide) (fun h15767 => ?_) (fun h15767 => ?_)
          · have h15767 : r15763.toInt ≤ v47_7.toInt := h15767
            have htot : v47_6.toInt = cS v35_4 ((pI P b15714 (a1.toInt.toNat)).toInt) ((pI P b15717 (a1.toInt.toNat)).toInt) ((pI P b15711 (a1.toInt.toNat)).toInt + (pI P b15721 (a1.toInt.toNat)).toInt).toNat := by rw [show ((pI P b15711 (a1.toInt.toNat)).toInt + (pI P b15721 (a1.toInt.toNat)).toInt).toNat = v47_7.toInt.toNat by omega]; omega
            have hps := cS_pos (s := v35_4) (a := (pI P b15714 (a1.toInt.toNat)).toInt) (c := (pI P b15717 (a1.toInt.toNat)).toInt) (N := (pI P b15711 (a1.toInt.toNat)).toInt + (pI P b15721 (a1.toInt.toNat)).toInt) (by omega) (by omega) (by omega)
            refine g_aload_n C dX12_setOf_89 rfl 0 rfl ?_
            refine g_callVI (rest := []) C mv_X12_244 [] (s_X12_drawn I35 W35) (h15710).1 (h15710).2 rfl rfl (by decide) (Nat.le_of_ble_eq_true rfl) (by decide) dX12_setOf_90 (fun r15768 Y15769 h15770 => ?_)
            obtain ⟨Iy15771, Xy15772, W15773, h15770⟩ := h15770
            have q15774 := Xy15772.keepA e15712 (by decide) rfl (a1.toInt.toNat)
            have q15775 := Xy15772.keepA e15715 (by decide) rfl (a1.toInt.toNat)
            have q15776 := Xy15772.keepA e15718 (by decide) rfl (a1.toInt.toNat)
            have q15777 := Xy15772.keepA e15722 (by decide) rfl (a1.toInt.toNat)
            have Xz15778 : EM [] a0 P Y15769 := EM.tr ha0 X35 (Xy15772.mono (by decide))
            have e15779 := Xy15772.ref h15710 (by decide) e15712
            have e15780 := Xy15772.ref h15710 (by decide) e15715
            have e15781 := Xy15772.ref h15710 (by decide) e15718
            have e15782 := Xy15772.ref h15710 (by decide) e15722
            have h15783 := Xy15772.at h15710
            have h15784 := Xy15772.ar h15713
            have h15785 := Xy15772.ar h15716
            have h15786 := Xy15772.ar h15719
            have h15787 := Xy15772.ar h15723
            have h15770 : True := h15770
            refine g_iload C dX12_setOf_93 5 rfl ?_
            refine s_irem C dX12_setOf_95 (by show 0 < v47_6.toInt; omega) (fun z15788 h15789 => ?_)
            have h15789 : -v47_6.toInt < z15788.toInt ∧ z15788.toInt < v47_6.toInt := h15789
            refine g_istore (lv' := [(7, .int z15788), (0, .ref a0), (1, .int a1), (3, .int v35_3), (4, .int v35_4), (5, .int v35_5), (6, .int v47_6)]) C dX12_setOf_96 (by decide) rfl ?_
            refine g_iconst (v := 0) C dX12_setOf_98 (by decide) ?_
            refine g_istore (lv' := [(8, .int 0), (7, .int z15788), (0, .ref a0), (1, .int a1), (3, .int v35_3), (4, .int v35_4), (5, .int v35_5), (6, .int v47_6)]) C dX12_setOf_99 (by decide) rfl ?_
            refine g_iload C dX12_setOf_101 5 rfl ?_
            refine g_iconst (v := 1) C dX12_setOf_103 (by decide) ?_
            refine g_iand C dX12_setOf_104 ?_
            refine g_topi (fun z15790 h15791 => ?_)
            have hbv : z15790.toInt = bI v35_4 (0 : Int).toNat := by rw [h15791]; exact and1_val _
            have hfs := fS_of (p := (0 : Int).toNat) ((pI P b15714 (a1.toInt.toNat)).toInt) ((pI P b15717 (a1.toInt.toNat)).toInt) hbv
            have hwr := wt_rg (a := (pI P b15714 (a1.toInt.toNat)).toInt) (0 : Int).toNat (show 1 ≤ (pI P b15717 (a1.toInt.toNat)).toInt ∧ (pI P b15717 (a1.toInt.toNat)).toInt ≤ 9 by omega)
            refine b_if_ne C 117 dX12_setOf_105 (by decide) (fun h15792 => ?_) (fun h15792 => ?_)
            · have h15792 : z15790.toInt ≠ 0 := ti_ne h15792
              refine g_iconst (v := 0) C dX12_setOf_117 (by decide) ?_
              refine g_lv (lv' := [(0, .ref a0), (1, .int a1), (3, .int v35_3), (4, .int v35_4), (5, .int v35_5), (7, .int z15788), (8, .int 0)]) [2, 3, 4, 5, 6, 1, 0] rfl ?_
              exact J118 Y15769 z15788 0 Iy15771 Xz15778 W15773 (by omega) (by omega) (by decide) (fun b9 e9 => by rw [e15779] at e9; cases e9; omega) (by intro b913 b914 e913 e914; rw [e15780] at e913; cases e913; rw [e15781] at e914; cases e914; show 0 = fS v35_4 (pI P b15714 (a1.toInt.toNat)).toInt (pI P b15717 (a1.toInt.toNat)).toInt (0 : Int).toNat; omega) (by intro b910 b913 b914 b915 e910 e913 e914 e915; rw [e15779] at e910; cases e910; rw [e15780] at e913; cases e913; rw [e15781] at e914; cases e914; rw [e15782] at e915; cases e915; show z15788.toInt < cS v35_4 (pI P b15714 (a1.toInt.toNat)).toInt (pI P b15717 (a1.toInt.toNat)).toInt (((pI P b15711 (a1.toInt.toNat)).toInt + (pI P b15721 (a1.toInt.toNat)).toInt) : Int).toNat; omega) (by intro b910 b915 e910 e915; rw [e15779] at e910; cases e910; rw [e15782] at e915; cases e915; show v35_3.toInt ≤ ((pI P b15711 (a1.toInt.toNat)).toInt + (pI P b15721 (a1.toInt.toNat)).toInt); omega) (by show v35_5.toInt < v35_3.toInt; omega)
            · have h15792 : z15790.toInt = 0 := congrArg Int32.toInt h15792
              refine g_aload_n C dX12_setOf_108 rfl 2 rfl ?_
              refine g_iload_n C dX12_setOf_109 rfl 3 rfl ?_
              refine g_iconst (v := 0) C dX12_setOf_110 (by decide) ?_
              refine g_callVI (rest := []) C mv_X12_255 [.int a1, .int 0] (s_X12_weightOf Iy15771 (by omega) (by decide) W15773) (h15783).1 (h15783).2 rfl rfl (by decide) (Nat.le_of_ble_eq_true rfl) (by decide) dX12_setOf_111 (fun r15793 Y15794 h15795 => ?_)
              obtain ⟨rfl, h15795⟩ := h15795
              obtain ⟨h15795, hi15796⟩ := h15795
              have hi15796 := hi15796 b15714 b15717 e15780 e15781
              rw [Xz15778.2.2.2 13 (by decide) rfl b15714 (EM.refB Xz15778 ha0 e15780), Xz15778.2.2.2 14 (by decide) rfl b15717 (EM.refB Xz15778 ha0 e15781)] at hi15796
              have hi15796 : r15793.toInt = wt (pI P b15714 (a1.toInt.toNat)).toInt (pI P b15717 (a1.toInt.toNat)).toInt (0 : Int).toNat := hi15796
              have h15795 : 0 ≤ r15793.toInt ∧ r15793.toInt ≤ 9 := h15795
              refine g_goto C 118 dX12_setOf_114 (by decide) ?_
              refine g_lv (lv' := [(0, .ref a0), (1, .int a1), (3, .int v35_3), (4, .int v35_4), (5, .int v35_5), (7, .int z15788), (8, .int 0)]) [2, 3, 4, 5, 6, 1, 0] rfl ?_
              exact J118 Y15769 z15788 r15793 Iy15771 Xz15778 W15773 (by omega) (by omega) (by omega) (fun b9 e9 => by rw [e15779] at e9; cases e9; omega) (by intro b913 b914 e913 e914; rw [e15780] at e913; cases e913; rw [e15781] at e914; cases e914; show r15793.toInt = fS v35_4 (pI P b15714 (a1.toInt.toNat)).toInt (pI P b15717 (a1.toInt.toNat)).toInt (0 : Int).toNat; omega) (by intro b910 b913 b914 b915 e910 e913 e914 e915; rw [e15779] at e910; cases e910; rw [e15780] at e913; cases e913; rw [e15781] at e914; cases e914; rw [e15782] at e915; cases e915; show z15788.toInt < cS v35_4 (pI P b15714 (a1.toInt.toNat)).toInt (pI P b15717 (a1.toInt.toNat)).toInt (((pI P b15711 (a1.toInt.toNat)).toInt + (pI P b15721 (a1.toInt.toNat)).toInt) : Int).toNat; omega) (by intro b910 b915 e910 e915; rw [e15779] at e910; cases e910; rw [e15782] at e915; cases e915; show v35_3.toInt ≤ ((pI P b15711 (a1.toInt.toNat)).toInt + (pI P b15721 (a1.toInt.toNat)).toInt); omega) (by show v35_5.toInt < v35_3.toInt; omega)
          · have h15767 : v47_7.toInt < r15763.toInt := h15767
            refine g_iload C dX12_setOf_57 5 rfl ?_
            refine g_iload C dX12_setOf_59 3 rfl ?_
            refine g_iload C dX12_setOf_61 6 rfl ?_
            refine g_ishr C dX12_setOf_63 ?_
            refine g_topi (fun z15797 h15798 => ?_)
            refine g_iconst (v := 1) C dX12_setOf_64 (by decide) ?_
            refine g_iand C dX12_setOf_65 ?_
            refine g_topi (fun z15799 h15800 => ?_)
            have hbv := bit_val h15798 h15800 (by omega)
            have hfs := fS_of (p := (v47_7.toInt).toNat) ((pI P b15714 (a1.toInt.toNat)).toInt) ((pI P b15717 (a1.toInt.toNat)).toInt) hbv
            have hwr := wt_rg (a := (pI P b15714 (a1.toInt.toNat)).toInt) (v47_7.toInt).toNat (show 1 ≤ (pI P b15717 (a1.toInt.toNat)).toInt ∧ (pI P b15717 (a1.toInt.toNat)).toInt ≤ 9 by omega)
            refine b_if_ne C 79 dX12_setOf_66 (by decide) (fun h15801 => ?_) (fun h15801 => ?_)
            · have h15801 : z15799.toInt ≠ 0 := ti_ne h15801
              refine g_iconst (v := 0) C dX12_setOf_79 (by decide) ?_
              refine g_lv (lv' := [(0, .ref a0), (1, .int a1), (3, .int v35_3), (4, .int v35_4), (5, .int v35_5), (7, .int v47_7)]) [0, 1, 2, 3, 4, 6] rfl ?_
              exact J80 0 (by omega) (by omega) (by decide) (fun b9 e9 => by rw [e15712] at e9; cases e9; omega) (by intro b913 b914 e913 e914; rw [e15715] at e913; cases e913; rw [e15718] at e914; cases e914; show v47_6.toInt = cS v35_4 (pI P b15714 (a1.toInt.toNat)).toInt (pI P b15717 (a1.toInt.toNat)).toInt (v47_7.toInt : Int).toNat; omega) (by intro b913 b914 e913 e914; rw [e15715] at e913; cases e913; rw [e15718] at e914; cases e914; show 0 = fS v35_4 (pI P b15714 (a1.toInt.toNat)).toInt (pI P b15717 (a1.toInt.toNat)).toInt (v47_7.toInt : Int).toNat; omega) (by intro b910 b915 e910 e915; rw [e15712] at e910; cases e910; rw [e15722] at e915; cases e915; show 0 ≤ v47_7.toInt ∧ v47_7.toInt < ((pI P b15711 (a1.toInt.toNat)).toInt + (pI P b15721 (a1.toInt.toNat)).toInt); omega) (by show 0 ≤ v47_6.toInt ∧ v47_6.toInt ≤ 9 * v47_7.toInt; omega) (by intro b910 b915 e910 e915; rw [e15712] at e910; cases e910; rw [e15722] at e915; cases e915; show v35_3.toInt ≤ ((pI P b15711 (a1.toInt.toNat)).toInt + (pI P b15721 (a1.toInt.toNat)).toInt); omega) (by show v35_5.toInt < v35_3.toInt; omega)
            · have h15801 : z15799.toInt = 0 := congrArg Int32.toInt h15801
              refine g_aload_n C dX12_setOf_69 rfl 0 rfl ?_
              refine g_iload_n C dX12_setOf_70 rfl 1 rfl ?_
              refine g_iload C dX12_setOf_71 6 rfl ?_
              refine g_callVI (rest := [.int v47_6]) C mv_X12_255 [.int a1, .int v47_7] (s_X12_weightOf I35 (by omega) (by omega) W35) (h15710).1 (h15710).2 rfl rfl (by decide) (Nat.le_of_ble_eq_true rfl) (by decide) dX12_setOf_73 (fun r15802 Y15803 h15804 => ?_)
              obtain ⟨rfl, h15804⟩ := h15804
              obtain ⟨h15804, hi15805⟩ := h15804
              have hi15805 := hi15805 b15714 b15717 e15715 e15718
              rw [X35.2.2.2 13 (by decide) rfl b15714 (EM.refB X35 ha0 e15715), X35.2.2.2 14 (by decide) rfl b15717 (EM.refB X35 ha0 e15718)] at hi15805
              have hi15805 : r15802.toInt = wt (pI P b15714 (a1.toInt.toNat)).toInt (pI P b15717 (a1.toInt.toNat)).toInt (v47_7.toInt).toNat := hi15805
              have h15804 : 0 ≤ r15802.toInt ∧ r15802.toInt ≤ 9 := h15804
              refine g_goto C 80 dX12_setOf_76 (by decide) ?_
              refine g_lv (lv' := [(0, .ref a0), (1, .int a1), (3, .int v35_3), (4, .int v35_4), (5, .int v35_5), (7, .int v47_7)]) [0, 1, 2, 3, 4, 6] rfl ?_
              exact J80 r15802 (by omega) (by omega) (by omega) (fun b9 e9 => by rw [e15712] at e9; cases e9; omega) (by intro b913 b914 e913 e914; rw [e15715] at e913; cases e913; rw [e15718] at e914; cases e914; show v47_6.toInt = cS v35_4 (pI P b15714 (a1.toInt.toNat)).toInt (pI P b15717 (a1.toInt.toNat)).toInt (v47_7.toInt : Int).toNat; omega) (by intro b913 b914 e913 e914; rw [e15715] at e913; cases e913; rw [e15718] at e914; cases e914; show r15802.toInt = fS v35_4 (pI P b15714 (a1.toInt.toNat)).toInt (pI P b15717 (a1.toInt.toNat)).toInt (v47_7.toInt : Int).toNat; omega) (by intro b910 b915 e910 e915; rw [e15712] at e910; cases e910; rw [e15722] at e915; cases e915; show 0 ≤ v47_7.toInt ∧ v47_7.toInt < ((pI P b15711 (a1.toInt.toNat)).toInt + (pI P b15721 (a1.toInt.toNat)).toInt); omega) (by show 0 ≤ v47_6.toInt ∧ v47_6.toInt ≤ 9 * v47_7.toInt; omega) (by intro b910 b915 e910 e915; rw [e15712] at e910; cases e910; rw [e15722] at e915; cases e915; show v35_3.toInt ≤ ((pI P b15711 (a1.toInt.toNat)).toInt + (pI P b15721 (a1.toInt.toNat)).toInt); omega) (by show v35_5.toInt < v35_3.toInt; omega)
      obtain ⟨b15806, e15807, h15808⟩ := I35.fld (h15601) 13 13 3 rfl
      obtain ⟨b15809, e15810, h15811⟩ := I35.fld (h15601) 14 13 3 rfl
      have hc := hW.1 b15602 b15809 (EM.refB X35 ha0 (e15603)) (EM.refB X35 ha0 (e15810)) (a1.toInt.toNat) (by omega) (by have h9 := hf0 _ (EM.refB X35 ha0 (e15603)); omega)
      have h15812 := I.arr (EM.refB X35 ha0 (e15603)) rfl (a1.toInt.toNat)
      have h15813 := I.arr (EM.refB X35 ha0 (e15810)) rfl (a1.toInt.toNat)
      have h15814 := I.arr (EM.refB X35 ha0 (e15606)) rfl (a1.toInt.toNat)
      have q15815 := X35.keepA (EM.refB X35 ha0 (e15603)) (by decide) rfl (a1.toInt.toNat)
      have q15816 := X35.keepA (EM.refB X35 ha0 (e15810)) (by decide) rfl (a1.toInt.toNat)
      have q15817 := X35.keepA (EM.refB X35 ha0 (e15606)) (by decide) rfl (a1.toInt.toNat)
      refine g_iload C dX12_setOf_35 4 rfl ?_
      refine g_iload_n C dX12_setOf_37 rfl 2 rfl ?_
      refine b_icmp_ge C 174 dX12_setOf_38 (by decide) (fun h15818 => ?_) (fun h15818 => ?_)
      · have h15818 : v35_3.toInt ≤ v35_5.toInt := h15818
        refine g_iload C dX12_setOf_174 3 rfl ?_
        exact ret _ _ _ _ _ _ dX12_setOf_176 rfl (by decide) (by decide) ⟨I35, X35, W35, trivial⟩
      · have h15818 : v35_5.toInt < v35_3.toInt := h15818
        refine g_iconst (v := 0) C dX12_setOf_41 (by decide) ?_
        refine g_istore (lv' := [(6, .int 0), (0, .ref a0), (1, .int a1), (3, .int v35_3), (4, .int v35_4), (5, .int v35_5)]) C dX12_setOf_42 (by decide) rfl ?_
        have s0 : cS v35_4 ((pI P b15806 (a1.toInt.toNat)).toInt) ((pI P b15809 (a1.toInt.toNat)).toInt) (0 : Int).toNat = 0 := rfl
        refine g_iconst (v := 0) C dX12_setOf_44 (by decide) ?_
        refine g_istore (lv' := [(7, .int 0), (6, .int 0), (0, .ref a0), (1, .int a1), (3, .int v35_3), (4, .int v35_4), (5, .int v35_5)]) C dX12_setOf_45 (by decide) rfl ?_
        refine g_lv (lv' := [(0, .ref a0), (1, .int a1), (3, .int v35_3), (4, .int v35_4), (5, .int v35_5), (6, .int 0), (7, .int 0)]) [2, 3, 4, 5, 6, 1, 0] rfl ?_
        exact J47 _ 0 0 (Nat.lt_succ_self _) (by omega) (by decide) (by decide) (fun b9 e9 => by rw [e15603] at e9; cases e9; omega) (by intro b913 b914 e913 e914; rw [e15807] at e913; cases e913; rw [e15810] at e914; cases e914; show 0 = cS v35_4 (pI P b15806 (a1.toInt.toNat)).toInt (pI P b15809 (a1.toInt.toNat)).toInt (0 : Int).toNat; omega) (by intro b910 b915 e910 e915; rw [e15603] at e910; cases e910; rw [e15606] at e915; cases e915; show 0 ≤ ((pI P b15602 (a1.toInt.toNat)).toInt + (pI P b15605 (a1.toInt.toNat)).toInt); omega) (by show 0 ≤ 0 ∧ 0 ≤ 9 * 0; omega) (by intro b910 b915 e910 e915; rw [e15603] at e910; cases e910; rw [e15606] at e915; cases e915; show v35_3.toInt ≤ ((pI P b15602 (a1.toInt.toNat)).toInt + (pI P b15605 (a1.toInt.toNat)).toInt); omega) (by show v35_5.toInt < v35_3.toInt; omega)
  obtain ⟨b15819, e15820, h15821⟩ := I.fld (ha0) 10 13 2 rfl
  have hf0 := hf0 b15819 e15820
  obtain ⟨b15822, e15823, h15824⟩ := I.fld (ha0) 13 13 3 rfl
  obtain ⟨b15825, e15826, h15827⟩ := I.fld (ha0) 14 13 3 rfl
  obtain ⟨b15828, e15829, h15830⟩ := I.fld (ha0) 15 13 3 rfl
  have hc := hW.1 b15819 b15825 e15820 e15826 (a1.toInt.toNat) (by omega) (by omega)
  have hz9 := cB_zero
  have h15831 := I.arr (e15820) rfl (a1.toInt.toNat)
  have h15832 := I.arr (e15826) rfl (a1.toInt.toNat)
  have h15833 := I.arr (e15829) rfl (a1.toInt.toNat)
  refine g_aload_n C dX12_setOf_0 rfl 0 rfl ?_
  refine g_iload_n C dX12_setOf_1 rfl 2 rfl ?_
  refine a_i2l C dX12_setOf_2 (fun l15834 => ?_)
  refine g_ldc2 (v := 7919) C kl_X12_248 dX12_setOf_3 ?_
  refine g_topl (fun l15835 el15835 => ?_)
  have hz_l15835 : ¬ l15835 = 0 := by rw [el15835]; decide
  refine a_lmul C dX12_setOf_6 (fun l15836 => ?_)
  refine g_iload_n C dX12_setOf_7 rfl 1 rfl ?_
  refine a_i2l C dX12_setOf_8 (fun l15837 => ?_)
  refine g_ldc2 (v := 104729) C kl_X12_250 dX12_setOf_9 ?_
  refine g_topl (fun l15838 el15838 => ?_)
  have hz_l15838 : ¬ l15838 = 0 := by rw [el15838]; decide
  refine a_lmul C dX12_setOf_12 (fun l15839 => ?_)
  refine a_ladd C dX12_setOf_13 (fun l15840 => ?_)
  refine g_lconst (v := 1) C dX12_setOf_14 (by decide) ?_
  refine a_ladd C dX12_setOf_15 (fun l15841 => ?_)
  refine g_ldc2 (v := 2147483648) C kl_X12_234 dX12_setOf_16 ?_
  refine g_topl (fun l15842 el15842 => ?_)
  have hz_l15842 : ¬ l15842 = 0 := by rw [el15842]; decide
  refine a_lrem C dX12_setOf_19 hz_l15842 (fun l15843 => ?_)
  refine g_putJ C fi_X12_226 rfl (ha0).1 (ha0).2 dX12_setOf_20 ?_
  refine gq (ks := []) (I.setJ) (EM.setJ) (fun Y15844 Iy15845 Xy15846 => ?_)
  have q15847 := Xy15846.keepA e15820 (by decide) rfl (a1.toInt.toNat)
  have q15848 := Xy15846.keepA e15823 (by decide) rfl (a1.toInt.toNat)
  have q15849 := Xy15846.keepA e15826 (by decide) rfl (a1.toInt.toNat)
  have q15850 := Xy15846.keepA e15829 (by decide) rfl (a1.toInt.toNat)
  have W15851 := hW.keep I Xy15846 (by decide) (by decide) (by decide)
  have Xz15852 : EM [] a0 P Y15844 := Xy15846.mono (by decide)
  have e15853 := Xy15846.ref ha0 (by decide) e15820
  have e15854 := Xy15846.ref ha0 (by decide) e15823
  have e15855 := Xy15846.ref ha0 (by decide) e15826
  have e15856 := Xy15846.ref ha0 (by decide) e15829
  have h15857 := Xy15846.at ha0
  have h15858 := Xy15846.ar h15821
  have h15859 := Xy15846.ar h15824
  have h15860 := Xy15846.ar h15827
  have h15861 := Xy15846.ar h15830
  refine g_aload_n C dX12_setOf_23 rfl 0 rfl ?_
  refine g_iload_n C dX12_setOf_24 rfl 1 rfl ?_
  refine g_callVI (rest := []) C mv_X12_252 [.int a1] (s_X12_howMany Iy15845 (by omega) (fun b9 e9 => by rw [e15853] at e9; cases e9; show 1 ≤ (pI Y15844 b15819 (a1.toInt.toNat)).toInt ∧ (pI Y15844 b15819 (a1.toInt.toNat)).toInt ≤ 16; omega) W15851) (h15857).1 (h15857).2 rfl rfl (by decide) (Nat.le_of_ble_eq_true rfl) (by decide) dX12_setOf_25 (fun r15862 Y15863 h15864 => ?_)
  obtain ⟨Iy15865, Xy15866, W15867, h15864⟩ := h15864
  have q15868 := Xy15866.keepA e15853 (by decide) rfl (a1.toInt.toNat)
  have q15869 := Xy15866.keepA e15854 (by decide) rfl (a1.toInt.toNat)
  have q15870 := Xy15866.keepA e15855 (by decide) rfl (a1.toInt.toNat)
  have q15871 := Xy15866.keepA e15856 (by decide) rfl (a1.toInt.toNat)
  have Xz15872 : EM [] a0 P Y15863 := EM.tr ha0 Xz15852 (Xy15866.mono (by decide))
  have e15873 := Xy15866.ref h15857 (by decide) e15853
  have e15874 := Xy15866.ref h15857 (by decide) e15854
  have e15875 := Xy15866.ref h15857 (by decide) e15855
  have e15876 := Xy15866.ref h15857 (by decide) e15856
  have h15877 := Xy15866.at h15857
  have h15878 := Xy15866.ar h15858
  have h15879 := Xy15866.ar h15859
  have h15880 := Xy15866.ar h15860
  have h15881 := Xy15866.ar h15861
  obtain ⟨h15864, hi15882⟩ := h15864
  have hi15882 : r15862.toInt ≤ (pI Y15863 b15819 (a1.toInt.toNat)).toInt + (pI Y15863 b15828 (a1.toInt.toNat)).toInt := hi15882 b15819 b15828 e15873 e15876
  have h15864 : 1 ≤ r15862.toInt ∧ r15862.toInt ≤ 20 := h15864
  refine g_istore_n (lv' := [(3, .int r15862), (0, .ref a0), (1, .int a1), (2, .int a2)]) C dX12_setOf_28 rfl (by decide) rfl ?_
  refine g_iconst (v := 0) C dX12_setOf_29 (by decide) ?_
  refine g_istore (lv' := [(4, .int 0), (3, .int r15862), (0, .ref a0), (1, .int a1), (2, .int a2)]) C dX12_setOf_30 (by decide) rfl ?_
  refine g_iconst (v := 0) C dX12_setOf_32 (by decide) ?_
  refine g_istore (lv' := [(5, .int 0), (4, .int 0), (3, .int r15862), (0, .ref a0), (1, .int a1), (2, .int a2)]) C dX12_setOf_33 (by decide) rfl ?_
  refine g_lv (lv' := [(0, .ref a0), (1, .int a1), (3, .int r15862), (4, .int 0), (5, .int 0)]) [3, 4, 2, 1, 0] rfl ?_
  exact J35 _ Y15863 r15862 0 0 (Nat.lt_succ_self _) Iy15865 Xz15872 W15867 (by omega) (by decide) (fun b9 e9 => by rw [e15873] at e9; cases e9; omega) (by show cB 0 20 ≤ 0; omega) (by show 0 ≤ 0; omega) (by intro b910 b915 e910 e915; rw [e15873] at e910; cases e910; rw [e15876] at e915; cases e915; show r15862.toInt ≤ ((pI P b15819 (a1.toInt.toNat)).toInt + (pI P b15828 (a1.toInt.toNat)).toInt); omega)
theorem dX12_keepsSets_18 : decode cX12_keepsSets 18 = .ok (.iastore, 1) := by decide +kernel
theorem dX12_keepsSets_19 : decode cX12_keepsSets 19 = .ok (.iinc 3 1, 3) := by decide +kernel
theorem dX12_keepsSets_22 : decode cX12_keepsSets 22 = .ok (.goto (-20), 3) := by decide +kernel
set_option maxHeartbeats 4000000 in
set_option maxRecDepth 100000 in
theorem s_X12_keepsSets {P : PP} {a0 : Nat} {a1 : Int32} {a2 : Int32} (I : IM P a0) (ha1 : 0 ≤ a1.toInt ∧ a1.toInt ≤ 1) (ha2 : 0 ≤ a2.toInt ∧ a2.toInt ≤ 11) (hf0 : ∀ b, pR P a0 10 = some b → 1 ≤ (pI P b (a1.toInt.toNat)).toInt ∧ (pI P b (a1.toInt.toNat)).toInt ≤ 16) (hW : MW P a0) : CtrV yX12_keepsSets cX12_keepsSets 4 none ({ frames := 4, cells := 0, slots := 0, locals := 256 } : Room) 0 0 P [.ref a0, .int a1, .int a2] (fun P2 => IM P2 a0 ∧ EM [43] a0 P P2 ∧ MW P2 a0) := by
  refine enV (lv := [(0, .ref a0), (1, .int a1), (2, .int a2)]) (by decide) (Nat.le_of_ble_eq_true rfl) rfl (fun E D cy C Ci0 ret => ?_)
  have ha0 := I.2.1
  have J2 : ∀ (n2 : Nat) (P2 : PP) (v2_3 : Int32), (11 - v2_3.toInt).toNat < n2 → (IM P2 a0) → (EM [43] a0 P P2) → (MW P2 a0) → (0 ≤ v2_3.toInt ∧ v2_3.toInt ≤ 11) → (∀ b, pR P2 a0 10 = some b → 1 ≤ (pI P2 b (a1.toInt.toNat)).toInt ∧ (pI P2 b (a1.toInt.toNat)).toInt ≤ 16) → G E ({ frames := 4, cells := 0, slots := 0, locals := 256 } : Room) D cy 4 P2 0 0 2 [(0, .ref a0), (1, .int a1), (2, .int a2), (3, .int v2_3)] [] := by
    intro n2
    induction n2 with
    | zero => intro P2 v2_3 hm2 I2 X2 W2 hv2_3 hq2_0; omega
    | succ n2 ih2 =>
      intro P2 v2_3 hm2 I2 X2 W2 hv2_3 hq2_0
      have h16200 := X2.at ha0
      obtain ⟨b16201, e16202, h16203⟩ := I2.fld (h16200) 10 13 2 rfl
      have hq2_0 := hq2_0 b16201 e16202
      refine g_iload_n C dX12_keepsSets_2 rfl 3 rfl ?_
      refine g_iload_n C dX12_keepsSets_3 rfl 2 rfl ?_
      refine b_icmp_ge C 25 dX12_keepsSets_4 (by decide) (fun h16204 => ?_) (fun h16204 => ?_)
      · have h16204 : a2.toInt ≤ v2_3.toInt := h16204
        exact ret _ _ _ _ _ dX12_keepsSets_25 (by decide) (by decide) ⟨I2, X2, W2⟩
      · have h16204 : v2_3.toInt < a2.toInt := h16204
        refine g_aload_n C dX12_keepsSets_7 rfl 0 rfl ?_
        obtain ⟨b16205, e16206, h16207⟩ := I2.fld (h16200) 43 13 60 rfl
        refine g_getR C fi_X12_121 rfl e16206 (h16200).1 (h16200).2 dX12_keepsSets_8 ?_
        refine g_iload_n C dX12_keepsSets_11 rfl 3 rfl ?_
        refine g_aload_n C dX12_keepsSets_12 rfl 0 rfl ?_
        refine g_iload_n C dX12_keepsSets_13 rfl 1 rfl ?_
        refine g_iload_n C dX12_keepsSets_14 rfl 3 rfl ?_
        refine g_callVI (rest := [.int v2_3, .ref b16205]) C mv_X12_261 [.int a1, .int v2_3] (s_X12_setOf I2 (by omega) (fun b9 e9 => by rw [e16202] at e9; cases e9; show 1 ≤ (pI P2 b16201 (a1.toInt.toNat)).toInt ∧ (pI P2 b16201 (a1.toInt.toNat)).toInt ≤ 16; omega) W2) (h16200).1 (h16200).2 rfl rfl (by decide) (Nat.le_of_ble_eq_true rfl) (by decide) dX12_keepsSets_15 (fun r16208 Y16209 h16210 => ?_)
        obtain ⟨Iy16211, Xy16212, W16213, h16210⟩ := h16210
        have q16214 := Xy16212.keepA e16202 (by decide) rfl (a1.toInt.toNat)
        have Xz16215 : EM [43] a0 P Y16209 := EM.tr ha0 X2 (Xy16212.mono (by decide))
        have e16216 := Xy16212.ref h16200 (by decide) e16202
        have e16217 := Xy16212.ref h16200 (by decide) e16206
        have h16218 := Xy16212.at h16200
        have h16219 := Xy16212.ar h16203
        have h16220 := Xy16212.ar h16207
        have h16210 : True := h16210
        refine g_iast (j := (v2_3.toInt.toNat)) C h16220.1 h16220.2.1 (ix_in h16220.2.2 (by omega)) dX12_keepsSets_18 ?_
        refine gqW (ks := [43]) (Iy16211.setA e16217 h16220 (by decide) (arOk.none rfl)) (EM.setA Iy16211 e16217 rfl (by decide)) (fun Y16221 Iy16222 Xy16223 w16224 => ?_)
        have w16224 : (pI Y16221 b16205 (v2_3.toInt.toNat)).toInt = r16208.toInt := w16224
        have q16225 := Xy16223.keepA e16216 (by decide) rfl (a1.toInt.toNat)
        have W16226 := W16213.keep Iy16211 Xy16223 (by decide) (by decide) (by decide)
        have Xz16227 : EM [43] a0 P Y16221 := EM.tr ha0 Xz16215 (Xy16223.mono (by decide))
        have e16228 := Xy16223.ref h16218 (by decide) e16216
        have e16229 := Xy16223.ref h16218 (by decide) e16217
        have h16230 := Xy16223.at h16218
        have h16231 := Xy16223.ar h16219
        have h16232 := Xy16223.ar h16220
        refine s_iinc (lv0 := [(0, .ref a0), (1, .int a1), (2, .int a2)]) (m := 1) C dX12_keepsSets_19 3 rfl (by decide) rfl (by decide) (by omega) (fun z16233 h16234 => ?_)
        have h16234 : z16233.toInt = v2_3.toInt + 1 := h16234
        refine g_goto C 2 dX12_keepsSets_22 (by decide) ?_
        refine g_lv (lv' := [(0, .ref a0), (1, .int a1), (2, .int a2), (3, .int z16233)]) [1, 2, 3, 0] rfl ?_
        exact ih2 Y16221 z16233 (by omega) Iy16222 Xz16227 W16226 (by omega) (fun b9 e9 => by rw [e16228] at e9; cases e9; omega)
  obtain ⟨b16235, e16236, h16237⟩ := I.fld (ha0) 10 13 2 rfl
  have hf0 := hf0 b16235 e16236
  refine g_iconst (v := 0) C dX12_keepsSets_0 (by decide) ?_
  refine g_istore_n (lv' := [(3, .int 0), (0, .ref a0), (1, .int a1), (2, .int a2)]) C dX12_keepsSets_1 rfl (by decide) rfl ?_
  refine g_lv (lv' := [(0, .ref a0), (1, .int a1), (2, .int a2), (3, .int 0)]) [1, 2, 3, 0] rfl ?_
  exact J2 _ P 0 (Nat.lt_succ_self _) I EM.rf hW (by decide) (fun b9 e9 => by rw [e16236] at e9; cases e9; omega)
theorem dX12_chances_33 : decode cX12_chances 33 = .ok (.aload_n 0, 1) := by decide +kernel
theorem dX12_chances_34 : decode cX12_chances 34 = .ok (.iload_n 1, 1) := by decide +kernel
theorem dX12_chances_35 : decode cX12_chances 35 = .ok (.iload_n 2, 1) := by decide +kernel
theorem dX12_chances_36 : decode cX12_chances 36 = .ok (.iload_n 3, 1) := by decide +kernel
theorem dX12_chances_37 : decode cX12_chances 37 = .ok (.iload 4, 2) := by decide +kernel
theorem dX12_chances_39 : decode cX12_chances 39 = .ok (.invokevirtual 383, 3) := by decide +kernel
theorem dX12_chancesOf_0 : decode cX12_chancesOf 0 = .ok (.iconst 0, 1) := by decide +kernel
theorem dX12_chancesOf_1 : decode cX12_chancesOf 1 = .ok (.istore 5, 2) := by decide +kernel
theorem dX12_chancesOf_3 : decode cX12_chancesOf 3 = .ok (.iconst 0, 1) := by decide +kernel
theorem dX12_chancesOf_4 : decode cX12_chancesOf 4 = .ok (.istore 6, 2) := by decide +kernel
theorem dX12_chancesOf_6 : decode cX12_chancesOf 6 = .ok (.iload 6, 2) := by decide +kernel
theorem dX12_chancesOf_8 : decode cX12_chancesOf 8 = .ok (.iconst 1, 1) := by decide +kernel
theorem dX12_chancesOf_9 : decode cX12_chancesOf 9 = .ok (.iload_n 2, 1) := by decide +kernel
theorem dX12_chancesOf_10 : decode cX12_chancesOf 10 = .ok (.ishl, 1) := by decide +kernel
theorem dX12_chancesOf_11 : decode cX12_chancesOf 11 = .ok (.if_icmp .ge 112, 3) := by decide +kernel
theorem dX12_chancesOf_14 : decode cX12_chancesOf 14 = .ok (.iload 6, 2) := by decide +kernel
theorem dX12_chancesOf_16 : decode cX12_chancesOf 16 = .ok (.invokestatic 264, 3) := by decide +kernel
theorem dX12_chancesOf_19 : decode cX12_chancesOf 19 = .ok (.iload_n 3, 1) := by decide +kernel
theorem dX12_chancesOf_20 : decode cX12_chancesOf 20 = .ok (.if_icmp .ne 97, 3) := by decide +kernel
theorem dX12_chancesOf_23 : decode cX12_chancesOf 23 = .ok (.aload_n 0, 1) := by decide +kernel
theorem dX12_chancesOf_24 : decode cX12_chancesOf 24 = .ok (.iload_n 1, 1) := by decide +kernel
theorem dX12_chancesOf_25 : decode cX12_chancesOf 25 = .ok (.invokevirtual 312, 3) := by decide +kernel
theorem dX12_chancesOf_28 : decode cX12_chancesOf 28 = .ok (.iconst 0, 1) := by decide +kernel
theorem dX12_chancesOf_29 : decode cX12_chancesOf 29 = .ok (.istore 7, 2) := by decide +kernel
theorem dX12_chancesOf_31 : decode cX12_chancesOf 31 = .ok (.iload 7, 2) := by decide +kernel
theorem dX12_chancesOf_33 : decode cX12_chancesOf 33 = .ok (.iload_n 2, 1) := by decide +kernel
theorem dX12_chancesOf_34 : decode cX12_chancesOf 34 = .ok (.if_icmp .ge 33, 3) := by decide +kernel
theorem dX12_chancesOf_37 : decode cX12_chancesOf 37 = .ok (.iload 6, 2) := by decide +kernel
theorem dX12_chancesOf_39 : decode cX12_chancesOf 39 = .ok (.iload 7, 2) := by decide +kernel
theorem dX12_chancesOf_41 : decode cX12_chancesOf 41 = .ok (.ishr, 1) := by decide +kernel
theorem dX12_chancesOf_42 : decode cX12_chancesOf 42 = .ok (.iconst 1, 1) := by decide +kernel
theorem dX12_chancesOf_43 : decode cX12_chancesOf 43 = .ok (.iand, 1) := by decide +kernel
theorem dX12_chancesOf_44 : decode cX12_chancesOf 44 = .ok (.iconst 1, 1) := by decide +kernel
theorem dX12_chancesOf_45 : decode cX12_chancesOf 45 = .ok (.if_icmp .ne 16, 3) := by decide +kernel
theorem dX12_chancesOf_48 : decode cX12_chancesOf 48 = .ok (.aload_n 0, 1) := by decide +kernel
theorem dX12_chancesOf_49 : decode cX12_chancesOf 49 = .ok (.aload_n 0, 1) := by decide +kernel
theorem dX12_chancesOf_50 : decode cX12_chancesOf 50 = .ok (.getfield 121, 3) := by decide +kernel
theorem dX12_chancesOf_53 : decode cX12_chancesOf 53 = .ok (.iload 7, 2) := by decide +kernel
theorem dX12_chancesOf_55 : decode cX12_chancesOf 55 = .ok (.iaload, 1) := by decide +kernel
theorem dX12_chancesOf_56 : decode cX12_chancesOf 56 = .ok (.iconst 0, 1) := by decide +kernel
theorem dX12_chancesOf_57 : decode cX12_chancesOf 57 = .ok (.iconst (-1), 1) := by decide +kernel
theorem dX12_chancesOf_58 : decode cX12_chancesOf 58 = .ok (.invokevirtual 308, 3) := by decide +kernel
theorem dX12_chancesOf_61 : decode cX12_chancesOf 61 = .ok (.iinc 7 1, 3) := by decide +kernel
theorem dX12_chancesOf_64 : decode cX12_chancesOf 64 = .ok (.goto (-33), 3) := by decide +kernel
theorem dX12_chancesOf_67 : decode cX12_chancesOf 67 = .ok (.iload 4, 2) := by decide +kernel
theorem dX12_chancesOf_69 : decode cX12_chancesOf 69 = .ok (.ifCond .ne 10, 3) := by decide +kernel
theorem dX12_chancesOf_79 : decode cX12_chancesOf 79 = .ok (.aload_n 0, 1) := by decide +kernel
theorem dX12_chancesOf_80 : decode cX12_chancesOf 80 = .ok (.invokevirtual 346, 3) := by decide +kernel
theorem dX12_chancesOf_117 : decode cX12_chancesOf 117 = .ok (.iinc 6 1, 3) := by decide +kernel
theorem dX12_chancesOf_120 : decode cX12_chancesOf 120 = .ok (.goto (-114), 3) := by decide +kernel
theorem dX12_chancesOf_123 : decode cX12_chancesOf 123 = .ok (.iload 5, 2) := by decide +kernel
theorem dX12_chancesOf_125 : decode cX12_chancesOf 125 = .ok (.ireturn, 1) := by decide +kernel
theorem dX12_findSolved_0 : decode cX12_findSolved 0 = .ok (.aload_n 0, 1) := by decide +kernel
theorem dX12_findSolved_1 : decode cX12_findSolved 1 = .ok (.iconst 0, 1) := by decide +kernel
theorem dX12_findSolved_2 : decode cX12_findSolved 2 = .ok (.putfield 324, 3) := by decide +kernel
theorem dX12_findSolved_5 : decode cX12_findSolved 5 = .ok (.aload_n 0, 1) := by decide +kernel
theorem dX12_findSolved_6 : decode cX12_findSolved 6 = .ok (.iconst 1, 1) := by decide +kernel
theorem dX12_findSolved_7 : decode cX12_findSolved 7 = .ok (.putfield 326, 3) := by decide +kernel
theorem dX12_findSolved_10 : decode cX12_findSolved 10 = .ok (.iconst 0, 1) := by decide +kernel
theorem dX12_findSolved_11 : decode cX12_findSolved 11 = .ok (.istore_n 1, 1) := by decide +kernel
theorem dX12_findSolved_12 : decode cX12_findSolved 12 = .ok (.iload_n 1, 1) := by decide +kernel
theorem dX12_findSolved_13 : decode cX12_findSolved 13 = .ok (.bipush 20, 2) := by decide +kernel
theorem dX12_findSolved_15 : decode cX12_findSolved 15 = .ok (.if_icmp .ge 16, 3) := by decide +kernel
theorem dX12_findSolved_18 : decode cX12_findSolved 18 = .ok (.aload_n 0, 1) := by decide +kernel
theorem dX12_findSolved_19 : decode cX12_findSolved 19 = .ok (.getfield 106, 3) := by decide +kernel
theorem dX12_findSolved_22 : decode cX12_findSolved 22 = .ok (.iload_n 1, 1) := by decide +kernel
theorem dX12_findSolved_23 : decode cX12_findSolved 23 = .ok (.iconst 0, 1) := by decide +kernel
theorem dX12_findSolved_24 : decode cX12_findSolved 24 = .ok (.iastore, 1) := by decide +kernel
theorem dX12_findSolved_25 : decode cX12_findSolved 25 = .ok (.iinc 1 1, 3) := by decide +kernel
theorem dX12_findSolved_28 : decode cX12_findSolved 28 = .ok (.goto (-16), 3) := by decide +kernel
theorem dX12_findSolved_31 : decode cX12_findSolved 31 = .ok (.iconst 0, 1) := by decide +kernel
theorem dX12_findSolved_32 : decode cX12_findSolved 32 = .ok (.istore_n 1, 1) := by decide +kernel
theorem dX12_findSolved_33 : decode cX12_findSolved 33 = .ok (.iload_n 1, 1) := by decide +kernel
theorem dX12_findSolved_34 : decode cX12_findSolved 34 = .ok (.aload_n 0, 1) := by decide +kernel
theorem dX12_findSolved_35 : decode cX12_findSolved 35 = .ok (.getfield 305, 3) := by decide +kernel
theorem dX12_findSolved_38 : decode cX12_findSolved 38 = .ok (.if_icmp .ge 224, 3) := by decide +kernel
theorem dX12_findSolved_41 : decode cX12_findSolved 41 = .ok (.aload_n 0, 1) := by decide +kernel
theorem dX12_findSolved_42 : decode cX12_findSolved 42 = .ok (.getfield 91, 3) := by decide +kernel
theorem dX12_findSolved_45 : decode cX12_findSolved 45 = .ok (.iload_n 1, 1) := by decide +kernel
theorem dX12_findSolved_46 : decode cX12_findSolved 46 = .ok (.iaload, 1) := by decide +kernel
theorem dX12_findSolved_47 : decode cX12_findSolved 47 = .ok (.istore_n 2, 1) := by decide +kernel
theorem dX12_findSolved_48 : decode cX12_findSolved 48 = .ok (.aload_n 0, 1) := by decide +kernel
theorem dX12_findSolved_49 : decode cX12_findSolved 49 = .ok (.getfield 94, 3) := by decide +kernel
theorem dX12_findSolved_52 : decode cX12_findSolved 52 = .ok (.iload_n 1, 1) := by decide +kernel
theorem dX12_findSolved_53 : decode cX12_findSolved 53 = .ok (.iaload, 1) := by decide +kernel
theorem dX12_findSolved_54 : decode cX12_findSolved 54 = .ok (.istore_n 3, 1) := by decide +kernel
theorem dX12_findSolved_55 : decode cX12_findSolved 55 = .ok (.iconst 0, 1) := by decide +kernel
theorem dX12_findSolved_56 : decode cX12_findSolved 56 = .ok (.istore 4, 2) := by decide +kernel
theorem dX12_findSolved_58 : decode cX12_findSolved 58 = .ok (.iload 4, 2) := by decide +kernel
theorem dX12_findSolved_60 : decode cX12_findSolved 60 = .ok (.bipush 20, 2) := by decide +kernel
theorem dX12_findSolved_62 : decode cX12_findSolved 62 = .ok (.if_icmp .ge 49, 3) := by decide +kernel
theorem dX12_findSolved_65 : decode cX12_findSolved 65 = .ok (.iload_n 2, 1) := by decide +kernel
theorem dX12_findSolved_66 : decode cX12_findSolved 66 = .ok (.iload 4, 2) := by decide +kernel
theorem dX12_findSolved_68 : decode cX12_findSolved 68 = .ok (.ishr, 1) := by decide +kernel
theorem dX12_findSolved_69 : decode cX12_findSolved 69 = .ok (.iconst 1, 1) := by decide +kernel
theorem dX12_findSolved_70 : decode cX12_findSolved 70 = .ok (.iand, 1) := by decide +kernel
theorem dX12_findSolved_71 : decode cX12_findSolved 71 = .ok (.iconst 1, 1) := by decide +kernel
theorem dX12_findSolved_72 : decode cX12_findSolved 72 = .ok (.if_icmp .ne 33, 3) := by decide +kernel
theorem dX12_findSolved_75 : decode cX12_findSolved 75 = .ok (.aload_n 0, 1) := by decide +kernel
theorem dX12_findSolved_76 : decode cX12_findSolved 76 = .ok (.getfield 106, 3) := by decide +kernel
theorem dX12_findSolved_79 : decode cX12_findSolved 79 = .ok (.iload 4, 2) := by decide +kernel
theorem dX12_findSolved_81 : decode cX12_findSolved 81 = .ok (.iaload, 1) := by decide +kernel
theorem dX12_findSolved_82 : decode cX12_findSolved 82 = .ok (.ifCond .eq 23, 3) := by decide +kernel
theorem dX12_findSolved_85 : decode cX12_findSolved 85 = .ok (.iload_n 2, 1) := by decide +kernel
theorem dX12_findSolved_86 : decode cX12_findSolved 86 = .ok (.aload_n 0, 1) := by decide +kernel
theorem dX12_findSolved_87 : decode cX12_findSolved 87 = .ok (.getfield 106, 3) := by decide +kernel
theorem dX12_findSolved_90 : decode cX12_findSolved 90 = .ok (.iload 4, 2) := by decide +kernel
theorem dX12_findSolved_92 : decode cX12_findSolved 92 = .ok (.iaload, 1) := by decide +kernel
theorem dX12_findSolved_93 : decode cX12_findSolved 93 = .ok (.ixor, 1) := by decide +kernel
theorem dX12_findSolved_94 : decode cX12_findSolved 94 = .ok (.istore_n 2, 1) := by decide +kernel
theorem dX12_findSolved_95 : decode cX12_findSolved 95 = .ok (.iload_n 3, 1) := by decide +kernel
theorem dX12_findSolved_96 : decode cX12_findSolved 96 = .ok (.aload_n 0, 1) := by decide +kernel
theorem dX12_findSolved_97 : decode cX12_findSolved 97 = .ok (.getfield 109, 3) := by decide +kernel
theorem dX12_findSolved_100 : decode cX12_findSolved 100 = .ok (.iload 4, 2) := by decide +kernel
theorem dX12_findSolved_102 : decode cX12_findSolved 102 = .ok (.iaload, 1) := by decide +kernel
theorem dX12_findSolved_103 : decode cX12_findSolved 103 = .ok (.ixor, 1) := by decide +kernel
theorem dX12_findSolved_104 : decode cX12_findSolved 104 = .ok (.istore_n 3, 1) := by decide +kernel
theorem dX12_findSolved_105 : decode cX12_findSolved 105 = .ok (.iinc 4 1, 3) := by decide +kernel
theorem dX12_findSolved_108 : decode cX12_findSolved 108 = .ok (.goto (-50), 3) := by decide +kernel
theorem dX12_findSolved_111 : decode cX12_findSolved 111 = .ok (.iconst (-1), 1) := by decide +kernel
theorem dX12_findSolved_112 : decode cX12_findSolved 112 = .ok (.istore 4, 2) := by decide +kernel
theorem dX12_findSolved_114 : decode cX12_findSolved 114 = .ok (.bipush 19, 2) := by decide +kernel
theorem dX12_findSolved_116 : decode cX12_findSolved 116 = .ok (.istore 5, 2) := by decide +kernel
theorem dX12_findSolved_118 : decode cX12_findSolved 118 = .ok (.iload 5, 2) := by decide +kernel
theorem dX12_findSolved_120 : decode cX12_findSolved 120 = .ok (.ifCond .lt 28, 3) := by decide +kernel
theorem dX12_findSolved_123 : decode cX12_findSolved 123 = .ok (.iload_n 2, 1) := by decide +kernel
theorem dX12_findSolved_124 : decode cX12_findSolved 124 = .ok (.iload 5, 2) := by decide +kernel
theorem dX12_findSolved_126 : decode cX12_findSolved 126 = .ok (.ishr, 1) := by decide +kernel
theorem dX12_findSolved_127 : decode cX12_findSolved 127 = .ok (.iconst 1, 1) := by decide +kernel
theorem dX12_findSolved_128 : decode cX12_findSolved 128 = .ok (.iand, 1) := by decide +kernel
theorem dX12_findSolved_129 : decode cX12_findSolved 129 = .ok (.iconst 1, 1) := by decide +kernel
theorem dX12_findSolved_130 : decode cX12_findSolved 130 = .ok (.if_icmp .ne 8, 3) := by decide +kernel
theorem dX12_findSolved_133 : decode cX12_findSolved 133 = .ok (.iload 5, 2) := by decide +kernel
theorem dX12_findSolved_135 : decode cX12_findSolved 135 = .ok (.goto 5, 3) := by decide +kernel
theorem dX12_findSolved_138 : decode cX12_findSolved 138 = .ok (.iload 4, 2) := by decide +kernel
theorem dX12_findSolved_140 : decode cX12_findSolved 140 = .ok (.istore 4, 2) := by decide +kernel
theorem dX12_findSolved_142 : decode cX12_findSolved 142 = .ok (.iinc 5 (-1), 3) := by decide +kernel
theorem dX12_findSolved_145 : decode cX12_findSolved 145 = .ok (.goto (-27), 3) := by decide +kernel
theorem dX12_findSolved_148 : decode cX12_findSolved 148 = .ok (.iload 4, 2) := by decide +kernel
theorem dX12_findSolved_150 : decode cX12_findSolved 150 = .ok (.ifCond .ge 26, 3) := by decide +kernel
theorem dX12_findSolved_153 : decode cX12_findSolved 153 = .ok (.aload_n 0, 1) := by decide +kernel
theorem dX12_findSolved_154 : decode cX12_findSolved 154 = .ok (.aload_n 0, 1) := by decide +kernel
theorem dX12_findSolved_155 : decode cX12_findSolved 155 = .ok (.getfield 326, 3) := by decide +kernel
theorem dX12_findSolved_158 : decode cX12_findSolved 158 = .ok (.ifCond .eq 11, 3) := by decide +kernel
theorem dX12_findSolved_161 : decode cX12_findSolved 161 = .ok (.iload_n 3, 1) := by decide +kernel
theorem dX12_findSolved_162 : decode cX12_findSolved 162 = .ok (.ifCond .ne 7, 3) := by decide +kernel
theorem dX12_findSolved_165 : decode cX12_findSolved 165 = .ok (.iconst 1, 1) := by decide +kernel
theorem dX12_findSolved_166 : decode cX12_findSolved 166 = .ok (.goto 4, 3) := by decide +kernel
theorem dX12_findSolved_169 : decode cX12_findSolved 169 = .ok (.iconst 0, 1) := by decide +kernel
theorem dX12_findSolved_170 : decode cX12_findSolved 170 = .ok (.putfield 326, 3) := by decide +kernel
theorem dX12_findSolved_173 : decode cX12_findSolved 173 = .ok (.goto 83, 3) := by decide +kernel
theorem dX12_findSolved_176 : decode cX12_findSolved 176 = .ok (.iconst 0, 1) := by decide +kernel
theorem dX12_findSolved_177 : decode cX12_findSolved 177 = .ok (.istore 5, 2) := by decide +kernel
theorem dX12_findSolved_179 : decode cX12_findSolved 179 = .ok (.iload 5, 2) := by decide +kernel
theorem dX12_findSolved_181 : decode cX12_findSolved 181 = .ok (.bipush 20, 2) := by decide +kernel
theorem dX12_findSolved_183 : decode cX12_findSolved 183 = .ok (.if_icmp .ge 47, 3) := by decide +kernel
theorem dX12_findSolved_186 : decode cX12_findSolved 186 = .ok (.aload_n 0, 1) := by decide +kernel
theorem dX12_findSolved_187 : decode cX12_findSolved 187 = .ok (.getfield 106, 3) := by decide +kernel
theorem dX12_findSolved_190 : decode cX12_findSolved 190 = .ok (.iload 5, 2) := by decide +kernel
theorem dX12_findSolved_192 : decode cX12_findSolved 192 = .ok (.iaload, 1) := by decide +kernel
theorem dX12_findSolved_193 : decode cX12_findSolved 193 = .ok (.iload 4, 2) := by decide +kernel
theorem dX12_findSolved_195 : decode cX12_findSolved 195 = .ok (.ishr, 1) := by decide +kernel
theorem dX12_findSolved_196 : decode cX12_findSolved 196 = .ok (.iconst 1, 1) := by decide +kernel
theorem dX12_findSolved_197 : decode cX12_findSolved 197 = .ok (.iand, 1) := by decide +kernel
theorem dX12_findSolved_198 : decode cX12_findSolved 198 = .ok (.iconst 1, 1) := by decide +kernel
theorem dX12_findSolved_199 : decode cX12_findSolved 199 = .ok (.if_icmp .ne 25, 3) := by decide +kernel
theorem dX12_findSolved_202 : decode cX12_findSolved 202 = .ok (.aload_n 0, 1) := by decide +kernel
theorem dX12_findSolved_203 : decode cX12_findSolved 203 = .ok (.getfield 106, 3) := by decide +kernel
theorem dX12_findSolved_206 : decode cX12_findSolved 206 = .ok (.iload 5, 2) := by decide +kernel
theorem dX12_findSolved_208 : decode cX12_findSolved 208 = .ok (.dup2, 1) := by decide +kernel
theorem dX12_findSolved_209 : decode cX12_findSolved 209 = .ok (.iaload, 1) := by decide +kernel
theorem dX12_findSolved_210 : decode cX12_findSolved 210 = .ok (.iload_n 2, 1) := by decide +kernel
theorem dX12_findSolved_211 : decode cX12_findSolved 211 = .ok (.ixor, 1) := by decide +kernel
theorem dX12_findSolved_212 : decode cX12_findSolved 212 = .ok (.iastore, 1) := by decide +kernel
theorem dX12_findSolved_213 : decode cX12_findSolved 213 = .ok (.aload_n 0, 1) := by decide +kernel
theorem dX12_findSolved_214 : decode cX12_findSolved 214 = .ok (.getfield 109, 3) := by decide +kernel
theorem dX12_findSolved_217 : decode cX12_findSolved 217 = .ok (.iload 5, 2) := by decide +kernel
theorem dX12_findSolved_219 : decode cX12_findSolved 219 = .ok (.dup2, 1) := by decide +kernel
theorem dX12_findSolved_220 : decode cX12_findSolved 220 = .ok (.iaload, 1) := by decide +kernel
theorem dX12_findSolved_221 : decode cX12_findSolved 221 = .ok (.iload_n 3, 1) := by decide +kernel
theorem dX12_findSolved_222 : decode cX12_findSolved 222 = .ok (.ixor, 1) := by decide +kernel
theorem dX12_findSolved_223 : decode cX12_findSolved 223 = .ok (.iastore, 1) := by decide +kernel
theorem dX12_findSolved_224 : decode cX12_findSolved 224 = .ok (.iinc 5 1, 3) := by decide +kernel
theorem dX12_findSolved_227 : decode cX12_findSolved 227 = .ok (.goto (-48), 3) := by decide +kernel
theorem dX12_findSolved_230 : decode cX12_findSolved 230 = .ok (.aload_n 0, 1) := by decide +kernel
theorem dX12_findSolved_231 : decode cX12_findSolved 231 = .ok (.getfield 106, 3) := by decide +kernel
theorem dX12_findSolved_234 : decode cX12_findSolved 234 = .ok (.iload 4, 2) := by decide +kernel
theorem dX12_findSolved_236 : decode cX12_findSolved 236 = .ok (.iload_n 2, 1) := by decide +kernel
theorem dX12_findSolved_237 : decode cX12_findSolved 237 = .ok (.iastore, 1) := by decide +kernel
theorem dX12_findSolved_238 : decode cX12_findSolved 238 = .ok (.aload_n 0, 1) := by decide +kernel
theorem dX12_findSolved_239 : decode cX12_findSolved 239 = .ok (.getfield 109, 3) := by decide +kernel
theorem dX12_findSolved_242 : decode cX12_findSolved 242 = .ok (.iload 4, 2) := by decide +kernel
theorem dX12_findSolved_244 : decode cX12_findSolved 244 = .ok (.iload_n 3, 1) := by decide +kernel
theorem dX12_findSolved_245 : decode cX12_findSolved 245 = .ok (.iastore, 1) := by decide +kernel
theorem dX12_findSolved_246 : decode cX12_findSolved 246 = .ok (.aload_n 0, 1) := by decide +kernel
theorem dX12_findSolved_247 : decode cX12_findSolved 247 = .ok (.dup, 1) := by decide +kernel
theorem dX12_findSolved_248 : decode cX12_findSolved 248 = .ok (.getfield 324, 3) := by decide +kernel
theorem dX12_findSolved_251 : decode cX12_findSolved 251 = .ok (.iconst 1, 1) := by decide +kernel
theorem dX12_findSolved_252 : decode cX12_findSolved 252 = .ok (.iadd, 1) := by decide +kernel
theorem dX12_findSolved_253 : decode cX12_findSolved 253 = .ok (.putfield 324, 3) := by decide +kernel
theorem dX12_findSolved_256 : decode cX12_findSolved 256 = .ok (.iinc 1 1, 3) := by decide +kernel
theorem dX12_findSolved_259 : decode cX12_findSolved 259 = .ok (.goto (-226), 3) := by decide +kernel
theorem dX12_findSolved_262 : decode cX12_findSolved 262 = .ok (.return_, 1) := by decide +kernel
set_option maxHeartbeats 4000000 in
set_option maxRecDepth 100000 in
theorem s_X12_findSolved {P : PP} {a0 : Nat} (I : IM P a0) (hW : MW P a0) : CtrV yX12_findSolved cX12_findSolved 6 none ({ frames := 1, cells := 0, slots := 0, locals := 64 } : Room) 0 0 P [.ref a0] (fun P2 => IM P2 a0 ∧ EM [35, 36, 37, 38] a0 P P2 ∧ MW P2 a0) := by
  refine enV (lv := [(0, .ref a0)]) (by decide) (Nat.le_of_ble_eq_true rfl) rfl (fun E D cy C Ci0 ret => ?_)
  have ha0 := I.2.1
  have J33 : ∀ (n33 : Nat) (P33 : PP) (v33_1 : Int32), (64 - v33_1.toInt).toNat < n33 → (IM P33 a0) → (EM [35, 36, 37, 38] a0 P P33) → (MW P33 a0) → (0 ≤ v33_1.toInt ∧ v33_1.toInt ≤ 64) → G E ({ frames := 1, cells := 0, slots := 0, locals := 64 } : Room) D cy 6 P33 0 0 33 [(0, .ref a0), (1, .int v33_1)] [] := by
    intro n33
    induction n33 with
    | zero => intro P33 v33_1 hm33 I33 X33 W33 hv33_1; omega
    | succ n33 ih33 =>
      intro P33 v33_1 hm33 I33 X33 W33 hv33_1
      have h23123 := X33.at ha0
      have J256 : ∀ (P256 : PP), (IM P256 a0) → (EM [35, 36, 37, 38] a0 P P256) → (MW P256 a0) → (0 ≤ v33_1.toInt ∧ v33_1.toInt ≤ 63) → (1 ≤ (pI P256 a0 28).toInt ∧ (pI P256 a0 28).toInt ≤ 64) → G E ({ frames := 1, cells := 0, slots := 0, locals := 64 } : Room) D cy 6 P256 0 0 256 [(0, .ref a0), (1, .int v33_1)] [] := by
        intro P256 I256 X256 W256 hv256_1 hq256_0
        have h23124 := X256.at ha0
        refine s_iinc (lv0 := [(0, .ref a0)]) (m := 1) C dX12_findSolved_256 1 rfl (by decide) rfl (by decide) (by omega) (fun z23125 h23126 => ?_)
        have h23126 : z23125.toInt = v33_1.toInt + 1 := h23126
        refine g_goto C 33 dX12_findSolved_259 (by decide) ?_
        refine g_lv (lv' := [(0, .ref a0), (1, .int z23125)]) [1, 0] rfl ?_
        exact ih33 P256 z23125 (by omega) I256 X256 W256 (by omega)
      have J179 : ∀ (n179 : Nat) (P179 : PP) (v179_2 : Int32) (v179_3 : Int32) (v179_4 : Int32) (v179_5 : Int32), (20 - v179_5.toInt).toNat < n179 → (IM P179 a0) → (EM [35, 36, 37, 38] a0 P P179) → (MW P179 a0) → (0 ≤ v33_1.toInt ∧ v33_1.toInt ≤ 63) → (0 ≤ v179_4.toInt ∧ v179_4.toInt ≤ 19) → (0 ≤ v179_5.toInt ∧ v179_5.toInt ≤ 20) → (1 ≤ (pI P179 a0 28).toInt ∧ (pI P179 a0 28).toInt ≤ 64) → G E ({ frames := 1, cells := 0, slots := 0, locals := 64 } : Room) D cy 6 P179 0 0 179 [(0, .ref a0), (1, .int v33_1), (2, .int v179_2), (3, .int v179_3), (4, .int v179_4), (5, .int v179_5)] [] := by
        intro n179
        induction n179 with
        | zero => intro P179 v179_2 v179_3 v179_4 v179_5 hm179 I179 X179 W179 hv179_1 hv179_4 hv179_5 hq179_0; omega
        | succ n179 ih179 =>
          intro P179 v179_2 v179_3 v179_4 v179_5 hm179 I179 X179 W179 hv179_1 hv179_4 hv179_5 hq179_0
          have h23127 := X179.at ha0
          have J224 : ∀ (P224 : PP), (IM P224 a0) → (EM [35, 36, 37, 38] a0 P P224) → (MW P224 a0) → (0 ≤ v33_1.toInt ∧ v33_1.toInt ≤ 63) → (0 ≤ v179_5.toInt ∧ v179_5.toInt ≤ 19) → (1 ≤ (pI P224 a0 28).toInt ∧ (pI P224 a0 28).toInt ≤ 64) → G E ({ frames := 1, cells := 0, slots := 0, locals := 64 } : Room) D cy 6 P224 0 0 224 [(0, .ref a0), (1, .int v33_1), (2, .int v179_2), (3, .int v179_3), (4, .int v179_4), (5, .int v179_5)] [] := by
            intro P224 I224 X224 W224 hv224_1 hv224_5 hq224_0
            have h23128 := X224.at ha0
            refine s_iinc (lv0 := [(0, .ref a0), (1, .int v33_1), (2, .int v179_2), (3, .int v179_3), (4, .int v179_4)]) (m := 1) C dX12_findSolved_224 5 rfl (by decide) rfl (by decide) (by omega) (fun z23129 h23130 => ?_)
            have h23130 : z23129.toInt = v179_5.toInt + 1 := h23130
            refine g_goto C 179 dX12_findSolved_227 (by decide) ?_
            refine g_lv (lv' := [(0, .ref a0), (1, .int v33_1), (2, .int v179_2), (3, .int v179_3), (4, .int v179_4), (5, .int z23129)]) [1, 2, 3, 4, 5, 0] rfl ?_
            exact ih179 P224 v179_2 v179_3 v179_4 z23129 (by omega) I224 X224 W224 (by omega) (by omega) (by omega) (by omega)
          refine g_iload C dX12_findSolved_179 5 rfl ?_
          refine g_bipush (v := 20) C dX12_findSolved_181 (by decide) ?_
          refine b_icmp_ge C 230 dX12_findSolved_183 (by decide) (fun h23131 => ?_) (fun h23131 => ?_)
          · have h23131 : 20 ≤ v179_5.toInt := h23131
            refine g_aload_n C dX12_findSolved_230 rfl 0 rfl ?_
            obtain ⟨b23132, e23133, h23134⟩ := I179.fld (h23127) 37 13 20 rfl
            refine g_getR C fi_X12_106 rfl e23133 (h23127).1 (h23127).2 dX12_findSolved_231 ?_
            refine g_iload C dX12_findSolved_234 4 rfl ?_
            refine g_iload_n C dX12_findSolved_236 rfl 2 rfl ?_
            refine g_iast (j := (v179_4.toInt.toNat)) C h23134.1 h23134.2.1 (ix_in h23134.2.2 (by omega)) dX12_findSolved_237 ?_
            refine gqW (ks := [37]) (I179.setA e23133 h23134 (by decide) (arOk.none rfl)) (EM.setA I179 e23133 rfl (by decide)) (fun Y23135 Iy23136 Xy23137 w23138 => ?_)
            have w23138 : (pI Y23135 b23132 (v179_4.toInt.toNat)).toInt = v179_2.toInt := w23138
            have q23139 := Xy23137.keepF 28 (by decide)
            have W23140 := W179.keep I179 Xy23137 (by decide) (by decide) (by decide)
            have Xz23141 : EM [35, 36, 37, 38] a0 P Y23135 := EM.tr ha0 X179 (Xy23137.mono (by decide))
            have e23142 := Xy23137.ref h23127 (by decide) e23133
            have h23143 := Xy23137.at h23127
            have h23144 := Xy23137.ar h23134
            refine g_aload_n C dX12_findSolved_238 rfl 0 rfl ?_
            obtain ⟨b23145, e23146, h23147⟩ := Iy23136.fld (h23143) 38 13 20 rfl
            refine g_getR C fi_X12_109 rfl e23146 (h23143).1 (h23143).2 dX12_findSolved_239 ?_
            refine g_iload C dX12_findSolved_242 4 rfl ?_
            refine g_iload_n C dX12_findSolved_244 rfl 3 rfl ?_
            refine g_iast (j := (v179_4.toInt.toNat)) C h23147.1 h23147.2.1 (ix_in h23147.2.2 (by omega)) dX12_findSolved_245 ?_
            refine gqW (ks := [38]) (Iy23136.setA e23146 h23147 (by decide) (arOk.none rfl)) (EM.setA Iy23136 e23146 rfl (by decide)) (fun Y23148 Iy23149 Xy23150 w23151 => ?_)
            have w23151 : (pI Y23148 b23145 (v179_4.toInt.toNat)).toInt = v179_3.toInt := w23151
            have q23152 := Xy23150.keepF 28 (by decide)
            have q23153 := Xy23150.keepA e23142 (by decide) rfl (v179_4.toInt.toNat)
            have W23154 := W23140.keep Iy23136 Xy23150 (by decide) (by decide) (by decide)
            have Xz23155 : EM [35, 36, 37, 38] a0 P Y23148 := EM.tr ha0 Xz23141 (Xy23150.mono (by decide))
            have e23156 := Xy23150.ref h23143 (by decide) e23142
            have e23157 := Xy23150.ref h23143 (by decide) e23146
            have h23158 := Xy23150.at h23143
            have h23159 := Xy23150.ar h23144
            have h23160 := Xy23150.ar h23147
            refine g_aload_n C dX12_findSolved_246 rfl 0 rfl ?_
            refine g_dup C dX12_findSolved_247 rfl ?_
            refine g_getI C fi_X12_324 (by decide) (h23158).1 (h23158).2 dX12_findSolved_248 ?_
            refine g_iconst (v := 1) C dX12_findSolved_251 (by decide) ?_
            refine a_iadd C dX12_findSolved_252 (fun z23161 => ?_)
            refine g_putI C fi_X12_324 rfl (h23158).1 (h23158).2 dX12_findSolved_253 ?_
            refine gqW (ks := [35]) (Iy23149.setI (rgOk.none rfl)) (EM.setI Iy23149 (by decide)) (fun Y23163 Iy23164 Xy23165 w23166 => ?_)
            have w23166 : (pI Y23163 a0 35).toInt = z23161.toInt := w23166
            have q23167 := Xy23165.keepF 28 (by decide)
            have q23168 := Xy23165.keepA e23156 (by decide) rfl (v179_4.toInt.toNat)
            have q23169 := Xy23165.keepA e23157 (by decide) rfl (v179_4.toInt.toNat)
            have W23170 := W23154.keep Iy23149 Xy23165 (by decide) (by decide) (by decide)
            have Xz23171 : EM [35, 36, 37, 38] a0 P Y23163 := EM.tr ha0 Xz23155 (Xy23165.mono (by decide))
            have e23172 := Xy23165.ref h23158 (by decide) e23156
            have e23173 := Xy23165.ref h23158 (by decide) e23157
            have h23174 := Xy23165.at h23158
            have h23175 := Xy23165.ar h23159
            have h23176 := Xy23165.ar h23160
            refine g_lv (lv' := [(0, .ref a0), (1, .int v33_1)]) [0, 1] rfl ?_
            exact J256 Y23163 Iy23164 Xz23171 W23170 (by omega) (by omega)
          · have h23131 : v179_5.toInt < 20 := h23131
            refine g_aload_n C dX12_findSolved_186 rfl 0 rfl ?_
            obtain ⟨b23177, e23178, h23179⟩ := I179.fld (h23127) 37 13 20 rfl
            refine g_getR C fi_X12_106 rfl e23178 (h23127).1 (h23127).2 dX12_findSolved_187 ?_
            refine g_iload C dX12_findSolved_190 5 rfl ?_
            refine g_iald (j := (v179_5.toInt.toNat)) C h23179.1 h23179.2.1 (ix_in h23179.2.2 (by omega)) dX12_findSolved_192 ?_
            refine g_iload C dX12_findSolved_193 4 rfl ?_
            refine a_ishr C dX12_findSolved_195 (fun z23180 => ?_)
            refine g_iconst (v := 1) C dX12_findSolved_196 (by decide) ?_
            refine s_iand C dX12_findSolved_197 (by show 0 ≤ 1; omega) (fun z23182 h23183 => ?_)
            have h23183 : 0 ≤ z23182.toInt ∧ z23182.toInt ≤ 1 := h23183
            refine g_iconst (v := 1) C dX12_findSolved_198 (by decide) ?_
            refine b_icmp_ne C 224 dX12_findSolved_199 (by decide) (fun h23184 => ?_) (fun h23184 => ?_)
            · have h23184 : z23182.toInt ≠ 1 := ti_ne h23184
              exact J224 P179 I179 X179 W179 (by omega) (by omega) (by omega)
            · have h23184 : z23182.toInt = 1 := congrArg Int32.toInt h23184
              refine g_aload_n C dX12_findSolved_202 rfl 0 rfl ?_
              refine g_getR C fi_X12_106 rfl e23178 (h23127).1 (h23127).2 dX12_findSolved_203 ?_
              refine g_iload C dX12_findSolved_206 5 rfl ?_
              refine g_dup2_11 C dX12_findSolved_208 rfl rfl ?_
              refine g_iald (j := (v179_5.toInt.toNat)) C h23179.1 h23179.2.1 (ix_in h23179.2.2 (by omega)) dX12_findSolved_209 ?_
              refine g_iload_n C dX12_findSolved_210 rfl 2 rfl ?_
              refine a_ixor C dX12_findSolved_211 (fun z23185 => ?_)
              refine g_iast (j := (v179_5.toInt.toNat)) C h23179.1 h23179.2.1 (ix_in h23179.2.2 (by omega)) dX12_findSolved_212 ?_
              refine gqW (ks := [37]) (I179.setA e23178 h23179 (by decide) (arOk.none rfl)) (EM.setA I179 e23178 rfl (by decide)) (fun Y23187 Iy23188 Xy23189 w23190 => ?_)
              have w23190 : (pI Y23187 b23177 (v179_5.toInt.toNat)).toInt = z23185.toInt := w23190
              have q23191 := Xy23189.keepF 28 (by decide)
              have W23192 := W179.keep I179 Xy23189 (by decide) (by decide) (by decide)
              have Xz23193 : EM [35, 36, 37, 38] a0 P Y23187 := EM.tr ha0 X179 (Xy23189.mono (by decide))
              have e23194 := Xy23189.ref h23127 (by decide) e23178
              have h23195 := Xy23189.at h23127
              have h23196 := Xy23189.ar h23179
              refine g_aload_n C dX12_findSolved_213 rfl 0 rfl ?_
              obtain ⟨b23197, e23198, h23199⟩ := Iy23188.fld (h23195) 38 13 20 rfl
              refine g_getR C fi_X12_109 rfl e23198 (h23195).1 (h23195).2 dX12_findSolved_214 ?_
              refine g_iload C dX12_findSolved_217 5 rfl ?_
              refine g_dup2_11 C dX12_findSolved_219 rfl rfl ?_
              refine g_iald (j := (v179_5.toInt.toNat)) C h23199.1 h23199.2.1 (ix_in h23199.2.2 (by omega)) dX12_findSolved_220 ?_
              refine g_iload_n C dX12_findSolved_221 rfl 3 rfl ?_
              refine a_ixor C dX12_findSolved_222 (fun z23200 => ?_)
              refine g_iast (j := (v179_5.toInt.toNat)) C h23199.1 h23199.2.1 (ix_in h23199.2.2 (by omega)) dX12_findSolved_223 ?_
              refine gqW (ks := [38]) (Iy23188.setA e23198 h23199 (by decide) (arOk.none rfl)) (EM.setA Iy23188 e23198 rfl (by decide)) (fun Y23202 Iy23203 Xy23204 w23205 => ?_)
              have w23205 : (pI Y23202 b23197 (v179_5.toInt.toNat)).toInt = z23200.toInt := w23205
              have q23206 := Xy23204.keepF 28 (by decide)
              have q23207 := Xy23204.keepA e23194 (by decide) rfl (v179_5.toInt.toNat)
              have W23208 := W23192.keep Iy23188 Xy23204 (by decide) (by decide) (by decide)
              have Xz23209 : EM [35, 36, 37, 38] a0 P Y23202 := EM.tr ha0 Xz23193 (Xy23204.mono (by decide))
              have e23210 := Xy23204.ref h23195 (by decide) e23194
              have e23211 := Xy23204.ref h23195 (by decide) e23198
              have h23212 := Xy23204.at h23195
              have h23213 := Xy23204.ar h23196
              have h23214 := Xy23204.ar h23199
              exact J224 Y23202 Iy23203 Xz23209 W23208 (by omega) (by omega) (by omega)
      have J170 : ∀ (v170_s0 : Int32), (0 ≤ v33_1.toInt ∧ v33_1.toInt ≤ 63) → (0 ≤ v170_s0.toInt ∧ v170_s0.toInt ≤ 1) → (1 ≤ (pI P33 a0 28).toInt ∧ (pI P33 a0 28).toInt ≤ 64) → G E ({ frames := 1, cells := 0, slots := 0, locals := 64 } : Room) D cy 6 P33 0 0 170 [(0, .ref a0), (1, .int v33_1)] [.int v170_s0, .ref a0] := by
        intro v170_s0 hv170_1 hv170_s0 hq170_0
        have h23215 := X33.at ha0
        refine g_putZ C fi_X12_326 rfl (b01 (by omega)) (h23215).1 (h23215).2 dX12_findSolved_170 ?_
        refine gqW (ks := [36]) (I33.setI (rgOk.of rfl (by omega))) (EM.setI I33 (by decide)) (fun Y23216 Iy23217 Xy23218 w23219 => ?_)
        have w23219 : (pI Y23216 a0 36).toInt = v170_s0.toInt := w23219
        have q23220 := Xy23218.keepF 28 (by decide)
        have W23221 := W33.keep I33 Xy23218 (by decide) (by decide) (by decide)
        have Xz23222 : EM [35, 36, 37, 38] a0 P Y23216 := EM.tr ha0 X33 (Xy23218.mono (by decide))
        have h23223 := Xy23218.at h23215
        refine g_goto C 256 dX12_findSolved_173 (by decide) ?_
        exact J256 Y23216 Iy23217 Xz23222 W23221 (by omega) (by omega)
      have J169 : (0 ≤ v33_1.toInt ∧ v33_1.toInt ≤ 63) → (1 ≤ (pI P33 a0 28).toInt ∧ (pI P33 a0 28).toInt ≤ 64) → (0 ≤ (pI P33 a0 36).toInt ∧ (pI P33 a0 36).toInt ≤ 1) → G E ({ frames := 1, cells := 0, slots := 0, locals := 64 } : Room) D cy 6 P33 0 0 169 [(0, .ref a0), (1, .int v33_1)] [.ref a0] := by
        intro hv169_1 hq169_0 hq169_1
        have h23224 := X33.at ha0
        refine g_iconst (v := 0) C dX12_findSolved_169 (by decide) ?_
        exact J170 0 (by omega) (by decide) (by omega)
      have J118 : ∀ (n118 : Nat) (v118_2 : Int32) (v118_3 : Int32) (v118_4 : Int32) (v118_5 : Int32), (v118_5.toInt - (-1)).toNat < n118 → (0 ≤ v33_1.toInt ∧ v33_1.toInt ≤ 63) → (-1 ≤ v118_4.toInt ∧ v118_4.toInt ≤ 19) → (-1 ≤ v118_5.toInt ∧ v118_5.toInt ≤ 19) → (1 ≤ (pI P33 a0 28).toInt ∧ (pI P33 a0 28).toInt ≤ 64) → G E ({ frames := 1, cells := 0, slots := 0, locals := 64 } : Room) D cy 6 P33 0 0 118 [(0, .ref a0), (1, .int v33_1), (2, .int v118_2), (3, .int v118_3), (4, .int v118_4), (5, .int v118_5)] [] := by
        intro n118
        induction n118 with
        | zero => intro v118_2 v118_3 v118_4 v118_5 hm118 hv118_1 hv118_4 hv118_5 hq118_0; omega
        | succ n118 ih118 =>
          intro v118_2 v118_3 v118_4 v118_5 hm118 hv118_1 hv118_4 hv118_5 hq118_0
          have h23225 := X33.at ha0
          have J140 : ∀ (v140_s0 : Int32), (0 ≤ v33_1.toInt ∧ v33_1.toInt ≤ 63) → (0 ≤ v118_5.toInt ∧ v118_5.toInt ≤ 19) → (-1 ≤ v140_s0.toInt ∧ v140_s0.toInt ≤ 19) → (1 ≤ (pI P33 a0 28).toInt ∧ (pI P33 a0 28).toInt ≤ 64) → G E ({ frames := 1, cells := 0, slots := 0, locals := 64 } : Room) D cy 6 P33 0 0 140 [(0, .ref a0), (1, .int v33_1), (2, .int v118_2), (3, .int v118_3), (5, .int v118_5)] [.int v140_s0] := by
            intro v140_s0 hv140_1 hv140_5 hv140_s0 hq140_0
            have h23226 := X33.at ha0
            refine g_istore (lv' := [(4, .int v140_s0), (0, .ref a0), (1, .int v33_1), (2, .int v118_2), (3, .int v118_3), (5, .int v118_5)]) C dX12_findSolved_140 (by decide) rfl ?_
            refine s_iinc (lv0 := [(4, .int v140_s0), (0, .ref a0), (1, .int v33_1), (2, .int v118_2), (3, .int v118_3)]) (m := -1) C dX12_findSolved_142 5 rfl (by decide) rfl (by decide) (by omega) (fun z23227 h23228 => ?_)
            have h23228 : z23227.toInt = v118_5.toInt + (-1) := h23228
            refine g_goto C 118 dX12_findSolved_145 (by decide) ?_
            refine g_lv (lv' := [(0, .ref a0), (1, .int v33_1), (2, .int v118_2), (3, .int v118_3), (4, .int v140_s0), (5, .int z23227)]) [2, 3, 4, 5, 1, 0] rfl ?_
            exact ih118 v118_2 v118_3 v140_s0 z23227 (by omega) (by omega) (by omega) (by omega) (by omega)
          refine g_iload C dX12_findSolved_118 5 rfl ?_
          refine b_if_lt C 148 dX12_findSolved_120 (by decide) (fun h23229 => ?_) (fun h23229 => ?_)
          · have h23229 : v118_5.toInt < 0 := h23229
            refine g_iload C dX12_findSolved_148 4 rfl ?_
            refine b_if_ge C 176 dX12_findSolved_150 (by decide) (fun h23230 => ?_) (fun h23230 => ?_)
            · have h23230 : 0 ≤ v118_4.toInt := h23230
              refine g_iconst (v := 0) C dX12_findSolved_176 (by decide) ?_
              refine g_istore (lv' := [(5, .int 0), (0, .ref a0), (1, .int v33_1), (2, .int v118_2), (3, .int v118_3), (4, .int v118_4)]) C dX12_findSolved_177 (by decide) rfl ?_
              refine g_lv (lv' := [(0, .ref a0), (1, .int v33_1), (2, .int v118_2), (3, .int v118_3), (4, .int v118_4), (5, .int 0)]) [1, 2, 3, 4, 5, 0] rfl ?_
              exact J179 _ P33 v118_2 v118_3 v118_4 0 (Nat.lt_succ_self _) I33 X33 W33 (by omega) (by omega) (by decide) (by omega)
            · have h23230 : v118_4.toInt < 0 := h23230
              refine g_aload_n C dX12_findSolved_153 rfl 0 rfl ?_
              refine g_aload_n C dX12_findSolved_154 rfl 0 rfl ?_
              refine g_getI C fi_X12_326 (by decide) (h23225).1 (h23225).2 dX12_findSolved_155 ?_
              have h23231 := I33.rg (h23225) 36 rfl
              refine b_if_eq C 169 dX12_findSolved_158 (by decide) (fun h23232 => ?_) (fun h23232 => ?_)
              · have h23232 : (pI P33 a0 36).toInt = 0 := congrArg Int32.toInt h23232
                refine g_lv (lv' := [(0, .ref a0), (1, .int v33_1)]) [0, 1] rfl ?_
                exact J169 (by omega) (by omega) (by omega)
              · have h23232 : (pI P33 a0 36).toInt ≠ 0 := ti_ne h23232
                refine g_iload_n C dX12_findSolved_161 rfl 3 rfl ?_
                have u23234 := ti_rng v118_3
                refine b_if_ne C 169 dX12_findSolved_162 (by decide) (fun h23233 => ?_) (fun h23233 => ?_)
                · have h23233 : v118_3.toInt ≠ 0 := ti_ne h23233
                  refine g_lv (lv' := [(0, .ref a0), (1, .int v33_1)]) [0, 1] rfl ?_
                  exact J169 (by omega) (by omega) (by omega)
                · have h23233 : v118_3.toInt = 0 := congrArg Int32.toInt h23233
                  refine g_iconst (v := 1) C dX12_findSolved_165 (by decide) ?_
                  refine g_goto C 170 dX12_findSolved_166 (by decide) ?_
                  refine g_lv (lv' := [(0, .ref a0), (1, .int v33_1)]) [0, 1] rfl ?_
                  exact J170 1 (by omega) (by decide) (by omega)
          · have h23229 : 0 ≤ v118_5.toInt := h23229
            refine g_iload_n C dX12_findSolved_123 rfl 2 rfl ?_
            refine g_iload C dX12_findSolved_124 5 rfl ?_
            refine a_ishr C dX12_findSolved_126 (fun z23235 => ?_)
            refine g_iconst (v := 1) C dX12_findSolved_127 (by decide) ?_
            refine s_iand C dX12_findSolved_128 (by show 0 ≤ 1; omega) (fun z23237 h23238 => ?_)
            have h23238 : 0 ≤ z23237.toInt ∧ z23237.toInt ≤ 1 := h23238
            refine g_iconst (v := 1) C dX12_findSolved_129 (by decide) ?_
            refine b_icmp_ne C 138 dX12_findSolved_130 (by decide) (fun h23239 => ?_) (fun h23239 => ?_)
            · have h23239 : z23237.toInt ≠ 1 := ti_ne h23239
              refine g_iload C dX12_findSolved_138 4 rfl ?_
              refine g_lv (lv' := [(0, .ref a0), (1, .int v33_1), (2, .int v118_2), (3, .int v118_3), (5, .int v118_5)]) [0, 1, 2, 3, 5] rfl ?_
              exact J140 v118_4 (by omega) (by omega) (by omega) (by omega)
            · have h23239 : z23237.toInt = 1 := congrArg Int32.toInt h23239
              refine g_iload C dX12_findSolved_133 5 rfl ?_
              refine g_goto C 140 dX12_findSolved_135 (by decide) ?_
              refine g_lv (lv' := [(0, .ref a0), (1, .int v33_1), (2, .int v118_2), (3, .int v118_3), (5, .int v118_5)]) [0, 1, 2, 3, 5] rfl ?_
              exact J140 v118_5 (by omega) (by omega) (by omega) (by omega)
      have J58 : ∀ (n58 : Nat) (v58_2 : Int32) (v58_3 : Int32) (v58_4 : Int32), (20 - v58_4.toInt).toNat < n58 → (0 ≤ v33_1.toInt ∧ v33_1.toInt ≤ 63) → (0 ≤ v58_4.toInt ∧ v58_4.toInt ≤ 20) → (1 ≤ (pI P33 a0 28).toInt ∧ (pI P33 a0 28).toInt ≤ 64) → G E ({ frames := 1, cells := 0, slots := 0, locals := 64 } : Room) D cy 6 P33 0 0 58 [(0, .ref a0), (1, .int v33_1), (2, .int v58_2), (3, .int v58_3), (4, .int v58_4)] [] := by
        intro n58
        induction n58 with
        | zero => intro v58_2 v58_3 v58_4 hm58 hv58_1 hv58_4 hq58_0; omega
        | succ n58 ih58 =>
          intro v58_2 v58_3 v58_4 hm58 hv58_1 hv58_4 hq58_0
          have h23240 := X33.at ha0
          have J105 : ∀ (v105_2 : Int32) (v105_3 : Int32), (0 ≤ v33_1.toInt ∧ v33_1.toInt ≤ 63) → (0 ≤ v58_4.toInt ∧ v58_4.toInt ≤ 19) → (1 ≤ (pI P33 a0 28).toInt ∧ (pI P33 a0 28).toInt ≤ 64) → G E ({ frames := 1, cells := 0, slots := 0, locals := 64 } : Room) D cy 6 P33 0 0 105 [(0, .ref a0), (1, .int v33_1), (2, .int v105_2), (3, .int v105_3), (4, .int v58_4)] [] := by
            intro v105_2 v105_3 hv105_1 hv105_4 hq105_0
            have h23241 := X33.at ha0
            refine s_iinc (lv0 := [(0, .ref a0), (1, .int v33_1), (2, .int v105_2), (3, .int v105_3)]) (m := 1) C dX12_findSolved_105 4 rfl (by decide) rfl (by decide) (by omega) (fun z23242 h23243 => ?_)
            have h23243 : z23242.toInt = v58_4.toInt + 1 := h23243
            refine g_goto C 58 dX12_findSolved_108 (by decide) ?_
            refine g_lv (lv' := [(0, .ref a0), (1, .int v33_1), (2, .int v105_2), (3, .int v105_3), (4, .int z23242)]) [1, 2, 3, 4, 0] rfl ?_
            exact ih58 v105_2 v105_3 z23242 (by omega) (by omega) (by omega) (by omega)
          refine g_iload C dX12_findSolved_58 4 rfl ?_
          refine g_bipush (v := 20) C dX12_findSolved_60 (by decide) ?_
          refine b_icmp_ge C 111 dX12_findSolved_62 (by decide) (fun h23244 => ?_) (fun h23244 => ?_)
          · have h23244 : 20 ≤ v58_4.toInt := h23244
            refine g_iconst (v := (-1)) C dX12_findSolved_111 (by decide) ?_
            refine g_istore (lv' := [(4, .int (-1)), (0, .ref a0), (1, .int v33_1), (2, .int v58_2), (3, .int v58_3)]) C dX12_findSolved_112 (by decide) rfl ?_
            refine g_bipush (v := 19) C dX12_findSolved_114 (by decide) ?_
            refine g_istore (lv' := [(5, .int 19), (4, .int (-1)), (0, .ref a0), (1, .int v33_1), (2, .int v58_2), (3, .int v58_3)]) C dX12_findSolved_116 (by decide) rfl ?_
            refine g_lv (lv' := [(0, .ref a0), (1, .int v33_1), (2, .int v58_2), (3, .int v58_3), (4, .int (-1)), (5, .int 19)]) [2, 3, 4, 5, 1, 0] rfl ?_
            exact J118 _ v58_2 v58_3 (-1) 19 (Nat.lt_succ_self _) (by omega) (by decide) (by decide) (by omega)
          · have h23244 : v58_4.toInt < 20 := h23244
            refine g_iload_n C dX12_findSolved_65 rfl 2 rfl ?_
            refine g_iload C dX12_findSolved_66 4 rfl ?_
            refine a_ishr C dX12_findSolved_68 (fun z23245 => ?_)
            refine g_iconst (v := 1) C dX12_findSolved_69 (by decide) ?_
            refine s_iand C dX12_findSolved_70 (by show 0 ≤ 1; omega) (fun z23247 h23248 => ?_)
            have h23248 : 0 ≤ z23247.toInt ∧ z23247.toInt ≤ 1 := h23248
            refine g_iconst (v := 1) C dX12_findSolved_71 (by decide) ?_
            refine b_icmp_ne C 105 dX12_findSolved_72 (by decide) (fun h23249 => ?_) (fun h23249 => ?_)
            · have h23249 : z23247.toInt ≠ 1 := ti_ne h23249
              exact J105 v58_2 v58_3 (by omega) (by omega) (by omega)
            · have h23249 : z23247.toInt = 1 := congrArg Int32.toInt h23249
              refine g_aload_n C dX12_findSolved_75 rfl 0 rfl ?_
              obtain ⟨b23250, e23251, h23252⟩ := I33.fld (h23240) 37 13 20 rfl
              refine g_getR C fi_X12_106 rfl e23251 (h23240).1 (h23240).2 dX12_findSolved_76 ?_
              refine g_iload C dX12_findSolved_79 4 rfl ?_
              refine g_iald (j := (v58_4.toInt.toNat)) C h23252.1 h23252.2.1 (ix_in h23252.2.2 (by omega)) dX12_findSolved_81 ?_
              have u23254 := ti_rng (pI P33 b23250 (v58_4.toInt.toNat))
              refine b_if_eq C 105 dX12_findSolved_82 (by decide) (fun h23253 => ?_) (fun h23253 => ?_)
              · have h23253 : (pI P33 b23250 (v58_4.toInt.toNat)).toInt = 0 := congrArg Int32.toInt h23253
                exact J105 v58_2 v58_3 (by omega) (by omega) (by omega)
              · have h23253 : (pI P33 b23250 (v58_4.toInt.toNat)).toInt ≠ 0 := ti_ne h23253
                refine g_iload_n C dX12_findSolved_85 rfl 2 rfl ?_
                refine g_aload_n C dX12_findSolved_86 rfl 0 rfl ?_
                refine g_getR C fi_X12_106 rfl e23251 (h23240).1 (h23240).2 dX12_findSolved_87 ?_
                refine g_iload C dX12_findSolved_90 4 rfl ?_
                refine g_iald (j := (v58_4.toInt.toNat)) C h23252.1 h23252.2.1 (ix_in h23252.2.2 (by omega)) dX12_findSolved_92 ?_
                refine a_ixor C dX12_findSolved_93 (fun z23255 => ?_)
                refine g_istore_n (lv' := [(2, .int z23255), (0, .ref a0), (1, .int v33_1), (3, .int v58_3), (4, .int v58_4)]) C dX12_findSolved_94 rfl (by decide) rfl ?_
                refine g_iload_n C dX12_findSolved_95 rfl 3 rfl ?_
                refine g_aload_n C dX12_findSolved_96 rfl 1 rfl ?_
                obtain ⟨b23257, e23258, h23259⟩ := I33.fld (h23240) 38 13 20 rfl
                refine g_getR C fi_X12_109 rfl e23258 (h23240).1 (h23240).2 dX12_findSolved_97 ?_
                refine g_iload C dX12_findSolved_100 4 rfl ?_
                refine g_iald (j := (v58_4.toInt.toNat)) C h23259.1 h23259.2.1 (ix_in h23259.2.2 (by omega)) dX12_findSolved_102 ?_
                refine a_ixor C dX12_findSolved_103 (fun z23260 => ?_)
                refine g_istore_n (lv' := [(3, .int z23260), (2, .int z23255), (0, .ref a0), (1, .int v33_1), (4, .int v58_4)]) C dX12_findSolved_104 rfl (by decide) rfl ?_
                refine g_lv (lv' := [(0, .ref a0), (1, .int v33_1), (2, .int z23255), (3, .int z23260), (4, .int v58_4)]) [2, 3, 1, 0, 4] rfl ?_
                exact J105 z23255 z23260 (by omega) (by omega) (by omega)
      refine g_iload_n C dX12_findSolved_33 rfl 1 rfl ?_
      refine g_aload_n C dX12_findSolved_34 rfl 0 rfl ?_
      refine g_getI C fi_X12_305 (by decide) (h23123).1 (h23123).2 dX12_findSolved_35 ?_
      have h23262 := I33.rg (h23123) 28 rfl
      refine b_icmp_ge C 262 dX12_findSolved_38 (by decide) (fun h23263 => ?_) (fun h23263 => ?_)
      · have h23263 : (pI P33 a0 28).toInt ≤ v33_1.toInt := h23263
        exact ret _ _ _ _ _ dX12_findSolved_262 (by decide) (by decide) ⟨I33, X33, W33⟩
      · have h23263 : v33_1.toInt < (pI P33 a0 28).toInt := h23263
        refine g_aload_n C dX12_findSolved_41 rfl 0 rfl ?_
        obtain ⟨b23264, e23265, h23266⟩ := I33.fld (h23123) 29 13 64 rfl
        refine g_getR C fi_X12_91 rfl e23265 (h23123).1 (h23123).2 dX12_findSolved_42 ?_
        refine g_iload_n C dX12_findSolved_45 rfl 1 rfl ?_
        refine g_iald (j := (v33_1.toInt.toNat)) C h23266.1 h23266.2.1 (ix_in h23266.2.2 (by omega)) dX12_findSolved_46 ?_
        refine g_topi (fun z23267 h23268 => ?_)
        have h23268 : z23267.toInt = (pI P33 b23264 (v33_1.toInt.toNat)).toInt := congrArg Int32.toInt h23268
        refine g_istore_n (lv' := [(2, .int z23267), (0, .ref a0), (1, .int v33_1)]) C dX12_findSolved_47 rfl (by decide) rfl ?_
        refine g_aload_n C dX12_findSolved_48 rfl 1 rfl ?_
        obtain ⟨b23269, e23270, h23271⟩ := I33.fld (h23123) 30 13 64 rfl
        refine g_getR C fi_X12_94 rfl e23270 (h23123).1 (h23123).2 dX12_findSolved_49 ?_
        refine g_iload_n C dX12_findSolved_52 rfl 2 rfl ?_
        refine g_iald (j := (v33_1.toInt.toNat)) C h23271.1 h23271.2.1 (ix_in h23271.2.2 (by omega)) dX12_findSolved_53 ?_
        refine g_topi (fun z23272 h23273 => ?_)
        have h23273 : z23272.toInt = (pI P33 b23269 (v33_1.toInt.toNat)).toInt := congrArg Int32.toInt h23273
        refine g_istore_n (lv' := [(3, .int z23272), (2, .int z23267), (0, .ref a0), (1, .int v33_1)]) C dX12_findSolved_54 rfl (by decide) rfl ?_
        refine g_iconst (v := 0) C dX12_findSolved_55 (by decide) ?_
        refine g_istore (lv' := [(4, .int 0), (3, .int z23272), (2, .int z23267), (0, .ref a0), (1, .int v33_1)]) C dX12_findSolved_56 (by decide) rfl ?_
        refine g_lv (lv' := [(0, .ref a0), (1, .int v33_1), (2, .int z23267), (3, .int z23272), (4, .int 0)]) [3, 4, 2, 1, 0] rfl ?_
        exact J58 _ z23267 z23272 0 (Nat.lt_succ_self _) (by omega) (by decide) (by omega)
  have J12 : ∀ (n12 : Nat) (P12 : PP) (v12_1 : Int32), (20 - v12_1.toInt).toNat < n12 → (IM P12 a0) → (EM [35, 36, 37, 38] a0 P P12) → (MW P12 a0) → (0 ≤ v12_1.toInt ∧ v12_1.toInt ≤ 20) → (0 ≤ (pI P12 a0 35).toInt ∧ (pI P12 a0 35).toInt ≤ 0) → (1 ≤ (pI P12 a0 36).toInt ∧ (pI P12 a0 36).toInt ≤ 1) → G E ({ frames := 1, cells := 0, slots := 0, locals := 64 } : Room) D cy 6 P12 0 0 12 [(0, .ref a0), (1, .int v12_1)] [] := by
    intro n12
    induction n12 with
    | zero => intro P12 v12_1 hm12 I12 X12 W12 hv12_1 hq12_0 hq12_1; omega
    | succ n12 ih12 =>
      intro P12 v12_1 hm12 I12 X12 W12 hv12_1 hq12_0 hq12_1
      have h23274 := X12.at ha0
      refine g_iload_n C dX12_findSolved_12 rfl 1 rfl ?_
      refine g_bipush (v := 20) C dX12_findSolved_13 (by decide) ?_
      refine b_icmp_ge C 31 dX12_findSolved_15 (by decide) (fun h23275 => ?_) (fun h23275 => ?_)
      · have h23275 : 20 ≤ v12_1.toInt := h23275
        refine g_iconst (v := 0) C dX12_findSolved_31 (by decide) ?_
        refine g_istore_n (lv' := [(1, .int 0), (0, .ref a0)]) C dX12_findSolved_32 rfl (by decide) rfl ?_
        refine g_lv (lv' := [(0, .ref a0), (1, .int 0)]) [1, 0] rfl ?_
        exact J33 _ P12 0 (Nat.lt_succ_self _) I12 X12 W12 (by decide)
      · have h23275 : v12_1.toInt < 20 := h23275
        refine g_aload_n C dX12_findSolved_18 rfl 0 rfl ?_
        obtain ⟨b23276, e23277, h23278⟩ := I12.fld (h23274) 37 13 20 rfl
        refine g_getR C fi_X12_106 rfl e23277 (h23274).1 (h23274).2 dX12_findSolved_19 ?_
        refine g_iload_n C dX12_findSolved_22 rfl 1 rfl ?_
        refine g_iconst (v := 0) C dX12_findSolved_23 (by decide) ?_
        refine g_iast (j := (v12_1.toInt.toNat)) C h23278.1 h23278.2.1 (ix_in h23278.2.2 (by omega)) dX12_findSolved_24 ?_
        refine gqW (ks := [37]) (I12.setA e23277 h23278 (by decide) (arOk.none rfl)) (EM.setA I12 e23277 rfl (by decide)) (fun Y23279 Iy23280 Xy23281 w23282 => ?_)
        have w23282 : (pI Y23279 b23276 (v12_1.toInt.toNat)).toInt = 0 := w23282
        have q23283 := Xy23281.keepF 35 (by decide)
        have q23284 := Xy23281.keepF 36 (by decide)
        have W23285 := W12.keep I12 Xy23281 (by decide) (by decide) (by decide)
        have Xz23286 : EM [35, 36, 37, 38] a0 P Y23279 := EM.tr ha0 X12 (Xy23281.mono (by decide))
        have e23287 := Xy23281.ref h23274 (by decide) e23277
        have h23288 := Xy23281.at h23274
        have h23289 := Xy23281.ar h23278
        refine s_iinc (lv0 := [(0, .ref a0)]) (m := 1) C dX12_findSolved_25 1 rfl (by decide) rfl (by decide) (by omega) (fun z23290 h23291 => ?_)
        have h23291 : z23290.toInt = v12_1.toInt + 1 := h23291
        refine g_goto C 12 dX12_findSolved_28 (by decide) ?_
        refine g_lv (lv' := [(0, .ref a0), (1, .int z23290)]) [1, 0] rfl ?_
        exact ih12 Y23279 z23290 (by omega) Iy23280 Xz23286 W23285 (by omega) (by omega) (by omega)
  refine g_aload_n C dX12_findSolved_0 rfl 0 rfl ?_
  refine g_iconst (v := 0) C dX12_findSolved_1 (by decide) ?_
  refine g_putI C fi_X12_324 rfl (ha0).1 (ha0).2 dX12_findSolved_2 ?_
  refine gqW (ks := [35]) (I.setI (rgOk.none rfl)) (EM.setI I (by decide)) (fun Y23292 Iy23293 Xy23294 w23295 => ?_)
  have w23295 : (pI Y23292 a0 35).toInt = 0 := w23295
  have W23296 := hW.keep I Xy23294 (by decide) (by decide) (by decide)
  have Xz23297 : EM [35, 36, 37, 38] a0 P Y23292 := Xy23294.mono (by decide)
  have h23298 := Xy23294.at ha0
  refine g_aload_n C dX12_findSolved_5 rfl 0 rfl ?_
  refine g_iconst (v := 1) C dX12_findSolved_6 (by decide) ?_
  refine g_putZ C fi_X12_326 rfl (Or.inr rfl) (h23298).1 (h23298).2 dX12_findSolved_7 ?_
  refine gqW (ks := [36]) (Iy23293.setI (rgOk.of rfl (by decide))) (EM.setI Iy23293 (by decide)) (fun Y23299 Iy23300 Xy23301 w23302 => ?_)
  have w23302 : (pI Y23299 a0 36).toInt = 1 := w23302
  have q23303 := Xy23301.keepF 35 (by decide)
  have W23304 := W23296.keep Iy23293 Xy23301 (by decide) (by decide) (by decide)
  have Xz23305 : EM [35, 36, 37, 38] a0 P Y23299 := EM.tr ha0 Xz23297 (Xy23301.mono (by decide))
  have h23306 := Xy23301.at h23298
  refine g_iconst (v := 0) C dX12_findSolved_10 (by decide) ?_
  refine g_istore_n (lv' := [(1, .int 0), (0, .ref a0)]) C dX12_findSolved_11 rfl (by decide) rfl ?_
  refine g_lv (lv' := [(0, .ref a0), (1, .int 0)]) [1, 0] rfl ?_
  exact J12 _ Y23299 0 (Nat.lt_succ_self _) Iy23300 Xz23305 W23304 (by decide) (by omega) (by omega)
theorem dX12_chancesOf_72 : decode cX12_chancesOf 72 = .ok (.aload_n 0, 1) := by decide +kernel
theorem dX12_chancesOf_73 : decode cX12_chancesOf 73 = .ok (.invokevirtual 343, 3) := by decide +kernel
theorem dX12_findPeeled_0 : decode cX12_findPeeled 0 = .ok (.aload_n 0, 1) := by decide +kernel
theorem dX12_findPeeled_1 : decode cX12_findPeeled 1 = .ok (.iconst 0, 1) := by decide +kernel
theorem dX12_findPeeled_2 : decode cX12_findPeeled 2 = .ok (.putfield 318, 3) := by decide +kernel
theorem dX12_findPeeled_5 : decode cX12_findPeeled 5 = .ok (.iconst 1, 1) := by decide +kernel
theorem dX12_findPeeled_6 : decode cX12_findPeeled 6 = .ok (.istore_n 1, 1) := by decide +kernel
theorem dX12_findPeeled_7 : decode cX12_findPeeled 7 = .ok (.iload_n 1, 1) := by decide +kernel
theorem dX12_findPeeled_8 : decode cX12_findPeeled 8 = .ok (.ifCond .eq 112, 3) := by decide +kernel
theorem dX12_findPeeled_11 : decode cX12_findPeeled 11 = .ok (.iconst 0, 1) := by decide +kernel
theorem dX12_findPeeled_12 : decode cX12_findPeeled 12 = .ok (.istore_n 1, 1) := by decide +kernel
theorem dX12_findPeeled_13 : decode cX12_findPeeled 13 = .ok (.iconst 0, 1) := by decide +kernel
theorem dX12_findPeeled_14 : decode cX12_findPeeled 14 = .ok (.istore_n 2, 1) := by decide +kernel
theorem dX12_findPeeled_15 : decode cX12_findPeeled 15 = .ok (.iload_n 2, 1) := by decide +kernel
theorem dX12_findPeeled_16 : decode cX12_findPeeled 16 = .ok (.aload_n 0, 1) := by decide +kernel
theorem dX12_findPeeled_17 : decode cX12_findPeeled 17 = .ok (.getfield 305, 3) := by decide +kernel
theorem dX12_findPeeled_20 : decode cX12_findPeeled 20 = .ok (.if_icmp .ge 97, 3) := by decide +kernel
theorem dX12_findPeeled_23 : decode cX12_findPeeled 23 = .ok (.iload_n 1, 1) := by decide +kernel
theorem dX12_findPeeled_24 : decode cX12_findPeeled 24 = .ok (.ifCond .ne 93, 3) := by decide +kernel
theorem dX12_findPeeled_27 : decode cX12_findPeeled 27 = .ok (.aload_n 0, 1) := by decide +kernel
theorem dX12_findPeeled_28 : decode cX12_findPeeled 28 = .ok (.getfield 91, 3) := by decide +kernel
theorem dX12_findPeeled_31 : decode cX12_findPeeled 31 = .ok (.iload_n 2, 1) := by decide +kernel
theorem dX12_findPeeled_32 : decode cX12_findPeeled 32 = .ok (.iaload, 1) := by decide +kernel
theorem dX12_findPeeled_33 : decode cX12_findPeeled 33 = .ok (.aload_n 0, 1) := by decide +kernel
theorem dX12_findPeeled_34 : decode cX12_findPeeled 34 = .ok (.getfield 318, 3) := by decide +kernel
theorem dX12_findPeeled_37 : decode cX12_findPeeled 37 = .ok (.iconst (-1), 1) := by decide +kernel
theorem dX12_findPeeled_38 : decode cX12_findPeeled 38 = .ok (.ixor, 1) := by decide +kernel
theorem dX12_findPeeled_39 : decode cX12_findPeeled 39 = .ok (.iand, 1) := by decide +kernel
theorem dX12_findPeeled_40 : decode cX12_findPeeled 40 = .ok (.istore_n 3, 1) := by decide +kernel
theorem dX12_findPeeled_41 : decode cX12_findPeeled 41 = .ok (.iload_n 3, 1) := by decide +kernel
theorem dX12_findPeeled_42 : decode cX12_findPeeled 42 = .ok (.invokestatic 264, 3) := by decide +kernel
theorem dX12_findPeeled_45 : decode cX12_findPeeled 45 = .ok (.iconst 1, 1) := by decide +kernel
theorem dX12_findPeeled_46 : decode cX12_findPeeled 46 = .ok (.if_icmp .ne 65, 3) := by decide +kernel
theorem dX12_findPeeled_49 : decode cX12_findPeeled 49 = .ok (.iconst 1, 1) := by decide +kernel
theorem dX12_findPeeled_50 : decode cX12_findPeeled 50 = .ok (.istore_n 1, 1) := by decide +kernel
theorem dX12_findPeeled_51 : decode cX12_findPeeled 51 = .ok (.aload_n 0, 1) := by decide +kernel
theorem dX12_findPeeled_52 : decode cX12_findPeeled 52 = .ok (.iload_n 2, 1) := by decide +kernel
theorem dX12_findPeeled_53 : decode cX12_findPeeled 53 = .ok (.invokevirtual 321, 3) := by decide +kernel
theorem dX12_comesTo_0 : decode cX12_comesTo 0 = .ok (.aload_n 0, 1) := by decide +kernel
theorem dX12_comesTo_1 : decode cX12_comesTo 1 = .ok (.getfield 94, 3) := by decide +kernel
theorem dX12_comesTo_4 : decode cX12_comesTo 4 = .ok (.iload_n 1, 1) := by decide +kernel
theorem dX12_comesTo_5 : decode cX12_comesTo 5 = .ok (.iaload, 1) := by decide +kernel
theorem dX12_comesTo_6 : decode cX12_comesTo 6 = .ok (.istore_n 2, 1) := by decide +kernel
theorem dX12_comesTo_7 : decode cX12_comesTo 7 = .ok (.iconst 0, 1) := by decide +kernel
theorem dX12_comesTo_8 : decode cX12_comesTo 8 = .ok (.istore_n 3, 1) := by decide +kernel
theorem dX12_comesTo_9 : decode cX12_comesTo 9 = .ok (.iload_n 3, 1) := by decide +kernel
theorem dX12_comesTo_10 : decode cX12_comesTo 10 = .ok (.bipush 20, 2) := by decide +kernel
theorem dX12_comesTo_12 : decode cX12_comesTo 12 = .ok (.if_icmp .ge 40, 3) := by decide +kernel
theorem dX12_comesTo_15 : decode cX12_comesTo 15 = .ok (.iload_n 2, 1) := by decide +kernel
theorem dX12_comesTo_16 : decode cX12_comesTo 16 = .ok (.aload_n 0, 1) := by decide +kernel
theorem dX12_comesTo_17 : decode cX12_comesTo 17 = .ok (.getfield 91, 3) := by decide +kernel
theorem dX12_comesTo_20 : decode cX12_comesTo 20 = .ok (.iload_n 1, 1) := by decide +kernel
theorem dX12_comesTo_21 : decode cX12_comesTo 21 = .ok (.iaload, 1) := by decide +kernel
theorem dX12_comesTo_22 : decode cX12_comesTo 22 = .ok (.aload_n 0, 1) := by decide +kernel
theorem dX12_comesTo_23 : decode cX12_comesTo 23 = .ok (.getfield 318, 3) := by decide +kernel
theorem dX12_comesTo_26 : decode cX12_comesTo 26 = .ok (.iand, 1) := by decide +kernel
theorem dX12_comesTo_27 : decode cX12_comesTo 27 = .ok (.iconst 1, 1) := by decide +kernel
theorem dX12_comesTo_28 : decode cX12_comesTo 28 = .ok (.iload_n 3, 1) := by decide +kernel
theorem dX12_comesTo_29 : decode cX12_comesTo 29 = .ok (.ishl, 1) := by decide +kernel
theorem dX12_comesTo_30 : decode cX12_comesTo 30 = .ok (.iand, 1) := by decide +kernel
theorem dX12_comesTo_31 : decode cX12_comesTo 31 = .ok (.ifCond .eq 12, 3) := by decide +kernel
theorem dX12_comesTo_34 : decode cX12_comesTo 34 = .ok (.aload_n 0, 1) := by decide +kernel
theorem dX12_comesTo_35 : decode cX12_comesTo 35 = .ok (.getfield 103, 3) := by decide +kernel
theorem dX12_comesTo_38 : decode cX12_comesTo 38 = .ok (.iload_n 3, 1) := by decide +kernel
theorem dX12_comesTo_39 : decode cX12_comesTo 39 = .ok (.iaload, 1) := by decide +kernel
theorem dX12_comesTo_40 : decode cX12_comesTo 40 = .ok (.goto 4, 3) := by decide +kernel
theorem dX12_comesTo_43 : decode cX12_comesTo 43 = .ok (.iconst 0, 1) := by decide +kernel
theorem dX12_comesTo_44 : decode cX12_comesTo 44 = .ok (.ixor, 1) := by decide +kernel
theorem dX12_comesTo_45 : decode cX12_comesTo 45 = .ok (.istore_n 2, 1) := by decide +kernel
theorem dX12_comesTo_46 : decode cX12_comesTo 46 = .ok (.iinc 3 1, 3) := by decide +kernel
theorem dX12_comesTo_49 : decode cX12_comesTo 49 = .ok (.goto (-40), 3) := by decide +kernel
theorem dX12_comesTo_52 : decode cX12_comesTo 52 = .ok (.iload_n 2, 1) := by decide +kernel
theorem dX12_comesTo_53 : decode cX12_comesTo 53 = .ok (.ireturn, 1) := by decide +kernel
set_option maxHeartbeats 4000000 in
set_option maxRecDepth 100000 in
theorem s_X12_comesTo {P : PP} {a0 : Nat} {a1 : Int32} (I : IM P a0) (ha1 : 0 ≤ a1.toInt ∧ a1.toInt ≤ 63) (hW : MW P a0) : CtrI yX12_comesTo cX12_comesTo 4 (some Jvm.ClassFile.FieldType.int) ({ frames := 1, cells := 0, slots := 0, locals := 64 } : Room) 0 0 P [.ref a0, .int a1] (fun r P2 => P = P2 ∧ (True)) := by
  refine enI (lv := [(0, .ref a0), (1, .int a1)]) (by decide) (Nat.le_of_ble_eq_true rfl) rfl (fun E D cy C Ci0 ret => ?_)
  have ha0 := I.2.1
  have J9 : ∀ (n9 : Nat) (v9_2 : Int32) (v9_3 : Int32), (20 - v9_3.toInt).toNat < n9 → (0 ≤ v9_3.toInt ∧ v9_3.toInt ≤ 20) → G E ({ frames := 1, cells := 0, slots := 0, locals := 64 } : Room) D cy 4 P 0 0 9 [(0, .ref a0), (1, .int a1), (2, .int v9_2), (3, .int v9_3)] [] := by
    intro n9
    induction n9 with
    | zero => intro v9_2 v9_3 hm9 hv9_3; omega
    | succ n9 ih9 =>
      intro v9_2 v9_3 hm9 hv9_3
      have J44 : ∀ (v44_s0 : Int32), (0 ≤ v9_3.toInt ∧ v9_3.toInt ≤ 19) → G E ({ frames := 1, cells := 0, slots := 0, locals := 64 } : Room) D cy 4 P 0 0 44 [(0, .ref a0), (1, .int a1), (3, .int v9_3)] [.int v44_s0, .int v9_2] := by
        intro v44_s0 hv44_3
        refine a_ixor C dX12_comesTo_44 (fun z23700 => ?_)
        refine g_istore_n (lv' := [(2, .int z23700), (0, .ref a0), (1, .int a1), (3, .int v9_3)]) C dX12_comesTo_45 rfl (by decide) rfl ?_
        refine s_iinc (lv0 := [(2, .int z23700), (0, .ref a0), (1, .int a1)]) (m := 1) C dX12_comesTo_46 3 rfl (by decide) rfl (by decide) (by omega) (fun z23702 h23703 => ?_)
        have h23703 : z23702.toInt = v9_3.toInt + 1 := h23703
        refine g_goto C 9 dX12_comesTo_49 (by decide) ?_
        refine g_lv (lv' := [(0, .ref a0), (1, .int a1), (2, .int z23700), (3, .int z23702)]) [2, 3, 1, 0] rfl ?_
        exact ih9 z23700 z23702 (by omega) (by omega)
      refine g_iload_n C dX12_comesTo_9 rfl 3 rfl ?_
      refine g_bipush (v := 20) C dX12_comesTo_10 (by decide) ?_
      refine b_icmp_ge C 52 dX12_comesTo_12 (by decide) (fun h23704 => ?_) (fun h23704 => ?_)
      · have h23704 : 20 ≤ v9_3.toInt := h23704
        refine g_iload_n C dX12_comesTo_52 rfl 2 rfl ?_
        exact ret _ _ _ _ _ _ dX12_comesTo_53 rfl (by decide) (by decide) ⟨rfl, trivial⟩
      · have h23704 : v9_3.toInt < 20 := h23704
        refine g_iload_n C dX12_comesTo_15 rfl 2 rfl ?_
        refine g_aload_n C dX12_comesTo_16 rfl 0 rfl ?_
        obtain ⟨b23705, e23706, h23707⟩ := I.fld (ha0) 29 13 64 rfl
        refine g_getR C fi_X12_91 rfl e23706 (ha0).1 (ha0).2 dX12_comesTo_17 ?_
        refine g_iload_n C dX12_comesTo_20 rfl 1 rfl ?_
        refine g_iald (j := (a1.toInt.toNat)) C h23707.1 h23707.2.1 (ix_in h23707.2.2 (by omega)) dX12_comesTo_21 ?_
        refine g_aload_n C dX12_comesTo_22 rfl 0 rfl ?_
        refine g_getI C fi_X12_318 (by decide) (ha0).1 (ha0).2 dX12_comesTo_23 ?_
        refine a_iand C dX12_comesTo_26 (fun z23708 => ?_)
        refine g_iconst (v := 1) C dX12_comesTo_27 (by decide) ?_
        refine g_iload_n C dX12_comesTo_28 rfl 3 rfl ?_
        refine a_ishl C dX12_comesTo_29 (fun z23710 => ?_)
        refine a_iand C dX12_comesTo_30 (fun z23712 => ?_)
        have u23715 := ti_rng z23712
        refine b_if_eq C 43 dX12_comesTo_31 (by decide) (fun h23714 => ?_) (fun h23714 => ?_)
        · have h23714 : z23712.toInt = 0 := congrArg Int32.toInt h23714
          refine g_iconst (v := 0) C dX12_comesTo_43 (by decide) ?_
          refine g_lv (lv' := [(0, .ref a0), (1, .int a1), (3, .int v9_3)]) [0, 1, 3] rfl ?_
          exact J44 0 (by omega)
        · have h23714 : z23712.toInt ≠ 0 := ti_ne h23714
          refine g_aload_n C dX12_comesTo_34 rfl 0 rfl ?_
          obtain ⟨b23716, e23717, h23718⟩ := I.fld (ha0) 34 13 20 rfl
          refine g_getR C fi_X12_103 rfl e23717 (ha0).1 (ha0).2 dX12_comesTo_35 ?_
          refine g_iload_n C dX12_comesTo_38 rfl 3 rfl ?_
          refine g_iald (j := (v9_3.toInt.toNat)) C h23718.1 h23718.2.1 (ix_in h23718.2.2 (by omega)) dX12_comesTo_39 ?_
          refine g_goto C 44 dX12_comesTo_40 (by decide) ?_
          refine g_lv (lv' := [(0, .ref a0), (1, .int a1), (3, .int v9_3)]) [0, 1, 3] rfl ?_
          exact J44 (pI P b23716 (v9_3.toInt.toNat)) (by omega)
  refine g_aload_n C dX12_comesTo_0 rfl 0 rfl ?_
  obtain ⟨b23719, e23720, h23721⟩ := I.fld (ha0) 30 13 64 rfl
  refine g_getR C fi_X12_94 rfl e23720 (ha0).1 (ha0).2 dX12_comesTo_1 ?_
  refine g_iload_n C dX12_comesTo_4 rfl 1 rfl ?_
  refine g_iald (j := (a1.toInt.toNat)) C h23721.1 h23721.2.1 (ix_in h23721.2.2 (by omega)) dX12_comesTo_5 ?_
  refine g_topi (fun z23722 h23723 => ?_)
  have h23723 : z23722.toInt = (pI P b23719 (a1.toInt.toNat)).toInt := congrArg Int32.toInt h23723
  refine g_istore_n (lv' := [(2, .int z23722), (0, .ref a0), (1, .int a1)]) C dX12_comesTo_6 rfl (by decide) rfl ?_
  refine g_iconst (v := 0) C dX12_comesTo_7 (by decide) ?_
  refine g_istore_n (lv' := [(3, .int 0), (2, .int z23722), (0, .ref a0), (1, .int a1)]) C dX12_comesTo_8 rfl (by decide) rfl ?_
  refine g_lv (lv' := [(0, .ref a0), (1, .int a1), (2, .int z23722), (3, .int 0)]) [2, 3, 1, 0] rfl ?_
  exact J9 _ z23722 0 (Nat.lt_succ_self _) (by decide)
theorem dX12_findPeeled_56 : decode cX12_findPeeled 56 = .ok (.istore 4, 2) := by decide +kernel
theorem dX12_findPeeled_58 : decode cX12_findPeeled 58 = .ok (.iconst 0, 1) := by decide +kernel
theorem dX12_findPeeled_59 : decode cX12_findPeeled 59 = .ok (.istore 5, 2) := by decide +kernel
theorem dX12_findPeeled_61 : decode cX12_findPeeled 61 = .ok (.iload 5, 2) := by decide +kernel
theorem dX12_findPeeled_63 : decode cX12_findPeeled 63 = .ok (.bipush 20, 2) := by decide +kernel
theorem dX12_findPeeled_65 : decode cX12_findPeeled 65 = .ok (.if_icmp .ge 36, 3) := by decide +kernel
theorem dX12_findPeeled_68 : decode cX12_findPeeled 68 = .ok (.aload_n 0, 1) := by decide +kernel
theorem dX12_findPeeled_69 : decode cX12_findPeeled 69 = .ok (.getfield 103, 3) := by decide +kernel
theorem dX12_findPeeled_72 : decode cX12_findPeeled 72 = .ok (.iload 5, 2) := by decide +kernel
theorem dX12_findPeeled_74 : decode cX12_findPeeled 74 = .ok (.iload_n 3, 1) := by decide +kernel
theorem dX12_findPeeled_75 : decode cX12_findPeeled 75 = .ok (.iconst 1, 1) := by decide +kernel
theorem dX12_findPeeled_76 : decode cX12_findPeeled 76 = .ok (.iload 5, 2) := by decide +kernel
theorem dX12_findPeeled_78 : decode cX12_findPeeled 78 = .ok (.ishl, 1) := by decide +kernel
theorem dX12_findPeeled_79 : decode cX12_findPeeled 79 = .ok (.if_icmp .ne 8, 3) := by decide +kernel
theorem dX12_findPeeled_82 : decode cX12_findPeeled 82 = .ok (.iload 4, 2) := by decide +kernel
theorem dX12_findPeeled_84 : decode cX12_findPeeled 84 = .ok (.goto 10, 3) := by decide +kernel
theorem dX12_findPeeled_87 : decode cX12_findPeeled 87 = .ok (.aload_n 0, 1) := by decide +kernel
theorem dX12_findPeeled_88 : decode cX12_findPeeled 88 = .ok (.getfield 103, 3) := by decide +kernel
theorem dX12_findPeeled_91 : decode cX12_findPeeled 91 = .ok (.iload 5, 2) := by decide +kernel
theorem dX12_findPeeled_93 : decode cX12_findPeeled 93 = .ok (.iaload, 1) := by decide +kernel
theorem dX12_findPeeled_94 : decode cX12_findPeeled 94 = .ok (.iastore, 1) := by decide +kernel
theorem dX12_findPeeled_95 : decode cX12_findPeeled 95 = .ok (.iinc 5 1, 3) := by decide +kernel
theorem dX12_findPeeled_98 : decode cX12_findPeeled 98 = .ok (.goto (-37), 3) := by decide +kernel
theorem dX12_findPeeled_101 : decode cX12_findPeeled 101 = .ok (.aload_n 0, 1) := by decide +kernel
theorem dX12_findPeeled_102 : decode cX12_findPeeled 102 = .ok (.dup, 1) := by decide +kernel
theorem dX12_findPeeled_103 : decode cX12_findPeeled 103 = .ok (.getfield 318, 3) := by decide +kernel
theorem dX12_findPeeled_106 : decode cX12_findPeeled 106 = .ok (.iload_n 3, 1) := by decide +kernel
theorem dX12_findPeeled_107 : decode cX12_findPeeled 107 = .ok (.ior, 1) := by decide +kernel
theorem dX12_findPeeled_108 : decode cX12_findPeeled 108 = .ok (.putfield 318, 3) := by decide +kernel
theorem dX12_findPeeled_111 : decode cX12_findPeeled 111 = .ok (.iinc 2 1, 3) := by decide +kernel
theorem dX12_findPeeled_114 : decode cX12_findPeeled 114 = .ok (.goto (-99), 3) := by decide +kernel
theorem dX12_findPeeled_117 : decode cX12_findPeeled 117 = .ok (.goto (-110), 3) := by decide +kernel
theorem dX12_findPeeled_120 : decode cX12_findPeeled 120 = .ok (.return_, 1) := by decide +kernel
set_option maxHeartbeats 4000000 in
set_option maxRecDepth 100000 in
theorem s_X12_findPeeled {P : PP} {a0 : Nat} (I : IM P a0) (hW : MW P a0) : CtrV yX12_findPeeled cX12_findPeeled 6 none ({ frames := 2, cells := 0, slots := 0, locals := 128 } : Room) 0 0 P [.ref a0] (fun P2 => IM P2 a0 ∧ EM [33, 34] a0 P P2 ∧ MW P2 a0) := by
  refine enV (lv := [(0, .ref a0)]) (by decide) (Nat.le_of_ble_eq_true rfl) rfl (fun E D cy C Ci0 ret => ?_)
  have ha0 := I.2.1
  have J7 : ∀ (n7 : Nat) (P7 : PP) (v7_1 : Int32), (2 * (nf_M (pI P7 a0 33) : Int) + v7_1.toInt).toNat < n7 → (IM P7 a0) → (EM [33, 34] a0 P P7) → (MW P7 a0) → (0 ≤ v7_1.toInt ∧ v7_1.toInt ≤ 1) → G E ({ frames := 2, cells := 0, slots := 0, locals := 128 } : Room) D cy 6 P7 0 0 7 [(0, .ref a0), (1, .int v7_1)] [] := by
    intro n7
    induction n7 with
    | zero => intro P7 v7_1 hm7 I7 X7 W7 hv7_1; omega
    | succ n7 ih7 =>
      intro P7 v7_1 hm7 I7 X7 W7 hv7_1
      have h24909 := X7.at ha0
      have J117 : ∀ (P117 : PP) (v117_1 : Int32), (IM P117 a0) → (EM [33, 34] a0 P P117) → (MW P117 a0) → (0 ≤ v117_1.toInt ∧ v117_1.toInt ≤ 1) → ((v117_1.toInt = 0 ∧ nf_M (pI P117 a0 33) = nf_M (pI P7 a0 33)) ∨ (v117_1.toInt = 1 ∧ nf_M (pI P117 a0 33) < nf_M (pI P7 a0 33))) → (v7_1.toInt = 1) → G E ({ frames := 2, cells := 0, slots := 0, locals := 128 } : Room) D cy 6 P117 0 0 117 [(0, .ref a0), (1, .int v117_1)] [] := by
        intro P117 v117_1 I117 X117 W117 hv117_1 rel117_0 rel117_1
        have h24910 := X117.at ha0
        refine g_goto C 7 dX12_findPeeled_117 (by decide) ?_
        exact ih7 P117 v117_1 (by omega) I117 X117 W117 (by omega)
      have J15 : ∀ (n15 : Nat) (P15 : PP) (v15_1 : Int32) (v15_2 : Int32), (64 - v15_2.toInt).toNat < n15 → (IM P15 a0) → (EM [33, 34] a0 P P15) → (MW P15 a0) → (0 ≤ v15_1.toInt ∧ v15_1.toInt ≤ 1) → (0 ≤ v15_2.toInt ∧ v15_2.toInt ≤ 64) → ((v15_1.toInt = 0 ∧ nf_M (pI P15 a0 33) = nf_M (pI P7 a0 33)) ∨ (v15_1.toInt = 1 ∧ nf_M (pI P15 a0 33) < nf_M (pI P7 a0 33))) → (v7_1.toInt = 1) → G E ({ frames := 2, cells := 0, slots := 0, locals := 128 } : Room) D cy 6 P15 0 0 15 [(0, .ref a0), (1, .int v15_1), (2, .int v15_2)] [] := by
        intro n15
        induction n15 with
        | zero => intro P15 v15_1 v15_2 hm15 I15 X15 W15 hv15_1 hv15_2 rel15_0 rel15_1; omega
        | succ n15 ih15 =>
          intro P15 v15_1 v15_2 hm15 I15 X15 W15 hv15_1 hv15_2 rel15_0 rel15_1
          have h24911 := X15.at ha0
          have J111 : ∀ (P111 : PP) (v111_1 : Int32), (IM P111 a0) → (EM [33, 34] a0 P P111) → (MW P111 a0) → (0 ≤ v111_1.toInt ∧ v111_1.toInt ≤ 1) → (0 ≤ v15_2.toInt ∧ v15_2.toInt ≤ 63) → (1 ≤ (pI P111 a0 28).toInt ∧ (pI P111 a0 28).toInt ≤ 64) → ((v111_1.toInt = 0 ∧ nf_M (pI P111 a0 33) = nf_M (pI P7 a0 33)) ∨ (v111_1.toInt = 1 ∧ nf_M (pI P111 a0 33) < nf_M (pI P7 a0 33))) → (v7_1.toInt = 1) → G E ({ frames := 2, cells := 0, slots := 0, locals := 128 } : Room) D cy 6 P111 0 0 111 [(0, .ref a0), (1, .int v111_1), (2, .int v15_2)] [] := by
            intro P111 v111_1 I111 X111 W111 hv111_1 hv111_2 hq111_0 rel111_0 rel111_1
            have h24912 := X111.at ha0
            refine s_iinc (lv0 := [(0, .ref a0), (1, .int v111_1)]) (m := 1) C dX12_findPeeled_111 2 rfl (by decide) rfl (by decide) (by omega) (fun z24913 h24914 => ?_)
            have h24914 : z24913.toInt = v15_2.toInt + 1 := h24914
            refine g_goto C 15 dX12_findPeeled_114 (by decide) ?_
            refine g_lv (lv' := [(0, .ref a0), (1, .int v111_1), (2, .int z24913)]) [1, 2, 0] rfl ?_
            exact ih15 P111 v111_1 z24913 (by omega) I111 X111 W111 (by omega) (by omega) (by show (v111_1.toInt = 0 ∧ nf_M (pI P111 a0 33) = nf_M (pI P7 a0 33)) ∨ (v111_1.toInt = 1 ∧ nf_M (pI P111 a0 33) < nf_M (pI P7 a0 33)); omega) (by show v7_1.toInt = 1; omega)
          have J61 : ∀ (n61 : Nat) (P61 : PP) (v61_3 : Int32) (v61_4 : Int32) (v61_5 : Int32), (20 - v61_5.toInt).toNat < n61 → (IM P61 a0) → (EM [33, 34] a0 P P61) → (MW P61 a0) → (0 ≤ v15_2.toInt ∧ v15_2.toInt ≤ 63) → (0 ≤ v61_5.toInt ∧ v61_5.toInt ≤ 20) → (1 ≤ (pI P61 a0 28).toInt ∧ (pI P61 a0 28).toInt ≤ 64) → (nf_M (pI P61 a0 33) = nf_M (pI P7 a0 33)) → (nf_M (pI P61 a0 33 ||| v61_3) < nf_M (pI P61 a0 33)) → (v7_1.toInt = 1) → G E ({ frames := 2, cells := 0, slots := 0, locals := 128 } : Room) D cy 6 P61 0 0 61 [(0, .ref a0), (1, .int 1), (2, .int v15_2), (3, .int v61_3), (4, .int v61_4), (5, .int v61_5)] [] := by
            intro n61
            induction n61 with
            | zero => intro P61 v61_3 v61_4 v61_5 hm61 I61 X61 W61 hv61_2 hv61_5 hq61_0 rel61_0 rel61_1 rel61_2; omega
            | succ n61 ih61 =>
              intro P61 v61_3 v61_4 v61_5 hm61 I61 X61 W61 hv61_2 hv61_5 hq61_0 rel61_0 rel61_1 rel61_2
              have h24915 := X61.at ha0
              have J94 : ∀ (v94_s0 : Int32) (b94_s2 : Nat), (0 ≤ v15_2.toInt ∧ v15_2.toInt ≤ 63) → (0 ≤ v61_5.toInt ∧ v61_5.toInt ≤ 19) → (Ar P61 b94_s2 13 20) → (pR P61 a0 34 = some b94_s2) → (1 ≤ (pI P61 a0 28).toInt ∧ (pI P61 a0 28).toInt ≤ 64) → (nf_M (pI P61 a0 33) = nf_M (pI P7 a0 33)) → (nf_M (pI P61 a0 33 ||| v61_3) < nf_M (pI P61 a0 33)) → (v7_1.toInt = 1) → G E ({ frames := 2, cells := 0, slots := 0, locals := 128 } : Room) D cy 6 P61 0 0 94 [(0, .ref a0), (1, .int 1), (2, .int v15_2), (3, .int v61_3), (4, .int v61_4), (5, .int v61_5)] [.int v94_s0, .int v61_5, .ref b94_s2] := by
                intro v94_s0 b94_s2 hv94_2 hv94_5 hb94_s2 eb94_s2 hq94_0 rel94_0 rel94_1 rel94_2
                have h24916 := X61.at ha0
                refine g_iast (j := (v61_5.toInt.toNat)) C hb94_s2.1 hb94_s2.2.1 (ix_in hb94_s2.2.2 (by omega)) dX12_findPeeled_94 ?_
                refine gqW (ks := [34]) (I61.setA eb94_s2 hb94_s2 (by decide) (arOk.none rfl)) (EM.setA I61 eb94_s2 rfl (by decide)) (fun Y24917 Iy24918 Xy24919 w24920 => ?_)
                have w24920 : (pI Y24917 b94_s2 (v61_5.toInt.toNat)).toInt = v94_s0.toInt := w24920
                have q24921 := Xy24919.keepF 28 (by decide)
                have W24922 := W61.keep I61 Xy24919 (by decide) (by decide) (by decide)
                have Xz24923 : EM [33, 34] a0 P Y24917 := EM.tr ha0 X61 (Xy24919.mono (by decide))
                have e24924 := Xy24919.ref h24916 (by decide) eb94_s2
                have h24925 := Xy24919.at h24916
                have h24926 := Xy24919.ar hb94_s2
                have m24927 : nf_M (pI Y24917 a0 33) = nf_M (pI P61 a0 33) := by rw [Xy24919.2.2.1 33 (by decide)]
                have m24928 : nf_M (pI Y24917 a0 33 ||| v61_3) = nf_M (pI P61 a0 33 ||| v61_3) := by rw [Xy24919.2.2.1 33 (by decide)]
                refine s_iinc (lv0 := [(0, .ref a0), (1, .int 1), (2, .int v15_2), (3, .int v61_3), (4, .int v61_4)]) (m := 1) C dX12_findPeeled_95 5 rfl (by decide) rfl (by decide) (by omega) (fun z24929 h24930 => ?_)
                have h24930 : z24929.toInt = v61_5.toInt + 1 := h24930
                refine g_goto C 61 dX12_findPeeled_98 (by decide) ?_
                refine g_lv (lv' := [(0, .ref a0), (1, .int 1), (2, .int v15_2), (3, .int v61_3), (4, .int v61_4), (5, .int z24929)]) [1, 2, 3, 4, 5, 0] rfl ?_
                exact ih61 Y24917 v61_3 v61_4 z24929 (by omega) Iy24918 Xz24923 W24922 (by omega) (by omega) (by omega) (by show nf_M (pI Y24917 a0 33) = nf_M (pI P7 a0 33); omega) (by show nf_M (pI Y24917 a0 33 ||| v61_3) < nf_M (pI Y24917 a0 33); omega) (by show v7_1.toInt = 1; omega)
              refine g_iload C dX12_findPeeled_61 5 rfl ?_
              refine g_bipush (v := 20) C dX12_findPeeled_63 (by decide) ?_
              refine b_icmp_ge C 101 dX12_findPeeled_65 (by decide) (fun h24931 => ?_) (fun h24931 => ?_)
              · have h24931 : 20 ≤ v61_5.toInt := h24931
                refine g_aload_n C dX12_findPeeled_101 rfl 0 rfl ?_
                refine g_dup C dX12_findPeeled_102 rfl ?_
                refine g_getI C fi_X12_318 (by decide) (h24915).1 (h24915).2 dX12_findPeeled_103 ?_
                refine g_iload_n C dX12_findPeeled_106 rfl 3 rfl ?_
                refine g_ior C dX12_findPeeled_107 ?_
                refine g_topi (fun z24932 h24933 => ?_)
                refine g_putI C fi_X12_318 rfl (h24915).1 (h24915).2 dX12_findPeeled_108 ?_
                refine gqW (ks := [33]) (I61.setI (rgOk.none rfl)) (EM.setI I61 (by decide)) (fun Y24934 Iy24935 Xy24936 w24937 => ?_)
                have w24937 : (pI Y24934 a0 33).toInt = z24932.toInt := w24937
                have q24938 := Xy24936.keepF 28 (by decide)
                have W24939 := W61.keep I61 Xy24936 (by decide) (by decide) (by decide)
                have Xz24940 : EM [33, 34] a0 P Y24934 := EM.tr ha0 X61 (Xy24936.mono (by decide))
                have h24941 := Xy24936.at h24915
                have m24942 : nf_M (pI Y24934 a0 33) = nf_M (pI P61 a0 33 ||| v61_3) := by rw [Int32.toInt_inj.mp (show (pI Y24934 a0 33).toInt = z24932.toInt by omega), h24933]
                refine g_lv (lv' := [(0, .ref a0), (1, .int 1), (2, .int v15_2)]) [0, 1, 2] rfl ?_
                exact J111 Y24934 1 Iy24935 Xz24940 W24939 (by decide) (by omega) (by omega) (by show (1 = 0 ∧ nf_M (pI Y24934 a0 33) = nf_M (pI P7 a0 33)) ∨ (1 = 1 ∧ nf_M (pI Y24934 a0 33) < nf_M (pI P7 a0 33)); omega) (by show v7_1.toInt = 1; omega)
              · have h24931 : v61_5.toInt < 20 := h24931
                refine g_aload_n C dX12_findPeeled_68 rfl 0 rfl ?_
                obtain ⟨b24943, e24944, h24945⟩ := I61.fld (h24915) 34 13 20 rfl
                refine g_getR C fi_X12_103 rfl e24944 (h24915).1 (h24915).2 dX12_findPeeled_69 ?_
                refine g_iload C dX12_findPeeled_72 5 rfl ?_
                refine g_iload_n C dX12_findPeeled_74 rfl 3 rfl ?_
                refine g_iconst (v := 1) C dX12_findPeeled_75 (by decide) ?_
                refine g_iload C dX12_findPeeled_76 5 rfl ?_
                refine a_ishl C dX12_findPeeled_78 (fun z24946 => ?_)
                have u24949 := ti_rng v61_3
                have u24950 := ti_rng z24946
                refine b_icmp_ne C 87 dX12_findPeeled_79 (by decide) (fun h24948 => ?_) (fun h24948 => ?_)
                · have h24948 : v61_3.toInt ≠ z24946.toInt := ti_ne h24948
                  refine g_aload_n C dX12_findPeeled_87 rfl 0 rfl ?_
                  refine g_getR C fi_X12_103 rfl e24944 (h24915).1 (h24915).2 dX12_findPeeled_88 ?_
                  refine g_iload C dX12_findPeeled_91 5 rfl ?_
                  refine g_iald (j := (v61_5.toInt.toNat)) C h24945.1 h24945.2.1 (ix_in h24945.2.2 (by omega)) dX12_findPeeled_93 ?_
                  exact J94 (pI P61 b24943 (v61_5.toInt.toNat)) b24943 (by omega) (by omega) h24945 e24944 (by omega) (by show nf_M (pI P61 a0 33) = nf_M (pI P7 a0 33); omega) (by show nf_M (pI P61 a0 33 ||| v61_3) < nf_M (pI P61 a0 33); omega) (by show v7_1.toInt = 1; omega)
                · have h24948 : v61_3.toInt = z24946.toInt := congrArg Int32.toInt h24948
                  refine g_iload C dX12_findPeeled_82 4 rfl ?_
                  refine g_goto C 94 dX12_findPeeled_84 (by decide) ?_
                  exact J94 v61_4 b24943 (by omega) (by omega) h24945 e24944 (by omega) (by show nf_M (pI P61 a0 33) = nf_M (pI P7 a0 33); omega) (by show nf_M (pI P61 a0 33 ||| v61_3) < nf_M (pI P61 a0 33); omega) (by show v7_1.toInt = 1; omega)
          refine g_iload_n C dX12_findPeeled_15 rfl 2 rfl ?_
          refine g_aload_n C dX12_findPeeled_16 rfl 0 rfl ?_
          refine g_getI C fi_X12_305 (by decide) (h24911).1 (h24911).2 dX12_findPeeled_17 ?_
          have h24951 := I15.rg (h24911) 28 rfl
          refine b_icmp_ge C 117 dX12_findPeeled_20 (by decide) (fun h24952 => ?_) (fun h24952 => ?_)
          · have h24952 : (pI P15 a0 28).toInt ≤ v15_2.toInt := h24952
            refine g_lv (lv' := [(0, .ref a0), (1, .int v15_1)]) [0, 1] rfl ?_
            exact J117 P15 v15_1 I15 X15 W15 (by omega) (by show (v15_1.toInt = 0 ∧ nf_M (pI P15 a0 33) = nf_M (pI P7 a0 33)) ∨ (v15_1.toInt = 1 ∧ nf_M (pI P15 a0 33) < nf_M (pI P7 a0 33)); omega) (by show v7_1.toInt = 1; omega)
          · have h24952 : v15_2.toInt < (pI P15 a0 28).toInt := h24952
            refine g_iload_n C dX12_findPeeled_23 rfl 1 rfl ?_
            refine b_if_ne C 117 dX12_findPeeled_24 (by decide) (fun h24953 => ?_) (fun h24953 => ?_)
            · have h24953 : v15_1.toInt ≠ 0 := ti_ne h24953
              refine g_lv (lv' := [(0, .ref a0), (1, .int v15_1)]) [0, 1] rfl ?_
              exact J117 P15 v15_1 I15 X15 W15 (by omega) (by show (v15_1.toInt = 0 ∧ nf_M (pI P15 a0 33) = nf_M (pI P7 a0 33)) ∨ (v15_1.toInt = 1 ∧ nf_M (pI P15 a0 33) < nf_M (pI P7 a0 33)); omega) (by show v7_1.toInt = 1; omega)
            · have h24953 : v15_1.toInt = 0 := congrArg Int32.toInt h24953
              refine g_aload_n C dX12_findPeeled_27 rfl 0 rfl ?_
              obtain ⟨b24954, e24955, h24956⟩ := I15.fld (h24911) 29 13 64 rfl
              refine g_getR C fi_X12_91 rfl e24955 (h24911).1 (h24911).2 dX12_findPeeled_28 ?_
              refine g_iload_n C dX12_findPeeled_31 rfl 2 rfl ?_
              refine g_iald (j := (v15_2.toInt.toNat)) C h24956.1 h24956.2.1 (ix_in h24956.2.2 (by omega)) dX12_findPeeled_32 ?_
              refine g_aload_n C dX12_findPeeled_33 rfl 0 rfl ?_
              refine g_getI C fi_X12_318 (by decide) (h24911).1 (h24911).2 dX12_findPeeled_34 ?_
              refine g_iconst (v := (-1)) C dX12_findPeeled_37 (by decide) ?_
              refine g_ixor C dX12_findPeeled_38 ?_
              refine g_topi (fun z24957 h24958 => ?_)
              refine g_iand C dX12_findPeeled_39 ?_
              refine g_topi (fun z24959 h24960 => ?_)
              refine g_istore_n (lv' := [(3, .int z24959), (0, .ref a0), (1, .int v15_1), (2, .int v15_2)]) C dX12_findPeeled_40 rfl (by decide) rfl ?_
              refine g_iload_n C dX12_findPeeled_41 rfl 0 rfl ?_
              refine g_callSI (b := 0) (ci := 0) (rest := []) C ms_X12_264 [.int z24959] (s_X12_bits I15.1) rfl rfl (by decide) (Nat.le_of_ble_eq_true rfl) (by decide) dX12_findPeeled_42 (fun r24961 Y24962 h24963 => ?_)
              obtain ⟨rfl, h24963⟩ := h24963
              obtain ⟨h24963, hi24964⟩ := h24963
              have hi24964 : r24961.toInt = 0 ∨ z24959.toInt ≠ 0 := hi24964
              have h24963 : 0 ≤ r24961.toInt ∧ r24961.toInt ≤ 20 := h24963
              refine g_iconst (v := 1) C dX12_findPeeled_45 (by decide) ?_
              refine b_icmp_ne C 111 dX12_findPeeled_46 (by decide) (fun h24965 => ?_) (fun h24965 => ?_)
              · have h24965 : r24961.toInt ≠ 1 := ti_ne h24965
                refine g_lv (lv' := [(0, .ref a0), (1, .int v15_1), (2, .int v15_2)]) [1, 2, 3] rfl ?_
                exact J111 P15 v15_1 I15 X15 W15 (by omega) (by omega) (by omega) (by show (v15_1.toInt = 0 ∧ nf_M (pI P15 a0 33) = nf_M (pI P7 a0 33)) ∨ (v15_1.toInt = 1 ∧ nf_M (pI P15 a0 33) < nf_M (pI P7 a0 33)); omega) (by show v7_1.toInt = 1; omega)
              · have h24965 : r24961.toInt = 1 := congrArg Int32.toInt h24965
                have hne : ¬ z24959 = 0 := fun h9 => by have h8 : z24959.toInt = 0 := congrArg Int32.toInt h9; omega
                have hdi : (pI P15 a0 33) &&& z24959 = 0 := by rw [h24960, h24958]; exact and_rest _ _
                have hgr := nf_gr (pI P15 a0 33) z24959 hdi hne
                refine g_iconst (v := 1) C dX12_findPeeled_49 (by decide) ?_
                refine g_istore_n (lv' := [(1, .int 1), (3, .int z24959), (0, .ref a0), (2, .int v15_2)]) C dX12_findPeeled_50 rfl (by decide) rfl ?_
                refine g_aload_n C dX12_findPeeled_51 rfl 2 rfl ?_
                refine g_iload_n C dX12_findPeeled_52 rfl 3 rfl ?_
                refine g_callVI (rest := []) C mv_X12_321 [.int v15_2] (s_X12_comesTo I15 (by omega) W15) (h24911).1 (h24911).2 rfl rfl (by decide) (Nat.le_of_ble_eq_true rfl) (by decide) dX12_findPeeled_53 (fun r24966 Y24967 h24968 => ?_)
                obtain ⟨rfl, h24968⟩ := h24968
                have h24968 : True := h24968
                refine g_istore (lv' := [(4, .int r24966), (1, .int 1), (3, .int z24959), (0, .ref a0), (2, .int v15_2)]) C dX12_findPeeled_56 (by decide) rfl ?_
                refine g_iconst (v := 0) C dX12_findPeeled_58 (by decide) ?_
                refine g_istore (lv' := [(5, .int 0), (4, .int r24966), (1, .int 1), (3, .int z24959), (0, .ref a0), (2, .int v15_2)]) C dX12_findPeeled_59 (by decide) rfl ?_
                refine g_lv (lv' := [(0, .ref a0), (1, .int 1), (2, .int v15_2), (3, .int z24959), (4, .int r24966), (5, .int 0)]) [4, 2, 5, 3, 1, 0] rfl ?_
                exact J61 _ P15 z24959 r24966 0 (Nat.lt_succ_self _) I15 X15 W15 (by omega) (by decide) (by omega) (by show nf_M (pI P15 a0 33) = nf_M (pI P7 a0 33); omega) (by show nf_M (pI P15 a0 33 ||| z24959) < nf_M (pI P15 a0 33); omega) (by show v7_1.toInt = 1; omega)
      refine g_iload_n C dX12_findPeeled_7 rfl 1 rfl ?_
      refine b_if_eq C 120 dX12_findPeeled_8 (by decide) (fun h24969 => ?_) (fun h24969 => ?_)
      · have h24969 : v7_1.toInt = 0 := congrArg Int32.toInt h24969
        exact ret _ _ _ _ _ dX12_findPeeled_120 (by decide) (by decide) ⟨I7, X7, W7⟩
      · have h24969 : v7_1.toInt ≠ 0 := ti_ne h24969
        refine g_iconst (v := 0) C dX12_findPeeled_11 (by decide) ?_
        refine g_istore_n (lv' := [(1, .int 0), (0, .ref a0)]) C dX12_findPeeled_12 rfl (by decide) rfl ?_
        refine g_iconst (v := 0) C dX12_findPeeled_13 (by decide) ?_
        refine g_istore_n (lv' := [(2, .int 0), (1, .int 0), (0, .ref a0)]) C dX12_findPeeled_14 rfl (by decide) rfl ?_
        refine g_lv (lv' := [(0, .ref a0), (1, .int 0), (2, .int 0)]) [2, 1, 0] rfl ?_
        exact J15 _ P7 0 0 (Nat.lt_succ_self _) I7 X7 W7 (by decide) (by decide) (by show (0 = 0 ∧ nf_M (pI P7 a0 33) = nf_M (pI P7 a0 33)) ∨ (0 = 1 ∧ nf_M (pI P7 a0 33) < nf_M (pI P7 a0 33)); omega) (by show v7_1.toInt = 1; omega)
  refine g_aload_n C dX12_findPeeled_0 rfl 0 rfl ?_
  refine g_iconst (v := 0) C dX12_findPeeled_1 (by decide) ?_
  refine g_putI C fi_X12_318 rfl (ha0).1 (ha0).2 dX12_findPeeled_2 ?_
  refine gqW (ks := [33]) (I.setI (rgOk.none rfl)) (EM.setI I (by decide)) (fun Y24970 Iy24971 Xy24972 w24973 => ?_)
  have w24973 : (pI Y24970 a0 33).toInt = 0 := w24973
  have W24974 := hW.keep I Xy24972 (by decide) (by decide) (by decide)
  have Xz24975 : EM [33, 34] a0 P Y24970 := Xy24972.mono (by decide)
  have h24976 := Xy24972.at ha0
  refine g_iconst (v := 1) C dX12_findPeeled_5 (by decide) ?_
  refine g_istore_n (lv' := [(1, .int 1), (0, .ref a0)]) C dX12_findPeeled_6 rfl (by decide) rfl ?_
  refine g_lv (lv' := [(0, .ref a0), (1, .int 1)]) [1, 0] rfl ?_
  exact J7 _ Y24970 1 (Nat.lt_succ_self _) Iy24971 Xz24975 W24974 (by decide)
theorem dX12_chancesOf_76 : decode cX12_chancesOf 76 = .ok (.goto 7, 3) := by decide +kernel
theorem dX12_chancesOf_83 : decode cX12_chancesOf 83 = .ok (.iload 5, 2) := by decide +kernel
theorem dX12_chancesOf_85 : decode cX12_chancesOf 85 = .ok (.aload_n 0, 1) := by decide +kernel
theorem dX12_chancesOf_86 : decode cX12_chancesOf 86 = .ok (.iload_n 1, 1) := by decide +kernel
theorem dX12_chancesOf_87 : decode cX12_chancesOf 87 = .ok (.iload 4, 2) := by decide +kernel
theorem dX12_chancesOf_89 : decode cX12_chancesOf 89 = .ok (.ifCond .ne 10, 3) := by decide +kernel
theorem dX12_chancesOf_99 : decode cX12_chancesOf 99 = .ok (.aload_n 0, 1) := by decide +kernel
theorem dX12_chancesOf_100 : decode cX12_chancesOf 100 = .ok (.invokevirtual 349, 3) := by decide +kernel
theorem dX12_fixedSet_0 : decode cX12_fixedSet 0 = .ok (.iconst 0, 1) := by decide +kernel
theorem dX12_fixedSet_1 : decode cX12_fixedSet 1 = .ok (.istore_n 1, 1) := by decide +kernel
theorem dX12_fixedSet_2 : decode cX12_fixedSet 2 = .ok (.iconst 0, 1) := by decide +kernel
theorem dX12_fixedSet_3 : decode cX12_fixedSet 3 = .ok (.istore_n 2, 1) := by decide +kernel
theorem dX12_fixedSet_4 : decode cX12_fixedSet 4 = .ok (.iload_n 2, 1) := by decide +kernel
theorem dX12_fixedSet_5 : decode cX12_fixedSet 5 = .ok (.bipush 20, 2) := by decide +kernel
theorem dX12_fixedSet_7 : decode cX12_fixedSet 7 = .ok (.if_icmp .ge 27, 3) := by decide +kernel
theorem dX12_fixedSet_10 : decode cX12_fixedSet 10 = .ok (.iload_n 1, 1) := by decide +kernel
theorem dX12_fixedSet_11 : decode cX12_fixedSet 11 = .ok (.aload_n 0, 1) := by decide +kernel
theorem dX12_fixedSet_12 : decode cX12_fixedSet 12 = .ok (.iload_n 2, 1) := by decide +kernel
theorem dX12_fixedSet_13 : decode cX12_fixedSet 13 = .ok (.invokevirtual 330, 3) := by decide +kernel
theorem dX12_isFixed_0 : decode cX12_isFixed 0 = .ok (.aload_n 0, 1) := by decide +kernel
theorem dX12_isFixed_1 : decode cX12_isFixed 1 = .ok (.getfield 326, 3) := by decide +kernel
theorem dX12_isFixed_4 : decode cX12_isFixed 4 = .ok (.ifCond .eq 19, 3) := by decide +kernel
theorem dX12_isFixed_7 : decode cX12_isFixed 7 = .ok (.aload_n 0, 1) := by decide +kernel
theorem dX12_isFixed_8 : decode cX12_isFixed 8 = .ok (.getfield 106, 3) := by decide +kernel
theorem dX12_isFixed_11 : decode cX12_isFixed 11 = .ok (.iload_n 1, 1) := by decide +kernel
theorem dX12_isFixed_12 : decode cX12_isFixed 12 = .ok (.iaload, 1) := by decide +kernel
theorem dX12_isFixed_13 : decode cX12_isFixed 13 = .ok (.iconst 1, 1) := by decide +kernel
theorem dX12_isFixed_14 : decode cX12_isFixed 14 = .ok (.iload_n 1, 1) := by decide +kernel
theorem dX12_isFixed_15 : decode cX12_isFixed 15 = .ok (.ishl, 1) := by decide +kernel
theorem dX12_isFixed_16 : decode cX12_isFixed 16 = .ok (.if_icmp .ne 7, 3) := by decide +kernel
theorem dX12_isFixed_19 : decode cX12_isFixed 19 = .ok (.iconst 1, 1) := by decide +kernel
theorem dX12_isFixed_20 : decode cX12_isFixed 20 = .ok (.goto 4, 3) := by decide +kernel
theorem dX12_isFixed_23 : decode cX12_isFixed 23 = .ok (.iconst 0, 1) := by decide +kernel
theorem dX12_isFixed_24 : decode cX12_isFixed 24 = .ok (.ireturn, 1) := by decide +kernel
set_option maxHeartbeats 4000000 in
set_option maxRecDepth 100000 in
theorem s_X12_isFixed {P : PP} {a0 : Nat} {a1 : Int32} (I : IM P a0) (ha1 : 0 ≤ a1.toInt ∧ a1.toInt ≤ 19) (hW : MW P a0) : CtrI yX12_isFixed cX12_isFixed 2 (some Jvm.ClassFile.FieldType.boolean) ({ frames := 1, cells := 0, slots := 0, locals := 64 } : Room) 0 0 P [.ref a0, .int a1] (fun r P2 => P = P2 ∧ (0 ≤ r.toInt ∧ r.toInt ≤ 1)) := by
  refine enI (lv := [(0, .ref a0), (1, .int a1)]) (by decide) (Nat.le_of_ble_eq_true rfl) rfl (fun E D cy C Ci0 ret => ?_)
  have ha0 := I.2.1
  have J23 : (0 ≤ (pI P a0 36).toInt ∧ (pI P a0 36).toInt ≤ 1) → G E ({ frames := 1, cells := 0, slots := 0, locals := 64 } : Room) D cy 2 P 0 0 23 [] [] := by
    intro hq23_0
    refine g_iconst (v := 0) C dX12_isFixed_23 (by decide) ?_
    exact ret _ _ _ _ _ _ dX12_isFixed_24 rfl (by decide) (by decide) ⟨rfl, (by decide)⟩
  refine g_aload_n C dX12_isFixed_0 rfl 0 rfl ?_
  refine g_getI C fi_X12_326 (by decide) (ha0).1 (ha0).2 dX12_isFixed_1 ?_
  have h25169 := I.rg (ha0) 36 rfl
  refine b_if_eq C 23 dX12_isFixed_4 (by decide) (fun h25170 => ?_) (fun h25170 => ?_)
  · have h25170 : (pI P a0 36).toInt = 0 := congrArg Int32.toInt h25170
    refine g_lv (lv' := []) [] rfl ?_
    exact J23 (by omega)
  · have h25170 : (pI P a0 36).toInt ≠ 0 := ti_ne h25170
    refine g_aload_n C dX12_isFixed_7 rfl 0 rfl ?_
    obtain ⟨b25171, e25172, h25173⟩ := I.fld (ha0) 37 13 20 rfl
    refine g_getR C fi_X12_106 rfl e25172 (ha0).1 (ha0).2 dX12_isFixed_8 ?_
    refine g_iload_n C dX12_isFixed_11 rfl 1 rfl ?_
    refine g_iald (j := (a1.toInt.toNat)) C h25173.1 h25173.2.1 (ix_in h25173.2.2 (by omega)) dX12_isFixed_12 ?_
    refine g_iconst (v := 1) C dX12_isFixed_13 (by decide) ?_
    refine g_iload_n C dX12_isFixed_14 rfl 1 rfl ?_
    refine a_ishl C dX12_isFixed_15 (fun z25174 => ?_)
    have u25177 := ti_rng (pI P b25171 (a1.toInt.toNat))
    have u25178 := ti_rng z25174
    refine b_icmp_ne C 23 dX12_isFixed_16 (by decide) (fun h25176 => ?_) (fun h25176 => ?_)
    · have h25176 : (pI P b25171 (a1.toInt.toNat)).toInt ≠ z25174.toInt := ti_ne h25176
      refine g_lv (lv' := []) [] rfl ?_
      exact J23 (by omega)
    · have h25176 : (pI P b25171 (a1.toInt.toNat)).toInt = z25174.toInt := congrArg Int32.toInt h25176
      refine g_iconst (v := 1) C dX12_isFixed_19 (by decide) ?_
      refine g_goto C 24 dX12_isFixed_20 (by decide) ?_
      exact ret _ _ _ _ _ _ dX12_isFixed_24 rfl (by decide) (by decide) ⟨rfl, (by decide)⟩
theorem dX12_fixedSet_16 : decode cX12_fixedSet 16 = .ok (.ifCond .eq 9, 3) := by decide +kernel
theorem dX12_fixedSet_19 : decode cX12_fixedSet 19 = .ok (.iconst 1, 1) := by decide +kernel
theorem dX12_fixedSet_20 : decode cX12_fixedSet 20 = .ok (.iload_n 2, 1) := by decide +kernel
theorem dX12_fixedSet_21 : decode cX12_fixedSet 21 = .ok (.ishl, 1) := by decide +kernel
theorem dX12_fixedSet_22 : decode cX12_fixedSet 22 = .ok (.goto 4, 3) := by decide +kernel
theorem dX12_fixedSet_25 : decode cX12_fixedSet 25 = .ok (.iconst 0, 1) := by decide +kernel
theorem dX12_fixedSet_26 : decode cX12_fixedSet 26 = .ok (.ior, 1) := by decide +kernel
theorem dX12_fixedSet_27 : decode cX12_fixedSet 27 = .ok (.istore_n 1, 1) := by decide +kernel
theorem dX12_fixedSet_28 : decode cX12_fixedSet 28 = .ok (.iinc 2 1, 3) := by decide +kernel
theorem dX12_fixedSet_31 : decode cX12_fixedSet 31 = .ok (.goto (-27), 3) := by decide +kernel
theorem dX12_fixedSet_34 : decode cX12_fixedSet 34 = .ok (.iload_n 1, 1) := by decide +kernel
theorem dX12_fixedSet_35 : decode cX12_fixedSet 35 = .ok (.ireturn, 1) := by decide +kernel
set_option maxHeartbeats 4000000 in
set_option maxRecDepth 100000 in
theorem s_X12_fixedSet {P : PP} {a0 : Nat} (I : IM P a0) (hW : MW P a0) : CtrI yX12_fixedSet cX12_fixedSet 3 (some Jvm.ClassFile.FieldType.int) ({ frames := 2, cells := 0, slots := 0, locals := 128 } : Room) 0 0 P [.ref a0] (fun r P2 => P = P2 ∧ (True)) := by
  refine enI (lv := [(0, .ref a0)]) (by decide) (Nat.le_of_ble_eq_true rfl) rfl (fun E D cy C Ci0 ret => ?_)
  have ha0 := I.2.1
  have J4 : ∀ (n4 : Nat) (v4_1 : Int32) (v4_2 : Int32), (20 - v4_2.toInt).toNat < n4 → (0 ≤ v4_2.toInt ∧ v4_2.toInt ≤ 20) → G E ({ frames := 2, cells := 0, slots := 0, locals := 128 } : Room) D cy 3 P 0 0 4 [(0, .ref a0), (1, .int v4_1), (2, .int v4_2)] [] := by
    intro n4
    induction n4 with
    | zero => intro v4_1 v4_2 hm4 hv4_2; omega
    | succ n4 ih4 =>
      intro v4_1 v4_2 hm4 hv4_2
      have J26 : ∀ (v26_s0 : Int32), (0 ≤ v4_2.toInt ∧ v4_2.toInt ≤ 19) → G E ({ frames := 2, cells := 0, slots := 0, locals := 128 } : Room) D cy 3 P 0 0 26 [(0, .ref a0), (2, .int v4_2)] [.int v26_s0, .int v4_1] := by
        intro v26_s0 hv26_2
        refine a_ior C dX12_fixedSet_26 (fun z25322 => ?_)
        refine g_istore_n (lv' := [(1, .int z25322), (0, .ref a0), (2, .int v4_2)]) C dX12_fixedSet_27 rfl (by decide) rfl ?_
        refine s_iinc (lv0 := [(1, .int z25322), (0, .ref a0)]) (m := 1) C dX12_fixedSet_28 2 rfl (by decide) rfl (by decide) (by omega) (fun z25324 h25325 => ?_)
        have h25325 : z25324.toInt = v4_2.toInt + 1 := h25325
        refine g_goto C 4 dX12_fixedSet_31 (by decide) ?_
        refine g_lv (lv' := [(0, .ref a0), (1, .int z25322), (2, .int z25324)]) [2, 1, 0] rfl ?_
        exact ih4 z25322 z25324 (by omega) (by omega)
      refine g_iload_n C dX12_fixedSet_4 rfl 2 rfl ?_
      refine g_bipush (v := 20) C dX12_fixedSet_5 (by decide) ?_
      refine b_icmp_ge C 34 dX12_fixedSet_7 (by decide) (fun h25326 => ?_) (fun h25326 => ?_)
      · have h25326 : 20 ≤ v4_2.toInt := h25326
        refine g_iload_n C dX12_fixedSet_34 rfl 1 rfl ?_
        exact ret _ _ _ _ _ _ dX12_fixedSet_35 rfl (by decide) (by decide) ⟨rfl, trivial⟩
      · have h25326 : v4_2.toInt < 20 := h25326
        refine g_iload_n C dX12_fixedSet_10 rfl 1 rfl ?_
        refine g_aload_n C dX12_fixedSet_11 rfl 0 rfl ?_
        refine g_iload_n C dX12_fixedSet_12 rfl 2 rfl ?_
        refine g_callVI (rest := [.int v4_1]) C mv_X12_330 [.int v4_2] (s_X12_isFixed I (by omega) hW) (ha0).1 (ha0).2 rfl rfl (by decide) (Nat.le_of_ble_eq_true rfl) (by decide) dX12_fixedSet_13 (fun r25327 Y25328 h25329 => ?_)
        obtain ⟨rfl, h25329⟩ := h25329
        have h25329 : 0 ≤ r25327.toInt ∧ r25327.toInt ≤ 1 := h25329
        refine b_if_eq C 25 dX12_fixedSet_16 (by decide) (fun h25330 => ?_) (fun h25330 => ?_)
        · have h25330 : r25327.toInt = 0 := congrArg Int32.toInt h25330
          refine g_iconst (v := 0) C dX12_fixedSet_25 (by decide) ?_
          refine g_lv (lv' := [(0, .ref a0), (2, .int v4_2)]) [0, 2] rfl ?_
          exact J26 0 (by omega)
        · have h25330 : r25327.toInt ≠ 0 := ti_ne h25330
          refine g_iconst (v := 1) C dX12_fixedSet_19 (by decide) ?_
          refine g_iload_n C dX12_fixedSet_20 rfl 2 rfl ?_
          refine a_ishl C dX12_fixedSet_21 (fun z25331 => ?_)
          refine g_goto C 26 dX12_fixedSet_22 (by decide) ?_
          refine g_lv (lv' := [(0, .ref a0), (2, .int v4_2)]) [0, 2] rfl ?_
          exact J26 z25331 (by omega)
  refine g_iconst (v := 0) C dX12_fixedSet_0 (by decide) ?_
  refine g_istore_n (lv' := [(1, .int 0), (0, .ref a0)]) C dX12_fixedSet_1 rfl (by decide) rfl ?_
  refine g_iconst (v := 0) C dX12_fixedSet_2 (by decide) ?_
  refine g_istore_n (lv' := [(2, .int 0), (1, .int 0), (0, .ref a0)]) C dX12_fixedSet_3 rfl (by decide) rfl ?_
  refine g_lv (lv' := [(0, .ref a0), (1, .int 0), (2, .int 0)]) [2, 1, 0] rfl ?_
  exact J4 _ 0 0 (Nat.lt_succ_self _) (by decide)
theorem dX12_chancesOf_92 : decode cX12_chancesOf 92 = .ok (.aload_n 0, 1) := by decide +kernel
theorem dX12_chancesOf_93 : decode cX12_chancesOf 93 = .ok (.getfield 318, 3) := by decide +kernel
theorem dX12_chancesOf_96 : decode cX12_chancesOf 96 = .ok (.goto 7, 3) := by decide +kernel
theorem dX12_chancesOf_103 : decode cX12_chancesOf 103 = .ok (.invokevirtual 371, 3) := by decide +kernel
theorem dX12_givesAll_0 : decode cX12_givesAll 0 = .ok (.iload_n 2, 1) := by decide +kernel
theorem dX12_givesAll_1 : decode cX12_givesAll 1 = .ok (.iconst (-1), 1) := by decide +kernel
theorem dX12_givesAll_2 : decode cX12_givesAll 2 = .ok (.ixor, 1) := by decide +kernel
theorem dX12_givesAll_3 : decode cX12_givesAll 3 = .ok (.iconst 1, 1) := by decide +kernel
theorem dX12_givesAll_4 : decode cX12_givesAll 4 = .ok (.aload_n 0, 1) := by decide +kernel
theorem dX12_givesAll_5 : decode cX12_givesAll 5 = .ok (.getfield 45, 3) := by decide +kernel
theorem dX12_givesAll_8 : decode cX12_givesAll 8 = .ok (.iload_n 1, 1) := by decide +kernel
theorem dX12_givesAll_9 : decode cX12_givesAll 9 = .ok (.iaload, 1) := by decide +kernel
theorem dX12_givesAll_10 : decode cX12_givesAll 10 = .ok (.ishl, 1) := by decide +kernel
theorem dX12_givesAll_11 : decode cX12_givesAll 11 = .ok (.iconst 1, 1) := by decide +kernel
theorem dX12_givesAll_12 : decode cX12_givesAll 12 = .ok (.isub, 1) := by decide +kernel
theorem dX12_givesAll_13 : decode cX12_givesAll 13 = .ok (.iand, 1) := by decide +kernel
theorem dX12_givesAll_14 : decode cX12_givesAll 14 = .ok (.ifCond .ne 7, 3) := by decide +kernel
theorem dX12_givesAll_17 : decode cX12_givesAll 17 = .ok (.iconst 1, 1) := by decide +kernel
theorem dX12_givesAll_18 : decode cX12_givesAll 18 = .ok (.goto 4, 3) := by decide +kernel
theorem dX12_givesAll_21 : decode cX12_givesAll 21 = .ok (.iconst 0, 1) := by decide +kernel
theorem dX12_givesAll_22 : decode cX12_givesAll 22 = .ok (.ireturn, 1) := by decide +kernel
set_option maxHeartbeats 4000000 in
set_option maxRecDepth 100000 in
theorem s_X12_givesAll {P : PP} {a0 : Nat} {a1 : Int32} {a2 : Int32} (I : IM P a0) (ha1 : 0 ≤ a1.toInt ∧ a1.toInt ≤ 1) (hW : MW P a0) : CtrI yX12_givesAll cX12_givesAll 3 (some Jvm.ClassFile.FieldType.boolean) ({ frames := 1, cells := 0, slots := 0, locals := 64 } : Room) 0 0 P [.ref a0, .int a1, .int a2] (fun r P2 => P = P2 ∧ (0 ≤ r.toInt ∧ r.toInt ≤ 1)) := by
  refine enI (lv := [(0, .ref a0), (1, .int a1), (2, .int a2)]) (by decide) (Nat.le_of_ble_eq_true rfl) rfl (fun E D cy C Ci0 ret => ?_)
  have ha0 := I.2.1
  refine g_iload_n C dX12_givesAll_0 rfl 2 rfl ?_
  refine g_iconst (v := (-1)) C dX12_givesAll_1 (by decide) ?_
  refine a_ixor C dX12_givesAll_2 (fun z25598 => ?_)
  refine g_iconst (v := 1) C dX12_givesAll_3 (by decide) ?_
  refine g_aload_n C dX12_givesAll_4 rfl 0 rfl ?_
  obtain ⟨b25600, e25601, h25602⟩ := I.fld (ha0) 10 13 2 rfl
  refine g_getR C fi_X12_45 rfl e25601 (ha0).1 (ha0).2 dX12_givesAll_5 ?_
  refine g_iload_n C dX12_givesAll_8 rfl 1 rfl ?_
  refine g_iald (j := (a1.toInt.toNat)) C h25602.1 h25602.2.1 (ix_in h25602.2.2 (by omega)) dX12_givesAll_9 ?_
  have h25603 := I.arr e25601 rfl (a1.toInt.toNat)
  refine a_ishl C dX12_givesAll_10 (fun z25604 => ?_)
  refine g_iconst (v := 1) C dX12_givesAll_11 (by decide) ?_
  refine a_isub C dX12_givesAll_12 (fun z25606 => ?_)
  refine a_iand C dX12_givesAll_13 (fun z25608 => ?_)
  have u25611 := ti_rng z25608
  refine b_if_ne C 21 dX12_givesAll_14 (by decide) (fun h25610 => ?_) (fun h25610 => ?_)
  · have h25610 : z25608.toInt ≠ 0 := ti_ne h25610
    refine g_iconst (v := 0) C dX12_givesAll_21 (by decide) ?_
    exact ret _ _ _ _ _ _ dX12_givesAll_22 rfl (by decide) (by decide) ⟨rfl, (by decide)⟩
  · have h25610 : z25608.toInt = 0 := congrArg Int32.toInt h25610
    refine g_iconst (v := 1) C dX12_givesAll_17 (by decide) ?_
    refine g_goto C 22 dX12_givesAll_18 (by decide) ?_
    exact ret _ _ _ _ _ _ dX12_givesAll_22 rfl (by decide) (by decide) ⟨rfl, (by decide)⟩
theorem dX12_chancesOf_106 : decode cX12_chancesOf 106 = .ok (.ifCond .eq 7, 3) := by decide +kernel
theorem dX12_chancesOf_109 : decode cX12_chancesOf 109 = .ok (.iconst 1, 1) := by decide +kernel
theorem dX12_chancesOf_110 : decode cX12_chancesOf 110 = .ok (.goto 4, 3) := by decide +kernel
theorem dX12_chancesOf_113 : decode cX12_chancesOf 113 = .ok (.iconst 0, 1) := by decide +kernel
theorem dX12_chancesOf_114 : decode cX12_chancesOf 114 = .ok (.iadd, 1) := by decide +kernel
theorem dX12_chancesOf_115 : decode cX12_chancesOf 115 = .ok (.istore 5, 2) := by decide +kernel
set_option maxHeartbeats 4000000 in
set_option maxRecDepth 100000 in
theorem s_X12_chancesOf {P : PP} {a0 : Nat} {a1 : Int32} {a2 : Int32} {a3 : Int32} {a4 : Int32} (I : IM P a0) (ha1 : 0 ≤ a1.toInt ∧ a1.toInt ≤ 1) (ha2 : 1 ≤ a2.toInt ∧ a2.toInt ≤ 11) (hf0 : ∀ b, pR P a0 10 = some b → 1 ≤ (pI P b (a1.toInt.toNat)).toInt ∧ (pI P b (a1.toInt.toNat)).toInt ≤ 16) (hW : MW P a0) : CtrI yX12_chancesOf cX12_chancesOf 8 (some Jvm.ClassFile.FieldType.int) ({ frames := 3, cells := 0, slots := 0, locals := 192 } : Room) 0 0 P [.ref a0, .int a1, .int a2, .int a3, .int a4] (fun r P2 => IM P2 a0 ∧ EM [28, 29, 30, 31, 33, 34, 35, 36, 37, 38] a0 P P2 ∧ MW P2 a0 ∧ (True)) := by
  refine enI (lv := [(0, .ref a0), (1, .int a1), (2, .int a2), (3, .int a3), (4, .int a4)]) (by decide) (Nat.le_of_ble_eq_true rfl) rfl (fun E D cy C Ci0 ret => ?_)
  have ha0 := I.2.1
  have J6 : ∀ (n6 : Nat) (P6 : PP) (v6_5 : Int32) (v6_6 : Int32), (2147483647 - v6_6.toInt).toNat < n6 → (IM P6 a0) → (EM [28, 29, 30, 31, 33, 34, 35, 36, 37, 38] a0 P P6) → (MW P6 a0) → (0 ≤ v6_6.toInt) → (∀ b, pR P6 a0 10 = some b → 1 ≤ (pI P6 b (a1.toInt.toNat)).toInt ∧ (pI P6 b (a1.toInt.toNat)).toInt ≤ 16) → G E ({ frames := 3, cells := 0, slots := 0, locals := 192 } : Room) D cy 8 P6 0 0 6 [(0, .ref a0), (1, .int a1), (2, .int a2), (3, .int a3), (4, .int a4), (5, .int v6_5), (6, .int v6_6)] [] := by
    intro n6
    induction n6 with
    | zero => intro P6 v6_5 v6_6 hm6 I6 X6 W6 hv6_6 hq6_0; omega
    | succ n6 ih6 =>
      intro P6 v6_5 v6_6 hm6 I6 X6 W6 hv6_6 hq6_0
      have h31970 := X6.at ha0
      obtain ⟨b31971, e31972, h31973⟩ := I6.fld (h31970) 10 13 2 rfl
      have hq6_0 := hq6_0 b31971 e31972
      have J117 : ∀ (P117 : PP) (v117_5 : Int32), (IM P117 a0) → (EM [28, 29, 30, 31, 33, 34, 35, 36, 37, 38] a0 P P117) → (MW P117 a0) → (0 ≤ v6_6.toInt ∧ v6_6.toInt ≤ 2147483646) → (∀ b, pR P117 a0 10 = some b → 1 ≤ (pI P117 b (a1.toInt.toNat)).toInt ∧ (pI P117 b (a1.toInt.toNat)).toInt ≤ 16) → G E ({ frames := 3, cells := 0, slots := 0, locals := 192 } : Room) D cy 8 P117 0 0 117 [(0, .ref a0), (1, .int a1), (2, .int a2), (3, .int a3), (4, .int a4), (5, .int v117_5), (6, .int v6_6)] [] := by
        intro P117 v117_5 I117 X117 W117 hv117_6 hq117_0
        have h31974 := X117.at ha0
        obtain ⟨b31975, e31976, h31977⟩ := I117.fld (h31974) 10 13 2 rfl
        have hq117_0 := hq117_0 b31975 e31976
        refine s_iinc (lv0 := [(0, .ref a0), (1, .int a1), (2, .int a2), (3, .int a3), (4, .int a4), (5, .int v117_5)]) (m := 1) C dX12_chancesOf_117 6 rfl (by decide) rfl (by decide) (by omega) (fun z31978 h31979 => ?_)
        have h31979 : z31978.toInt = v6_6.toInt + 1 := h31979
        refine g_goto C 6 dX12_chancesOf_120 (by decide) ?_
        refine g_lv (lv' := [(0, .ref a0), (1, .int a1), (2, .int a2), (3, .int a3), (4, .int a4), (5, .int v117_5), (6, .int z31978)]) [1, 2, 3, 4, 5, 6, 0] rfl ?_
        exact ih6 P117 v117_5 z31978 (by omega) I117 X117 W117 (by omega) (fun b9 e9 => by rw [e31976] at e9; cases e9; omega)
      have J114 : ∀ (P114 : PP) (v114_s0 : Int32), (IM P114 a0) → (EM [28, 29, 30, 31, 33, 34, 35, 36, 37, 38] a0 P P114) → (MW P114 a0) → (0 ≤ a3.toInt ∧ a3.toInt ≤ 20) → (0 ≤ v6_6.toInt ∧ v6_6.toInt ≤ 2147483646) → (0 ≤ v114_s0.toInt ∧ v114_s0.toInt ≤ 1) → (∀ b, pR P114 a0 10 = some b → 1 ≤ (pI P114 b (a1.toInt.toNat)).toInt ∧ (pI P114 b (a1.toInt.toNat)).toInt ≤ 16) → G E ({ frames := 3, cells := 0, slots := 0, locals := 192 } : Room) D cy 8 P114 0 0 114 [(0, .ref a0), (1, .int a1), (2, .int a2), (3, .int a3), (4, .int a4), (6, .int v6_6)] [.int v114_s0, .int v6_5] := by
        intro P114 v114_s0 I114 X114 W114 hv114_3 hv114_6 hv114_s0 hq114_0
        have h31980 := X114.at ha0
        obtain ⟨b31981, e31982, h31983⟩ := I114.fld (h31980) 10 13 2 rfl
        have hq114_0 := hq114_0 b31981 e31982
        refine a_iadd C dX12_chancesOf_114 (fun z31984 => ?_)
        refine g_istore (lv' := [(5, .int z31984), (0, .ref a0), (1, .int a1), (2, .int a2), (3, .int a3), (4, .int a4), (6, .int v6_6)]) C dX12_chancesOf_115 (by decide) rfl ?_
        refine g_lv (lv' := [(0, .ref a0), (1, .int a1), (2, .int a2), (3, .int a3), (4, .int a4), (5, .int z31984), (6, .int v6_6)]) [1, 2, 3, 4, 5, 0, 6] rfl ?_
        exact J117 P114 z31984 I114 X114 W114 (by omega) (fun b9 e9 => by rw [e31982] at e9; cases e9; omega)
      have J103 : ∀ (P103 : PP) (v103_s0 : Int32), (IM P103 a0) → (EM [28, 29, 30, 31, 33, 34, 35, 36, 37, 38] a0 P P103) → (MW P103 a0) → (0 ≤ a3.toInt ∧ a3.toInt ≤ 20) → (0 ≤ v6_6.toInt ∧ v6_6.toInt ≤ 2147483646) → (∀ b, pR P103 a0 10 = some b → 1 ≤ (pI P103 b (a1.toInt.toNat)).toInt ∧ (pI P103 b (a1.toInt.toNat)).toInt ≤ 16) → G E ({ frames := 3, cells := 0, slots := 0, locals := 192 } : Room) D cy 8 P103 0 0 103 [(0, .ref a0), (1, .int a1), (2, .int a2), (3, .int a3), (4, .int a4), (6, .int v6_6)] [.int v103_s0, .int a1, .ref a0, .int v6_5] := by
        intro P103 v103_s0 I103 X103 W103 hv103_3 hv103_6 hq103_0
        have h31986 := X103.at ha0
        obtain ⟨b31987, e31988, h31989⟩ := I103.fld (h31986) 10 13 2 rfl
        have hq103_0 := hq103_0 b31987 e31988
        refine g_callVI (rest := [.int v6_5]) C mv_X12_371 [.int a1, .int v103_s0] (s_X12_givesAll I103 (by omega) W103) (h31986).1 (h31986).2 rfl rfl (by decide) (Nat.le_of_ble_eq_true rfl) (by decide) dX12_chancesOf_103 (fun r31990 Y31991 h31992 => ?_)
        obtain ⟨rfl, h31992⟩ := h31992
        have h31992 : 0 ≤ r31990.toInt ∧ r31990.toInt ≤ 1 := h31992
        refine b_if_eq C 113 dX12_chancesOf_106 (by decide) (fun h31993 => ?_) (fun h31993 => ?_)
        · have h31993 : r31990.toInt = 0 := congrArg Int32.toInt h31993
          refine g_iconst (v := 0) C dX12_chancesOf_113 (by decide) ?_
          exact J114 P103 0 I103 X103 W103 (by omega) (by omega) (by decide) (fun b9 e9 => by rw [e31988] at e9; cases e9; omega)
        · have h31993 : r31990.toInt ≠ 0 := ti_ne h31993
          refine g_iconst (v := 1) C dX12_chancesOf_109 (by decide) ?_
          refine g_goto C 114 dX12_chancesOf_110 (by decide) ?_
          exact J114 P103 1 I103 X103 W103 (by omega) (by omega) (by decide) (fun b9 e9 => by rw [e31988] at e9; cases e9; omega)
      have J83 : ∀ (P83 : PP), (IM P83 a0) → (EM [28, 29, 30, 31, 33, 34, 35, 36, 37, 38] a0 P P83) → (MW P83 a0) → (0 ≤ a3.toInt ∧ a3.toInt ≤ 20) → (0 ≤ v6_6.toInt ∧ v6_6.toInt ≤ 2147483646) → (∀ b, pR P83 a0 10 = some b → 1 ≤ (pI P83 b (a1.toInt.toNat)).toInt ∧ (pI P83 b (a1.toInt.toNat)).toInt ≤ 16) → G E ({ frames := 3, cells := 0, slots := 0, locals := 192 } : Room) D cy 8 P83 0 0 83 [(0, .ref a0), (1, .int a1), (2, .int a2), (3, .int a3), (4, .int a4), (5, .int v6_5), (6, .int v6_6)] [] := by
        intro P83 I83 X83 W83 hv83_3 hv83_6 hq83_0
        have h31994 := X83.at ha0
        obtain ⟨b31995, e31996, h31997⟩ := I83.fld (h31994) 10 13 2 rfl
        have hq83_0 := hq83_0 b31995 e31996
        refine g_iload C dX12_chancesOf_83 5 rfl ?_
        refine g_aload_n C dX12_chancesOf_85 rfl 0 rfl ?_
        refine g_iload_n C dX12_chancesOf_86 rfl 1 rfl ?_
        refine g_iload C dX12_chancesOf_87 4 rfl ?_
        have u31999 := ti_rng a4
        refine b_if_ne C 99 dX12_chancesOf_89 (by decide) (fun h31998 => ?_) (fun h31998 => ?_)
        · have h31998 : a4.toInt ≠ 0 := ti_ne h31998
          refine g_aload_n C dX12_chancesOf_99 rfl 0 rfl ?_
          refine g_callVI (rest := [.int a1, .ref a0, .int v6_5]) C mv_X12_349 [] (s_X12_fixedSet I83 W83) (h31994).1 (h31994).2 rfl rfl (by decide) (Nat.le_of_ble_eq_true rfl) (by decide) dX12_chancesOf_100 (fun r32000 Y32001 h32002 => ?_)
          obtain ⟨rfl, h32002⟩ := h32002
          have h32002 : True := h32002
          refine g_lv (lv' := [(0, .ref a0), (1, .int a1), (2, .int a2), (3, .int a3), (4, .int a4), (6, .int v6_6)]) [0, 1, 2, 3, 4, 6] rfl ?_
          exact J103 P83 r32000 I83 X83 W83 (by omega) (by omega) (fun b9 e9 => by rw [e31996] at e9; cases e9; omega)
        · have h31998 : a4.toInt = 0 := congrArg Int32.toInt h31998
          refine g_aload_n C dX12_chancesOf_92 rfl 0 rfl ?_
          refine g_getI C fi_X12_318 (by decide) (h31994).1 (h31994).2 dX12_chancesOf_93 ?_
          refine g_goto C 103 dX12_chancesOf_96 (by decide) ?_
          refine g_lv (lv' := [(0, .ref a0), (1, .int a1), (2, .int a2), (3, .int a3), (4, .int a4), (6, .int v6_6)]) [0, 1, 2, 3, 4, 6] rfl ?_
          exact J103 P83 (pI P83 a0 33) I83 X83 W83 (by omega) (by omega) (fun b9 e9 => by rw [e31996] at e9; cases e9; omega)
      have J31 : ∀ (n31 : Nat) (P31 : PP) (v31_7 : Int32), (11 - v31_7.toInt).toNat < n31 → (IM P31 a0) → (EM [28, 29, 30, 31, 33, 34, 35, 36, 37, 38] a0 P P31) → (MW P31 a0) → (0 ≤ a3.toInt ∧ a3.toInt ≤ 20) → (0 ≤ v6_6.toInt ∧ v6_6.toInt ≤ 2147483646) → (0 ≤ v31_7.toInt ∧ v31_7.toInt ≤ 11) → (∀ b, pR P31 a0 10 = some b → 1 ≤ (pI P31 b (a1.toInt.toNat)).toInt ∧ (pI P31 b (a1.toInt.toNat)).toInt ≤ 16) → ((pI P31 a0 28).toInt ≤ 4 + v31_7.toInt) → G E ({ frames := 3, cells := 0, slots := 0, locals := 192 } : Room) D cy 8 P31 0 0 31 [(0, .ref a0), (1, .int a1), (2, .int a2), (3, .int a3), (4, .int a4), (5, .int v6_5), (6, .int v6_6), (7, .int v31_7)] [] := by
        intro n31
        induction n31 with
        | zero => intro P31 v31_7 hm31 I31 X31 W31 hv31_3 hv31_6 hv31_7 hq31_0 rel31_0; omega
        | succ n31 ih31 =>
          intro P31 v31_7 hm31 I31 X31 W31 hv31_3 hv31_6 hv31_7 hq31_0 rel31_0
          have h32003 := X31.at ha0
          obtain ⟨b32004, e32005, h32006⟩ := I31.fld (h32003) 10 13 2 rfl
          have hq31_0 := hq31_0 b32004 e32005
          have h32007 := I31.rg h32003 28 rfl
          have J61 : ∀ (P61 : PP), (IM P61 a0) → (EM [28, 29, 30, 31, 33, 34, 35, 36, 37, 38] a0 P P61) → (MW P61 a0) → (0 ≤ a3.toInt ∧ a3.toInt ≤ 20) → (0 ≤ v6_6.toInt ∧ v6_6.toInt ≤ 2147483646) → (0 ≤ v31_7.toInt ∧ v31_7.toInt ≤ 10) → (∀ b, pR P61 a0 10 = some b → 1 ≤ (pI P61 b (a1.toInt.toNat)).toInt ∧ (pI P61 b (a1.toInt.toNat)).toInt ≤ 16) → ((pI P61 a0 28).toInt ≤ 5 + v31_7.toInt) → G E ({ frames := 3, cells := 0, slots := 0, locals := 192 } : Room) D cy 8 P61 0 0 61 [(0, .ref a0), (1, .int a1), (2, .int a2), (3, .int a3), (4, .int a4), (5, .int v6_5), (6, .int v6_6), (7, .int v31_7)] [] := by
            intro P61 I61 X61 W61 hv61_3 hv61_6 hv61_7 hq61_0 rel61_0
            have h32008 := X61.at ha0
            obtain ⟨b32009, e32010, h32011⟩ := I61.fld (h32008) 10 13 2 rfl
            have hq61_0 := hq61_0 b32009 e32010
            have h32012 := I61.rg h32008 28 rfl
            refine s_iinc (lv0 := [(0, .ref a0), (1, .int a1), (2, .int a2), (3, .int a3), (4, .int a4), (5, .int v6_5), (6, .int v6_6)]) (m := 1) C dX12_chancesOf_61 7 rfl (by decide) rfl (by decide) (by omega) (fun z32013 h32014 => ?_)
            have h32014 : z32013.toInt = v31_7.toInt + 1 := h32014
            refine g_goto C 31 dX12_chancesOf_64 (by decide) ?_
            refine g_lv (lv' := [(0, .ref a0), (1, .int a1), (2, .int a2), (3, .int a3), (4, .int a4), (5, .int v6_5), (6, .int v6_6), (7, .int z32013)]) [1, 2, 3, 4, 5, 6, 7, 0] rfl ?_
            exact ih31 P61 z32013 (by omega) I61 X61 W61 (by omega) (by omega) (by omega) (fun b9 e9 => by rw [e32010] at e9; cases e9; omega) (by show (pI P61 a0 28).toInt ≤ 4 + z32013.toInt; omega)
          refine g_iload C dX12_chancesOf_31 7 rfl ?_
          refine g_iload_n C dX12_chancesOf_33 rfl 2 rfl ?_
          refine b_icmp_ge C 67 dX12_chancesOf_34 (by decide) (fun h32015 => ?_) (fun h32015 => ?_)
          · have h32015 : a2.toInt ≤ v31_7.toInt := h32015
            refine g_iload C dX12_chancesOf_67 4 rfl ?_
            have u32017 := ti_rng a4
            refine b_if_ne C 79 dX12_chancesOf_69 (by decide) (fun h32016 => ?_) (fun h32016 => ?_)
            · have h32016 : a4.toInt ≠ 0 := ti_ne h32016
              refine g_aload_n C dX12_chancesOf_79 rfl 0 rfl ?_
              refine g_callVV (rest := []) C mv_X12_346 [] (s_X12_findSolved I31 W31) (h32003).1 (h32003).2 rfl rfl (by decide) (Nat.le_of_ble_eq_true rfl) (by decide) dX12_chancesOf_80 (fun Y32019 h32020 => ?_)
              obtain ⟨Iy32021, Xy32022, W32023⟩ := h32020
              have q32024 := Xy32022.keepA e32005 (by decide) rfl (a1.toInt.toNat)
              have q32025 := Xy32022.keepF 28 (by decide)
              have Xz32026 : EM [28, 29, 30, 31, 33, 34, 35, 36, 37, 38] a0 P Y32019 := EM.tr ha0 X31 (Xy32022.mono (by decide))
              have e32027 := Xy32022.ref h32003 (by decide) e32005
              have h32028 := Xy32022.at h32003
              have h32029 := Xy32022.ar h32006
              refine g_lv (lv' := [(0, .ref a0), (1, .int a1), (2, .int a2), (3, .int a3), (4, .int a4), (5, .int v6_5), (6, .int v6_6)]) [0, 1, 2, 3, 4, 5, 6] rfl ?_
              exact J83 Y32019 Iy32021 Xz32026 W32023 (by omega) (by omega) (fun b9 e9 => by rw [e32027] at e9; cases e9; omega)
            · have h32016 : a4.toInt = 0 := congrArg Int32.toInt h32016
              refine g_aload_n C dX12_chancesOf_72 rfl 0 rfl ?_
              refine g_callVV (rest := []) C mv_X12_343 [] (s_X12_findPeeled I31 W31) (h32003).1 (h32003).2 rfl rfl (by decide) (Nat.le_of_ble_eq_true rfl) (by decide) dX12_chancesOf_73 (fun Y32031 h32032 => ?_)
              obtain ⟨Iy32033, Xy32034, W32035⟩ := h32032
              have q32036 := Xy32034.keepA e32005 (by decide) rfl (a1.toInt.toNat)
              have q32037 := Xy32034.keepF 28 (by decide)
              have Xz32038 : EM [28, 29, 30, 31, 33, 34, 35, 36, 37, 38] a0 P Y32031 := EM.tr ha0 X31 (Xy32034.mono (by decide))
              have e32039 := Xy32034.ref h32003 (by decide) e32005
              have h32040 := Xy32034.at h32003
              have h32041 := Xy32034.ar h32006
              refine g_goto C 83 dX12_chancesOf_76 (by decide) ?_
              refine g_lv (lv' := [(0, .ref a0), (1, .int a1), (2, .int a2), (3, .int a3), (4, .int a4), (5, .int v6_5), (6, .int v6_6)]) [0, 1, 2, 3, 4, 5, 6] rfl ?_
              exact J83 Y32031 Iy32033 Xz32038 W32035 (by omega) (by omega) (fun b9 e9 => by rw [e32039] at e9; cases e9; omega)
          · have h32015 : v31_7.toInt < a2.toInt := h32015
            refine g_iload C dX12_chancesOf_37 6 rfl ?_
            refine g_iload C dX12_chancesOf_39 7 rfl ?_
            refine a_ishr C dX12_chancesOf_41 (fun z32042 => ?_)
            refine g_iconst (v := 1) C dX12_chancesOf_42 (by decide) ?_
            refine s_iand C dX12_chancesOf_43 (by show 0 ≤ 1; omega) (fun z32044 h32045 => ?_)
            have h32045 : 0 ≤ z32044.toInt ∧ z32044.toInt ≤ 1 := h32045
            refine g_iconst (v := 1) C dX12_chancesOf_44 (by decide) ?_
            refine b_icmp_ne C 61 dX12_chancesOf_45 (by decide) (fun h32046 => ?_) (fun h32046 => ?_)
            · have h32046 : z32044.toInt ≠ 1 := ti_ne h32046
              exact J61 P31 I31 X31 W31 (by omega) (by omega) (by omega) (fun b9 e9 => by rw [e32005] at e9; cases e9; omega) (by show (pI P31 a0 28).toInt ≤ 5 + v31_7.toInt; omega)
            · have h32046 : z32044.toInt = 1 := congrArg Int32.toInt h32046
              refine g_aload_n C dX12_chancesOf_48 rfl 0 rfl ?_
              refine g_aload_n C dX12_chancesOf_49 rfl 0 rfl ?_
              obtain ⟨b32047, e32048, h32049⟩ := I31.fld (h32003) 43 13 60 rfl
              refine g_getR C fi_X12_121 rfl e32048 (h32003).1 (h32003).2 dX12_chancesOf_50 ?_
              refine g_iload C dX12_chancesOf_53 7 rfl ?_
              refine g_iald (j := (v31_7.toInt.toNat)) C h32049.1 h32049.2.1 (ix_in h32049.2.2 (by omega)) dX12_chancesOf_55 ?_
              refine g_iconst (v := 0) C dX12_chancesOf_56 (by decide) ?_
              refine g_iconst (v := (-1)) C dX12_chancesOf_57 (by decide) ?_
              refine g_callVV (rest := []) C mv_X12_308 [.int (pI P31 b32047 (v31_7.toInt.toNat)), .int 0, .int (-1)] (s_X12_adds I31 (by omega) W31) (h32003).1 (h32003).2 rfl rfl (by decide) (Nat.le_of_ble_eq_true rfl) (by decide) dX12_chancesOf_58 (fun Y32051 h32052 => ?_)
              obtain ⟨Iy32053, Xy32054, W32055, p32056⟩ := h32052
              have p32056 : (pI Y32051 a0 28).toInt = (pI P31 a0 28).toInt + 1 := p32056
              have q32057 := Xy32054.keepA e32005 (by decide) rfl (a1.toInt.toNat)
              have Xz32058 : EM [28, 29, 30, 31, 33, 34, 35, 36, 37, 38] a0 P Y32051 := EM.tr ha0 X31 (Xy32054.mono (by decide))
              have e32059 := Xy32054.ref h32003 (by decide) e32005
              have h32060 := Xy32054.at h32003
              have h32061 := Xy32054.ar h32006
              have h32062 := Iy32053.rg h32060 28 rfl
              exact J61 Y32051 Iy32053 Xz32058 W32055 (by omega) (by omega) (by omega) (fun b9 e9 => by rw [e32059] at e9; cases e9; omega) (by show (pI Y32051 a0 28).toInt ≤ 5 + v31_7.toInt; omega)
      refine g_iload C dX12_chancesOf_6 6 rfl ?_
      refine g_iconst (v := 1) C dX12_chancesOf_8 (by decide) ?_
      refine g_iload_n C dX12_chancesOf_9 rfl 2 rfl ?_
      refine a_ishl C dX12_chancesOf_10 (fun z32063 => ?_)
      have u32066 := ti_rng v6_6
      have u32067 := ti_rng z32063
      refine b_icmp_ge C 123 dX12_chancesOf_11 (by decide) (fun h32065 => ?_) (fun h32065 => ?_)
      · have h32065 : z32063.toInt ≤ v6_6.toInt := h32065
        refine g_iload C dX12_chancesOf_123 5 rfl ?_
        exact ret _ _ _ _ _ _ dX12_chancesOf_125 rfl (by decide) (by decide) ⟨I6, X6, W6, trivial⟩
      · have h32065 : v6_6.toInt < z32063.toInt := h32065
        refine g_iload C dX12_chancesOf_14 6 rfl ?_
        refine g_callSI (b := 0) (ci := 0) (rest := []) C ms_X12_264 [.int v6_6] (s_X12_bits I6.1) rfl rfl (by decide) (Nat.le_of_ble_eq_true rfl) (by decide) dX12_chancesOf_16 (fun r32068 Y32069 h32070 => ?_)
        obtain ⟨rfl, h32070⟩ := h32070
        obtain ⟨h32070, hi32071⟩ := h32070
        have hi32071 : r32068.toInt = 0 ∨ v6_6.toInt ≠ 0 := hi32071
        have h32070 : 0 ≤ r32068.toInt ∧ r32068.toInt ≤ 20 := h32070
        refine g_iload_n C dX12_chancesOf_19 rfl 3 rfl ?_
        have u32073 := ti_rng a3
        refine b_icmp_ne C 117 dX12_chancesOf_20 (by decide) (fun h32072 => ?_) (fun h32072 => ?_)
        · have h32072 : r32068.toInt ≠ a3.toInt := ti_ne h32072
          exact J117 P6 v6_5 I6 X6 W6 (by omega) (fun b9 e9 => by rw [e31972] at e9; cases e9; omega)
        · have h32072 : r32068.toInt = a3.toInt := congrArg Int32.toInt h32072
          refine g_aload_n C dX12_chancesOf_23 rfl 0 rfl ?_
          refine g_iload_n C dX12_chancesOf_24 rfl 1 rfl ?_
          refine g_callVV (rest := []) C mv_X12_312 [.int a1] (s_X12_begins I6 (by omega) W6) (h31970).1 (h31970).2 rfl rfl (by decide) (Nat.le_of_ble_eq_true rfl) (by decide) dX12_chancesOf_25 (fun Y32075 h32076 => ?_)
          obtain ⟨Iy32077, Xy32078, W32079, p32080⟩ := h32076
          have p32080 : (pI Y32075 a0 28).toInt ≤ 4 := p32080
          have q32081 := Xy32078.keepA e31972 (by decide) rfl (a1.toInt.toNat)
          have Xz32082 : EM [28, 29, 30, 31, 33, 34, 35, 36, 37, 38] a0 P Y32075 := EM.tr ha0 X6 (Xy32078.mono (by decide))
          have e32083 := Xy32078.ref h31970 (by decide) e31972
          have h32084 := Xy32078.at h31970
          have h32085 := Xy32078.ar h31973
          have h32086 := Iy32077.rg h32084 28 rfl
          refine g_iconst (v := 0) C dX12_chancesOf_28 (by decide) ?_
          refine g_istore (lv' := [(7, .int 0), (0, .ref a0), (1, .int a1), (2, .int a2), (3, .int a3), (4, .int a4), (5, .int v6_5), (6, .int v6_6)]) C dX12_chancesOf_29 (by decide) rfl ?_
          refine g_lv (lv' := [(0, .ref a0), (1, .int a1), (2, .int a2), (3, .int a3), (4, .int a4), (5, .int v6_5), (6, .int v6_6), (7, .int 0)]) [1, 2, 3, 4, 5, 6, 7, 0] rfl ?_
          exact J31 _ Y32075 0 (Nat.lt_succ_self _) Iy32077 Xz32082 W32079 (by omega) (by omega) (by decide) (fun b9 e9 => by rw [e32083] at e9; cases e9; omega) (by show (pI Y32075 a0 28).toInt ≤ 4 + 0; omega)
  obtain ⟨b32087, e32088, h32089⟩ := I.fld (ha0) 10 13 2 rfl
  have hf0 := hf0 b32087 e32088
  refine g_iconst (v := 0) C dX12_chancesOf_0 (by decide) ?_
  refine g_istore (lv' := [(5, .int 0), (0, .ref a0), (1, .int a1), (2, .int a2), (3, .int a3), (4, .int a4)]) C dX12_chancesOf_1 (by decide) rfl ?_
  refine g_iconst (v := 0) C dX12_chancesOf_3 (by decide) ?_
  refine g_istore (lv' := [(6, .int 0), (5, .int 0), (0, .ref a0), (1, .int a1), (2, .int a2), (3, .int a3), (4, .int a4)]) C dX12_chancesOf_4 (by decide) rfl ?_
  refine g_lv (lv' := [(0, .ref a0), (1, .int a1), (2, .int a2), (3, .int a3), (4, .int a4), (5, .int 0), (6, .int 0)]) [2, 3, 4, 5, 6, 1, 0] rfl ?_
  exact J6 _ P 0 0 (Nat.lt_succ_self _) I EM.rf hW (by decide) (fun b9 e9 => by rw [e32088] at e9; cases e9; omega)
theorem dX12_chances_25 : decode cX12_chances 25 = .ok (.iconst (-1), 1) := by decide +kernel
theorem dX12_chances_26 : decode cX12_chances 26 = .ok (.ireturn, 1) := by decide +kernel
theorem dX12_chances_42 : decode cX12_chances 42 = .ok (.ireturn, 1) := by decide +kernel
set_option maxHeartbeats 4000000 in
set_option maxRecDepth 100000 in
theorem s_X12_chances {P : PP} {a0 : Nat} {a1 : Int32} {a2 : Int32} {a3 : Int32} {a4 : Int32} (I : IM P a0) (hW : MW P a0) : CtrI yX12_chances cX12_chances 5 (some Jvm.ClassFile.FieldType.int) ({ frames := 5, cells := 0, slots := 0, locals := 320 } : Room) 0 0 P [.ref a0, .int a1, .int a2, .int a3, .int a4] (fun r P2 => IM P2 a0 ∧ EM [0, 28, 29, 30, 31, 33, 34, 35, 36, 37, 38, 43] a0 P P2 ∧ MW P2 a0 ∧ (True)) := by
  refine enI (lv := [(0, .ref a0), (1, .int a1), (2, .int a2), (3, .int a3), (4, .int a4)]) (by decide) (Nat.le_of_ble_eq_true rfl) rfl (fun E D cy C Ci0 ret => ?_)
  have ha0 := I.2.1
  have J25 : ∀ (P25 : PP), (IM P25 a0) → (EM [0, 28, 29, 30, 31, 33, 34, 35, 36, 37, 38, 43] a0 P P25) → (MW P25 a0) → (0 ≤ (pI P25 a0 0).toInt ∧ (pI P25 a0 0).toInt ≤ 0) → G E ({ frames := 5, cells := 0, slots := 0, locals := 320 } : Room) D cy 5 P25 0 0 25 [] [] := by
    intro P25 I25 X25 W25 hq25_0
    have h32137 := X25.at ha0
    refine g_iconst (v := (-1)) C dX12_chances_25 (by decide) ?_
    exact ret _ _ _ _ _ _ dX12_chances_26 rfl (by decide) (by decide) ⟨I25, X25, W25, trivial⟩
  refine g_aload_n C dX12_chances_0 rfl 0 rfl ?_
  refine g_iconst (v := 0) C dX12_chances_1 (by decide) ?_
  refine g_putI C fi_X12_1 rfl (ha0).1 (ha0).2 dX12_chances_2 ?_
  refine gqW (ks := [0]) (I.setI (rgOk.of rfl (by decide))) (EM.setI I (by decide)) (fun Y32138 Iy32139 Xy32140 w32141 => ?_)
  have w32141 : (pI Y32138 a0 0).toInt = 0 := w32141
  have W32142 := hW.keep I Xy32140 (by decide) (by decide) (by decide)
  have Xz32143 : EM [0, 28, 29, 30, 31, 33, 34, 35, 36, 37, 38, 43] a0 P Y32138 := Xy32140.mono (by decide)
  have h32144 := Xy32140.at ha0
  refine g_aload_n C dX12_chances_5 rfl 0 rfl ?_
  refine g_iload_n C dX12_chances_6 rfl 1 rfl ?_
  refine g_iload_n C dX12_chances_7 rfl 2 rfl ?_
  refine g_iload C dX12_chances_8 4 rfl ?_
  refine g_callVI (rest := []) C mv_X12_377 [.int a1, .int a2, .int a4] (s_X12_areChances Iy32139 W32142) (h32144).1 (h32144).2 rfl rfl (by decide) (Nat.le_of_ble_eq_true rfl) (by decide) dX12_chances_10 (fun r32145 Y32146 h32147 => ?_)
  obtain ⟨rfl, h32147⟩ := h32147
  obtain ⟨h32147, hi32148, hi32149⟩ := h32147
  have hi32148 : r32145.toInt = 0 ∨ (((0 : Int) ≤ a1.toInt ∧ a1.toInt ≤ (1 : Int)) ∧ ((1 : Int) ≤ a2.toInt ∧ a2.toInt ≤ (11 : Int)) ∧ ((0 : Int) ≤ a4.toInt ∧ a4.toInt ≤ (1 : Int))) := hi32148
  have h32147 : 0 ≤ r32145.toInt ∧ r32145.toInt ≤ 1 := h32147
  refine b_if_eq C 25 dX12_chances_13 (by decide) (fun h32150 => ?_) (fun h32150 => ?_)
  · have h32150 : r32145.toInt = 0 := congrArg Int32.toInt h32150
    clear hi32148
    refine g_lv (lv' := []) [] rfl ?_
    exact J25 Y32138 Iy32139 Xz32143 W32142 (by omega)
  · have h32150 : r32145.toInt ≠ 0 := ti_ne h32150
    replace hi32148 := hi32148.resolve_left (by omega)
    obtain ⟨b32151, e32152, h32153⟩ := Iy32139.fld (h32144) 10 13 2 rfl
    have hi32149 := (hi32149.resolve_left (by omega)) b32151 e32152
    have hi32149 : 0 < (pI Y32138 b32151 (a1.toInt.toNat)).toInt := hi32149
    have h32154 := Iy32139.arr e32152 rfl (a1.toInt.toNat)
    refine g_iload_n C dX12_chances_16 rfl 3 rfl ?_
    refine g_iconst (v := 0) C dX12_chances_17 (by decide) ?_
    refine g_iload_n C dX12_chances_18 rfl 2 rfl ?_
    refine g_callSI (b := 0) (ci := 0) (rest := []) C ms_X12_178 [.int a3, .int 0, .int a2] (s_X12_within Iy32139.1) rfl rfl (by decide) (Nat.le_of_ble_eq_true rfl) (by decide) dX12_chances_19 (fun r32155 Y32156 h32157 => ?_)
    obtain ⟨rfl, h32157⟩ := h32157
    obtain ⟨h32157, hi32158⟩ := h32157
    have hi32158 : r32155.toInt = 0 ∨ (0 ≤ a3.toInt ∧ a3.toInt ≤ a2.toInt) := hi32158
    have h32157 : 0 ≤ r32155.toInt ∧ r32155.toInt ≤ 1 := h32157
    refine b_if_ne C 27 dX12_chances_22 (by decide) (fun h32159 => ?_) (fun h32159 => ?_)
    · have h32159 : r32155.toInt ≠ 0 := ti_ne h32159
      replace hi32158 := hi32158.resolve_left (by omega)
      refine g_aload_n C dX12_chances_27 rfl 0 rfl ?_
      refine g_iload_n C dX12_chances_28 rfl 1 rfl ?_
      refine g_iload_n C dX12_chances_29 rfl 2 rfl ?_
      refine g_callVV (rest := []) C mv_X12_380 [.int a1, .int a2] (s_X12_keepsSets Iy32139 (by omega) (by omega) (fun b9 e9 => by rw [e32152] at e9; cases e9; show 1 ≤ (pI Y32138 b32151 (a1.toInt.toNat)).toInt ∧ (pI Y32138 b32151 (a1.toInt.toNat)).toInt ≤ 16; omega) W32142) (h32144).1 (h32144).2 rfl rfl (by decide) (Nat.le_of_ble_eq_true rfl) (by decide) dX12_chances_30 (fun Y32161 h32162 => ?_)
      obtain ⟨Iy32163, Xy32164, W32165⟩ := h32162
      have q32166 := Xy32164.keepF 0 (by decide)
      have q32167 := Xy32164.keepA e32152 (by decide) rfl (a1.toInt.toNat)
      have Xz32168 : EM [0, 28, 29, 30, 31, 33, 34, 35, 36, 37, 38, 43] a0 P Y32161 := EM.tr ha0 Xz32143 (Xy32164.mono (by decide))
      have e32169 := Xy32164.ref h32144 (by decide) e32152
      have h32170 := Xy32164.at h32144
      have h32171 := Xy32164.ar h32153
      refine g_aload_n C dX12_chances_33 rfl 0 rfl ?_
      refine g_iload_n C dX12_chances_34 rfl 1 rfl ?_
      refine g_iload_n C dX12_chances_35 rfl 2 rfl ?_
      refine g_iload_n C dX12_chances_36 rfl 3 rfl ?_
      refine g_iload C dX12_chances_37 4 rfl ?_
      refine g_callVI (rest := []) C mv_X12_383 [.int a1, .int a2, .int a3, .int a4] (s_X12_chancesOf Iy32163 (by omega) (by omega) (fun b9 e9 => by rw [e32169] at e9; cases e9; show 1 ≤ (pI Y32161 b32151 (a1.toInt.toNat)).toInt ∧ (pI Y32161 b32151 (a1.toInt.toNat)).toInt ≤ 16; omega) W32165) (h32170).1 (h32170).2 rfl rfl (by decide) (Nat.le_of_ble_eq_true rfl) (by decide) dX12_chances_39 (fun r32172 Y32173 h32174 => ?_)
      obtain ⟨Iy32175, Xy32176, W32177, h32174⟩ := h32174
      have q32178 := Xy32176.keepF 0 (by decide)
      have q32179 := Xy32176.keepA e32169 (by decide) rfl (a1.toInt.toNat)
      have Xz32180 : EM [0, 28, 29, 30, 31, 33, 34, 35, 36, 37, 38, 43] a0 P Y32173 := EM.tr ha0 Xz32168 (Xy32176.mono (by decide))
      have e32181 := Xy32176.ref h32170 (by decide) e32169
      have h32182 := Xy32176.at h32170
      have h32183 := Xy32176.ar h32171
      have h32174 : True := h32174
      exact ret _ _ _ _ _ _ dX12_chances_42 rfl (by decide) (by decide) ⟨Iy32175, Xz32180, W32177, trivial⟩
    · have h32159 : r32155.toInt = 0 := congrArg Int32.toInt h32159
      clear hi32158
      refine g_lv (lv' := []) [] rfl ?_
      exact J25 Y32138 Iy32139 Xz32143 W32142 (by omega)
theorem dX12_choices_0 : decode cX12_choices 0 = .ok (.iconst 1, 1) := by decide +kernel
theorem dX12_choices_1 : decode cX12_choices 1 = .ok (.istore_n 2, 1) := by decide +kernel
theorem dX12_choices_2 : decode cX12_choices 2 = .ok (.iconst 0, 1) := by decide +kernel
theorem dX12_choices_3 : decode cX12_choices 3 = .ok (.istore_n 3, 1) := by decide +kernel
theorem dX12_choices_4 : decode cX12_choices 4 = .ok (.iload_n 3, 1) := by decide +kernel
theorem dX12_choices_5 : decode cX12_choices 5 = .ok (.iload_n 1, 1) := by decide +kernel
theorem dX12_choices_6 : decode cX12_choices 6 = .ok (.if_icmp .ge 19, 3) := by decide +kernel
theorem dX12_choices_9 : decode cX12_choices 9 = .ok (.iload_n 2, 1) := by decide +kernel
theorem dX12_choices_10 : decode cX12_choices 10 = .ok (.iload_n 0, 1) := by decide +kernel
theorem dX12_choices_11 : decode cX12_choices 11 = .ok (.iload_n 3, 1) := by decide +kernel
theorem dX12_choices_12 : decode cX12_choices 12 = .ok (.isub, 1) := by decide +kernel
theorem dX12_choices_13 : decode cX12_choices 13 = .ok (.imul, 1) := by decide +kernel
theorem dX12_choices_14 : decode cX12_choices 14 = .ok (.iload_n 3, 1) := by decide +kernel
theorem dX12_choices_15 : decode cX12_choices 15 = .ok (.iconst 1, 1) := by decide +kernel
theorem dX12_choices_16 : decode cX12_choices 16 = .ok (.iadd, 1) := by decide +kernel
theorem dX12_choices_17 : decode cX12_choices 17 = .ok (.idiv, 1) := by decide +kernel
theorem dX12_choices_18 : decode cX12_choices 18 = .ok (.istore_n 2, 1) := by decide +kernel
theorem dX12_choices_19 : decode cX12_choices 19 = .ok (.iinc 3 1, 3) := by decide +kernel
theorem dX12_choices_22 : decode cX12_choices 22 = .ok (.goto (-18), 3) := by decide +kernel
theorem dX12_choices_25 : decode cX12_choices 25 = .ok (.iload_n 2, 1) := by decide +kernel
theorem dX12_choices_26 : decode cX12_choices 26 = .ok (.ireturn, 1) := by decide +kernel
set_option maxHeartbeats 4000000 in
set_option maxRecDepth 100000 in
theorem s_X12_choices {P : PP} {a0 : Int32} {a1 : Int32} (I : IV P) (ha0 : 0 ≤ a0.toInt ∧ a0.toInt ≤ 11) (ha1 : 0 ≤ a1.toInt ∧ a1.toInt ≤ 11) : CtrI yX12_choices cX12_choices 4 (some Jvm.ClassFile.FieldType.int) ({ frames := 1, cells := 0, slots := 0, locals := 64 } : Room) 0 0 P [.int a0, .int a1] (fun r P2 => P = P2 ∧ (True)) := by
  refine enI (lv := [(0, .int a0), (1, .int a1)]) (by decide) (Nat.le_of_ble_eq_true rfl) rfl (fun E D cy C Ci0 ret => ?_)
  have J4 : ∀ (n4 : Nat) (v4_2 : Int32) (v4_3 : Int32), (11 - v4_3.toInt).toNat < n4 → (0 ≤ v4_3.toInt ∧ v4_3.toInt ≤ 11) → G E ({ frames := 1, cells := 0, slots := 0, locals := 64 } : Room) D cy 4 P 0 0 4 [(0, .int a0), (1, .int a1), (2, .int v4_2), (3, .int v4_3)] [] := by
    intro n4
    induction n4 with
    | zero => intro v4_2 v4_3 hm4 hv4_3; omega
    | succ n4 ih4 =>
      intro v4_2 v4_3 hm4 hv4_3
      refine g_iload_n C dX12_choices_4 rfl 3 rfl ?_
      refine g_iload_n C dX12_choices_5 rfl 1 rfl ?_
      refine b_icmp_ge C 25 dX12_choices_6 (by decide) (fun h32283 => ?_) (fun h32283 => ?_)
      · have h32283 : a1.toInt ≤ v4_3.toInt := h32283
        refine g_iload_n C dX12_choices_25 rfl 2 rfl ?_
        exact ret _ _ _ _ _ _ dX12_choices_26 rfl (by decide) (by decide) ⟨rfl, trivial⟩
      · have h32283 : v4_3.toInt < a1.toInt := h32283
        refine g_iload_n C dX12_choices_9 rfl 2 rfl ?_
        refine g_iload_n C dX12_choices_10 rfl 0 rfl ?_
        refine g_iload_n C dX12_choices_11 rfl 3 rfl ?_
        refine s_isub C dX12_choices_12 (by show -2147483648 ≤ a0.toInt - v4_3.toInt ∧ a0.toInt - v4_3.toInt ≤ 2147483647; omega) (fun z32284 h32285 => ?_)
        have h32285 : z32284.toInt = a0.toInt - v4_3.toInt := h32285
        refine a_imul C dX12_choices_13 (fun z32286 => ?_)
        refine g_iload_n C dX12_choices_14 rfl 3 rfl ?_
        refine g_iconst (v := 1) C dX12_choices_15 (by decide) ?_
        refine s_iadd C dX12_choices_16 (by show -2147483648 ≤ v4_3.toInt + 1 ∧ v4_3.toInt + 1 ≤ 2147483647; omega) (fun z32288 h32289 => ?_)
        have h32289 : z32288.toInt = v4_3.toInt + 1 := h32289
        refine a_idiv C dX12_choices_17 (by show z32288.toInt ≠ 0; omega) (fun z32290 => ?_)
        refine g_istore_n (lv' := [(2, .int z32290), (0, .int a0), (1, .int a1), (3, .int v4_3)]) C dX12_choices_18 rfl (by decide) rfl ?_
        refine s_iinc (lv0 := [(2, .int z32290), (0, .int a0), (1, .int a1)]) (m := 1) C dX12_choices_19 3 rfl (by decide) rfl (by decide) (by omega) (fun z32292 h32293 => ?_)
        have h32293 : z32292.toInt = v4_3.toInt + 1 := h32293
        refine g_goto C 4 dX12_choices_22 (by decide) ?_
        refine g_lv (lv' := [(0, .int a0), (1, .int a1), (2, .int z32290), (3, .int z32292)]) [2, 3, 1, 0] rfl ?_
        exact ih4 z32290 z32292 (by omega) (by omega)
  refine g_iconst (v := 1) C dX12_choices_0 (by decide) ?_
  refine g_istore_n (lv' := [(2, .int 1), (0, .int a0), (1, .int a1)]) C dX12_choices_1 rfl (by decide) rfl ?_
  refine g_iconst (v := 0) C dX12_choices_2 (by decide) ?_
  refine g_istore_n (lv' := [(3, .int 0), (2, .int 1), (0, .int a0), (1, .int a1)]) C dX12_choices_3 rfl (by decide) rfl ?_
  refine g_lv (lv' := [(0, .int a0), (1, .int a1), (2, .int 1), (3, .int 0)]) [2, 3, 1, 0] rfl ?_
  exact J4 _ 1 0 (Nat.lt_succ_self _) (by decide)
theorem dX12_comes_0 : decode cX12_comes 0 = .ok (.aload_n 0, 1) := by decide +kernel
theorem dX12_comes_1 : decode cX12_comes 1 = .ok (.iconst 0, 1) := by decide +kernel
theorem dX12_comes_2 : decode cX12_comes 2 = .ok (.putfield 1, 3) := by decide +kernel
theorem dX12_comes_5 : decode cX12_comes 5 = .ok (.iload_n 1, 1) := by decide +kernel
theorem dX12_comes_6 : decode cX12_comes 6 = .ok (.invokestatic 278, 3) := by decide +kernel
theorem dX12_comes_9 : decode cX12_comes 9 = .ok (.ifCond .eq 39, 3) := by decide +kernel
theorem dX12_comes_12 : decode cX12_comes 12 = .ok (.aload_n 0, 1) := by decide +kernel
theorem dX12_comes_13 : decode cX12_comes 13 = .ok (.iload_n 2, 1) := by decide +kernel
theorem dX12_comes_14 : decode cX12_comes 14 = .ok (.invokevirtual 192, 3) := by decide +kernel
theorem dX12_comes_17 : decode cX12_comes 17 = .ok (.ifCond .eq 31, 3) := by decide +kernel
theorem dX12_comes_20 : decode cX12_comes 20 = .ok (.iload_n 3, 1) := by decide +kernel
theorem dX12_comes_21 : decode cX12_comes 21 = .ok (.invokestatic 258, 3) := by decide +kernel
theorem dX12_isNumber_0 : decode cX12_isNumber 0 = .ok (.iload_n 0, 1) := by decide +kernel
theorem dX12_isNumber_1 : decode cX12_isNumber 1 = .ok (.iconst 0, 1) := by decide +kernel
theorem dX12_isNumber_2 : decode cX12_isNumber 2 = .ok (.sipush 9999, 3) := by decide +kernel
theorem dX12_isNumber_5 : decode cX12_isNumber 5 = .ok (.invokestatic 178, 3) := by decide +kernel
theorem dX12_isNumber_8 : decode cX12_isNumber 8 = .ok (.ireturn, 1) := by decide +kernel
set_option maxHeartbeats 4000000 in
set_option maxRecDepth 100000 in
theorem s_X12_isNumber {P : PP} {a0 : Int32} (I : IV P) : CtrI yX12_isNumber cX12_isNumber 1 (some Jvm.ClassFile.FieldType.boolean) ({ frames := 2, cells := 0, slots := 0, locals := 128 } : Room) 0 0 P [.int a0] (fun r P2 => P = P2 ∧ (0 ≤ r.toInt ∧ r.toInt ≤ 1) ∧ (r.toInt = 0 ∨ (((0 : Int) ≤ a0.toInt ∧ a0.toInt ≤ (9999 : Int))))) := by
  refine enI (lv := [(0, .int a0)]) (by decide) (Nat.le_of_ble_eq_true rfl) rfl (fun E D cy C Ci0 ret => ?_)
  refine g_iload_n C dX12_isNumber_0 rfl 0 rfl ?_
  refine g_iconst (v := 0) C dX12_isNumber_1 (by decide) ?_
  refine g_sipush (v := 9999) C dX12_isNumber_2 (by decide) ?_
  refine g_callSI (b := 0) (ci := 0) (rest := []) C ms_X12_178 [.int a0, .int 0, .int 9999] (s_X12_within I) rfl rfl (by decide) (Nat.le_of_ble_eq_true rfl) (by decide) dX12_isNumber_5 (fun r32320 Y32321 h32322 => ?_)
  obtain ⟨rfl, h32322⟩ := h32322
  obtain ⟨h32322, hi32323⟩ := h32322
  have hi32323 : r32320.toInt = 0 ∨ (0 ≤ a0.toInt ∧ a0.toInt ≤ 9999) := hi32323
  have h32322 : 0 ≤ r32320.toInt ∧ r32320.toInt ≤ 1 := h32322
  exact ret _ _ _ _ _ _ dX12_isNumber_8 (nar_b (b01 (by omega))) (by decide) (by decide) ⟨rfl, (by omega), hi32323.imp id (fun h9 => by omega)⟩
theorem dX12_comes_24 : decode cX12_comes 24 = .ok (.ifCond .eq 24, 3) := by decide +kernel
theorem dX12_comes_27 : decode cX12_comes 27 = .ok (.iload 4, 2) := by decide +kernel
theorem dX12_comes_29 : decode cX12_comes 29 = .ok (.iconst 1, 1) := by decide +kernel
theorem dX12_comes_30 : decode cX12_comes 30 = .ok (.iconst 3, 1) := by decide +kernel
theorem dX12_comes_31 : decode cX12_comes 31 = .ok (.invokestatic 178, 3) := by decide +kernel
theorem dX12_comes_34 : decode cX12_comes 34 = .ok (.ifCond .eq 14, 3) := by decide +kernel
theorem dX12_comes_37 : decode cX12_comes 37 = .ok (.aload_n 0, 1) := by decide +kernel
theorem dX12_comes_38 : decode cX12_comes 38 = .ok (.getfield 69, 3) := by decide +kernel
theorem dX12_comes_41 : decode cX12_comes 41 = .ok (.iload_n 1, 1) := by decide +kernel
theorem dX12_comes_42 : decode cX12_comes 42 = .ok (.iaload, 1) := by decide +kernel
theorem dX12_comes_43 : decode cX12_comes 43 = .ok (.bipush 40, 2) := by decide +kernel
theorem dX12_comes_45 : decode cX12_comes 45 = .ok (.if_icmp .ne 5, 3) := by decide +kernel
theorem dX12_comes_50 : decode cX12_comes 50 = .ok (.aload_n 0, 1) := by decide +kernel
theorem dX12_comes_51 : decode cX12_comes 51 = .ok (.iload_n 2, 1) := by decide +kernel
theorem dX12_comes_52 : decode cX12_comes 52 = .ok (.aload_n 0, 1) := by decide +kernel
theorem dX12_comes_53 : decode cX12_comes 53 = .ok (.iload_n 2, 1) := by decide +kernel
theorem dX12_comes_54 : decode cX12_comes 54 = .ok (.iload_n 3, 1) := by decide +kernel
theorem dX12_comes_55 : decode cX12_comes 55 = .ok (.invokevirtual 261, 3) := by decide +kernel
theorem dX12_comes_58 : decode cX12_comes 58 = .ok (.invokevirtual 223, 3) := by decide +kernel
theorem dX12_sumOf_0 : decode cX12_sumOf 0 = .ok (.iconst 0, 1) := by decide +kernel
theorem dX12_sumOf_1 : decode cX12_sumOf 1 = .ok (.istore_n 3, 1) := by decide +kernel
theorem dX12_sumOf_2 : decode cX12_sumOf 2 = .ok (.iconst 0, 1) := by decide +kernel
theorem dX12_sumOf_3 : decode cX12_sumOf 3 = .ok (.istore 4, 2) := by decide +kernel
theorem dX12_sumOf_5 : decode cX12_sumOf 5 = .ok (.iload 4, 2) := by decide +kernel
theorem dX12_sumOf_7 : decode cX12_sumOf 7 = .ok (.aload_n 0, 1) := by decide +kernel
theorem dX12_sumOf_8 : decode cX12_sumOf 8 = .ok (.getfield 45, 3) := by decide +kernel
theorem dX12_sumOf_11 : decode cX12_sumOf 11 = .ok (.iload_n 1, 1) := by decide +kernel
theorem dX12_sumOf_12 : decode cX12_sumOf 12 = .ok (.iaload, 1) := by decide +kernel
theorem dX12_sumOf_13 : decode cX12_sumOf 13 = .ok (.if_icmp .ge 38, 3) := by decide +kernel
theorem dX12_sumOf_16 : decode cX12_sumOf 16 = .ok (.iload_n 3, 1) := by decide +kernel
theorem dX12_sumOf_17 : decode cX12_sumOf 17 = .ok (.iload_n 2, 1) := by decide +kernel
theorem dX12_sumOf_18 : decode cX12_sumOf 18 = .ok (.iload 4, 2) := by decide +kernel
theorem dX12_sumOf_20 : decode cX12_sumOf 20 = .ok (.ishr, 1) := by decide +kernel
theorem dX12_sumOf_21 : decode cX12_sumOf 21 = .ok (.iconst 1, 1) := by decide +kernel
theorem dX12_sumOf_22 : decode cX12_sumOf 22 = .ok (.iand, 1) := by decide +kernel
theorem dX12_sumOf_23 : decode cX12_sumOf 23 = .ok (.iconst 1, 1) := by decide +kernel
theorem dX12_sumOf_24 : decode cX12_sumOf 24 = .ok (.if_icmp .ne 18, 3) := by decide +kernel
theorem dX12_sumOf_27 : decode cX12_sumOf 27 = .ok (.aload_n 0, 1) := by decide +kernel
theorem dX12_sumOf_28 : decode cX12_sumOf 28 = .ok (.getfield 48, 3) := by decide +kernel
theorem dX12_sumOf_31 : decode cX12_sumOf 31 = .ok (.bipush 16, 2) := by decide +kernel
theorem dX12_sumOf_33 : decode cX12_sumOf 33 = .ok (.iload_n 1, 1) := by decide +kernel
theorem dX12_sumOf_34 : decode cX12_sumOf 34 = .ok (.imul, 1) := by decide +kernel
theorem dX12_sumOf_35 : decode cX12_sumOf 35 = .ok (.iload 4, 2) := by decide +kernel
theorem dX12_sumOf_37 : decode cX12_sumOf 37 = .ok (.iadd, 1) := by decide +kernel
theorem dX12_sumOf_38 : decode cX12_sumOf 38 = .ok (.iaload, 1) := by decide +kernel
theorem dX12_sumOf_39 : decode cX12_sumOf 39 = .ok (.goto 4, 3) := by decide +kernel
theorem dX12_sumOf_42 : decode cX12_sumOf 42 = .ok (.iconst 0, 1) := by decide +kernel
theorem dX12_sumOf_43 : decode cX12_sumOf 43 = .ok (.ixor, 1) := by decide +kernel
theorem dX12_sumOf_44 : decode cX12_sumOf 44 = .ok (.istore_n 3, 1) := by decide +kernel
theorem dX12_sumOf_45 : decode cX12_sumOf 45 = .ok (.iinc 4 1, 3) := by decide +kernel
theorem dX12_sumOf_48 : decode cX12_sumOf 48 = .ok (.goto (-43), 3) := by decide +kernel
theorem dX12_sumOf_51 : decode cX12_sumOf 51 = .ok (.iconst 0, 1) := by decide +kernel
theorem dX12_sumOf_52 : decode cX12_sumOf 52 = .ok (.istore 4, 2) := by decide +kernel
theorem dX12_sumOf_54 : decode cX12_sumOf 54 = .ok (.iload 4, 2) := by decide +kernel
theorem dX12_sumOf_56 : decode cX12_sumOf 56 = .ok (.aload_n 0, 1) := by decide +kernel
theorem dX12_sumOf_57 : decode cX12_sumOf 57 = .ok (.getfield 60, 3) := by decide +kernel
theorem dX12_sumOf_60 : decode cX12_sumOf 60 = .ok (.iload_n 1, 1) := by decide +kernel
theorem dX12_sumOf_61 : decode cX12_sumOf 61 = .ok (.iaload, 1) := by decide +kernel
theorem dX12_sumOf_62 : decode cX12_sumOf 62 = .ok (.if_icmp .ge 85, 3) := by decide +kernel
theorem dX12_sumOf_65 : decode cX12_sumOf 65 = .ok (.iconst 0, 1) := by decide +kernel
theorem dX12_sumOf_66 : decode cX12_sumOf 66 = .ok (.istore 5, 2) := by decide +kernel
theorem dX12_sumOf_68 : decode cX12_sumOf 68 = .ok (.iload 5, 2) := by decide +kernel
theorem dX12_sumOf_70 : decode cX12_sumOf 70 = .ok (.aload_n 0, 1) := by decide +kernel
theorem dX12_sumOf_71 : decode cX12_sumOf 71 = .ok (.getfield 45, 3) := by decide +kernel
theorem dX12_sumOf_74 : decode cX12_sumOf 74 = .ok (.iload_n 1, 1) := by decide +kernel
theorem dX12_sumOf_75 : decode cX12_sumOf 75 = .ok (.iaload, 1) := by decide +kernel
theorem dX12_sumOf_76 : decode cX12_sumOf 76 = .ok (.if_icmp .ge 65, 3) := by decide +kernel
theorem dX12_sumOf_79 : decode cX12_sumOf 79 = .ok (.iload_n 2, 1) := by decide +kernel
theorem dX12_sumOf_80 : decode cX12_sumOf 80 = .ok (.aload_n 0, 1) := by decide +kernel
theorem dX12_sumOf_81 : decode cX12_sumOf 81 = .ok (.getfield 45, 3) := by decide +kernel
theorem dX12_sumOf_84 : decode cX12_sumOf 84 = .ok (.iload_n 1, 1) := by decide +kernel
theorem dX12_sumOf_85 : decode cX12_sumOf 85 = .ok (.iaload, 1) := by decide +kernel
theorem dX12_sumOf_86 : decode cX12_sumOf 86 = .ok (.iload 4, 2) := by decide +kernel
theorem dX12_sumOf_88 : decode cX12_sumOf 88 = .ok (.iadd, 1) := by decide +kernel
theorem dX12_sumOf_89 : decode cX12_sumOf 89 = .ok (.ishr, 1) := by decide +kernel
theorem dX12_sumOf_90 : decode cX12_sumOf 90 = .ok (.iconst 1, 1) := by decide +kernel
theorem dX12_sumOf_91 : decode cX12_sumOf 91 = .ok (.iand, 1) := by decide +kernel
theorem dX12_sumOf_92 : decode cX12_sumOf 92 = .ok (.iconst 1, 1) := by decide +kernel
theorem dX12_sumOf_93 : decode cX12_sumOf 93 = .ok (.if_icmp .ne 48, 3) := by decide +kernel
theorem dX12_sumOf_96 : decode cX12_sumOf 96 = .ok (.iload_n 3, 1) := by decide +kernel
theorem dX12_sumOf_97 : decode cX12_sumOf 97 = .ok (.aload_n 0, 1) := by decide +kernel
theorem dX12_sumOf_98 : decode cX12_sumOf 98 = .ok (.getfield 63, 3) := by decide +kernel
theorem dX12_sumOf_101 : decode cX12_sumOf 101 = .ok (.iconst 4, 1) := by decide +kernel
theorem dX12_sumOf_102 : decode cX12_sumOf 102 = .ok (.iload_n 1, 1) := by decide +kernel
theorem dX12_sumOf_103 : decode cX12_sumOf 103 = .ok (.imul, 1) := by decide +kernel
theorem dX12_sumOf_104 : decode cX12_sumOf 104 = .ok (.iload 4, 2) := by decide +kernel
theorem dX12_sumOf_106 : decode cX12_sumOf 106 = .ok (.iadd, 1) := by decide +kernel
theorem dX12_sumOf_107 : decode cX12_sumOf 107 = .ok (.iaload, 1) := by decide +kernel
theorem dX12_sumOf_108 : decode cX12_sumOf 108 = .ok (.iload 5, 2) := by decide +kernel
theorem dX12_sumOf_110 : decode cX12_sumOf 110 = .ok (.ishr, 1) := by decide +kernel
theorem dX12_sumOf_111 : decode cX12_sumOf 111 = .ok (.iconst 1, 1) := by decide +kernel
theorem dX12_sumOf_112 : decode cX12_sumOf 112 = .ok (.iand, 1) := by decide +kernel
theorem dX12_sumOf_113 : decode cX12_sumOf 113 = .ok (.iconst 1, 1) := by decide +kernel
theorem dX12_sumOf_114 : decode cX12_sumOf 114 = .ok (.if_icmp .ne 18, 3) := by decide +kernel
theorem dX12_sumOf_117 : decode cX12_sumOf 117 = .ok (.aload_n 0, 1) := by decide +kernel
theorem dX12_sumOf_118 : decode cX12_sumOf 118 = .ok (.getfield 48, 3) := by decide +kernel
theorem dX12_sumOf_121 : decode cX12_sumOf 121 = .ok (.bipush 16, 2) := by decide +kernel
theorem dX12_sumOf_123 : decode cX12_sumOf 123 = .ok (.iload_n 1, 1) := by decide +kernel
theorem dX12_sumOf_124 : decode cX12_sumOf 124 = .ok (.imul, 1) := by decide +kernel
theorem dX12_sumOf_125 : decode cX12_sumOf 125 = .ok (.iload 5, 2) := by decide +kernel
theorem dX12_sumOf_127 : decode cX12_sumOf 127 = .ok (.iadd, 1) := by decide +kernel
theorem dX12_sumOf_128 : decode cX12_sumOf 128 = .ok (.iaload, 1) := by decide +kernel
theorem dX12_sumOf_129 : decode cX12_sumOf 129 = .ok (.goto 4, 3) := by decide +kernel
theorem dX12_sumOf_132 : decode cX12_sumOf 132 = .ok (.iconst 0, 1) := by decide +kernel
theorem dX12_sumOf_133 : decode cX12_sumOf 133 = .ok (.ixor, 1) := by decide +kernel
theorem dX12_sumOf_134 : decode cX12_sumOf 134 = .ok (.istore_n 3, 1) := by decide +kernel
theorem dX12_sumOf_135 : decode cX12_sumOf 135 = .ok (.iinc 5 1, 3) := by decide +kernel
theorem dX12_sumOf_138 : decode cX12_sumOf 138 = .ok (.goto (-70), 3) := by decide +kernel
theorem dX12_sumOf_141 : decode cX12_sumOf 141 = .ok (.iinc 4 1, 3) := by decide +kernel
theorem dX12_sumOf_144 : decode cX12_sumOf 144 = .ok (.goto (-90), 3) := by decide +kernel
theorem dX12_sumOf_147 : decode cX12_sumOf 147 = .ok (.iload_n 3, 1) := by decide +kernel
theorem dX12_sumOf_148 : decode cX12_sumOf 148 = .ok (.ireturn, 1) := by decide +kernel
set_option maxHeartbeats 4000000 in
set_option maxRecDepth 100000 in
theorem s_X12_sumOf {P : PP} {a0 : Nat} {a1 : Int32} {a2 : Int32} (I : IM P a0) (ha1 : 0 ≤ a1.toInt ∧ a1.toInt ≤ 1) (hW : MW P a0) : CtrI yX12_sumOf cX12_sumOf 6 (some Jvm.ClassFile.FieldType.int) ({ frames := 1, cells := 0, slots := 0, locals := 64 } : Room) 0 0 P [.ref a0, .int a1, .int a2] (fun r P2 => P = P2 ∧ (True)) := by
  refine enI (lv := [(0, .ref a0), (1, .int a1), (2, .int a2)]) (by decide) (Nat.le_of_ble_eq_true rfl) rfl (fun E D cy C Ci0 ret => ?_)
  have ha0 := I.2.1
  have J54 : ∀ (n54 : Nat) (v54_3 : Int32) (v54_4 : Int32), (4 - v54_4.toInt).toNat < n54 → (0 ≤ v54_4.toInt ∧ v54_4.toInt ≤ 4) → G E ({ frames := 1, cells := 0, slots := 0, locals := 64 } : Room) D cy 6 P 0 0 54 [(0, .ref a0), (1, .int a1), (2, .int a2), (3, .int v54_3), (4, .int v54_4)] [] := by
    intro n54
    induction n54 with
    | zero => intro v54_3 v54_4 hm54 hv54_4; omega
    | succ n54 ih54 =>
      intro v54_3 v54_4 hm54 hv54_4
      have J141 : ∀ (v141_3 : Int32), (0 ≤ v54_4.toInt ∧ v54_4.toInt ≤ 3) → (∀ b, pR P a0 15 = some b → 1 ≤ (pI P b (a1.toInt.toNat)).toInt ∧ (pI P b (a1.toInt.toNat)).toInt ≤ 4) → G E ({ frames := 1, cells := 0, slots := 0, locals := 64 } : Room) D cy 6 P 0 0 141 [(0, .ref a0), (1, .int a1), (2, .int a2), (3, .int v141_3), (4, .int v54_4)] [] := by
        intro v141_3 hv141_4 hq141_0
        obtain ⟨b33300, e33301, h33302⟩ := I.fld (ha0) 15 13 3 rfl
        have hq141_0 := hq141_0 b33300 e33301
        refine s_iinc (lv0 := [(0, .ref a0), (1, .int a1), (2, .int a2), (3, .int v141_3)]) (m := 1) C dX12_sumOf_141 4 rfl (by decide) rfl (by decide) (by omega) (fun z33303 h33304 => ?_)
        have h33304 : z33303.toInt = v54_4.toInt + 1 := h33304
        refine g_goto C 54 dX12_sumOf_144 (by decide) ?_
        refine g_lv (lv' := [(0, .ref a0), (1, .int a1), (2, .int a2), (3, .int v141_3), (4, .int z33303)]) [1, 2, 3, 4, 0] rfl ?_
        exact ih54 v141_3 z33303 (by omega) (by omega)
      have J68 : ∀ (n68 : Nat) (v68_3 : Int32) (v68_5 : Int32), (16 - v68_5.toInt).toNat < n68 → (0 ≤ v54_4.toInt ∧ v54_4.toInt ≤ 3) → (0 ≤ v68_5.toInt ∧ v68_5.toInt ≤ 16) → (∀ b, pR P a0 15 = some b → 1 ≤ (pI P b (a1.toInt.toNat)).toInt ∧ (pI P b (a1.toInt.toNat)).toInt ≤ 4) → G E ({ frames := 1, cells := 0, slots := 0, locals := 64 } : Room) D cy 6 P 0 0 68 [(0, .ref a0), (1, .int a1), (2, .int a2), (3, .int v68_3), (4, .int v54_4), (5, .int v68_5)] [] := by
        intro n68
        induction n68 with
        | zero => intro v68_3 v68_5 hm68 hv68_4 hv68_5 hq68_0; omega
        | succ n68 ih68 =>
          intro v68_3 v68_5 hm68 hv68_4 hv68_5 hq68_0
          obtain ⟨b33305, e33306, h33307⟩ := I.fld (ha0) 15 13 3 rfl
          have hq68_0 := hq68_0 b33305 e33306
          have J133 : ∀ (v133_s0 : Int32), (0 ≤ v54_4.toInt ∧ v54_4.toInt ≤ 3) → (0 ≤ v68_5.toInt ∧ v68_5.toInt ≤ 15) → (∀ b, pR P a0 10 = some b → 1 ≤ (pI P b (a1.toInt.toNat)).toInt ∧ (pI P b (a1.toInt.toNat)).toInt ≤ 16) → (∀ b, pR P a0 15 = some b → 1 ≤ (pI P b (a1.toInt.toNat)).toInt ∧ (pI P b (a1.toInt.toNat)).toInt ≤ 4) → G E ({ frames := 1, cells := 0, slots := 0, locals := 64 } : Room) D cy 6 P 0 0 133 [(0, .ref a0), (1, .int a1), (2, .int a2), (4, .int v54_4), (5, .int v68_5)] [.int v133_s0, .int v68_3] := by
            intro v133_s0 hv133_4 hv133_5 hq133_0 hq133_1
            obtain ⟨b33308, e33309, h33310⟩ := I.fld (ha0) 10 13 2 rfl
            have hq133_0 := hq133_0 b33308 e33309
            obtain ⟨b33311, e33312, h33313⟩ := I.fld (ha0) 15 13 3 rfl
            have hq133_1 := hq133_1 b33311 e33312
            refine a_ixor C dX12_sumOf_133 (fun z33314 => ?_)
            refine g_istore_n (lv' := [(3, .int z33314), (0, .ref a0), (1, .int a1), (2, .int a2), (4, .int v54_4), (5, .int v68_5)]) C dX12_sumOf_134 rfl (by decide) rfl ?_
            refine s_iinc (lv0 := [(3, .int z33314), (0, .ref a0), (1, .int a1), (2, .int a2), (4, .int v54_4)]) (m := 1) C dX12_sumOf_135 5 rfl (by decide) rfl (by decide) (by omega) (fun z33316 h33317 => ?_)
            have h33317 : z33316.toInt = v68_5.toInt + 1 := h33317
            refine g_goto C 68 dX12_sumOf_138 (by decide) ?_
            refine g_lv (lv' := [(0, .ref a0), (1, .int a1), (2, .int a2), (3, .int z33314), (4, .int v54_4), (5, .int z33316)]) [2, 3, 4, 1, 5, 0] rfl ?_
            exact ih68 z33314 z33316 (by omega) (by omega) (by omega) (fun b9 e9 => by rw [e33312] at e9; cases e9; omega)
          refine g_iload C dX12_sumOf_68 5 rfl ?_
          refine g_aload_n C dX12_sumOf_70 rfl 0 rfl ?_
          obtain ⟨b33318, e33319, h33320⟩ := I.fld (ha0) 10 13 2 rfl
          refine g_getR C fi_X12_45 rfl e33319 (ha0).1 (ha0).2 dX12_sumOf_71 ?_
          refine g_iload_n C dX12_sumOf_74 rfl 1 rfl ?_
          refine g_iald (j := (a1.toInt.toNat)) C h33320.1 h33320.2.1 (ix_in h33320.2.2 (by omega)) dX12_sumOf_75 ?_
          have h33321 := I.arr e33319 rfl (a1.toInt.toNat)
          refine b_icmp_ge C 141 dX12_sumOf_76 (by decide) (fun h33322 => ?_) (fun h33322 => ?_)
          · have h33322 : (pI P b33318 (a1.toInt.toNat)).toInt ≤ v68_5.toInt := h33322
            refine g_lv (lv' := [(0, .ref a0), (1, .int a1), (2, .int a2), (3, .int v68_3), (4, .int v54_4)]) [0, 1, 2, 3, 4] rfl ?_
            exact J141 v68_3 (by omega) (fun b9 e9 => by rw [e33306] at e9; cases e9; omega)
          · have h33322 : v68_5.toInt < (pI P b33318 (a1.toInt.toNat)).toInt := h33322
            refine g_iload_n C dX12_sumOf_79 rfl 2 rfl ?_
            refine g_aload_n C dX12_sumOf_80 rfl 0 rfl ?_
            refine g_getR C fi_X12_45 rfl e33319 (ha0).1 (ha0).2 dX12_sumOf_81 ?_
            refine g_iload_n C dX12_sumOf_84 rfl 1 rfl ?_
            refine g_iald (j := (a1.toInt.toNat)) C h33320.1 h33320.2.1 (ix_in h33320.2.2 (by omega)) dX12_sumOf_85 ?_
            refine g_iload C dX12_sumOf_86 4 rfl ?_
            refine s_iadd C dX12_sumOf_88 (by show -2147483648 ≤ (pI P b33318 (a1.toInt.toNat)).toInt + v54_4.toInt ∧ (pI P b33318 (a1.toInt.toNat)).toInt + v54_4.toInt ≤ 2147483647; omega) (fun z33323 h33324 => ?_)
            have h33324 : z33323.toInt = (pI P b33318 (a1.toInt.toNat)).toInt + v54_4.toInt := h33324
            refine a_ishr C dX12_sumOf_89 (fun z33325 => ?_)
            refine g_iconst (v := 1) C dX12_sumOf_90 (by decide) ?_
            refine s_iand C dX12_sumOf_91 (by show 0 ≤ 1; omega) (fun z33327 h33328 => ?_)
            have h33328 : 0 ≤ z33327.toInt ∧ z33327.toInt ≤ 1 := h33328
            refine g_iconst (v := 1) C dX12_sumOf_92 (by decide) ?_
            refine b_icmp_ne C 141 dX12_sumOf_93 (by decide) (fun h33329 => ?_) (fun h33329 => ?_)
            · have h33329 : z33327.toInt ≠ 1 := ti_ne h33329
              refine g_lv (lv' := [(0, .ref a0), (1, .int a1), (2, .int a2), (3, .int v68_3), (4, .int v54_4)]) [0, 1, 2, 3, 4] rfl ?_
              exact J141 v68_3 (by omega) (fun b9 e9 => by rw [e33306] at e9; cases e9; omega)
            · have h33329 : z33327.toInt = 1 := congrArg Int32.toInt h33329
              refine g_iload_n C dX12_sumOf_96 rfl 3 rfl ?_
              refine g_aload_n C dX12_sumOf_97 rfl 0 rfl ?_
              obtain ⟨b33330, e33331, h33332⟩ := I.fld (ha0) 16 13 12 rfl
              refine g_getR C fi_X12_63 rfl e33331 (ha0).1 (ha0).2 dX12_sumOf_98 ?_
              refine g_iconst (v := 4) C dX12_sumOf_101 (by decide) ?_
              refine g_iload_n C dX12_sumOf_102 rfl 1 rfl ?_
              refine s_imul C dX12_sumOf_103 (by show -2147483648 ≤ 4 * a1.toInt ∧ 4 * a1.toInt ≤ 2147483647; omega) (fun z33333 h33334 => ?_)
              have h33334 : z33333.toInt = 4 * a1.toInt := h33334
              refine g_iload C dX12_sumOf_104 4 rfl ?_
              refine s_iadd C dX12_sumOf_106 (by show -2147483648 ≤ z33333.toInt + v54_4.toInt ∧ z33333.toInt + v54_4.toInt ≤ 2147483647; omega) (fun z33335 h33336 => ?_)
              have h33336 : z33335.toInt = z33333.toInt + v54_4.toInt := h33336
              refine g_iald (j := (z33335.toInt.toNat)) C h33332.1 h33332.2.1 (ix_in h33332.2.2 (by omega)) dX12_sumOf_107 ?_
              refine g_iload C dX12_sumOf_108 5 rfl ?_
              refine a_ishr C dX12_sumOf_110 (fun z33337 => ?_)
              refine g_iconst (v := 1) C dX12_sumOf_111 (by decide) ?_
              refine s_iand C dX12_sumOf_112 (by show 0 ≤ 1; omega) (fun z33339 h33340 => ?_)
              have h33340 : 0 ≤ z33339.toInt ∧ z33339.toInt ≤ 1 := h33340
              refine g_iconst (v := 1) C dX12_sumOf_113 (by decide) ?_
              refine b_icmp_ne C 132 dX12_sumOf_114 (by decide) (fun h33341 => ?_) (fun h33341 => ?_)
              · have h33341 : z33339.toInt ≠ 1 := ti_ne h33341
                refine g_iconst (v := 0) C dX12_sumOf_132 (by decide) ?_
                refine g_lv (lv' := [(0, .ref a0), (1, .int a1), (2, .int a2), (4, .int v54_4), (5, .int v68_5)]) [0, 1, 2, 4, 5] rfl ?_
                exact J133 0 (by omega) (by omega) (fun b9 e9 => by rw [e33319] at e9; cases e9; omega) (fun b9 e9 => by rw [e33306] at e9; cases e9; omega)
              · have h33341 : z33339.toInt = 1 := congrArg Int32.toInt h33341
                refine g_aload_n C dX12_sumOf_117 rfl 0 rfl ?_
                obtain ⟨b33342, e33343, h33344⟩ := I.fld (ha0) 11 13 32 rfl
                refine g_getR C fi_X12_48 rfl e33343 (ha0).1 (ha0).2 dX12_sumOf_118 ?_
                refine g_bipush (v := 16) C dX12_sumOf_121 (by decide) ?_
                refine g_iload_n C dX12_sumOf_123 rfl 1 rfl ?_
                refine s_imul C dX12_sumOf_124 (by show -2147483648 ≤ 16 * a1.toInt ∧ 16 * a1.toInt ≤ 2147483647; omega) (fun z33345 h33346 => ?_)
                have h33346 : z33345.toInt = 16 * a1.toInt := h33346
                refine g_iload C dX12_sumOf_125 5 rfl ?_
                refine s_iadd C dX12_sumOf_127 (by show -2147483648 ≤ z33345.toInt + v68_5.toInt ∧ z33345.toInt + v68_5.toInt ≤ 2147483647; omega) (fun z33347 h33348 => ?_)
                have h33348 : z33347.toInt = z33345.toInt + v68_5.toInt := h33348
                refine g_iald (j := (z33347.toInt.toNat)) C h33344.1 h33344.2.1 (ix_in h33344.2.2 (by omega)) dX12_sumOf_128 ?_
                refine g_goto C 133 dX12_sumOf_129 (by decide) ?_
                refine g_lv (lv' := [(0, .ref a0), (1, .int a1), (2, .int a2), (4, .int v54_4), (5, .int v68_5)]) [0, 1, 2, 4, 5] rfl ?_
                exact J133 (pI P b33342 (z33347.toInt.toNat)) (by omega) (by omega) (fun b9 e9 => by rw [e33319] at e9; cases e9; omega) (fun b9 e9 => by rw [e33306] at e9; cases e9; omega)
      refine g_iload C dX12_sumOf_54 4 rfl ?_
      refine g_aload_n C dX12_sumOf_56 rfl 0 rfl ?_
      obtain ⟨b33349, e33350, h33351⟩ := I.fld (ha0) 15 13 3 rfl
      refine g_getR C fi_X12_60 rfl e33350 (ha0).1 (ha0).2 dX12_sumOf_57 ?_
      refine g_iload_n C dX12_sumOf_60 rfl 1 rfl ?_
      refine g_iald (j := (a1.toInt.toNat)) C h33351.1 h33351.2.1 (ix_in h33351.2.2 (by omega)) dX12_sumOf_61 ?_
      have h33352 := I.arr e33350 rfl (a1.toInt.toNat)
      refine b_icmp_ge C 147 dX12_sumOf_62 (by decide) (fun h33353 => ?_) (fun h33353 => ?_)
      · have h33353 : (pI P b33349 (a1.toInt.toNat)).toInt ≤ v54_4.toInt := h33353
        refine g_iload_n C dX12_sumOf_147 rfl 3 rfl ?_
        exact ret _ _ _ _ _ _ dX12_sumOf_148 rfl (by decide) (by decide) ⟨rfl, trivial⟩
      · have h33353 : v54_4.toInt < (pI P b33349 (a1.toInt.toNat)).toInt := h33353
        refine g_iconst (v := 0) C dX12_sumOf_65 (by decide) ?_
        refine g_istore (lv' := [(5, .int 0), (0, .ref a0), (1, .int a1), (2, .int a2), (3, .int v54_3), (4, .int v54_4)]) C dX12_sumOf_66 (by decide) rfl ?_
        refine g_lv (lv' := [(0, .ref a0), (1, .int a1), (2, .int a2), (3, .int v54_3), (4, .int v54_4), (5, .int 0)]) [1, 2, 3, 4, 5, 0] rfl ?_
        exact J68 _ v54_3 0 (Nat.lt_succ_self _) (by omega) (by decide) (fun b9 e9 => by rw [e33350] at e9; cases e9; omega)
  have J5 : ∀ (n5 : Nat) (v5_3 : Int32) (v5_4 : Int32), (16 - v5_4.toInt).toNat < n5 → (0 ≤ v5_4.toInt ∧ v5_4.toInt ≤ 16) → G E ({ frames := 1, cells := 0, slots := 0, locals := 64 } : Room) D cy 6 P 0 0 5 [(0, .ref a0), (1, .int a1), (2, .int a2), (3, .int v5_3), (4, .int v5_4)] [] := by
    intro n5
    induction n5 with
    | zero => intro v5_3 v5_4 hm5 hv5_4; omega
    | succ n5 ih5 =>
      intro v5_3 v5_4 hm5 hv5_4
      have J43 : ∀ (v43_s0 : Int32), (0 ≤ v5_4.toInt ∧ v5_4.toInt ≤ 15) → (∀ b, pR P a0 10 = some b → 1 ≤ (pI P b (a1.toInt.toNat)).toInt ∧ (pI P b (a1.toInt.toNat)).toInt ≤ 16) → G E ({ frames := 1, cells := 0, slots := 0, locals := 64 } : Room) D cy 6 P 0 0 43 [(0, .ref a0), (1, .int a1), (2, .int a2), (4, .int v5_4)] [.int v43_s0, .int v5_3] := by
        intro v43_s0 hv43_4 hq43_0
        obtain ⟨b33354, e33355, h33356⟩ := I.fld (ha0) 10 13 2 rfl
        have hq43_0 := hq43_0 b33354 e33355
        refine a_ixor C dX12_sumOf_43 (fun z33357 => ?_)
        refine g_istore_n (lv' := [(3, .int z33357), (0, .ref a0), (1, .int a1), (2, .int a2), (4, .int v5_4)]) C dX12_sumOf_44 rfl (by decide) rfl ?_
        refine s_iinc (lv0 := [(3, .int z33357), (0, .ref a0), (1, .int a1), (2, .int a2)]) (m := 1) C dX12_sumOf_45 4 rfl (by decide) rfl (by decide) (by omega) (fun z33359 h33360 => ?_)
        have h33360 : z33359.toInt = v5_4.toInt + 1 := h33360
        refine g_goto C 5 dX12_sumOf_48 (by decide) ?_
        refine g_lv (lv' := [(0, .ref a0), (1, .int a1), (2, .int a2), (3, .int z33357), (4, .int z33359)]) [2, 3, 4, 1, 0] rfl ?_
        exact ih5 z33357 z33359 (by omega) (by omega)
      refine g_iload C dX12_sumOf_5 4 rfl ?_
      refine g_aload_n C dX12_sumOf_7 rfl 0 rfl ?_
      obtain ⟨b33361, e33362, h33363⟩ := I.fld (ha0) 10 13 2 rfl
      refine g_getR C fi_X12_45 rfl e33362 (ha0).1 (ha0).2 dX12_sumOf_8 ?_
      refine g_iload_n C dX12_sumOf_11 rfl 1 rfl ?_
      refine g_iald (j := (a1.toInt.toNat)) C h33363.1 h33363.2.1 (ix_in h33363.2.2 (by omega)) dX12_sumOf_12 ?_
      have h33364 := I.arr e33362 rfl (a1.toInt.toNat)
      refine b_icmp_ge C 51 dX12_sumOf_13 (by decide) (fun h33365 => ?_) (fun h33365 => ?_)
      · have h33365 : (pI P b33361 (a1.toInt.toNat)).toInt ≤ v5_4.toInt := h33365
        refine g_iconst (v := 0) C dX12_sumOf_51 (by decide) ?_
        refine g_istore (lv' := [(4, .int 0), (0, .ref a0), (1, .int a1), (2, .int a2), (3, .int v5_3)]) C dX12_sumOf_52 (by decide) rfl ?_
        refine g_lv (lv' := [(0, .ref a0), (1, .int a1), (2, .int a2), (3, .int v5_3), (4, .int 0)]) [1, 2, 3, 4, 0] rfl ?_
        exact J54 _ v5_3 0 (Nat.lt_succ_self _) (by decide)
      · have h33365 : v5_4.toInt < (pI P b33361 (a1.toInt.toNat)).toInt := h33365
        refine g_iload_n C dX12_sumOf_16 rfl 3 rfl ?_
        refine g_iload_n C dX12_sumOf_17 rfl 2 rfl ?_
        refine g_iload C dX12_sumOf_18 4 rfl ?_
        refine a_ishr C dX12_sumOf_20 (fun z33366 => ?_)
        refine g_iconst (v := 1) C dX12_sumOf_21 (by decide) ?_
        refine s_iand C dX12_sumOf_22 (by show 0 ≤ 1; omega) (fun z33368 h33369 => ?_)
        have h33369 : 0 ≤ z33368.toInt ∧ z33368.toInt ≤ 1 := h33369
        refine g_iconst (v := 1) C dX12_sumOf_23 (by decide) ?_
        refine b_icmp_ne C 42 dX12_sumOf_24 (by decide) (fun h33370 => ?_) (fun h33370 => ?_)
        · have h33370 : z33368.toInt ≠ 1 := ti_ne h33370
          refine g_iconst (v := 0) C dX12_sumOf_42 (by decide) ?_
          refine g_lv (lv' := [(0, .ref a0), (1, .int a1), (2, .int a2), (4, .int v5_4)]) [0, 1, 2, 4] rfl ?_
          exact J43 0 (by omega) (fun b9 e9 => by rw [e33362] at e9; cases e9; omega)
        · have h33370 : z33368.toInt = 1 := congrArg Int32.toInt h33370
          refine g_aload_n C dX12_sumOf_27 rfl 0 rfl ?_
          obtain ⟨b33371, e33372, h33373⟩ := I.fld (ha0) 11 13 32 rfl
          refine g_getR C fi_X12_48 rfl e33372 (ha0).1 (ha0).2 dX12_sumOf_28 ?_
          refine g_bipush (v := 16) C dX12_sumOf_31 (by decide) ?_
          refine g_iload_n C dX12_sumOf_33 rfl 1 rfl ?_
          refine s_imul C dX12_sumOf_34 (by show -2147483648 ≤ 16 * a1.toInt ∧ 16 * a1.toInt ≤ 2147483647; omega) (fun z33374 h33375 => ?_)
          have h33375 : z33374.toInt = 16 * a1.toInt := h33375
          refine g_iload C dX12_sumOf_35 4 rfl ?_
          refine s_iadd C dX12_sumOf_37 (by show -2147483648 ≤ z33374.toInt + v5_4.toInt ∧ z33374.toInt + v5_4.toInt ≤ 2147483647; omega) (fun z33376 h33377 => ?_)
          have h33377 : z33376.toInt = z33374.toInt + v5_4.toInt := h33377
          refine g_iald (j := (z33376.toInt.toNat)) C h33373.1 h33373.2.1 (ix_in h33373.2.2 (by omega)) dX12_sumOf_38 ?_
          refine g_goto C 43 dX12_sumOf_39 (by decide) ?_
          refine g_lv (lv' := [(0, .ref a0), (1, .int a1), (2, .int a2), (4, .int v5_4)]) [0, 1, 2, 4] rfl ?_
          exact J43 (pI P b33371 (z33376.toInt.toNat)) (by omega) (fun b9 e9 => by rw [e33362] at e9; cases e9; omega)
  refine g_iconst (v := 0) C dX12_sumOf_0 (by decide) ?_
  refine g_istore_n (lv' := [(3, .int 0), (0, .ref a0), (1, .int a1), (2, .int a2)]) C dX12_sumOf_1 rfl (by decide) rfl ?_
  refine g_iconst (v := 0) C dX12_sumOf_2 (by decide) ?_
  refine g_istore (lv' := [(4, .int 0), (3, .int 0), (0, .ref a0), (1, .int a1), (2, .int a2)]) C dX12_sumOf_3 (by decide) rfl ?_
  refine g_lv (lv' := [(0, .ref a0), (1, .int a1), (2, .int a2), (3, .int 0), (4, .int 0)]) [2, 3, 4, 1, 0] rfl ?_
  exact J5 _ 0 0 (Nat.lt_succ_self _) (by decide)
theorem dX12_comes_61 : decode cX12_comes 61 = .ok (.istore 5, 2) := by decide +kernel
theorem dX12_comes_63 : decode cX12_comes 63 = .ok (.aload_n 0, 1) := by decide +kernel
theorem dX12_comes_64 : decode cX12_comes 64 = .ok (.iload_n 1, 1) := by decide +kernel
theorem dX12_comes_65 : decode cX12_comes 65 = .ok (.iload_n 2, 1) := by decide +kernel
theorem dX12_comes_66 : decode cX12_comes 66 = .ok (.iload_n 3, 1) := by decide +kernel
theorem dX12_comes_67 : decode cX12_comes 67 = .ok (.iload 5, 2) := by decide +kernel
theorem dX12_comes_69 : decode cX12_comes 69 = .ok (.iload 4, 2) := by decide +kernel
theorem dX12_comes_71 : decode cX12_comes 71 = .ok (.invokestatic 281, 3) := by decide +kernel
theorem dX12_cutTo_0 : decode cX12_cutTo 0 = .ok (.iload_n 0, 1) := by decide +kernel
theorem dX12_cutTo_1 : decode cX12_cutTo 1 = .ok (.iload_n 1, 1) := by decide +kernel
theorem dX12_cutTo_2 : decode cX12_cutTo 2 = .ok (.iconst 1, 1) := by decide +kernel
theorem dX12_cutTo_3 : decode cX12_cutTo 3 = .ok (.iand, 1) := by decide +kernel
theorem dX12_cutTo_4 : decode cX12_cutTo 4 = .ok (.iconst 1, 1) := by decide +kernel
theorem dX12_cutTo_5 : decode cX12_cutTo 5 = .ok (.if_icmp .ne 9, 3) := by decide +kernel
theorem dX12_cutTo_8 : decode cX12_cutTo 8 = .ok (.sipush 255, 3) := by decide +kernel
theorem dX12_cutTo_11 : decode cX12_cutTo 11 = .ok (.goto 4, 3) := by decide +kernel
theorem dX12_cutTo_14 : decode cX12_cutTo 14 = .ok (.iconst 0, 1) := by decide +kernel
theorem dX12_cutTo_15 : decode cX12_cutTo 15 = .ok (.iload_n 1, 1) := by decide +kernel
theorem dX12_cutTo_16 : decode cX12_cutTo 16 = .ok (.iconst 2, 1) := by decide +kernel
theorem dX12_cutTo_17 : decode cX12_cutTo 17 = .ok (.iand, 1) := by decide +kernel
theorem dX12_cutTo_18 : decode cX12_cutTo 18 = .ok (.iconst 2, 1) := by decide +kernel
theorem dX12_cutTo_19 : decode cX12_cutTo 19 = .ok (.if_icmp .ne 9, 3) := by decide +kernel
theorem dX12_cutTo_22 : decode cX12_cutTo 22 = .ok (.ldc_w 277, 3) := by decide +kernel
theorem dX12_cutTo_25 : decode cX12_cutTo 25 = .ok (.goto 4, 3) := by decide +kernel
theorem dX12_cutTo_28 : decode cX12_cutTo 28 = .ok (.iconst 0, 1) := by decide +kernel
theorem dX12_cutTo_29 : decode cX12_cutTo 29 = .ok (.iadd, 1) := by decide +kernel
theorem dX12_cutTo_30 : decode cX12_cutTo 30 = .ok (.iand, 1) := by decide +kernel
theorem dX12_cutTo_31 : decode cX12_cutTo 31 = .ok (.ireturn, 1) := by decide +kernel
set_option maxHeartbeats 4000000 in
set_option maxRecDepth 100000 in
theorem s_X12_cutTo {P : PP} {a0 : Int32} {a1 : Int32} (I : IV P) : CtrI yX12_cutTo cX12_cutTo 2 (some Jvm.ClassFile.FieldType.int) ({ frames := 1, cells := 0, slots := 0, locals := 64 } : Room) 0 0 P [.int a0, .int a1] (fun r P2 => P = P2 ∧ (0 ≤ r.toInt ∧ r.toInt ≤ 65535)) := by
  refine enI (lv := [(0, .int a0), (1, .int a1)]) (by decide) (Nat.le_of_ble_eq_true rfl) rfl (fun E D cy C Ci0 ret => ?_)
  have J29 : ∀ (v29_s0 : Int32) (v29_s1 : Int32), (0 ≤ v29_s0.toInt ∧ v29_s0.toInt ≤ 65280) → (0 ≤ v29_s1.toInt ∧ v29_s1.toInt ≤ 255) → G E ({ frames := 1, cells := 0, slots := 0, locals := 64 } : Room) D cy 2 P 0 0 29 [] [.int v29_s0, .int v29_s1, .int a0] := by
    intro v29_s0 v29_s1 hv29_s0 hv29_s1
    refine s_iadd C dX12_cutTo_29 (by show -2147483648 ≤ v29_s1.toInt + v29_s0.toInt ∧ v29_s1.toInt + v29_s0.toInt ≤ 2147483647; omega) (fun z33443 h33444 => ?_)
    have h33444 : z33443.toInt = v29_s1.toInt + v29_s0.toInt := h33444
    refine s_iand C dX12_cutTo_30 (by show 0 ≤ z33443.toInt; omega) (fun z33445 h33446 => ?_)
    have h33446 : 0 ≤ z33445.toInt ∧ z33445.toInt ≤ z33443.toInt := h33446
    exact ret _ _ _ _ _ _ dX12_cutTo_31 rfl (by decide) (by decide) ⟨rfl, (by omega)⟩
  have J15 : ∀ (v15_s0 : Int32), (0 ≤ v15_s0.toInt ∧ v15_s0.toInt ≤ 255) → G E ({ frames := 1, cells := 0, slots := 0, locals := 64 } : Room) D cy 2 P 0 0 15 [(1, .int a1)] [.int v15_s0, .int a0] := by
    intro v15_s0 hv15_s0
    refine g_iload_n C dX12_cutTo_15 rfl 0 rfl ?_
    refine g_iconst (v := 2) C dX12_cutTo_16 (by decide) ?_
    refine s_iand C dX12_cutTo_17 (by show 0 ≤ 2; omega) (fun z33447 h33448 => ?_)
    have h33448 : 0 ≤ z33447.toInt ∧ z33447.toInt ≤ 2 := h33448
    refine g_iconst (v := 2) C dX12_cutTo_18 (by decide) ?_
    refine b_icmp_ne C 28 dX12_cutTo_19 (by decide) (fun h33449 => ?_) (fun h33449 => ?_)
    · have h33449 : z33447.toInt ≠ 2 := ti_ne h33449
      refine g_iconst (v := 0) C dX12_cutTo_28 (by decide) ?_
      refine g_lv (lv' := []) [] rfl ?_
      exact J29 0 v15_s0 (by decide) (by omega)
    · have h33449 : z33447.toInt = 2 := congrArg Int32.toInt h33449
      refine g_ldcw (v := 65280) C kc_X12_277 dX12_cutTo_22 ?_
      refine g_goto C 29 dX12_cutTo_25 (by decide) ?_
      refine g_lv (lv' := []) [] rfl ?_
      exact J29 65280 v15_s0 (by decide) (by omega)
  refine g_iload_n C dX12_cutTo_0 rfl 0 rfl ?_
  refine g_iload_n C dX12_cutTo_1 rfl 1 rfl ?_
  refine g_iconst (v := 1) C dX12_cutTo_2 (by decide) ?_
  refine s_iand C dX12_cutTo_3 (by show 0 ≤ 1; omega) (fun z33450 h33451 => ?_)
  have h33451 : 0 ≤ z33450.toInt ∧ z33450.toInt ≤ 1 := h33451
  refine g_iconst (v := 1) C dX12_cutTo_4 (by decide) ?_
  refine b_icmp_ne C 14 dX12_cutTo_5 (by decide) (fun h33452 => ?_) (fun h33452 => ?_)
  · have h33452 : z33450.toInt ≠ 1 := ti_ne h33452
    refine g_iconst (v := 0) C dX12_cutTo_14 (by decide) ?_
    refine g_lv (lv' := [(1, .int a1)]) [1] rfl ?_
    exact J15 0 (by decide)
  · have h33452 : z33450.toInt = 1 := congrArg Int32.toInt h33452
    refine g_sipush (v := 255) C dX12_cutTo_8 (by decide) ?_
    refine g_goto C 15 dX12_cutTo_11 (by decide) ?_
    refine g_lv (lv' := [(1, .int a1)]) [1] rfl ?_
    exact J15 255 (by decide)
