theorem dX12_paper_0 : decode cX12_paper 0 = .ok (.aload_n 0, 1) := by decide +kernel
theorem dX12_paper_1 : decode cX12_paper 1 = .ok (.aload_n 0, 1) := by decide +kernel
theorem dX12_paper_2 : decode cX12_paper 2 = .ok (.iload_n 1, 1) := by decide +kernel
theorem dX12_paper_3 : decode cX12_paper 3 = .ok (.iload_n 2, 1) := by decide +kernel
theorem dX12_paper_4 : decode cX12_paper 4 = .ok (.invokevirtual 298, 3) := by decide +kernel
theorem dX12_paper_7 : decode cX12_paper 7 = .ok (.ifCond .eq 16, 3) := by decide +kernel
theorem dX12_paper_10 : decode cX12_paper 10 = .ok (.iload_n 3, 1) := by decide +kernel
theorem dX12_paper_11 : decode cX12_paper 11 = .ok (.iconst 0, 1) := by decide +kernel
theorem dX12_paper_12 : decode cX12_paper 12 = .ok (.iconst 5, 1) := by decide +kernel
theorem dX12_paper_13 : decode cX12_paper 13 = .ok (.invokestatic 178, 3) := by decide +kernel
theorem dX12_paper_16 : decode cX12_paper 16 = .ok (.ifCond .eq 7, 3) := by decide +kernel
theorem dX12_paper_19 : decode cX12_paper 19 = .ok (.iconst 0, 1) := by decide +kernel
theorem dX12_paper_20 : decode cX12_paper 20 = .ok (.goto 4, 3) := by decide +kernel
theorem dX12_paper_23 : decode cX12_paper 23 = .ok (.iconst 1, 1) := by decide +kernel
theorem dX12_paper_24 : decode cX12_paper 24 = .ok (.putfield 1, 3) := by decide +kernel
theorem dX12_paper_27 : decode cX12_paper 27 = .ok (.aload_n 0, 1) := by decide +kernel
theorem dX12_paper_28 : decode cX12_paper 28 = .ok (.getfield 1, 3) := by decide +kernel
theorem dX12_paper_31 : decode cX12_paper 31 = .ok (.ifCond .le 5, 3) := by decide +kernel
theorem dX12_paper_36 : decode cX12_paper 36 = .ok (.bipush 40, 2) := by decide +kernel
theorem dX12_paper_38 : decode cX12_paper 38 = .ok (.iload_n 1, 1) := by decide +kernel
theorem dX12_paper_39 : decode cX12_paper 39 = .ok (.imul, 1) := by decide +kernel
theorem dX12_paper_40 : decode cX12_paper 40 = .ok (.iload_n 2, 1) := by decide +kernel
theorem dX12_paper_41 : decode cX12_paper 41 = .ok (.iadd, 1) := by decide +kernel
theorem dX12_paper_42 : decode cX12_paper 42 = .ok (.istore 4, 2) := by decide +kernel
theorem dX12_paper_44 : decode cX12_paper 44 = .ok (.iload_n 3, 1) := by decide +kernel
theorem dX12_paper_45 : decode cX12_paper 45 = .ok (.tableswitch 75 0 4 #[35, 43, 51, 59, 67], 35) := by decide +kernel
theorem dX12_paper_120 : decode cX12_paper 120 = .ok (.aload_n 0, 1) := by decide +kernel
theorem dX12_paper_121 : decode cX12_paper 121 = .ok (.getfield 75, 3) := by decide +kernel
theorem dX12_paper_124 : decode cX12_paper 124 = .ok (.iload 4, 2) := by decide +kernel
theorem dX12_paper_126 : decode cX12_paper 126 = .ok (.iaload, 1) := by decide +kernel
theorem dX12_paper_127 : decode cX12_paper 127 = .ok (.ifCond .ge 7, 3) := by decide +kernel
theorem dX12_paper_134 : decode cX12_paper 134 = .ok (.aload_n 0, 1) := by decide +kernel
theorem dX12_paper_135 : decode cX12_paper 135 = .ok (.iload_n 1, 1) := by decide +kernel
theorem dX12_paper_136 : decode cX12_paper 136 = .ok (.iload_n 2, 1) := by decide +kernel
theorem dX12_paper_137 : decode cX12_paper 137 = .ok (.invokevirtual 358, 3) := by decide +kernel
theorem dX12_unknownOf_0 : decode cX12_unknownOf 0 = .ok (.bipush 40, 2) := by decide +kernel
theorem dX12_unknownOf_2 : decode cX12_unknownOf 2 = .ok (.iload_n 1, 1) := by decide +kernel
theorem dX12_unknownOf_3 : decode cX12_unknownOf 3 = .ok (.imul, 1) := by decide +kernel
theorem dX12_unknownOf_4 : decode cX12_unknownOf 4 = .ok (.iload_n 2, 1) := by decide +kernel
theorem dX12_unknownOf_5 : decode cX12_unknownOf 5 = .ok (.iadd, 1) := by decide +kernel
theorem dX12_unknownOf_6 : decode cX12_unknownOf 6 = .ok (.istore_n 3, 1) := by decide +kernel
theorem dX12_unknownOf_7 : decode cX12_unknownOf 7 = .ok (.aload_n 0, 1) := by decide +kernel
theorem dX12_unknownOf_8 : decode cX12_unknownOf 8 = .ok (.getfield 75, 3) := by decide +kernel
theorem dX12_unknownOf_11 : decode cX12_unknownOf 11 = .ok (.iload_n 3, 1) := by decide +kernel
theorem dX12_unknownOf_12 : decode cX12_unknownOf 12 = .ok (.iaload, 1) := by decide +kernel
theorem dX12_unknownOf_13 : decode cX12_unknownOf 13 = .ok (.istore 4, 2) := by decide +kernel
theorem dX12_unknownOf_15 : decode cX12_unknownOf 15 = .ok (.aload_n 0, 1) := by decide +kernel
theorem dX12_unknownOf_16 : decode cX12_unknownOf 16 = .ok (.invokevirtual 336, 3) := by decide +kernel
theorem dX12_unknownOf_19 : decode cX12_unknownOf 19 = .ok (.aload_n 0, 1) := by decide +kernel
theorem dX12_unknownOf_20 : decode cX12_unknownOf 20 = .ok (.iload 4, 2) := by decide +kernel
theorem dX12_unknownOf_22 : decode cX12_unknownOf 22 = .ok (.aload_n 0, 1) := by decide +kernel
theorem dX12_unknownOf_23 : decode cX12_unknownOf 23 = .ok (.getfield 72, 3) := by decide +kernel
theorem dX12_unknownOf_26 : decode cX12_unknownOf 26 = .ok (.iload_n 3, 1) := by decide +kernel
theorem dX12_unknownOf_27 : decode cX12_unknownOf 27 = .ok (.iaload, 1) := by decide +kernel
theorem dX12_unknownOf_28 : decode cX12_unknownOf 28 = .ok (.invokevirtual 261, 3) := by decide +kernel
theorem dX12_unknownOf_31 : decode cX12_unknownOf 31 = .ok (.istore 5, 2) := by decide +kernel
theorem dX12_unknownOf_33 : decode cX12_unknownOf 33 = .ok (.iconst 0, 1) := by decide +kernel
theorem dX12_unknownOf_34 : decode cX12_unknownOf 34 = .ok (.istore 6, 2) := by decide +kernel
theorem dX12_unknownOf_36 : decode cX12_unknownOf 36 = .ok (.iconst 0, 1) := by decide +kernel
theorem dX12_unknownOf_37 : decode cX12_unknownOf 37 = .ok (.istore 7, 2) := by decide +kernel
theorem dX12_unknownOf_39 : decode cX12_unknownOf 39 = .ok (.iload 7, 2) := by decide +kernel
theorem dX12_unknownOf_41 : decode cX12_unknownOf 41 = .ok (.iconst 2, 1) := by decide +kernel
theorem dX12_unknownOf_42 : decode cX12_unknownOf 42 = .ok (.if_icmp .ge 57, 3) := by decide +kernel
theorem dX12_unknownOf_45 : decode cX12_unknownOf 45 = .ok (.aload_n 0, 1) := by decide +kernel
theorem dX12_unknownOf_46 : decode cX12_unknownOf 46 = .ok (.getfield 81, 3) := by decide +kernel
theorem dX12_unknownOf_49 : decode cX12_unknownOf 49 = .ok (.iload_n 3, 1) := by decide +kernel
theorem dX12_unknownOf_50 : decode cX12_unknownOf 50 = .ok (.iaload, 1) := by decide +kernel
theorem dX12_unknownOf_51 : decode cX12_unknownOf 51 = .ok (.iload 7, 2) := by decide +kernel
theorem dX12_unknownOf_53 : decode cX12_unknownOf 53 = .ok (.ishr, 1) := by decide +kernel
theorem dX12_unknownOf_54 : decode cX12_unknownOf 54 = .ok (.iconst 1, 1) := by decide +kernel
theorem dX12_unknownOf_55 : decode cX12_unknownOf 55 = .ok (.iand, 1) := by decide +kernel
theorem dX12_unknownOf_56 : decode cX12_unknownOf 56 = .ok (.iconst 1, 1) := by decide +kernel
theorem dX12_unknownOf_57 : decode cX12_unknownOf 57 = .ok (.if_icmp .ne 36, 3) := by decide +kernel
theorem dX12_unknownOf_60 : decode cX12_unknownOf 60 = .ok (.aload_n 0, 1) := by decide +kernel
theorem dX12_unknownOf_61 : decode cX12_unknownOf 61 = .ok (.iload_n 1, 1) := by decide +kernel
theorem dX12_unknownOf_62 : decode cX12_unknownOf 62 = .ok (.iload 4, 2) := by decide +kernel
theorem dX12_unknownOf_64 : decode cX12_unknownOf 64 = .ok (.iload 7, 2) := by decide +kernel
theorem dX12_unknownOf_66 : decode cX12_unknownOf 66 = .ok (.aload_n 0, 1) := by decide +kernel
theorem dX12_unknownOf_67 : decode cX12_unknownOf 67 = .ok (.getfield 69, 3) := by decide +kernel
theorem dX12_unknownOf_70 : decode cX12_unknownOf 70 = .ok (.iload_n 1, 1) := by decide +kernel
theorem dX12_unknownOf_71 : decode cX12_unknownOf 71 = .ok (.iaload, 1) := by decide +kernel
theorem dX12_unknownOf_72 : decode cX12_unknownOf 72 = .ok (.invokevirtual 339, 3) := by decide +kernel
theorem dX12_unknownOf_75 : decode cX12_unknownOf 75 = .ok (.aload_n 0, 1) := by decide +kernel
theorem dX12_unknownOf_76 : decode cX12_unknownOf 76 = .ok (.invokevirtual 343, 3) := by decide +kernel
theorem dX12_unknownOf_79 : decode cX12_unknownOf 79 = .ok (.iload 6, 2) := by decide +kernel
theorem dX12_unknownOf_81 : decode cX12_unknownOf 81 = .ok (.iload 5, 2) := by decide +kernel
theorem dX12_unknownOf_83 : decode cX12_unknownOf 83 = .ok (.aload_n 0, 1) := by decide +kernel
theorem dX12_unknownOf_84 : decode cX12_unknownOf 84 = .ok (.getfield 318, 3) := by decide +kernel
theorem dX12_unknownOf_87 : decode cX12_unknownOf 87 = .ok (.iconst (-1), 1) := by decide +kernel
theorem dX12_unknownOf_88 : decode cX12_unknownOf 88 = .ok (.ixor, 1) := by decide +kernel
theorem dX12_unknownOf_89 : decode cX12_unknownOf 89 = .ok (.iand, 1) := by decide +kernel
theorem dX12_unknownOf_90 : decode cX12_unknownOf 90 = .ok (.ior, 1) := by decide +kernel
theorem dX12_unknownOf_91 : decode cX12_unknownOf 91 = .ok (.istore 6, 2) := by decide +kernel
theorem dX12_unknownOf_93 : decode cX12_unknownOf 93 = .ok (.iinc 7 1, 3) := by decide +kernel
theorem dX12_unknownOf_96 : decode cX12_unknownOf 96 = .ok (.goto (-57), 3) := by decide +kernel
theorem dX12_unknownOf_99 : decode cX12_unknownOf 99 = .ok (.iload 6, 2) := by decide +kernel
theorem dX12_unknownOf_101 : decode cX12_unknownOf 101 = .ok (.invokestatic 264, 3) := by decide +kernel
theorem dX12_unknownOf_104 : decode cX12_unknownOf 104 = .ok (.ireturn, 1) := by decide +kernel
set_option maxHeartbeats 4000000 in
set_option maxRecDepth 100000 in
theorem s_X12_unknownOf {P : PP} {a0 : Nat} {a1 : Int32} {a2 : Int32} (I : IM P a0) (ha1 : 0 ≤ a1.toInt ∧ a1.toInt ≤ 3) (ha2 : 0 ≤ a2.toInt ∧ a2.toInt ≤ 39) (hW : MW P a0) (hb : ∀ b, pR P a0 22 = some b → 0 ≤ (pI P b (40 * a1.toInt + a2.toInt).toNat).toInt) : CtrI yX12_unknownOf cX12_unknownOf 8 (some Jvm.ClassFile.FieldType.int) ({ frames := 5, cells := 0, slots := 0, locals := 320 } : Room) 0 0 P [.ref a0, .int a1, .int a2] (fun r P2 => IM P2 a0 ∧ EM [28, 29, 30, 31, 32, 33, 34] a0 P P2 ∧ MW P2 a0 ∧ (0 ≤ r.toInt ∧ r.toInt ≤ 20)) := by
  refine enI (lv := [(0, .ref a0), (1, .int a1), (2, .int a2)]) (by decide) (Nat.le_of_ble_eq_true rfl) rfl (fun E D cy C Ci0 ret => ?_)
  have ha0 := I.2.1
  have J39 : ∀ (n39 : Nat) (P39 : PP) (v39_3 : Int32) (v39_4 : Int32) (v39_5 : Int32) (v39_6 : Int32) (v39_7 : Int32), (2 - v39_7.toInt).toNat < n39 → (IM P39 a0) → (EM [28, 29, 30, 31, 32, 33, 34] a0 P P39) → (MW P39 a0) → (0 ≤ v39_3.toInt ∧ v39_3.toInt ≤ 159) → (0 ≤ v39_4.toInt ∧ v39_4.toInt ≤ 1) → (0 ≤ v39_7.toInt ∧ v39_7.toInt ≤ 2) → (∀ b910, pR P39 a0 10 = some b910 → 0 < (pI P39 b910 (v39_4.toInt.toNat)).toInt) → G E ({ frames := 5, cells := 0, slots := 0, locals := 320 } : Room) D cy 8 P39 0 0 39 [(0, .ref a0), (1, .int a1), (3, .int v39_3), (4, .int v39_4), (5, .int v39_5), (6, .int v39_6), (7, .int v39_7)] [] := by
    intro n39
    induction n39 with
    | zero => intro P39 v39_3 v39_4 v39_5 v39_6 v39_7 hm39 I39 X39 W39 hv39_3 hv39_4 hv39_7 rel39_0; omega
    | succ n39 ih39 =>
      intro P39 v39_3 v39_4 v39_5 v39_6 v39_7 hm39 I39 X39 W39 hv39_3 hv39_4 hv39_7 rel39_0
      have h73212 := X39.at ha0
      obtain ⟨b73213, e73214, h73215⟩ := I39.fld (h73212) 10 13 2 rfl
      have rel39_0 := rel39_0 b73213 e73214
      have h73216 := I39.arr e73214 rfl (v39_4.toInt.toNat)
      have J93 : ∀ (P93 : PP) (v93_6 : Int32), (IM P93 a0) → (EM [28, 29, 30, 31, 32, 33, 34] a0 P P93) → (MW P93 a0) → (0 ≤ v39_7.toInt ∧ v39_7.toInt ≤ 1) → (∀ b910, pR P93 a0 10 = some b910 → 0 < (pI P93 b910 (v39_4.toInt.toNat)).toInt) → G E ({ frames := 5, cells := 0, slots := 0, locals := 320 } : Room) D cy 8 P93 0 0 93 [(0, .ref a0), (1, .int a1), (3, .int v39_3), (4, .int v39_4), (5, .int v39_5), (6, .int v93_6), (7, .int v39_7)] [] := by
        intro P93 v93_6 I93 X93 W93 hv93_7 rel93_0
        have h73217 := X93.at ha0
        obtain ⟨b73218, e73219, h73220⟩ := I93.fld (h73217) 10 13 2 rfl
        have rel93_0 := rel93_0 b73218 e73219
        have h73221 := I93.arr e73219 rfl (v39_4.toInt.toNat)
        refine s_iinc (lv0 := [(0, .ref a0), (1, .int a1), (3, .int v39_3), (4, .int v39_4), (5, .int v39_5), (6, .int v93_6)]) (m := 1) C dX12_unknownOf_93 6 rfl (by decide) rfl (by decide) (by omega) (fun z73222 h73223 => ?_)
        have h73223 : z73222.toInt = v39_7.toInt + 1 := h73223
        refine g_goto C 39 dX12_unknownOf_96 (by decide) ?_
        refine g_lv (lv' := [(0, .ref a0), (1, .int a1), (3, .int v39_3), (4, .int v39_4), (5, .int v39_5), (6, .int v93_6), (7, .int z73222)]) [1, 2, 3, 4, 5, 6, 0] rfl ?_
        exact ih39 P93 v39_3 v39_4 v39_5 v93_6 z73222 (by omega) I93 X93 W93 (by omega) (by omega) (by omega) (by intro b910 e910; rw [e73219] at e910; cases e910; show 0 < (pI P93 b73218 (v39_4.toInt.toNat)).toInt; omega)
      refine g_iload C dX12_unknownOf_39 6 rfl ?_
      refine g_iconst (v := 2) C dX12_unknownOf_41 (by decide) ?_
      refine b_icmp_ge C 99 dX12_unknownOf_42 (by decide) (fun h73224 => ?_) (fun h73224 => ?_)
      · have h73224 : 2 ≤ v39_7.toInt := h73224
        refine g_iload C dX12_unknownOf_99 5 rfl ?_
        refine g_callSI (b := 0) (ci := 0) (rest := []) C ms_X12_264 [.int v39_6] (s_X12_bits I39.1) rfl rfl (by decide) (Nat.le_of_ble_eq_true rfl) (by decide) dX12_unknownOf_101 (fun r73225 Y73226 h73227 => ?_)
        obtain ⟨rfl, h73227⟩ := h73227
        obtain ⟨h73227, hi73228⟩ := h73227
        have hi73228 : r73225.toInt = 0 ∨ v39_6.toInt ≠ 0 := hi73228
        have h73227 : 0 ≤ r73225.toInt ∧ r73225.toInt ≤ 20 := h73227
        exact ret _ _ _ _ _ _ dX12_unknownOf_104 rfl (by decide) (by decide) ⟨I39, X39, W39, (by omega)⟩
      · have h73224 : v39_7.toInt < 2 := h73224
        refine g_aload_n C dX12_unknownOf_45 rfl 0 rfl ?_
        obtain ⟨b73229, e73230, h73231⟩ := I39.fld (h73212) 24 13 800 rfl
        refine g_getR C fi_X12_81 rfl e73230 (h73212).1 (h73212).2 dX12_unknownOf_46 ?_
        refine g_iload_n C dX12_unknownOf_49 rfl 2 rfl ?_
        refine g_iald (j := (v39_3.toInt.toNat)) C h73231.1 h73231.2.1 (ix_in h73231.2.2 (by omega)) dX12_unknownOf_50 ?_
        refine g_iload C dX12_unknownOf_51 6 rfl ?_
        refine a_ishr C dX12_unknownOf_53 (fun z73232 => ?_)
        refine g_iconst (v := 1) C dX12_unknownOf_54 (by decide) ?_
        refine s_iand C dX12_unknownOf_55 (by show 0 ≤ 1; omega) (fun z73234 h73235 => ?_)
        have h73235 : 0 ≤ z73234.toInt ∧ z73234.toInt ≤ 1 := h73235
        refine g_iconst (v := 1) C dX12_unknownOf_56 (by decide) ?_
        refine b_icmp_ne C 93 dX12_unknownOf_57 (by decide) (fun h73236 => ?_) (fun h73236 => ?_)
        · have h73236 : z73234.toInt ≠ 1 := ti_ne h73236
          exact J93 P39 v39_6 I39 X39 W39 (by omega) (by intro b910 e910; rw [e73214] at e910; cases e910; show 0 < (pI P39 b73213 (v39_4.toInt.toNat)).toInt; omega)
        · have h73236 : z73234.toInt = 1 := congrArg Int32.toInt h73236
          refine g_aload_n C dX12_unknownOf_60 rfl 0 rfl ?_
          refine g_iload_n C dX12_unknownOf_61 rfl 1 rfl ?_
          refine g_iload C dX12_unknownOf_62 3 rfl ?_
          refine g_iload C dX12_unknownOf_64 6 rfl ?_
          refine g_aload_n C dX12_unknownOf_66 rfl 0 rfl ?_
          obtain ⟨b73237, e73238, h73239⟩ := I39.fld (h73212) 20 13 20 rfl
          refine g_getR C fi_X12_69 rfl e73238 (h73212).1 (h73212).2 dX12_unknownOf_67 ?_
          refine g_iload_n C dX12_unknownOf_70 rfl 1 rfl ?_
          refine g_iald (j := (a1.toInt.toNat)) C h73239.1 h73239.2.1 (ix_in h73239.2.2 (by omega)) dX12_unknownOf_71 ?_
          have h73240 := I39.arr e73238 rfl (a1.toInt.toNat)
          refine g_callVV (rest := []) C mv_X12_339 [.int a1, .int v39_4, .int v39_7, .int (pI P39 b73237 (a1.toInt.toNat))] (s_X12_gathers I39 (by omega) (by omega) (by omega) (fun b9 e9 => by rw [e73214] at e9; cases e9; show 1 ≤ (pI P39 b73213 (v39_4.toInt.toNat)).toInt ∧ (pI P39 b73213 (v39_4.toInt.toNat)).toInt ≤ 16; omega) W39) (h73212).1 (h73212).2 rfl rfl (by decide) (Nat.le_of_ble_eq_true rfl) (by decide) dX12_unknownOf_72 (fun Y73242 h73243 => ?_)
          obtain ⟨Iy73244, Xy73245, W73246, p73247⟩ := h73243
          have p73247 : (pI Y73242 a0 28).toInt ≤ 4 + (pI P39 b73237 (a1.toInt.toNat)).toInt := p73247
          have q73248 := Xy73245.keepA e73214 (by decide) rfl (v39_4.toInt.toNat)
          have q73249 := Xy73245.keepA e73238 (by decide) rfl (a1.toInt.toNat)
          have Xz73250 : EM [28, 29, 30, 31, 32, 33, 34] a0 P Y73242 := EM.tr ha0 X39 (Xy73245.mono (by decide))
          have e73251 := Xy73245.ref h73212 (by decide) e73214
          have e73252 := Xy73245.ref h73212 (by decide) e73238
          have h73253 := Xy73245.at h73212
          have h73254 := Xy73245.ar h73215
          have h73255 := Xy73245.ar h73239
          have h73256 := Iy73244.rg h73253 28 rfl
          refine g_aload_n C dX12_unknownOf_75 rfl 0 rfl ?_
          refine g_callVV (rest := []) C mv_X12_343 [] (s_X12_findPeeled Iy73244 W73246) (h73253).1 (h73253).2 rfl rfl (by decide) (Nat.le_of_ble_eq_true rfl) (by decide) dX12_unknownOf_76 (fun Y73258 h73259 => ?_)
          obtain ⟨Iy73260, Xy73261, W73262⟩ := h73259
          have q73263 := Xy73261.keepA e73251 (by decide) rfl (v39_4.toInt.toNat)
          have q73264 := Xy73261.keepA e73252 (by decide) rfl (a1.toInt.toNat)
          have q73265 := Xy73261.keepF 28 (by decide)
          have Xz73266 : EM [28, 29, 30, 31, 32, 33, 34] a0 P Y73258 := EM.tr ha0 Xz73250 (Xy73261.mono (by decide))
          have e73267 := Xy73261.ref h73253 (by decide) e73251
          have e73268 := Xy73261.ref h73253 (by decide) e73252
          have h73269 := Xy73261.at h73253
          have h73270 := Xy73261.ar h73254
          have h73271 := Xy73261.ar h73255
          refine g_iload C dX12_unknownOf_79 5 rfl ?_
          refine g_iload C dX12_unknownOf_81 4 rfl ?_
          refine g_aload_n C dX12_unknownOf_83 rfl 0 rfl ?_
          refine g_getI C fi_X12_318 (by decide) (h73269).1 (h73269).2 dX12_unknownOf_84 ?_
          refine g_iconst (v := (-1)) C dX12_unknownOf_87 (by decide) ?_
          refine a_ixor C dX12_unknownOf_88 (fun z73272 => ?_)
          refine a_iand C dX12_unknownOf_89 (fun z73274 => ?_)
          refine a_ior C dX12_unknownOf_90 (fun z73276 => ?_)
          refine g_istore (lv' := [(6, .int z73276), (0, .ref a0), (1, .int a1), (3, .int v39_3), (4, .int v39_4), (5, .int v39_5), (7, .int v39_7)]) C dX12_unknownOf_91 (by decide) rfl ?_
          refine g_lv (lv' := [(0, .ref a0), (1, .int a1), (3, .int v39_3), (4, .int v39_4), (5, .int v39_5), (6, .int z73276), (7, .int v39_7)]) [1, 2, 3, 4, 5, 0, 6] rfl ?_
          exact J93 Y73258 z73276 Iy73260 Xz73266 W73262 (by omega) (by intro b910 e910; rw [e73267] at e910; cases e910; show 0 < (pI Y73258 b73213 (v39_4.toInt.toNat)).toInt; omega)
  refine g_bipush (v := 40) C dX12_unknownOf_0 (by decide) ?_
  refine g_iload_n C dX12_unknownOf_2 rfl 1 rfl ?_
  refine s_imul C dX12_unknownOf_3 (by show -2147483648 ≤ 40 * a1.toInt ∧ 40 * a1.toInt ≤ 2147483647; omega) (fun z73278 h73279 => ?_)
  have h73279 : z73278.toInt = 40 * a1.toInt := h73279
  refine g_iload_n C dX12_unknownOf_4 rfl 2 rfl ?_
  refine s_iadd C dX12_unknownOf_5 (by show -2147483648 ≤ z73278.toInt + a2.toInt ∧ z73278.toInt + a2.toInt ≤ 2147483647; omega) (fun z73280 h73281 => ?_)
  have h73281 : z73280.toInt = z73278.toInt + a2.toInt := h73281
  refine g_istore_n (lv' := [(3, .int z73280), (0, .ref a0), (1, .int a1), (2, .int a2)]) C dX12_unknownOf_6 rfl (by decide) rfl ?_
  refine g_aload_n C dX12_unknownOf_7 rfl 1 rfl ?_
  obtain ⟨b73282, e73283, h73284⟩ := I.fld (ha0) 22 13 800 rfl
  refine g_getR C fi_X12_75 rfl e73283 (ha0).1 (ha0).2 dX12_unknownOf_8 ?_
  refine g_iload_n C dX12_unknownOf_11 rfl 0 rfl ?_
  refine g_iald (j := (z73280.toInt.toNat)) C h73284.1 h73284.2.1 (ix_in h73284.2.2 (by omega)) dX12_unknownOf_12 ?_
  have h73285 := I.arr e73283 rfl (z73280.toInt.toNat)
  have hb := hb b73282 e73283
  rw [show (40 * a1.toInt + a2.toInt).toNat = z73280.toInt.toNat by omega] at hb
  refine g_topi (fun z73286 h73287 => ?_)
  have h73287 : z73286.toInt = (pI P b73282 (z73280.toInt.toNat)).toInt := congrArg Int32.toInt h73287
  refine g_istore (lv' := [(4, .int z73286), (3, .int z73280), (0, .ref a0), (1, .int a1), (2, .int a2)]) C dX12_unknownOf_13 (by decide) rfl ?_
  obtain ⟨b73288, e73289, h73290⟩ := I.fld (ha0) 10 13 2 rfl
  have ht := hW.told e73283 e73289 hb
  rw [show (pI P b73282 (z73280.toInt.toNat)).toInt = z73286.toInt by omega] at ht
  have h73291 := I.arr e73289 rfl (z73286.toInt.toNat)
  refine g_aload_n C dX12_unknownOf_15 rfl 2 rfl ?_
  refine g_callVV (rest := []) C mv_X12_336 [] (s_X12_leavesNone I hW) (ha0).1 (ha0).2 rfl rfl (by decide) (Nat.le_of_ble_eq_true rfl) (by decide) dX12_unknownOf_16 (fun Y73293 h73294 => ?_)
  obtain ⟨Iy73295, Xy73296, W73297⟩ := h73294
  have q73298 := Xy73296.keepA e73283 (by decide) rfl (z73280.toInt.toNat)
  have q73299 := Xy73296.keepA e73289 (by decide) rfl (z73286.toInt.toNat)
  have Xz73300 : EM [28, 29, 30, 31, 32, 33, 34] a0 P Y73293 := Xy73296.mono (by decide)
  have e73301 := Xy73296.ref ha0 (by decide) e73283
  have e73302 := Xy73296.ref ha0 (by decide) e73289
  have h73303 := Xy73296.at ha0
  have h73304 := Xy73296.ar h73284
  have h73305 := Xy73296.ar h73290
  refine g_aload_n C dX12_unknownOf_19 rfl 2 rfl ?_
  refine g_iload C dX12_unknownOf_20 0 rfl ?_
  refine g_aload_n C dX12_unknownOf_22 rfl 2 rfl ?_
  obtain ⟨b73306, e73307, h73308⟩ := Iy73295.fld (h73303) 21 13 800 rfl
  refine g_getR C fi_X12_72 rfl e73307 (h73303).1 (h73303).2 dX12_unknownOf_23 ?_
  refine g_iload_n C dX12_unknownOf_26 rfl 1 rfl ?_
  refine g_iald (j := (z73280.toInt.toNat)) C h73308.1 h73308.2.1 (ix_in h73308.2.2 (by omega)) dX12_unknownOf_27 ?_
  refine g_callVI (rest := []) C mv_X12_261 [.int z73286, .int (pI Y73293 b73306 (z73280.toInt.toNat))] (s_X12_setOf Iy73295 (by omega) (fun b9 e9 => by rw [e73302] at e9; cases e9; show 1 ≤ (pI Y73293 b73288 (z73286.toInt.toNat)).toInt ∧ (pI Y73293 b73288 (z73286.toInt.toNat)).toInt ≤ 16; omega) W73297) (h73303).1 (h73303).2 rfl rfl (by decide) (Nat.le_of_ble_eq_true rfl) (by decide) dX12_unknownOf_28 (fun r73309 Y73310 h73311 => ?_)
  obtain ⟨Iy73312, Xy73313, W73314, h73311⟩ := h73311
  have q73315 := Xy73313.keepA e73301 (by decide) rfl (z73280.toInt.toNat)
  have q73316 := Xy73313.keepA e73302 (by decide) rfl (z73286.toInt.toNat)
  have Xz73317 : EM [28, 29, 30, 31, 32, 33, 34] a0 P Y73310 := EM.tr ha0 Xz73300 (Xy73313.mono (by decide))
  have e73318 := Xy73313.ref h73303 (by decide) e73301
  have e73319 := Xy73313.ref h73303 (by decide) e73302
  have h73320 := Xy73313.at h73303
  have h73321 := Xy73313.ar h73304
  have h73322 := Xy73313.ar h73305
  have h73311 : True := h73311
  refine g_istore (lv' := [(5, .int r73309), (4, .int z73286), (3, .int z73280), (0, .ref a0), (1, .int a1), (2, .int a2)]) C dX12_unknownOf_31 (by decide) rfl ?_
  refine g_iconst (v := 0) C dX12_unknownOf_33 (by decide) ?_
  refine g_istore (lv' := [(6, .int 0), (5, .int r73309), (4, .int z73286), (3, .int z73280), (0, .ref a0), (1, .int a1), (2, .int a2)]) C dX12_unknownOf_34 (by decide) rfl ?_
  refine g_iconst (v := 0) C dX12_unknownOf_36 (by decide) ?_
  refine g_istore (lv' := [(7, .int 0), (6, .int 0), (5, .int r73309), (4, .int z73286), (3, .int z73280), (0, .ref a0), (1, .int a1), (2, .int a2)]) C dX12_unknownOf_37 (by decide) rfl ?_
  refine g_lv (lv' := [(0, .ref a0), (1, .int a1), (3, .int z73280), (4, .int z73286), (5, .int r73309), (6, .int 0), (7, .int 0)]) [5, 6, 4, 3, 2, 1, 0] rfl ?_
  exact J39 _ Y73310 z73280 z73286 r73309 0 0 (Nat.lt_succ_self _) Iy73312 Xz73317 W73314 (by omega) (by omega) (by decide) (by intro b910 e910; rw [e73319] at e910; cases e910; show 0 < (pI Y73310 b73288 (z73286.toInt.toNat)).toInt; omega)
theorem dX12_paper_34 : decode cX12_paper 34 = .ok (.iconst 0, 1) := by decide +kernel
theorem dX12_paper_35 : decode cX12_paper 35 = .ok (.ireturn, 1) := by decide +kernel
theorem dX12_paper_80 : decode cX12_paper 80 = .ok (.aload_n 0, 1) := by decide +kernel
theorem dX12_paper_81 : decode cX12_paper 81 = .ok (.getfield 75, 3) := by decide +kernel
theorem dX12_paper_84 : decode cX12_paper 84 = .ok (.iload 4, 2) := by decide +kernel
theorem dX12_paper_86 : decode cX12_paper 86 = .ok (.iaload, 1) := by decide +kernel
theorem dX12_paper_87 : decode cX12_paper 87 = .ok (.ireturn, 1) := by decide +kernel
theorem dX12_paper_88 : decode cX12_paper 88 = .ok (.aload_n 0, 1) := by decide +kernel
theorem dX12_paper_89 : decode cX12_paper 89 = .ok (.getfield 72, 3) := by decide +kernel
theorem dX12_paper_92 : decode cX12_paper 92 = .ok (.iload 4, 2) := by decide +kernel
theorem dX12_paper_94 : decode cX12_paper 94 = .ok (.iaload, 1) := by decide +kernel
theorem dX12_paper_95 : decode cX12_paper 95 = .ok (.ireturn, 1) := by decide +kernel
theorem dX12_paper_96 : decode cX12_paper 96 = .ok (.aload_n 0, 1) := by decide +kernel
theorem dX12_paper_97 : decode cX12_paper 97 = .ok (.getfield 78, 3) := by decide +kernel
theorem dX12_paper_100 : decode cX12_paper 100 = .ok (.iload 4, 2) := by decide +kernel
theorem dX12_paper_102 : decode cX12_paper 102 = .ok (.iaload, 1) := by decide +kernel
theorem dX12_paper_103 : decode cX12_paper 103 = .ok (.ireturn, 1) := by decide +kernel
theorem dX12_paper_104 : decode cX12_paper 104 = .ok (.aload_n 0, 1) := by decide +kernel
theorem dX12_paper_105 : decode cX12_paper 105 = .ok (.getfield 81, 3) := by decide +kernel
theorem dX12_paper_108 : decode cX12_paper 108 = .ok (.iload 4, 2) := by decide +kernel
theorem dX12_paper_110 : decode cX12_paper 110 = .ok (.iaload, 1) := by decide +kernel
theorem dX12_paper_111 : decode cX12_paper 111 = .ok (.ireturn, 1) := by decide +kernel
theorem dX12_paper_112 : decode cX12_paper 112 = .ok (.aload_n 0, 1) := by decide +kernel
theorem dX12_paper_113 : decode cX12_paper 113 = .ok (.getfield 84, 3) := by decide +kernel
theorem dX12_paper_116 : decode cX12_paper 116 = .ok (.iload 4, 2) := by decide +kernel
theorem dX12_paper_118 : decode cX12_paper 118 = .ok (.iaload, 1) := by decide +kernel
theorem dX12_paper_119 : decode cX12_paper 119 = .ok (.ireturn, 1) := by decide +kernel
theorem dX12_paper_130 : decode cX12_paper 130 = .ok (.iconst (-1), 1) := by decide +kernel
theorem dX12_paper_131 : decode cX12_paper 131 = .ok (.goto 9, 3) := by decide +kernel
theorem dX12_paper_140 : decode cX12_paper 140 = .ok (.ireturn, 1) := by decide +kernel
set_option maxHeartbeats 4000000 in
set_option maxRecDepth 100000 in
theorem s_X12_paper {P : PP} {a0 : Nat} {a1 : Int32} {a2 : Int32} {a3 : Int32} (I : IM P a0) (hW : MW P a0) : CtrI yX12_paper cX12_paper 5 (some Jvm.ClassFile.FieldType.int) ({ frames := 6, cells := 0, slots := 0, locals := 384 } : Room) 0 0 P [.ref a0, .int a1, .int a2, .int a3] (fun r P2 => IM P2 a0 ∧ EM [0, 28, 29, 30, 31, 32, 33, 34] a0 P P2 ∧ MW P2 a0 ∧ (True)) := by
  refine enI (lv := [(0, .ref a0), (1, .int a1), (2, .int a2), (3, .int a3)]) (by decide) (Nat.le_of_ble_eq_true rfl) rfl (fun E D cy C Ci0 ret => ?_)
  have ha0 := I.2.1
  have J24 : ∀ (v24_s0 : Int32), (0 ≤ v24_s0.toInt ∧ v24_s0.toInt ≤ 1) → (v24_s0.toInt ≠ 0 ∨ (0 ≤ a1.toInt ∧ a1.toInt ≤ 3 ∧ 0 ≤ a2.toInt ∧ a2.toInt ≤ 39)) → G E ({ frames := 6, cells := 0, slots := 0, locals := 384 } : Room) D cy 5 P 0 0 24 [(0, .ref a0), (1, .int a1), (2, .int a2), (3, .int a3)] [.int v24_s0, .ref a0] := by
    intro v24_s0 hv24_s0 rel24_0
    refine g_putI C fi_X12_1 rfl (ha0).1 (ha0).2 dX12_paper_24 ?_
    refine gqW (ks := [0]) (I.setI (rgOk.of rfl (by omega))) (EM.setI I (by decide)) (fun Y73385 Iy73386 Xy73387 w73388 => ?_)
    have w73388 : (pI Y73385 a0 0).toInt = v24_s0.toInt := w73388
    have W73389 := hW.keep I Xy73387 (by decide) (by decide) (by decide)
    have Xz73390 : EM [0, 28, 29, 30, 31, 32, 33, 34] a0 P Y73385 := Xy73387.mono (by decide)
    have h73391 := Xy73387.at ha0
    refine g_aload_n C dX12_paper_27 rfl 0 rfl ?_
    refine g_getI C fi_X12_1 (by decide) (h73391).1 (h73391).2 dX12_paper_28 ?_
    refine b_if_le C 36 dX12_paper_31 (by decide) (fun h73392 => ?_) (fun h73392 => ?_)
    · have h73392 : (pI Y73385 a0 0).toInt ≤ 0 := h73392
      have hz36 : (0 ≤ a1.toInt ∧ a1.toInt ≤ 3) ∧ (0 ≤ a2.toInt ∧ a2.toInt ≤ 39) := by omega
      refine g_bipush (v := 40) C dX12_paper_36 (by decide) ?_
      refine g_iload_n C dX12_paper_38 rfl 1 rfl ?_
      refine s_imul C dX12_paper_39 (by show -2147483648 ≤ 40 * a1.toInt ∧ 40 * a1.toInt ≤ 2147483647; omega) (fun z73393 h73394 => ?_)
      have h73394 : z73393.toInt = 40 * a1.toInt := h73394
      refine g_iload_n C dX12_paper_40 rfl 2 rfl ?_
      refine s_iadd C dX12_paper_41 (by show -2147483648 ≤ z73393.toInt + a2.toInt ∧ z73393.toInt + a2.toInt ≤ 2147483647; omega) (fun z73395 h73396 => ?_)
      have h73396 : z73395.toInt = z73393.toInt + a2.toInt := h73396
      refine g_istore (lv' := [(4, .int z73395), (0, .ref a0), (1, .int a1), (2, .int a2), (3, .int a3)]) C dX12_paper_42 (by decide) rfl ?_
      refine g_iload_n C dX12_paper_44 rfl 4 rfl ?_
      by_cases h73397 : a3.toInt < 0 ∨ 4 < a3.toInt
      · refine g_tableOut C 120 dX12_paper_45 h73397 (by decide) ?_
        refine g_aload_n C dX12_paper_120 rfl 1 rfl ?_
        obtain ⟨b73399, e73400, h73401⟩ := Iy73386.fld (h73391) 22 13 800 rfl
        refine g_getR C fi_X12_75 rfl e73400 (h73391).1 (h73391).2 dX12_paper_121 ?_
        refine g_iload C dX12_paper_124 0 rfl ?_
        refine g_iald (j := (z73395.toInt.toNat)) C h73401.1 h73401.2.1 (ix_in h73401.2.2 (by omega)) dX12_paper_126 ?_
        have h73402 := Iy73386.arr e73400 rfl (z73395.toInt.toNat)
        refine b_if_ge C 134 dX12_paper_127 (by decide) (fun h73403 => ?_) (fun h73403 => ?_)
        · have h73403 : 0 ≤ (pI Y73385 b73399 (z73395.toInt.toNat)).toInt := h73403
          refine g_aload_n C dX12_paper_134 rfl 1 rfl ?_
          refine g_iload_n C dX12_paper_135 rfl 2 rfl ?_
          refine g_iload_n C dX12_paper_136 rfl 3 rfl ?_
          refine g_callVI (rest := []) C mv_X12_358 [.int a1, .int a2] (s_X12_unknownOf Iy73386 (by omega) (by omega) W73389 (fun b9 e9 => by rw [e73400] at e9; cases e9; rw [show (40 * a1.toInt + a2.toInt).toNat = z73395.toInt.toNat by omega]; omega)) (h73391).1 (h73391).2 rfl rfl (by decide) (Nat.le_of_ble_eq_true rfl) (by decide) dX12_paper_137 (fun r73404 Y73405 h73406 => ?_)
          obtain ⟨Iy73407, Xy73408, W73409, h73406⟩ := h73406
          have q73410 := Xy73408.keepF 0 (by decide)
          have q73411 := Xy73408.keepA e73400 (by decide) rfl (z73395.toInt.toNat)
          have Xz73412 : EM [0, 28, 29, 30, 31, 32, 33, 34] a0 P Y73405 := EM.tr ha0 Xz73390 (Xy73408.mono (by decide))
          have e73413 := Xy73408.ref h73391 (by decide) e73400
          have h73414 := Xy73408.at h73391
          have h73415 := Xy73408.ar h73401
          have h73406 : 0 ≤ r73404.toInt ∧ r73404.toInt ≤ 20 := h73406
          exact ret _ _ _ _ _ _ dX12_paper_140 rfl (by decide) (by decide) ⟨Iy73407, Xz73412, W73409, trivial⟩
        · have h73403 : (pI Y73385 b73399 (z73395.toInt.toNat)).toInt < 0 := h73403
          refine g_iconst (v := (-1)) C dX12_paper_130 (by decide) ?_
          refine g_goto C 140 dX12_paper_131 (by decide) ?_
          exact ret _ _ _ _ _ _ dX12_paper_140 rfl (by decide) (by decide) ⟨Iy73386, Xz73390, W73389, trivial⟩
      · rcases (show a3.toInt = 0 ∨ a3.toInt = 1 ∨ a3.toInt = 2 ∨ a3.toInt = 3 ∨ a3.toInt = 4 by omega) with h73398 | h73398 | h73398 | h73398 | h73398
        · refine g_tableIn C 80 dX12_paper_45 (by omega) (by omega) (by rw [h73398]; rfl) (by decide) ?_
          refine g_aload_n C dX12_paper_80 rfl 1 rfl ?_
          obtain ⟨b73416, e73417, h73418⟩ := Iy73386.fld (h73391) 22 13 800 rfl
          refine g_getR C fi_X12_75 rfl e73417 (h73391).1 (h73391).2 dX12_paper_81 ?_
          refine g_iload C dX12_paper_84 0 rfl ?_
          refine g_iald (j := (z73395.toInt.toNat)) C h73418.1 h73418.2.1 (ix_in h73418.2.2 (by omega)) dX12_paper_86 ?_
          have h73419 := Iy73386.arr e73417 rfl (z73395.toInt.toNat)
          exact ret _ _ _ _ _ _ dX12_paper_87 rfl (by decide) (by decide) ⟨Iy73386, Xz73390, W73389, trivial⟩
        · refine g_tableIn C 88 dX12_paper_45 (by omega) (by omega) (by rw [h73398]; rfl) (by decide) ?_
          refine g_aload_n C dX12_paper_88 rfl 1 rfl ?_
          obtain ⟨b73420, e73421, h73422⟩ := Iy73386.fld (h73391) 21 13 800 rfl
          refine g_getR C fi_X12_72 rfl e73421 (h73391).1 (h73391).2 dX12_paper_89 ?_
          refine g_iload C dX12_paper_92 0 rfl ?_
          refine g_iald (j := (z73395.toInt.toNat)) C h73422.1 h73422.2.1 (ix_in h73422.2.2 (by omega)) dX12_paper_94 ?_
          exact ret _ _ _ _ _ _ dX12_paper_95 rfl (by decide) (by decide) ⟨Iy73386, Xz73390, W73389, trivial⟩
        · refine g_tableIn C 96 dX12_paper_45 (by omega) (by omega) (by rw [h73398]; rfl) (by decide) ?_
          refine g_aload_n C dX12_paper_96 rfl 1 rfl ?_
          obtain ⟨b73423, e73424, h73425⟩ := Iy73386.fld (h73391) 23 13 800 rfl
          refine g_getR C fi_X12_78 rfl e73424 (h73391).1 (h73391).2 dX12_paper_97 ?_
          refine g_iload C dX12_paper_100 0 rfl ?_
          refine g_iald (j := (z73395.toInt.toNat)) C h73425.1 h73425.2.1 (ix_in h73425.2.2 (by omega)) dX12_paper_102 ?_
          exact ret _ _ _ _ _ _ dX12_paper_103 rfl (by decide) (by decide) ⟨Iy73386, Xz73390, W73389, trivial⟩
        · refine g_tableIn C 104 dX12_paper_45 (by omega) (by omega) (by rw [h73398]; rfl) (by decide) ?_
          refine g_aload_n C dX12_paper_104 rfl 1 rfl ?_
          obtain ⟨b73426, e73427, h73428⟩ := Iy73386.fld (h73391) 24 13 800 rfl
          refine g_getR C fi_X12_81 rfl e73427 (h73391).1 (h73391).2 dX12_paper_105 ?_
          refine g_iload C dX12_paper_108 0 rfl ?_
          refine g_iald (j := (z73395.toInt.toNat)) C h73428.1 h73428.2.1 (ix_in h73428.2.2 (by omega)) dX12_paper_110 ?_
          exact ret _ _ _ _ _ _ dX12_paper_111 rfl (by decide) (by decide) ⟨Iy73386, Xz73390, W73389, trivial⟩
        · refine g_tableIn C 112 dX12_paper_45 (by omega) (by omega) (by rw [h73398]; rfl) (by decide) ?_
          refine g_aload_n C dX12_paper_112 rfl 1 rfl ?_
          obtain ⟨b73429, e73430, h73431⟩ := Iy73386.fld (h73391) 25 13 800 rfl
          refine g_getR C fi_X12_84 rfl e73430 (h73391).1 (h73391).2 dX12_paper_113 ?_
          refine g_iload C dX12_paper_116 0 rfl ?_
          refine g_iald (j := (z73395.toInt.toNat)) C h73431.1 h73431.2.1 (ix_in h73431.2.2 (by omega)) dX12_paper_118 ?_
          exact ret _ _ _ _ _ _ dX12_paper_119 rfl (by decide) (by decide) ⟨Iy73386, Xz73390, W73389, trivial⟩
    · have h73392 : 0 < (pI Y73385 a0 0).toInt := h73392
      refine g_iconst (v := 0) C dX12_paper_34 (by decide) ?_
      exact ret _ _ _ _ _ _ dX12_paper_35 rfl (by decide) (by decide) ⟨Iy73386, Xz73390, W73389, trivial⟩
  have J23 : G E ({ frames := 6, cells := 0, slots := 0, locals := 384 } : Room) D cy 5 P 0 0 23 [(0, .ref a0), (1, .int a1), (2, .int a2), (3, .int a3)] [.ref a0] := by
    refine g_iconst (v := 1) C dX12_paper_23 (by decide) ?_
    exact J24 1 (by decide) (by show 1 ≠ 0 ∨ (0 ≤ a1.toInt ∧ a1.toInt ≤ 3 ∧ 0 ≤ a2.toInt ∧ a2.toInt ≤ 39); omega)
  refine g_aload_n C dX12_paper_0 rfl 0 rfl ?_
  refine g_aload_n C dX12_paper_1 rfl 0 rfl ?_
  refine g_iload_n C dX12_paper_2 rfl 1 rfl ?_
  refine g_iload_n C dX12_paper_3 rfl 2 rfl ?_
  refine g_callVI (rest := [.ref a0]) C mv_X12_298 [.int a1, .int a2] (s_X12_isPaper I hW) (ha0).1 (ha0).2 rfl rfl (by decide) (Nat.le_of_ble_eq_true rfl) (by decide) dX12_paper_4 (fun r73432 Y73433 h73434 => ?_)
  obtain ⟨rfl, h73434⟩ := h73434
  obtain ⟨h73434, hi73435, hi73436⟩ := h73434
  have hi73435 : r73432.toInt = 0 ∨ (((0 : Int) ≤ a1.toInt ∧ a1.toInt ≤ (3 : Int)) ∧ ((0 : Int) ≤ a2.toInt ∧ a2.toInt ≤ (39 : Int))) := hi73435
  have h73434 : 0 ≤ r73432.toInt ∧ r73432.toInt ≤ 1 := h73434
  refine b_if_eq C 23 dX12_paper_7 (by decide) (fun h73437 => ?_) (fun h73437 => ?_)
  · have h73437 : r73432.toInt = 0 := congrArg Int32.toInt h73437
    clear hi73435
    exact J23 
  · have h73437 : r73432.toInt ≠ 0 := ti_ne h73437
    replace hi73435 := hi73435.resolve_left (by omega)
    obtain ⟨b73438, e73439, h73440⟩ := I.fld (ha0) 20 13 20 rfl
    have hi73436 := (hi73436.resolve_left (by omega)) b73438 e73439
    have hi73436 : a2.toInt < (pI P b73438 (a1.toInt.toNat)).toInt ∧ 0 ≤ a2.toInt := hi73436
    have h73441 := I.arr e73439 rfl (a1.toInt.toNat)
    refine g_iload_n C dX12_paper_10 rfl 3 rfl ?_
    refine g_iconst (v := 0) C dX12_paper_11 (by decide) ?_
    refine g_iconst (v := 5) C dX12_paper_12 (by decide) ?_
    refine g_callSI (b := 0) (ci := 0) (rest := [.ref a0]) C ms_X12_178 [.int a3, .int 0, .int 5] (s_X12_within I.1) rfl rfl (by decide) (Nat.le_of_ble_eq_true rfl) (by decide) dX12_paper_13 (fun r73442 Y73443 h73444 => ?_)
    obtain ⟨rfl, h73444⟩ := h73444
    obtain ⟨h73444, hi73445⟩ := h73444
    have hi73445 : r73442.toInt = 0 ∨ (0 ≤ a3.toInt ∧ a3.toInt ≤ 5) := hi73445
    have h73444 : 0 ≤ r73442.toInt ∧ r73442.toInt ≤ 1 := h73444
    refine b_if_eq C 23 dX12_paper_16 (by decide) (fun h73446 => ?_) (fun h73446 => ?_)
    · have h73446 : r73442.toInt = 0 := congrArg Int32.toInt h73446
      clear hi73445
      exact J23 
    · have h73446 : r73442.toInt ≠ 0 := ti_ne h73446
      replace hi73445 := hi73445.resolve_left (by omega)
      refine g_iconst (v := 0) C dX12_paper_19 (by decide) ?_
      refine g_goto C 24 dX12_paper_20 (by decide) ?_
      exact J24 0 (by decide) (by show 0 ≠ 0 ∨ (0 ≤ a1.toInt ∧ a1.toInt ≤ 3 ∧ 0 ≤ a2.toInt ∧ a2.toInt ≤ 39); omega)
theorem dX12_peels_0 : decode cX12_peels 0 = .ok (.aload_n 0, 1) := by decide +kernel
theorem dX12_peels_1 : decode cX12_peels 1 = .ok (.iconst 0, 1) := by decide +kernel
theorem dX12_peels_2 : decode cX12_peels 2 = .ok (.putfield 1, 3) := by decide +kernel
theorem dX12_peels_5 : decode cX12_peels 5 = .ok (.aload_n 0, 1) := by decide +kernel
theorem dX12_peels_6 : decode cX12_peels 6 = .ok (.iload_n 1, 1) := by decide +kernel
theorem dX12_peels_7 : decode cX12_peels 7 = .ok (.iload_n 2, 1) := by decide +kernel
theorem dX12_peels_8 : decode cX12_peels 8 = .ok (.iload_n 3, 1) := by decide +kernel
theorem dX12_peels_9 : decode cX12_peels 9 = .ok (.invokevirtual 333, 3) := by decide +kernel
theorem dX12_peels_12 : decode cX12_peels 12 = .ok (.ifCond .eq 13, 3) := by decide +kernel
theorem dX12_peels_15 : decode cX12_peels 15 = .ok (.iload 4, 2) := by decide +kernel
theorem dX12_peels_17 : decode cX12_peels 17 = .ok (.iconst 0, 1) := by decide +kernel
theorem dX12_peels_18 : decode cX12_peels 18 = .ok (.iconst 3, 1) := by decide +kernel
theorem dX12_peels_19 : decode cX12_peels 19 = .ok (.invokestatic 178, 3) := by decide +kernel
theorem dX12_peels_22 : decode cX12_peels 22 = .ok (.ifCond .ne 5, 3) := by decide +kernel
theorem dX12_peels_25 : decode cX12_peels 25 = .ok (.iconst (-1), 1) := by decide +kernel
theorem dX12_peels_26 : decode cX12_peels 26 = .ok (.ireturn, 1) := by decide +kernel
theorem dX12_peels_27 : decode cX12_peels 27 = .ok (.aload_n 0, 1) := by decide +kernel
theorem dX12_peels_28 : decode cX12_peels 28 = .ok (.invokevirtual 336, 3) := by decide +kernel
theorem dX12_peels_31 : decode cX12_peels 31 = .ok (.aload_n 0, 1) := by decide +kernel
theorem dX12_peels_32 : decode cX12_peels 32 = .ok (.iload_n 1, 1) := by decide +kernel
theorem dX12_peels_33 : decode cX12_peels 33 = .ok (.iload_n 2, 1) := by decide +kernel
theorem dX12_peels_34 : decode cX12_peels 34 = .ok (.iload_n 3, 1) := by decide +kernel
theorem dX12_peels_35 : decode cX12_peels 35 = .ok (.aload_n 0, 1) := by decide +kernel
theorem dX12_peels_36 : decode cX12_peels 36 = .ok (.getfield 69, 3) := by decide +kernel
theorem dX12_peels_39 : decode cX12_peels 39 = .ok (.iload_n 1, 1) := by decide +kernel
theorem dX12_peels_40 : decode cX12_peels 40 = .ok (.iaload, 1) := by decide +kernel
theorem dX12_peels_41 : decode cX12_peels 41 = .ok (.invokevirtual 339, 3) := by decide +kernel
theorem dX12_peels_44 : decode cX12_peels 44 = .ok (.aload_n 0, 1) := by decide +kernel
theorem dX12_peels_45 : decode cX12_peels 45 = .ok (.invokevirtual 343, 3) := by decide +kernel
theorem dX12_peels_48 : decode cX12_peels 48 = .ok (.iload 4, 2) := by decide +kernel
theorem dX12_peels_50 : decode cX12_peels 50 = .ok (.ifCond .ne 8, 3) := by decide +kernel
theorem dX12_peels_53 : decode cX12_peels 53 = .ok (.aload_n 0, 1) := by decide +kernel
theorem dX12_peels_54 : decode cX12_peels 54 = .ok (.getfield 318, 3) := by decide +kernel
theorem dX12_peels_57 : decode cX12_peels 57 = .ok (.ireturn, 1) := by decide +kernel
theorem dX12_peels_58 : decode cX12_peels 58 = .ok (.iconst 0, 1) := by decide +kernel
theorem dX12_peels_59 : decode cX12_peels 59 = .ok (.istore 5, 2) := by decide +kernel
theorem dX12_peels_61 : decode cX12_peels 61 = .ok (.iconst 0, 1) := by decide +kernel
theorem dX12_peels_62 : decode cX12_peels 62 = .ok (.istore 6, 2) := by decide +kernel
theorem dX12_peels_64 : decode cX12_peels 64 = .ok (.iload 6, 2) := by decide +kernel
theorem dX12_peels_66 : decode cX12_peels 66 = .ok (.aload_n 0, 1) := by decide +kernel
theorem dX12_peels_67 : decode cX12_peels 67 = .ok (.getfield 305, 3) := by decide +kernel
theorem dX12_peels_70 : decode cX12_peels 70 = .ok (.if_icmp .ge 96, 3) := by decide +kernel
theorem dX12_peels_73 : decode cX12_peels 73 = .ok (.aload_n 0, 1) := by decide +kernel
theorem dX12_peels_74 : decode cX12_peels 74 = .ok (.getfield 91, 3) := by decide +kernel
theorem dX12_peels_77 : decode cX12_peels 77 = .ok (.iload 6, 2) := by decide +kernel
theorem dX12_peels_79 : decode cX12_peels 79 = .ok (.iaload, 1) := by decide +kernel
theorem dX12_peels_80 : decode cX12_peels 80 = .ok (.aload_n 0, 1) := by decide +kernel
theorem dX12_peels_81 : decode cX12_peels 81 = .ok (.getfield 318, 3) := by decide +kernel
theorem dX12_peels_84 : decode cX12_peels 84 = .ok (.iconst (-1), 1) := by decide +kernel
theorem dX12_peels_85 : decode cX12_peels 85 = .ok (.ixor, 1) := by decide +kernel
theorem dX12_peels_86 : decode cX12_peels 86 = .ok (.iand, 1) := by decide +kernel
theorem dX12_peels_87 : decode cX12_peels 87 = .ok (.invokestatic 264, 3) := by decide +kernel
theorem dX12_peels_90 : decode cX12_peels 90 = .ok (.istore 7, 2) := by decide +kernel
theorem dX12_peels_92 : decode cX12_peels 92 = .ok (.iload 5, 2) := by decide +kernel
theorem dX12_peels_94 : decode cX12_peels 94 = .ok (.iload 4, 2) := by decide +kernel
theorem dX12_peels_96 : decode cX12_peels 96 = .ok (.iconst 1, 1) := by decide +kernel
theorem dX12_peels_97 : decode cX12_peels 97 = .ok (.if_icmp .ne 25, 3) := by decide +kernel
theorem dX12_peels_100 : decode cX12_peels 100 = .ok (.iload 7, 2) := by decide +kernel
theorem dX12_peels_102 : decode cX12_peels 102 = .ok (.ifCond .ne 16, 3) := by decide +kernel
theorem dX12_peels_105 : decode cX12_peels 105 = .ok (.aload_n 0, 1) := by decide +kernel
theorem dX12_peels_106 : decode cX12_peels 106 = .ok (.iload 6, 2) := by decide +kernel
theorem dX12_peels_108 : decode cX12_peels 108 = .ok (.invokevirtual 321, 3) := by decide +kernel
theorem dX12_peels_111 : decode cX12_peels 111 = .ok (.ifCond .eq 7, 3) := by decide +kernel
theorem dX12_peels_114 : decode cX12_peels 114 = .ok (.iconst 1, 1) := by decide +kernel
theorem dX12_peels_115 : decode cX12_peels 115 = .ok (.goto 42, 3) := by decide +kernel
theorem dX12_peels_118 : decode cX12_peels 118 = .ok (.iconst 0, 1) := by decide +kernel
theorem dX12_peels_119 : decode cX12_peels 119 = .ok (.goto 38, 3) := by decide +kernel
theorem dX12_peels_122 : decode cX12_peels 122 = .ok (.iload 4, 2) := by decide +kernel
theorem dX12_peels_124 : decode cX12_peels 124 = .ok (.iconst 2, 1) := by decide +kernel
theorem dX12_peels_125 : decode cX12_peels 125 = .ok (.if_icmp .ne 21, 3) := by decide +kernel
theorem dX12_peels_128 : decode cX12_peels 128 = .ok (.aload_n 0, 1) := by decide +kernel
theorem dX12_peels_129 : decode cX12_peels 129 = .ok (.getfield 91, 3) := by decide +kernel
theorem dX12_peels_132 : decode cX12_peels 132 = .ok (.iload 6, 2) := by decide +kernel
theorem dX12_peels_134 : decode cX12_peels 134 = .ok (.iaload, 1) := by decide +kernel
theorem dX12_peels_135 : decode cX12_peels 135 = .ok (.aload_n 0, 1) := by decide +kernel
theorem dX12_peels_136 : decode cX12_peels 136 = .ok (.getfield 318, 3) := by decide +kernel
theorem dX12_peels_139 : decode cX12_peels 139 = .ok (.iand, 1) := by decide +kernel
theorem dX12_peels_140 : decode cX12_peels 140 = .ok (.invokestatic 264, 3) := by decide +kernel
theorem dX12_peels_143 : decode cX12_peels 143 = .ok (.goto 14, 3) := by decide +kernel
theorem dX12_peels_146 : decode cX12_peels 146 = .ok (.iload 7, 2) := by decide +kernel
theorem dX12_peels_148 : decode cX12_peels 148 = .ok (.iconst 1, 1) := by decide +kernel
theorem dX12_peels_149 : decode cX12_peels 149 = .ok (.if_icmp .le 7, 3) := by decide +kernel
theorem dX12_peels_152 : decode cX12_peels 152 = .ok (.iconst 1, 1) := by decide +kernel
theorem dX12_peels_153 : decode cX12_peels 153 = .ok (.goto 4, 3) := by decide +kernel
theorem dX12_peels_156 : decode cX12_peels 156 = .ok (.iconst 0, 1) := by decide +kernel
theorem dX12_peels_157 : decode cX12_peels 157 = .ok (.iadd, 1) := by decide +kernel
theorem dX12_peels_158 : decode cX12_peels 158 = .ok (.istore 5, 2) := by decide +kernel
theorem dX12_peels_160 : decode cX12_peels 160 = .ok (.iinc 6 1, 3) := by decide +kernel
theorem dX12_peels_163 : decode cX12_peels 163 = .ok (.goto (-99), 3) := by decide +kernel
theorem dX12_peels_166 : decode cX12_peels 166 = .ok (.iload 4, 2) := by decide +kernel
theorem dX12_peels_168 : decode cX12_peels 168 = .ok (.iconst 2, 1) := by decide +kernel
theorem dX12_peels_169 : decode cX12_peels 169 = .ok (.if_icmp .ne 16, 3) := by decide +kernel
theorem dX12_peels_172 : decode cX12_peels 172 = .ok (.iload 5, 2) := by decide +kernel
theorem dX12_peels_174 : decode cX12_peels 174 = .ok (.aload_n 0, 1) := by decide +kernel
theorem dX12_peels_175 : decode cX12_peels 175 = .ok (.getfield 318, 3) := by decide +kernel
theorem dX12_peels_178 : decode cX12_peels 178 = .ok (.invokestatic 264, 3) := by decide +kernel
theorem dX12_peels_181 : decode cX12_peels 181 = .ok (.isub, 1) := by decide +kernel
theorem dX12_peels_182 : decode cX12_peels 182 = .ok (.goto 5, 3) := by decide +kernel
theorem dX12_peels_185 : decode cX12_peels 185 = .ok (.iload 5, 2) := by decide +kernel
theorem dX12_peels_187 : decode cX12_peels 187 = .ok (.ireturn, 1) := by decide +kernel
set_option maxHeartbeats 4000000 in
set_option maxRecDepth 100000 in
theorem s_X12_peels {P : PP} {a0 : Nat} {a1 : Int32} {a2 : Int32} {a3 : Int32} {a4 : Int32} (I : IM P a0) (hW : MW P a0) : CtrI yX12_peels cX12_peels 8 (some Jvm.ClassFile.FieldType.int) ({ frames := 5, cells := 0, slots := 0, locals := 320 } : Room) 0 0 P [.ref a0, .int a1, .int a2, .int a3, .int a4] (fun r P2 => IM P2 a0 ∧ EM [0, 28, 29, 30, 31, 32, 33, 34] a0 P P2 ∧ MW P2 a0 ∧ (True)) := by
  refine enI (lv := [(0, .ref a0), (1, .int a1), (2, .int a2), (3, .int a3), (4, .int a4)]) (by decide) (Nat.le_of_ble_eq_true rfl) rfl (fun E D cy C Ci0 ret => ?_)
  have ha0 := I.2.1
  have J64 : ∀ (n64 : Nat) (P64 : PP) (v64_5 : Int32) (v64_6 : Int32), (44 - v64_6.toInt).toNat < n64 → (IM P64 a0) → (EM [0, 28, 29, 30, 31, 32, 33, 34] a0 P P64) → (MW P64 a0) → (1 ≤ a4.toInt ∧ a4.toInt ≤ 3) → (0 ≤ v64_6.toInt ∧ v64_6.toInt ≤ 44) → (0 ≤ (pI P64 a0 0).toInt ∧ (pI P64 a0 0).toInt ≤ 0) → (0 ≤ (pI P64 a0 28).toInt ∧ (pI P64 a0 28).toInt ≤ 44) → (∀ b, pR P64 a0 10 = some b → 1 ≤ (pI P64 b (a2.toInt.toNat)).toInt ∧ (pI P64 b (a2.toInt.toNat)).toInt ≤ 16) → G E ({ frames := 5, cells := 0, slots := 0, locals := 320 } : Room) D cy 8 P64 0 0 64 [(0, .ref a0), (4, .int a4), (5, .int v64_5), (6, .int v64_6)] [] := by
    intro n64
    induction n64 with
    | zero => intro P64 v64_5 v64_6 hm64 I64 X64 W64 hv64_4 hv64_6 hq64_0 hq64_1 hq64_2; omega
    | succ n64 ih64 =>
      intro P64 v64_5 v64_6 hm64 I64 X64 W64 hv64_4 hv64_6 hq64_0 hq64_1 hq64_2
      have h74370 := X64.at ha0
      obtain ⟨b74371, e74372, h74373⟩ := I64.fld (h74370) 10 13 2 rfl
      have hq64_2 := hq64_2 b74371 e74372
      have J157 : ∀ (v157_s0 : Int32), (1 ≤ a4.toInt ∧ a4.toInt ≤ 3) → (0 ≤ v64_6.toInt ∧ v64_6.toInt ≤ 43) → (0 ≤ v157_s0.toInt ∧ v157_s0.toInt ≤ 20) → (0 ≤ (pI P64 a0 0).toInt ∧ (pI P64 a0 0).toInt ≤ 0) → (1 ≤ (pI P64 a0 28).toInt ∧ (pI P64 a0 28).toInt ≤ 44) → (∀ b, pR P64 a0 10 = some b → 1 ≤ (pI P64 b (a2.toInt.toNat)).toInt ∧ (pI P64 b (a2.toInt.toNat)).toInt ≤ 16) → G E ({ frames := 5, cells := 0, slots := 0, locals := 320 } : Room) D cy 8 P64 0 0 157 [(0, .ref a0), (4, .int a4), (6, .int v64_6)] [.int v157_s0, .int v64_5] := by
        intro v157_s0 hv157_4 hv157_6 hv157_s0 hq157_0 hq157_1 hq157_2
        have h74374 := X64.at ha0
        obtain ⟨b74375, e74376, h74377⟩ := I64.fld (h74374) 10 13 2 rfl
        have hq157_2 := hq157_2 b74375 e74376
        refine a_iadd C dX12_peels_157 (fun z74378 => ?_)
        refine g_istore (lv' := [(5, .int z74378), (0, .ref a0), (4, .int a4), (6, .int v64_6)]) C dX12_peels_158 (by decide) rfl ?_
        refine s_iinc (lv0 := [(5, .int z74378), (0, .ref a0), (4, .int a4)]) (m := 1) C dX12_peels_160 3 rfl (by decide) rfl (by decide) (by omega) (fun z74380 h74381 => ?_)
        have h74381 : z74380.toInt = v64_6.toInt + 1 := h74381
        refine g_goto C 64 dX12_peels_163 (by decide) ?_
        refine g_lv (lv' := [(0, .ref a0), (4, .int a4), (5, .int z74378), (6, .int z74380)]) [2, 3, 1, 0] rfl ?_
        exact ih64 P64 z74378 z74380 (by omega) I64 X64 W64 (by omega) (by omega) (by omega) (by omega) (fun b9 e9 => by rw [e74376] at e9; cases e9; omega)
      have J118 : (1 ≤ a4.toInt ∧ a4.toInt ≤ 1) → (0 ≤ v64_6.toInt ∧ v64_6.toInt ≤ 43) → (0 ≤ (pI P64 a0 0).toInt ∧ (pI P64 a0 0).toInt ≤ 0) → (1 ≤ (pI P64 a0 28).toInt ∧ (pI P64 a0 28).toInt ≤ 44) → (∀ b, pR P64 a0 10 = some b → 1 ≤ (pI P64 b (a2.toInt.toNat)).toInt ∧ (pI P64 b (a2.toInt.toNat)).toInt ≤ 16) → G E ({ frames := 5, cells := 0, slots := 0, locals := 320 } : Room) D cy 8 P64 0 0 118 [(0, .ref a0), (4, .int a4), (6, .int v64_6)] [.int v64_5] := by
        intro hv118_4 hv118_6 hq118_0 hq118_1 hq118_2
        have h74382 := X64.at ha0
        obtain ⟨b74383, e74384, h74385⟩ := I64.fld (h74382) 10 13 2 rfl
        have hq118_2 := hq118_2 b74383 e74384
        refine g_iconst (v := 0) C dX12_peels_118 (by decide) ?_
        refine g_goto C 157 dX12_peels_119 (by decide) ?_
        exact J157 0 (by omega) (by omega) (by decide) (by omega) (by omega) (fun b9 e9 => by rw [e74384] at e9; cases e9; omega)
      refine g_iload C dX12_peels_64 3 rfl ?_
      refine g_aload_n C dX12_peels_66 rfl 0 rfl ?_
      refine g_getI C fi_X12_305 (by decide) (h74370).1 (h74370).2 dX12_peels_67 ?_
      refine b_icmp_ge C 166 dX12_peels_70 (by decide) (fun h74386 => ?_) (fun h74386 => ?_)
      · have h74386 : (pI P64 a0 28).toInt ≤ v64_6.toInt := h74386
        refine g_iload C dX12_peels_166 1 rfl ?_
        refine g_iconst (v := 2) C dX12_peels_168 (by decide) ?_
        refine b_icmp_ne C 185 dX12_peels_169 (by decide) (fun h74387 => ?_) (fun h74387 => ?_)
        · have h74387 : a4.toInt ≠ 2 := ti_ne h74387
          refine g_iload C dX12_peels_185 2 rfl ?_
          exact ret _ _ _ _ _ _ dX12_peels_187 rfl (by decide) (by decide) ⟨I64, X64, W64, trivial⟩
        · have h74387 : a4.toInt = 2 := congrArg Int32.toInt h74387
          refine g_iload C dX12_peels_172 2 rfl ?_
          refine g_aload_n C dX12_peels_174 rfl 0 rfl ?_
          refine g_getI C fi_X12_318 (by decide) (h74370).1 (h74370).2 dX12_peels_175 ?_
          refine g_callSI (b := 0) (ci := 0) (rest := [.int v64_5]) C ms_X12_264 [.int (pI P64 a0 33)] (s_X12_bits I64.1) rfl rfl (by decide) (Nat.le_of_ble_eq_true rfl) (by decide) dX12_peels_178 (fun r74388 Y74389 h74390 => ?_)
          obtain ⟨rfl, h74390⟩ := h74390
          obtain ⟨h74390, hi74391⟩ := h74390
          have hi74391 : r74388.toInt = 0 ∨ (pI P64 a0 33).toInt ≠ 0 := hi74391
          have h74390 : 0 ≤ r74388.toInt ∧ r74388.toInt ≤ 20 := h74390
          refine a_isub C dX12_peels_181 (fun z74392 => ?_)
          refine g_goto C 187 dX12_peels_182 (by decide) ?_
          exact ret _ _ _ _ _ _ dX12_peels_187 rfl (by decide) (by decide) ⟨I64, X64, W64, trivial⟩
      · have h74386 : v64_6.toInt < (pI P64 a0 28).toInt := h74386
        refine g_aload_n C dX12_peels_73 rfl 0 rfl ?_
        obtain ⟨b74394, e74395, h74396⟩ := I64.fld (h74370) 29 13 64 rfl
        refine g_getR C fi_X12_91 rfl e74395 (h74370).1 (h74370).2 dX12_peels_74 ?_
        refine g_iload C dX12_peels_77 3 rfl ?_
        refine g_iald (j := (v64_6.toInt.toNat)) C h74396.1 h74396.2.1 (ix_in h74396.2.2 (by omega)) dX12_peels_79 ?_
        refine g_aload_n C dX12_peels_80 rfl 0 rfl ?_
        refine g_getI C fi_X12_318 (by decide) (h74370).1 (h74370).2 dX12_peels_81 ?_
        refine g_iconst (v := (-1)) C dX12_peels_84 (by decide) ?_
        refine a_ixor C dX12_peels_85 (fun z74397 => ?_)
        refine a_iand C dX12_peels_86 (fun z74399 => ?_)
        refine g_callSI (b := 0) (ci := 0) (rest := []) C ms_X12_264 [.int z74399] (s_X12_bits I64.1) rfl rfl (by decide) (Nat.le_of_ble_eq_true rfl) (by decide) dX12_peels_87 (fun r74401 Y74402 h74403 => ?_)
        obtain ⟨rfl, h74403⟩ := h74403
        obtain ⟨h74403, hi74404⟩ := h74403
        have hi74404 : r74401.toInt = 0 ∨ z74399.toInt ≠ 0 := hi74404
        have h74403 : 0 ≤ r74401.toInt ∧ r74401.toInt ≤ 20 := h74403
        refine g_istore (lv' := [(7, .int r74401), (0, .ref a0), (4, .int a4), (5, .int v64_5), (6, .int v64_6)]) C dX12_peels_90 (by decide) rfl ?_
        refine g_iload C dX12_peels_92 3 rfl ?_
        refine g_iload C dX12_peels_94 2 rfl ?_
        refine g_iconst (v := 1) C dX12_peels_96 (by decide) ?_
        refine b_icmp_ne C 122 dX12_peels_97 (by decide) (fun h74405 => ?_) (fun h74405 => ?_)
        · have h74405 : a4.toInt ≠ 1 := ti_ne h74405
          refine g_iload C dX12_peels_122 2 rfl ?_
          refine g_iconst (v := 2) C dX12_peels_124 (by decide) ?_
          refine b_icmp_ne C 146 dX12_peels_125 (by decide) (fun h74406 => ?_) (fun h74406 => ?_)
          · have h74406 : a4.toInt ≠ 2 := ti_ne h74406
            refine g_iload C dX12_peels_146 0 rfl ?_
            refine g_iconst (v := 1) C dX12_peels_148 (by decide) ?_
            refine b_icmp_le C 156 dX12_peels_149 (by decide) (fun h74407 => ?_) (fun h74407 => ?_)
            · have h74407 : r74401.toInt ≤ 1 := h74407
              refine g_iconst (v := 0) C dX12_peels_156 (by decide) ?_
              refine g_lv (lv' := [(0, .ref a0), (4, .int a4), (6, .int v64_6)]) [1, 2, 4] rfl ?_
              exact J157 0 (by omega) (by omega) (by decide) (by omega) (by omega) (fun b9 e9 => by rw [e74372] at e9; cases e9; omega)
            · have h74407 : 1 < r74401.toInt := h74407
              refine g_iconst (v := 1) C dX12_peels_152 (by decide) ?_
              refine g_goto C 157 dX12_peels_153 (by decide) ?_
              refine g_lv (lv' := [(0, .ref a0), (4, .int a4), (6, .int v64_6)]) [1, 2, 4] rfl ?_
              exact J157 1 (by omega) (by omega) (by decide) (by omega) (by omega) (fun b9 e9 => by rw [e74372] at e9; cases e9; omega)
          · have h74406 : a4.toInt = 2 := congrArg Int32.toInt h74406
            refine g_aload_n C dX12_peels_128 rfl 1 rfl ?_
            refine g_getR C fi_X12_91 rfl e74395 (h74370).1 (h74370).2 dX12_peels_129 ?_
            refine g_iload C dX12_peels_132 4 rfl ?_
            refine g_iald (j := (v64_6.toInt.toNat)) C h74396.1 h74396.2.1 (ix_in h74396.2.2 (by omega)) dX12_peels_134 ?_
            refine g_aload_n C dX12_peels_135 rfl 1 rfl ?_
            refine g_getI C fi_X12_318 (by decide) (h74370).1 (h74370).2 dX12_peels_136 ?_
            refine a_iand C dX12_peels_139 (fun z74408 => ?_)
            refine g_callSI (b := 0) (ci := 0) (rest := [.int v64_5]) C ms_X12_264 [.int z74408] (s_X12_bits I64.1) rfl rfl (by decide) (Nat.le_of_ble_eq_true rfl) (by decide) dX12_peels_140 (fun r74410 Y74411 h74412 => ?_)
            obtain ⟨rfl, h74412⟩ := h74412
            obtain ⟨h74412, hi74413⟩ := h74412
            have hi74413 : r74410.toInt = 0 ∨ z74408.toInt ≠ 0 := hi74413
            have h74412 : 0 ≤ r74410.toInt ∧ r74410.toInt ≤ 20 := h74412
            refine g_goto C 157 dX12_peels_143 (by decide) ?_
            refine g_lv (lv' := [(0, .ref a0), (4, .int a4), (6, .int v64_6)]) [1, 2, 4] rfl ?_
            exact J157 r74410 (by omega) (by omega) (by omega) (by omega) (by omega) (fun b9 e9 => by rw [e74372] at e9; cases e9; omega)
        · have h74405 : a4.toInt = 1 := congrArg Int32.toInt h74405
          refine g_iload C dX12_peels_100 0 rfl ?_
          refine b_if_ne C 118 dX12_peels_102 (by decide) (fun h74414 => ?_) (fun h74414 => ?_)
          · have h74414 : r74401.toInt ≠ 0 := ti_ne h74414
            refine g_lv (lv' := [(0, .ref a0), (4, .int a4), (6, .int v64_6)]) [1, 2, 4] rfl ?_
            exact J118 (by omega) (by omega) (by omega) (by omega) (fun b9 e9 => by rw [e74372] at e9; cases e9; omega)
          · have h74414 : r74401.toInt = 0 := congrArg Int32.toInt h74414
            refine g_aload_n C dX12_peels_105 rfl 1 rfl ?_
            refine g_iload C dX12_peels_106 4 rfl ?_
            refine g_callVI (rest := [.int v64_5]) C mv_X12_321 [.int v64_6] (s_X12_comesTo I64 (by omega) W64) (h74370).1 (h74370).2 rfl rfl (by decide) (Nat.le_of_ble_eq_true rfl) (by decide) dX12_peels_108 (fun r74415 Y74416 h74417 => ?_)
            obtain ⟨rfl, h74417⟩ := h74417
            have h74417 : True := h74417
            have u74419 := ti_rng r74415
            refine b_if_eq C 118 dX12_peels_111 (by decide) (fun h74418 => ?_) (fun h74418 => ?_)
            · have h74418 : r74415.toInt = 0 := congrArg Int32.toInt h74418
              refine g_lv (lv' := [(0, .ref a0), (4, .int a4), (6, .int v64_6)]) [1, 2, 4] rfl ?_
              exact J118 (by omega) (by omega) (by omega) (by omega) (fun b9 e9 => by rw [e74372] at e9; cases e9; omega)
            · have h74418 : r74415.toInt ≠ 0 := ti_ne h74418
              refine g_iconst (v := 1) C dX12_peels_114 (by decide) ?_
              refine g_goto C 157 dX12_peels_115 (by decide) ?_
              refine g_lv (lv' := [(0, .ref a0), (4, .int a4), (6, .int v64_6)]) [1, 2, 4] rfl ?_
              exact J157 1 (by omega) (by omega) (by decide) (by omega) (by omega) (fun b9 e9 => by rw [e74372] at e9; cases e9; omega)
  have J25 : ∀ (P25 : PP), (IM P25 a0) → (EM [0, 28, 29, 30, 31, 32, 33, 34] a0 P P25) → (MW P25 a0) → (0 ≤ (pI P25 a0 0).toInt ∧ (pI P25 a0 0).toInt ≤ 0) → G E ({ frames := 5, cells := 0, slots := 0, locals := 320 } : Room) D cy 8 P25 0 0 25 [] [] := by
    intro P25 I25 X25 W25 hq25_0
    have h74420 := X25.at ha0
    refine g_iconst (v := (-1)) C dX12_peels_25 (by decide) ?_
    exact ret _ _ _ _ _ _ dX12_peels_26 rfl (by decide) (by decide) ⟨I25, X25, W25, trivial⟩
  refine g_aload_n C dX12_peels_0 rfl 0 rfl ?_
  refine g_iconst (v := 0) C dX12_peels_1 (by decide) ?_
  refine g_putI C fi_X12_1 rfl (ha0).1 (ha0).2 dX12_peels_2 ?_
  refine gqW (ks := [0]) (I.setI (rgOk.of rfl (by decide))) (EM.setI I (by decide)) (fun Y74421 Iy74422 Xy74423 w74424 => ?_)
  have w74424 : (pI Y74421 a0 0).toInt = 0 := w74424
  have W74425 := hW.keep I Xy74423 (by decide) (by decide) (by decide)
  have Xz74426 : EM [0, 28, 29, 30, 31, 32, 33, 34] a0 P Y74421 := Xy74423.mono (by decide)
  have h74427 := Xy74423.at ha0
  refine g_aload_n C dX12_peels_5 rfl 0 rfl ?_
  refine g_iload_n C dX12_peels_6 rfl 1 rfl ?_
  refine g_iload_n C dX12_peels_7 rfl 2 rfl ?_
  refine g_iload_n C dX12_peels_8 rfl 3 rfl ?_
  refine g_callVI (rest := []) C mv_X12_333 [.int a1, .int a2, .int a3] (s_X12_isAsked Iy74422 W74425) (h74427).1 (h74427).2 rfl rfl (by decide) (Nat.le_of_ble_eq_true rfl) (by decide) dX12_peels_9 (fun r74428 Y74429 h74430 => ?_)
  obtain ⟨rfl, h74430⟩ := h74430
  obtain ⟨h74430, hi74431, hi74432⟩ := h74430
  have hi74431 : r74428.toInt = 0 ∨ (((0 : Int) ≤ a1.toInt ∧ a1.toInt ≤ (3 : Int)) ∧ ((0 : Int) ≤ a2.toInt ∧ a2.toInt ≤ (1 : Int)) ∧ ((0 : Int) ≤ a3.toInt ∧ a3.toInt ≤ (1 : Int))) := hi74431
  have h74430 : 0 ≤ r74428.toInt ∧ r74428.toInt ≤ 1 := h74430
  refine b_if_eq C 25 dX12_peels_12 (by decide) (fun h74433 => ?_) (fun h74433 => ?_)
  · have h74433 : r74428.toInt = 0 := congrArg Int32.toInt h74433
    clear hi74431
    refine g_lv (lv' := []) [] rfl ?_
    exact J25 Y74421 Iy74422 Xz74426 W74425 (by omega)
  · have h74433 : r74428.toInt ≠ 0 := ti_ne h74433
    replace hi74431 := hi74431.resolve_left (by omega)
    obtain ⟨b74434, e74435, h74436⟩ := Iy74422.fld (h74427) 10 13 2 rfl
    have hi74432 := (hi74432.resolve_left (by omega)) b74434 e74435
    have hi74432 : 0 < (pI Y74421 b74434 (a2.toInt.toNat)).toInt := hi74432
    have h74437 := Iy74422.arr e74435 rfl (a2.toInt.toNat)
    refine g_iload C dX12_peels_15 4 rfl ?_
    refine g_iconst (v := 0) C dX12_peels_17 (by decide) ?_
    refine g_iconst (v := 3) C dX12_peels_18 (by decide) ?_
    refine g_callSI (b := 0) (ci := 0) (rest := []) C ms_X12_178 [.int a4, .int 0, .int 3] (s_X12_within Iy74422.1) rfl rfl (by decide) (Nat.le_of_ble_eq_true rfl) (by decide) dX12_peels_19 (fun r74438 Y74439 h74440 => ?_)
    obtain ⟨rfl, h74440⟩ := h74440
    obtain ⟨h74440, hi74441⟩ := h74440
    have hi74441 : r74438.toInt = 0 ∨ (0 ≤ a4.toInt ∧ a4.toInt ≤ 3) := hi74441
    have h74440 : 0 ≤ r74438.toInt ∧ r74438.toInt ≤ 1 := h74440
    refine b_if_ne C 27 dX12_peels_22 (by decide) (fun h74442 => ?_) (fun h74442 => ?_)
    · have h74442 : r74438.toInt ≠ 0 := ti_ne h74442
      replace hi74441 := hi74441.resolve_left (by omega)
      refine g_aload_n C dX12_peels_27 rfl 0 rfl ?_
      refine g_callVV (rest := []) C mv_X12_336 [] (s_X12_leavesNone Iy74422 W74425) (h74427).1 (h74427).2 rfl rfl (by decide) (Nat.le_of_ble_eq_true rfl) (by decide) dX12_peels_28 (fun Y74444 h74445 => ?_)
      obtain ⟨Iy74446, Xy74447, W74448⟩ := h74445
      have q74449 := Xy74447.keepF 0 (by decide)
      have q74450 := Xy74447.keepA e74435 (by decide) rfl (a2.toInt.toNat)
      have Xz74451 : EM [0, 28, 29, 30, 31, 32, 33, 34] a0 P Y74444 := EM.tr ha0 Xz74426 (Xy74447.mono (by decide))
      have e74452 := Xy74447.ref h74427 (by decide) e74435
      have h74453 := Xy74447.at h74427
      have h74454 := Xy74447.ar h74436
      refine g_aload_n C dX12_peels_31 rfl 0 rfl ?_
      refine g_iload_n C dX12_peels_32 rfl 1 rfl ?_
      refine g_iload_n C dX12_peels_33 rfl 2 rfl ?_
      refine g_iload_n C dX12_peels_34 rfl 3 rfl ?_
      refine g_aload_n C dX12_peels_35 rfl 0 rfl ?_
      obtain ⟨b74455, e74456, h74457⟩ := Iy74446.fld (h74453) 20 13 20 rfl
      refine g_getR C fi_X12_69 rfl e74456 (h74453).1 (h74453).2 dX12_peels_36 ?_
      refine g_iload_n C dX12_peels_39 rfl 1 rfl ?_
      refine g_iald (j := (a1.toInt.toNat)) C h74457.1 h74457.2.1 (ix_in h74457.2.2 (by omega)) dX12_peels_40 ?_
      have h74458 := Iy74446.arr e74456 rfl (a1.toInt.toNat)
      refine g_callVV (rest := []) C mv_X12_339 [.int a1, .int a2, .int a3, .int (pI Y74444 b74455 (a1.toInt.toNat))] (s_X12_gathers Iy74446 (by omega) (by omega) (by omega) (fun b9 e9 => by rw [e74452] at e9; cases e9; show 1 ≤ (pI Y74444 b74434 (a2.toInt.toNat)).toInt ∧ (pI Y74444 b74434 (a2.toInt.toNat)).toInt ≤ 16; omega) W74448) (h74453).1 (h74453).2 rfl rfl (by decide) (Nat.le_of_ble_eq_true rfl) (by decide) dX12_peels_41 (fun Y74460 h74461 => ?_)
      obtain ⟨Iy74462, Xy74463, W74464, p74465⟩ := h74461
      have p74465 : (pI Y74460 a0 28).toInt ≤ 4 + (pI Y74444 b74455 (a1.toInt.toNat)).toInt := p74465
      have q74466 := Xy74463.keepF 0 (by decide)
      have q74467 := Xy74463.keepA e74452 (by decide) rfl (a2.toInt.toNat)
      have q74468 := Xy74463.keepA e74456 (by decide) rfl (a1.toInt.toNat)
      have Xz74469 : EM [0, 28, 29, 30, 31, 32, 33, 34] a0 P Y74460 := EM.tr ha0 Xz74451 (Xy74463.mono (by decide))
      have e74470 := Xy74463.ref h74453 (by decide) e74452
      have e74471 := Xy74463.ref h74453 (by decide) e74456
      have h74472 := Xy74463.at h74453
      have h74473 := Xy74463.ar h74454
      have h74474 := Xy74463.ar h74457
      have h74475 := Iy74462.rg h74472 28 rfl
      refine g_aload_n C dX12_peels_44 rfl 0 rfl ?_
      refine g_callVV (rest := []) C mv_X12_343 [] (s_X12_findPeeled Iy74462 W74464) (h74472).1 (h74472).2 rfl rfl (by decide) (Nat.le_of_ble_eq_true rfl) (by decide) dX12_peels_45 (fun Y74477 h74478 => ?_)
      obtain ⟨Iy74479, Xy74480, W74481⟩ := h74478
      have q74482 := Xy74480.keepF 0 (by decide)
      have q74483 := Xy74480.keepA e74470 (by decide) rfl (a2.toInt.toNat)
      have q74484 := Xy74480.keepA e74471 (by decide) rfl (a1.toInt.toNat)
      have q74485 := Xy74480.keepF 28 (by decide)
      have Xz74486 : EM [0, 28, 29, 30, 31, 32, 33, 34] a0 P Y74477 := EM.tr ha0 Xz74469 (Xy74480.mono (by decide))
      have e74487 := Xy74480.ref h74472 (by decide) e74470
      have e74488 := Xy74480.ref h74472 (by decide) e74471
      have h74489 := Xy74480.at h74472
      have h74490 := Xy74480.ar h74473
      have h74491 := Xy74480.ar h74474
      refine g_iload C dX12_peels_48 4 rfl ?_
      refine b_if_ne C 58 dX12_peels_50 (by decide) (fun h74492 => ?_) (fun h74492 => ?_)
      · have h74492 : a4.toInt ≠ 0 := ti_ne h74492
        refine g_iconst (v := 0) C dX12_peels_58 (by decide) ?_
        refine g_istore (lv' := [(5, .int 0), (0, .ref a0), (1, .int a1), (2, .int a2), (3, .int a3), (4, .int a4)]) C dX12_peels_59 (by decide) rfl ?_
        refine g_iconst (v := 0) C dX12_peels_61 (by decide) ?_
        refine g_istore (lv' := [(6, .int 0), (5, .int 0), (0, .ref a0), (1, .int a1), (2, .int a2), (3, .int a3), (4, .int a4)]) C dX12_peels_62 (by decide) rfl ?_
        refine g_lv (lv' := [(0, .ref a0), (4, .int a4), (5, .int 0), (6, .int 0)]) [2, 6, 1, 0] rfl ?_
        exact J64 _ Y74477 0 0 (Nat.lt_succ_self _) Iy74479 Xz74486 W74481 (by omega) (by decide) (by omega) (by omega) (fun b9 e9 => by rw [e74487] at e9; cases e9; omega)
      · have h74492 : a4.toInt = 0 := congrArg Int32.toInt h74492
        refine g_aload_n C dX12_peels_53 rfl 0 rfl ?_
        refine g_getI C fi_X12_318 (by decide) (h74489).1 (h74489).2 dX12_peels_54 ?_
        exact ret _ _ _ _ _ _ dX12_peels_57 rfl (by decide) (by decide) ⟨Iy74479, Xz74486, W74481, trivial⟩
    · have h74442 : r74438.toInt = 0 := congrArg Int32.toInt h74442
      clear hi74441
      refine g_lv (lv' := []) [] rfl ?_
      exact J25 Y74421 Iy74422 Xz74426 W74425 (by omega)
theorem dX12_quarter_0 : decode cX12_quarter 0 = .ok (.aload_n 0, 1) := by decide +kernel
theorem dX12_quarter_1 : decode cX12_quarter 1 = .ok (.iconst 0, 1) := by decide +kernel
theorem dX12_quarter_2 : decode cX12_quarter 2 = .ok (.putfield 1, 3) := by decide +kernel
theorem dX12_quarter_5 : decode cX12_quarter 5 = .ok (.iload_n 1, 1) := by decide +kernel
theorem dX12_quarter_6 : decode cX12_quarter 6 = .ok (.invokestatic 278, 3) := by decide +kernel
theorem dX12_quarter_9 : decode cX12_quarter 9 = .ok (.ifCond .eq 24, 3) := by decide +kernel
theorem dX12_quarter_12 : decode cX12_quarter 12 = .ok (.iload_n 2, 1) := by decide +kernel
theorem dX12_quarter_13 : decode cX12_quarter 13 = .ok (.iconst 0, 1) := by decide +kernel
theorem dX12_quarter_14 : decode cX12_quarter 14 = .ok (.bipush 100, 2) := by decide +kernel
theorem dX12_quarter_16 : decode cX12_quarter 16 = .ok (.invokestatic 178, 3) := by decide +kernel
theorem dX12_quarter_19 : decode cX12_quarter 19 = .ok (.ifCond .eq 14, 3) := by decide +kernel
theorem dX12_quarter_22 : decode cX12_quarter 22 = .ok (.iload_n 3, 1) := by decide +kernel
theorem dX12_quarter_23 : decode cX12_quarter 23 = .ok (.iconst 0, 1) := by decide +kernel
theorem dX12_quarter_24 : decode cX12_quarter 24 = .ok (.sipush 999, 3) := by decide +kernel
theorem dX12_quarter_27 : decode cX12_quarter 27 = .ok (.invokestatic 178, 3) := by decide +kernel
theorem dX12_quarter_30 : decode cX12_quarter 30 = .ok (.ifCond .ne 5, 3) := by decide +kernel
theorem dX12_quarter_33 : decode cX12_quarter 33 = .ok (.iconst 0, 1) := by decide +kernel
theorem dX12_quarter_34 : decode cX12_quarter 34 = .ok (.ireturn, 1) := by decide +kernel
theorem dX12_quarter_35 : decode cX12_quarter 35 = .ok (.aload_n 0, 1) := by decide +kernel
theorem dX12_quarter_36 : decode cX12_quarter 36 = .ok (.getfield 127, 3) := by decide +kernel
theorem dX12_quarter_39 : decode cX12_quarter 39 = .ok (.iload_n 1, 1) := by decide +kernel
theorem dX12_quarter_40 : decode cX12_quarter 40 = .ok (.iload_n 2, 1) := by decide +kernel
theorem dX12_quarter_41 : decode cX12_quarter 41 = .ok (.iastore, 1) := by decide +kernel
theorem dX12_quarter_42 : decode cX12_quarter 42 = .ok (.aload_n 0, 1) := by decide +kernel
theorem dX12_quarter_43 : decode cX12_quarter 43 = .ok (.getfield 130, 3) := by decide +kernel
theorem dX12_quarter_46 : decode cX12_quarter 46 = .ok (.iload_n 1, 1) := by decide +kernel
theorem dX12_quarter_47 : decode cX12_quarter 47 = .ok (.iload_n 3, 1) := by decide +kernel
theorem dX12_quarter_48 : decode cX12_quarter 48 = .ok (.iastore, 1) := by decide +kernel
theorem dX12_quarter_49 : decode cX12_quarter 49 = .ok (.iconst 1, 1) := by decide +kernel
theorem dX12_quarter_50 : decode cX12_quarter 50 = .ok (.ireturn, 1) := by decide +kernel
set_option maxHeartbeats 4000000 in
set_option maxRecDepth 100000 in
theorem s_X12_quarter {P : PP} {a0 : Nat} {a1 : Int32} {a2 : Int32} {a3 : Int32} (I : IM P a0) (hW : MW P a0) : CtrI yX12_quarter cX12_quarter 4 (some Jvm.ClassFile.FieldType.boolean) ({ frames := 3, cells := 0, slots := 0, locals := 192 } : Room) 0 0 P [.ref a0, .int a1, .int a2, .int a3] (fun r P2 => IM P2 a0 ∧ EM [0, 45, 46] a0 P P2 ∧ MW P2 a0 ∧ (0 ≤ r.toInt ∧ r.toInt ≤ 1) ∧ (r.toInt = 0 ∨ (((0 : Int) ≤ a1.toInt ∧ a1.toInt ≤ (3 : Int)) ∧ ((0 : Int) ≤ a2.toInt ∧ a2.toInt ≤ (100 : Int)) ∧ ((0 : Int) ≤ a3.toInt ∧ a3.toInt ≤ (999 : Int))))) := by
  refine enI (lv := [(0, .ref a0), (1, .int a1), (2, .int a2), (3, .int a3)]) (by decide) (Nat.le_of_ble_eq_true rfl) rfl (fun E D cy C Ci0 ret => ?_)
  have ha0 := I.2.1
  have J33 : ∀ (P33 : PP), (IM P33 a0) → (EM [0, 45, 46] a0 P P33) → (MW P33 a0) → (0 ≤ (pI P33 a0 0).toInt ∧ (pI P33 a0 0).toInt ≤ 0) → G E ({ frames := 3, cells := 0, slots := 0, locals := 192 } : Room) D cy 4 P33 0 0 33 [] [] := by
    intro P33 I33 X33 W33 hq33_0
    have h74545 := X33.at ha0
    refine g_iconst (v := 0) C dX12_quarter_33 (by decide) ?_
    exact ret _ _ _ _ _ _ dX12_quarter_34 rfl (by decide) (by decide) ⟨I33, X33, W33, (by decide), Or.inl rfl⟩
  refine g_aload_n C dX12_quarter_0 rfl 0 rfl ?_
  refine g_iconst (v := 0) C dX12_quarter_1 (by decide) ?_
  refine g_putI C fi_X12_1 rfl (ha0).1 (ha0).2 dX12_quarter_2 ?_
  refine gqW (ks := [0]) (I.setI (rgOk.of rfl (by decide))) (EM.setI I (by decide)) (fun Y74546 Iy74547 Xy74548 w74549 => ?_)
  have w74549 : (pI Y74546 a0 0).toInt = 0 := w74549
  have W74550 := hW.keep I Xy74548 (by decide) (by decide) (by decide)
  have Xz74551 : EM [0, 45, 46] a0 P Y74546 := Xy74548.mono (by decide)
  have h74552 := Xy74548.at ha0
  refine g_iload_n C dX12_quarter_5 rfl 1 rfl ?_
  refine g_callSI (b := 0) (ci := 0) (rest := []) C ms_X12_278 [.int a1] (s_X12_isQuarter Iy74547.1) rfl rfl (by decide) (Nat.le_of_ble_eq_true rfl) (by decide) dX12_quarter_6 (fun r74553 Y74554 h74555 => ?_)
  obtain ⟨rfl, h74555⟩ := h74555
  obtain ⟨h74555, hi74556⟩ := h74555
  have hi74556 : r74553.toInt = 0 ∨ (((0 : Int) ≤ a1.toInt ∧ a1.toInt ≤ (3 : Int))) := hi74556
  have h74555 : 0 ≤ r74553.toInt ∧ r74553.toInt ≤ 1 := h74555
  refine b_if_eq C 33 dX12_quarter_9 (by decide) (fun h74557 => ?_) (fun h74557 => ?_)
  · have h74557 : r74553.toInt = 0 := congrArg Int32.toInt h74557
    clear hi74556
    refine g_lv (lv' := []) [] rfl ?_
    exact J33 Y74546 Iy74547 Xz74551 W74550 (by omega)
  · have h74557 : r74553.toInt ≠ 0 := ti_ne h74557
    replace hi74556 := hi74556.resolve_left (by omega)
    refine g_iload_n C dX12_quarter_12 rfl 2 rfl ?_
    refine g_iconst (v := 0) C dX12_quarter_13 (by decide) ?_
    refine g_bipush (v := 100) C dX12_quarter_14 (by decide) ?_
    refine g_callSI (b := 0) (ci := 0) (rest := []) C ms_X12_178 [.int a2, .int 0, .int 100] (s_X12_within Iy74547.1) rfl rfl (by decide) (Nat.le_of_ble_eq_true rfl) (by decide) dX12_quarter_16 (fun r74558 Y74559 h74560 => ?_)
    obtain ⟨rfl, h74560⟩ := h74560
    obtain ⟨h74560, hi74561⟩ := h74560
    have hi74561 : r74558.toInt = 0 ∨ (0 ≤ a2.toInt ∧ a2.toInt ≤ 100) := hi74561
    have h74560 : 0 ≤ r74558.toInt ∧ r74558.toInt ≤ 1 := h74560
    refine b_if_eq C 33 dX12_quarter_19 (by decide) (fun h74562 => ?_) (fun h74562 => ?_)
    · have h74562 : r74558.toInt = 0 := congrArg Int32.toInt h74562
      clear hi74561
      refine g_lv (lv' := []) [] rfl ?_
      exact J33 Y74546 Iy74547 Xz74551 W74550 (by omega)
    · have h74562 : r74558.toInt ≠ 0 := ti_ne h74562
      replace hi74561 := hi74561.resolve_left (by omega)
      refine g_iload_n C dX12_quarter_22 rfl 3 rfl ?_
      refine g_iconst (v := 0) C dX12_quarter_23 (by decide) ?_
      refine g_sipush (v := 999) C dX12_quarter_24 (by decide) ?_
      refine g_callSI (b := 0) (ci := 0) (rest := []) C ms_X12_178 [.int a3, .int 0, .int 999] (s_X12_within Iy74547.1) rfl rfl (by decide) (Nat.le_of_ble_eq_true rfl) (by decide) dX12_quarter_27 (fun r74563 Y74564 h74565 => ?_)
      obtain ⟨rfl, h74565⟩ := h74565
      obtain ⟨h74565, hi74566⟩ := h74565
      have hi74566 : r74563.toInt = 0 ∨ (0 ≤ a3.toInt ∧ a3.toInt ≤ 999) := hi74566
      have h74565 : 0 ≤ r74563.toInt ∧ r74563.toInt ≤ 1 := h74565
      refine b_if_ne C 35 dX12_quarter_30 (by decide) (fun h74567 => ?_) (fun h74567 => ?_)
      · have h74567 : r74563.toInt ≠ 0 := ti_ne h74567
        replace hi74566 := hi74566.resolve_left (by omega)
        refine g_aload_n C dX12_quarter_35 rfl 0 rfl ?_
        obtain ⟨b74568, e74569, h74570⟩ := Iy74547.fld (h74552) 45 13 4 rfl
        refine g_getR C fi_X12_127 rfl e74569 (h74552).1 (h74552).2 dX12_quarter_36 ?_
        refine g_iload_n C dX12_quarter_39 rfl 1 rfl ?_
        refine g_iload_n C dX12_quarter_40 rfl 2 rfl ?_
        refine g_iast (j := (a1.toInt.toNat)) C h74570.1 h74570.2.1 (ix_in h74570.2.2 (by omega)) dX12_quarter_41 ?_
        refine gqW (ks := [45]) (Iy74547.setA e74569 h74570 (by decide) (arOk.none rfl)) (EM.setA Iy74547 e74569 rfl (by decide)) (fun Y74571 Iy74572 Xy74573 w74574 => ?_)
        have w74574 : (pI Y74571 b74568 (a1.toInt.toNat)).toInt = a2.toInt := w74574
        have q74575 := Xy74573.keepF 0 (by decide)
        have W74576 := W74550.keep Iy74547 Xy74573 (by decide) (by decide) (by decide)
        have Xz74577 : EM [0, 45, 46] a0 P Y74571 := EM.tr ha0 Xz74551 (Xy74573.mono (by decide))
        have e74578 := Xy74573.ref h74552 (by decide) e74569
        have h74579 := Xy74573.at h74552
        have h74580 := Xy74573.ar h74570
        refine g_aload_n C dX12_quarter_42 rfl 0 rfl ?_
        obtain ⟨b74581, e74582, h74583⟩ := Iy74572.fld (h74579) 46 13 4 rfl
        refine g_getR C fi_X12_130 rfl e74582 (h74579).1 (h74579).2 dX12_quarter_43 ?_
        refine g_iload_n C dX12_quarter_46 rfl 1 rfl ?_
        refine g_iload_n C dX12_quarter_47 rfl 3 rfl ?_
        refine g_iast (j := (a1.toInt.toNat)) C h74583.1 h74583.2.1 (ix_in h74583.2.2 (by omega)) dX12_quarter_48 ?_
        refine gqW (ks := [46]) (Iy74572.setA e74582 h74583 (by decide) (arOk.none rfl)) (EM.setA Iy74572 e74582 rfl (by decide)) (fun Y74584 Iy74585 Xy74586 w74587 => ?_)
        have w74587 : (pI Y74584 b74581 (a1.toInt.toNat)).toInt = a3.toInt := w74587
        have q74588 := Xy74586.keepF 0 (by decide)
        have q74589 := Xy74586.keepA e74578 (by decide) rfl (a1.toInt.toNat)
        have W74590 := W74576.keep Iy74572 Xy74586 (by decide) (by decide) (by decide)
        have Xz74591 : EM [0, 45, 46] a0 P Y74584 := EM.tr ha0 Xz74577 (Xy74586.mono (by decide))
        have e74592 := Xy74586.ref h74579 (by decide) e74578
        have e74593 := Xy74586.ref h74579 (by decide) e74582
        have h74594 := Xy74586.at h74579
        have h74595 := Xy74586.ar h74580
        have h74596 := Xy74586.ar h74583
        refine g_iconst (v := 1) C dX12_quarter_49 (by decide) ?_
        exact ret _ _ _ _ _ _ dX12_quarter_50 rfl (by decide) (by decide) ⟨Iy74585, Xz74591, W74590, (by decide), Or.inr (by omega)⟩
      · have h74567 : r74563.toInt = 0 := congrArg Int32.toInt h74567
        clear hi74566
        refine g_lv (lv' := []) [] rfl ?_
        exact J33 Y74546 Iy74547 Xz74551 W74550 (by omega)
theorem dX12_read_0 : decode cX12_read 0 = .ok (.aload_n 0, 1) := by decide +kernel
theorem dX12_read_1 : decode cX12_read 1 = .ok (.iconst 0, 1) := by decide +kernel
theorem dX12_read_2 : decode cX12_read 2 = .ok (.putfield 1, 3) := by decide +kernel
theorem dX12_read_5 : decode cX12_read 5 = .ok (.iload_n 1, 1) := by decide +kernel
theorem dX12_read_6 : decode cX12_read 6 = .ok (.invokestatic 278, 3) := by decide +kernel
theorem dX12_read_9 : decode cX12_read 9 = .ok (.ifCond .eq 30, 3) := by decide +kernel
theorem dX12_read_12 : decode cX12_read 12 = .ok (.aload_n 0, 1) := by decide +kernel
theorem dX12_read_13 : decode cX12_read 13 = .ok (.iload_n 2, 1) := by decide +kernel
theorem dX12_read_14 : decode cX12_read 14 = .ok (.invokevirtual 192, 3) := by decide +kernel
theorem dX12_read_17 : decode cX12_read 17 = .ok (.ifCond .eq 22, 3) := by decide +kernel
theorem dX12_read_20 : decode cX12_read 20 = .ok (.aload_n 0, 1) := by decide +kernel
theorem dX12_read_21 : decode cX12_read 21 = .ok (.iload_n 2, 1) := by decide +kernel
theorem dX12_read_22 : decode cX12_read 22 = .ok (.iload_n 3, 1) := by decide +kernel
theorem dX12_read_23 : decode cX12_read 23 = .ok (.invokevirtual 352, 3) := by decide +kernel
theorem dX12_read_26 : decode cX12_read 26 = .ok (.ifCond .eq 13, 3) := by decide +kernel
theorem dX12_read_29 : decode cX12_read 29 = .ok (.iload 4, 2) := by decide +kernel
theorem dX12_read_31 : decode cX12_read 31 = .ok (.iconst 0, 1) := by decide +kernel
theorem dX12_read_32 : decode cX12_read 32 = .ok (.iconst 1, 1) := by decide +kernel
theorem dX12_read_33 : decode cX12_read 33 = .ok (.invokestatic 178, 3) := by decide +kernel
theorem dX12_read_36 : decode cX12_read 36 = .ok (.ifCond .ne 5, 3) := by decide +kernel
theorem dX12_read_41 : decode cX12_read 41 = .ok (.aload_n 0, 1) := by decide +kernel
theorem dX12_read_42 : decode cX12_read 42 = .ok (.invokevirtual 336, 3) := by decide +kernel
theorem dX12_read_45 : decode cX12_read 45 = .ok (.aload_n 0, 1) := by decide +kernel
theorem dX12_read_46 : decode cX12_read 46 = .ok (.iload_n 1, 1) := by decide +kernel
theorem dX12_read_47 : decode cX12_read 47 = .ok (.iload_n 2, 1) := by decide +kernel
theorem dX12_read_48 : decode cX12_read 48 = .ok (.iload_n 3, 1) := by decide +kernel
theorem dX12_read_49 : decode cX12_read 49 = .ok (.iload 4, 2) := by decide +kernel
theorem dX12_read_51 : decode cX12_read 51 = .ok (.aload_n 0, 1) := by decide +kernel
theorem dX12_read_52 : decode cX12_read 52 = .ok (.getfield 69, 3) := by decide +kernel
theorem dX12_read_55 : decode cX12_read 55 = .ok (.iload_n 1, 1) := by decide +kernel
theorem dX12_read_56 : decode cX12_read 56 = .ok (.iaload, 1) := by decide +kernel
theorem dX12_read_57 : decode cX12_read 57 = .ok (.invokevirtual 355, 3) := by decide +kernel
theorem dX12_readBy_0 : decode cX12_readBy 0 = .ok (.iconst 0, 1) := by decide +kernel
theorem dX12_readBy_1 : decode cX12_readBy 1 = .ok (.istore 6, 2) := by decide +kernel
theorem dX12_readBy_3 : decode cX12_readBy 3 = .ok (.iconst 0, 1) := by decide +kernel
theorem dX12_readBy_4 : decode cX12_readBy 4 = .ok (.istore 7, 2) := by decide +kernel
theorem dX12_readBy_6 : decode cX12_readBy 6 = .ok (.iload 7, 2) := by decide +kernel
theorem dX12_readBy_8 : decode cX12_readBy 8 = .ok (.iconst 2, 1) := by decide +kernel
theorem dX12_readBy_9 : decode cX12_readBy 9 = .ok (.if_icmp .ge 105, 3) := by decide +kernel
theorem dX12_readBy_12 : decode cX12_readBy 12 = .ok (.aload_n 0, 1) := by decide +kernel
theorem dX12_readBy_13 : decode cX12_readBy 13 = .ok (.iload_n 1, 1) := by decide +kernel
theorem dX12_readBy_14 : decode cX12_readBy 14 = .ok (.iload_n 2, 1) := by decide +kernel
theorem dX12_readBy_15 : decode cX12_readBy 15 = .ok (.iload 7, 2) := by decide +kernel
theorem dX12_readBy_17 : decode cX12_readBy 17 = .ok (.iload 5, 2) := by decide +kernel
theorem dX12_readBy_19 : decode cX12_readBy 19 = .ok (.invokevirtual 339, 3) := by decide +kernel
theorem dX12_readBy_22 : decode cX12_readBy 22 = .ok (.iload 4, 2) := by decide +kernel
theorem dX12_readBy_24 : decode cX12_readBy 24 = .ok (.ifCond .ne 10, 3) := by decide +kernel
theorem dX12_readBy_27 : decode cX12_readBy 27 = .ok (.aload_n 0, 1) := by decide +kernel
theorem dX12_readBy_28 : decode cX12_readBy 28 = .ok (.invokevirtual 343, 3) := by decide +kernel
theorem dX12_readBy_31 : decode cX12_readBy 31 = .ok (.goto 7, 3) := by decide +kernel
theorem dX12_readBy_34 : decode cX12_readBy 34 = .ok (.aload_n 0, 1) := by decide +kernel
theorem dX12_readBy_35 : decode cX12_readBy 35 = .ok (.invokevirtual 346, 3) := by decide +kernel
theorem dX12_readBy_38 : decode cX12_readBy 38 = .ok (.iload 4, 2) := by decide +kernel
theorem dX12_readBy_40 : decode cX12_readBy 40 = .ok (.ifCond .ne 23, 3) := by decide +kernel
theorem dX12_readBy_43 : decode cX12_readBy 43 = .ok (.aload_n 0, 1) := by decide +kernel
theorem dX12_readBy_44 : decode cX12_readBy 44 = .ok (.getfield 318, 3) := by decide +kernel
theorem dX12_readBy_47 : decode cX12_readBy 47 = .ok (.iload_n 3, 1) := by decide +kernel
theorem dX12_readBy_48 : decode cX12_readBy 48 = .ok (.ishr, 1) := by decide +kernel
theorem dX12_readBy_49 : decode cX12_readBy 49 = .ok (.iconst 1, 1) := by decide +kernel
theorem dX12_readBy_50 : decode cX12_readBy 50 = .ok (.iand, 1) := by decide +kernel
theorem dX12_readBy_51 : decode cX12_readBy 51 = .ok (.iconst 1, 1) := by decide +kernel
theorem dX12_readBy_52 : decode cX12_readBy 52 = .ok (.if_icmp .ne 7, 3) := by decide +kernel
theorem dX12_readBy_55 : decode cX12_readBy 55 = .ok (.iconst 1, 1) := by decide +kernel
theorem dX12_readBy_56 : decode cX12_readBy 56 = .ok (.goto 12, 3) := by decide +kernel
theorem dX12_readBy_59 : decode cX12_readBy 59 = .ok (.iconst 0, 1) := by decide +kernel
theorem dX12_readBy_60 : decode cX12_readBy 60 = .ok (.goto 8, 3) := by decide +kernel
theorem dX12_readBy_63 : decode cX12_readBy 63 = .ok (.aload_n 0, 1) := by decide +kernel
theorem dX12_readBy_64 : decode cX12_readBy 64 = .ok (.iload_n 3, 1) := by decide +kernel
theorem dX12_readBy_65 : decode cX12_readBy 65 = .ok (.invokevirtual 330, 3) := by decide +kernel
theorem dX12_readBy_68 : decode cX12_readBy 68 = .ok (.istore 8, 2) := by decide +kernel
theorem dX12_readBy_70 : decode cX12_readBy 70 = .ok (.iload 8, 2) := by decide +kernel
theorem dX12_readBy_72 : decode cX12_readBy 72 = .ok (.ifCond .ne 5, 3) := by decide +kernel
theorem dX12_readBy_75 : decode cX12_readBy 75 = .ok (.iconst (-1), 1) := by decide +kernel
theorem dX12_readBy_76 : decode cX12_readBy 76 = .ok (.ireturn, 1) := by decide +kernel
theorem dX12_readBy_77 : decode cX12_readBy 77 = .ok (.iload 6, 2) := by decide +kernel
theorem dX12_readBy_79 : decode cX12_readBy 79 = .ok (.iload 4, 2) := by decide +kernel
theorem dX12_readBy_81 : decode cX12_readBy 81 = .ok (.ifCond .ne 12, 3) := by decide +kernel
theorem dX12_readBy_84 : decode cX12_readBy 84 = .ok (.aload_n 0, 1) := by decide +kernel
theorem dX12_readBy_85 : decode cX12_readBy 85 = .ok (.getfield 103, 3) := by decide +kernel
theorem dX12_readBy_88 : decode cX12_readBy 88 = .ok (.iload_n 3, 1) := by decide +kernel
theorem dX12_readBy_89 : decode cX12_readBy 89 = .ok (.iaload, 1) := by decide +kernel
theorem dX12_readBy_90 : decode cX12_readBy 90 = .ok (.goto 9, 3) := by decide +kernel
theorem dX12_readBy_93 : decode cX12_readBy 93 = .ok (.aload_n 0, 1) := by decide +kernel
theorem dX12_readBy_94 : decode cX12_readBy 94 = .ok (.getfield 109, 3) := by decide +kernel
theorem dX12_readBy_97 : decode cX12_readBy 97 = .ok (.iload_n 3, 1) := by decide +kernel
theorem dX12_readBy_98 : decode cX12_readBy 98 = .ok (.iaload, 1) := by decide +kernel
theorem dX12_readBy_99 : decode cX12_readBy 99 = .ok (.bipush 8, 2) := by decide +kernel
theorem dX12_readBy_101 : decode cX12_readBy 101 = .ok (.iload 7, 2) := by decide +kernel
theorem dX12_readBy_103 : decode cX12_readBy 103 = .ok (.imul, 1) := by decide +kernel
theorem dX12_readBy_104 : decode cX12_readBy 104 = .ok (.ishl, 1) := by decide +kernel
theorem dX12_readBy_105 : decode cX12_readBy 105 = .ok (.iadd, 1) := by decide +kernel
theorem dX12_readBy_106 : decode cX12_readBy 106 = .ok (.istore 6, 2) := by decide +kernel
theorem dX12_readBy_108 : decode cX12_readBy 108 = .ok (.iinc 7 1, 3) := by decide +kernel
theorem dX12_readBy_111 : decode cX12_readBy 111 = .ok (.goto (-105), 3) := by decide +kernel
theorem dX12_readBy_114 : decode cX12_readBy 114 = .ok (.iload 6, 2) := by decide +kernel
theorem dX12_readBy_116 : decode cX12_readBy 116 = .ok (.ireturn, 1) := by decide +kernel
set_option maxHeartbeats 4000000 in
set_option maxRecDepth 100000 in
theorem s_X12_readBy {P : PP} {a0 : Nat} {a1 : Int32} {a2 : Int32} {a3 : Int32} {a4 : Int32} {a5 : Int32} (I : IM P a0) (ha1 : 0 ≤ a1.toInt ∧ a1.toInt ≤ 3) (ha2 : 0 ≤ a2.toInt ∧ a2.toInt ≤ 1) (ha3 : 0 ≤ a3.toInt ∧ a3.toInt ≤ 19) (ha5 : 0 ≤ a5.toInt ∧ a5.toInt ≤ 40) (hf0 : ∀ b, pR P a0 10 = some b → 1 ≤ (pI P b (a2.toInt.toNat)).toInt ∧ (pI P b (a2.toInt.toNat)).toInt ≤ 16) (hW : MW P a0) : CtrI yX12_readBy cX12_readBy 9 (some Jvm.ClassFile.FieldType.int) ({ frames := 5, cells := 0, slots := 0, locals := 320 } : Room) 0 0 P [.ref a0, .int a1, .int a2, .int a3, .int a4, .int a5] (fun r P2 => IM P2 a0 ∧ EM [28, 29, 30, 31, 33, 34, 35, 36, 37, 38] a0 P P2 ∧ MW P2 a0 ∧ (True)) := by
  refine enI (lv := [(0, .ref a0), (1, .int a1), (2, .int a2), (3, .int a3), (4, .int a4), (5, .int a5)]) (by decide) (Nat.le_of_ble_eq_true rfl) rfl (fun E D cy C Ci0 ret => ?_)
  have ha0 := I.2.1
  have J6 : ∀ (n6 : Nat) (P6 : PP) (v6_6 : Int32) (v6_7 : Int32), (2 - v6_7.toInt).toNat < n6 → (IM P6 a0) → (EM [28, 29, 30, 31, 33, 34, 35, 36, 37, 38] a0 P P6) → (MW P6 a0) → (0 ≤ v6_7.toInt ∧ v6_7.toInt ≤ 2) → (∀ b, pR P6 a0 10 = some b → 1 ≤ (pI P6 b (a2.toInt.toNat)).toInt ∧ (pI P6 b (a2.toInt.toNat)).toInt ≤ 16) → G E ({ frames := 5, cells := 0, slots := 0, locals := 320 } : Room) D cy 9 P6 0 0 6 [(0, .ref a0), (1, .int a1), (2, .int a2), (3, .int a3), (4, .int a4), (5, .int a5), (6, .int v6_6), (7, .int v6_7)] [] := by
    intro n6
    induction n6 with
    | zero => intro P6 v6_6 v6_7 hm6 I6 X6 W6 hv6_7 hq6_0; omega
    | succ n6 ih6 =>
      intro P6 v6_6 v6_7 hm6 I6 X6 W6 hv6_7 hq6_0
      have h74857 := X6.at ha0
      obtain ⟨b74858, e74859, h74860⟩ := I6.fld (h74857) 10 13 2 rfl
      have hq6_0 := hq6_0 b74858 e74859
      have J99 : ∀ (P99 : PP) (v99_s0 : Int32), (IM P99 a0) → (EM [28, 29, 30, 31, 33, 34, 35, 36, 37, 38] a0 P P99) → (MW P99 a0) → (0 ≤ v6_7.toInt ∧ v6_7.toInt ≤ 1) → (0 ≤ (pI P99 a0 28).toInt ∧ (pI P99 a0 28).toInt ≤ 44) → (∀ b, pR P99 a0 10 = some b → 1 ≤ (pI P99 b (a2.toInt.toNat)).toInt ∧ (pI P99 b (a2.toInt.toNat)).toInt ≤ 16) → G E ({ frames := 5, cells := 0, slots := 0, locals := 320 } : Room) D cy 9 P99 0 0 99 [(0, .ref a0), (1, .int a1), (2, .int a2), (3, .int a3), (4, .int a4), (5, .int a5), (7, .int v6_7)] [.int v99_s0, .int v6_6] := by
        intro P99 v99_s0 I99 X99 W99 hv99_7 hq99_0 hq99_1
        have h74861 := X99.at ha0
        obtain ⟨b74862, e74863, h74864⟩ := I99.fld (h74861) 10 13 2 rfl
        have hq99_1 := hq99_1 b74862 e74863
        refine g_bipush (v := 8) C dX12_readBy_99 (by decide) ?_
        refine g_iload C dX12_readBy_101 6 rfl ?_
        refine s_imul C dX12_readBy_103 (by show -2147483648 ≤ 8 * v6_7.toInt ∧ 8 * v6_7.toInt ≤ 2147483647; omega) (fun z74865 h74866 => ?_)
        have h74866 : z74865.toInt = 8 * v6_7.toInt := h74866
        refine a_ishl C dX12_readBy_104 (fun z74867 => ?_)
        refine a_iadd C dX12_readBy_105 (fun z74869 => ?_)
        refine g_istore (lv' := [(6, .int z74869), (0, .ref a0), (1, .int a1), (2, .int a2), (3, .int a3), (4, .int a4), (5, .int a5), (7, .int v6_7)]) C dX12_readBy_106 (by decide) rfl ?_
        refine s_iinc (lv0 := [(6, .int z74869), (0, .ref a0), (1, .int a1), (2, .int a2), (3, .int a3), (4, .int a4), (5, .int a5)]) (m := 1) C dX12_readBy_108 7 rfl (by decide) rfl (by decide) (by omega) (fun z74871 h74872 => ?_)
        have h74872 : z74871.toInt = v6_7.toInt + 1 := h74872
        refine g_goto C 6 dX12_readBy_111 (by decide) ?_
        refine g_lv (lv' := [(0, .ref a0), (1, .int a1), (2, .int a2), (3, .int a3), (4, .int a4), (5, .int a5), (6, .int z74869), (7, .int z74871)]) [2, 3, 4, 5, 6, 7, 1, 0] rfl ?_
        exact ih6 P99 z74869 z74871 (by omega) I99 X99 W99 (by omega) (fun b9 e9 => by rw [e74863] at e9; cases e9; omega)
      have J68 : ∀ (P68 : PP) (v68_s0 : Int32), (IM P68 a0) → (EM [28, 29, 30, 31, 33, 34, 35, 36, 37, 38] a0 P P68) → (MW P68 a0) → (0 ≤ v6_7.toInt ∧ v6_7.toInt ≤ 1) → (0 ≤ v68_s0.toInt ∧ v68_s0.toInt ≤ 1) → (0 ≤ (pI P68 a0 28).toInt ∧ (pI P68 a0 28).toInt ≤ 44) → (∀ b, pR P68 a0 10 = some b → 1 ≤ (pI P68 b (a2.toInt.toNat)).toInt ∧ (pI P68 b (a2.toInt.toNat)).toInt ≤ 16) → G E ({ frames := 5, cells := 0, slots := 0, locals := 320 } : Room) D cy 9 P68 0 0 68 [(0, .ref a0), (1, .int a1), (2, .int a2), (3, .int a3), (4, .int a4), (5, .int a5), (6, .int v6_6), (7, .int v6_7)] [.int v68_s0] := by
        intro P68 v68_s0 I68 X68 W68 hv68_7 hv68_s0 hq68_0 hq68_1
        have h74873 := X68.at ha0
        obtain ⟨b74874, e74875, h74876⟩ := I68.fld (h74873) 10 13 2 rfl
        have hq68_1 := hq68_1 b74874 e74875
        refine g_istore (lv' := [(8, .int v68_s0), (0, .ref a0), (1, .int a1), (2, .int a2), (3, .int a3), (4, .int a4), (5, .int a5), (6, .int v6_6), (7, .int v6_7)]) C dX12_readBy_68 (by decide) rfl ?_
        refine g_iload C dX12_readBy_70 0 rfl ?_
        refine b_if_ne C 77 dX12_readBy_72 (by decide) (fun h74877 => ?_) (fun h74877 => ?_)
        · have h74877 : v68_s0.toInt ≠ 0 := ti_ne h74877
          refine g_iload C dX12_readBy_77 7 rfl ?_
          refine g_iload C dX12_readBy_79 5 rfl ?_
          have u74879 := ti_rng a4
          refine b_if_ne C 93 dX12_readBy_81 (by decide) (fun h74878 => ?_) (fun h74878 => ?_)
          · have h74878 : a4.toInt ≠ 0 := ti_ne h74878
            refine g_aload_n C dX12_readBy_93 rfl 1 rfl ?_
            obtain ⟨b74880, e74881, h74882⟩ := I68.fld (h74873) 38 13 20 rfl
            refine g_getR C fi_X12_109 rfl e74881 (h74873).1 (h74873).2 dX12_readBy_94 ?_
            refine g_iload_n C dX12_readBy_97 rfl 4 rfl ?_
            refine g_iald (j := (a3.toInt.toNat)) C h74882.1 h74882.2.1 (ix_in h74882.2.2 (by omega)) dX12_readBy_98 ?_
            refine g_lv (lv' := [(0, .ref a0), (1, .int a1), (2, .int a2), (3, .int a3), (4, .int a4), (5, .int a5), (7, .int v6_7)]) [1, 2, 3, 4, 5, 6, 8] rfl ?_
            exact J99 P68 (pI P68 b74880 (a3.toInt.toNat)) I68 X68 W68 (by omega) (by omega) (fun b9 e9 => by rw [e74875] at e9; cases e9; omega)
          · have h74878 : a4.toInt = 0 := congrArg Int32.toInt h74878
            refine g_aload_n C dX12_readBy_84 rfl 1 rfl ?_
            obtain ⟨b74883, e74884, h74885⟩ := I68.fld (h74873) 34 13 20 rfl
            refine g_getR C fi_X12_103 rfl e74884 (h74873).1 (h74873).2 dX12_readBy_85 ?_
            refine g_iload_n C dX12_readBy_88 rfl 4 rfl ?_
            refine g_iald (j := (a3.toInt.toNat)) C h74885.1 h74885.2.1 (ix_in h74885.2.2 (by omega)) dX12_readBy_89 ?_
            refine g_goto C 99 dX12_readBy_90 (by decide) ?_
            refine g_lv (lv' := [(0, .ref a0), (1, .int a1), (2, .int a2), (3, .int a3), (4, .int a4), (5, .int a5), (7, .int v6_7)]) [1, 2, 3, 4, 5, 6, 8] rfl ?_
            exact J99 P68 (pI P68 b74883 (a3.toInt.toNat)) I68 X68 W68 (by omega) (by omega) (fun b9 e9 => by rw [e74875] at e9; cases e9; omega)
        · have h74877 : v68_s0.toInt = 0 := congrArg Int32.toInt h74877
          refine g_iconst (v := (-1)) C dX12_readBy_75 (by decide) ?_
          exact ret _ _ _ _ _ _ dX12_readBy_76 rfl (by decide) (by decide) ⟨I68, X68, W68, trivial⟩
      have J38 : ∀ (P38 : PP), (IM P38 a0) → (EM [28, 29, 30, 31, 33, 34, 35, 36, 37, 38] a0 P P38) → (MW P38 a0) → (0 ≤ v6_7.toInt ∧ v6_7.toInt ≤ 1) → (0 ≤ (pI P38 a0 28).toInt ∧ (pI P38 a0 28).toInt ≤ 44) → (∀ b, pR P38 a0 10 = some b → 1 ≤ (pI P38 b (a2.toInt.toNat)).toInt ∧ (pI P38 b (a2.toInt.toNat)).toInt ≤ 16) → G E ({ frames := 5, cells := 0, slots := 0, locals := 320 } : Room) D cy 9 P38 0 0 38 [(0, .ref a0), (1, .int a1), (2, .int a2), (3, .int a3), (4, .int a4), (5, .int a5), (6, .int v6_6), (7, .int v6_7)] [] := by
        intro P38 I38 X38 W38 hv38_7 hq38_0 hq38_1
        have h74886 := X38.at ha0
        obtain ⟨b74887, e74888, h74889⟩ := I38.fld (h74886) 10 13 2 rfl
        have hq38_1 := hq38_1 b74887 e74888
        refine g_iload C dX12_readBy_38 4 rfl ?_
        have u74891 := ti_rng a4
        refine b_if_ne C 63 dX12_readBy_40 (by decide) (fun h74890 => ?_) (fun h74890 => ?_)
        · have h74890 : a4.toInt ≠ 0 := ti_ne h74890
          refine g_aload_n C dX12_readBy_63 rfl 0 rfl ?_
          refine g_iload_n C dX12_readBy_64 rfl 3 rfl ?_
          refine g_callVI (rest := []) C mv_X12_330 [.int a3] (s_X12_isFixed I38 (by omega) W38) (h74886).1 (h74886).2 rfl rfl (by decide) (Nat.le_of_ble_eq_true rfl) (by decide) dX12_readBy_65 (fun r74892 Y74893 h74894 => ?_)
          obtain ⟨rfl, h74894⟩ := h74894
          have h74894 : 0 ≤ r74892.toInt ∧ r74892.toInt ≤ 1 := h74894
          exact J68 P38 r74892 I38 X38 W38 (by omega) (by omega) (by omega) (fun b9 e9 => by rw [e74888] at e9; cases e9; omega)
        · have h74890 : a4.toInt = 0 := congrArg Int32.toInt h74890
          refine g_aload_n C dX12_readBy_43 rfl 0 rfl ?_
          refine g_getI C fi_X12_318 (by decide) (h74886).1 (h74886).2 dX12_readBy_44 ?_
          refine g_iload_n C dX12_readBy_47 rfl 3 rfl ?_
          refine a_ishr C dX12_readBy_48 (fun z74895 => ?_)
          refine g_iconst (v := 1) C dX12_readBy_49 (by decide) ?_
          refine s_iand C dX12_readBy_50 (by show 0 ≤ 1; omega) (fun z74897 h74898 => ?_)
          have h74898 : 0 ≤ z74897.toInt ∧ z74897.toInt ≤ 1 := h74898
          refine g_iconst (v := 1) C dX12_readBy_51 (by decide) ?_
          refine b_icmp_ne C 59 dX12_readBy_52 (by decide) (fun h74899 => ?_) (fun h74899 => ?_)
          · have h74899 : z74897.toInt ≠ 1 := ti_ne h74899
            refine g_iconst (v := 0) C dX12_readBy_59 (by decide) ?_
            refine g_goto C 68 dX12_readBy_60 (by decide) ?_
            exact J68 P38 0 I38 X38 W38 (by omega) (by decide) (by omega) (fun b9 e9 => by rw [e74888] at e9; cases e9; omega)
          · have h74899 : z74897.toInt = 1 := congrArg Int32.toInt h74899
            refine g_iconst (v := 1) C dX12_readBy_55 (by decide) ?_
            refine g_goto C 68 dX12_readBy_56 (by decide) ?_
            exact J68 P38 1 I38 X38 W38 (by omega) (by decide) (by omega) (fun b9 e9 => by rw [e74888] at e9; cases e9; omega)
      refine g_iload C dX12_readBy_6 7 rfl ?_
      refine g_iconst (v := 2) C dX12_readBy_8 (by decide) ?_
      refine b_icmp_ge C 114 dX12_readBy_9 (by decide) (fun h74900 => ?_) (fun h74900 => ?_)
      · have h74900 : 2 ≤ v6_7.toInt := h74900
        refine g_iload C dX12_readBy_114 6 rfl ?_
        exact ret _ _ _ _ _ _ dX12_readBy_116 rfl (by decide) (by decide) ⟨I6, X6, W6, trivial⟩
      · have h74900 : v6_7.toInt < 2 := h74900
        refine g_aload_n C dX12_readBy_12 rfl 0 rfl ?_
        refine g_iload_n C dX12_readBy_13 rfl 1 rfl ?_
        refine g_iload_n C dX12_readBy_14 rfl 2 rfl ?_
        refine g_iload C dX12_readBy_15 7 rfl ?_
        refine g_iload C dX12_readBy_17 5 rfl ?_
        refine g_callVV (rest := []) C mv_X12_339 [.int a1, .int a2, .int v6_7, .int a5] (s_X12_gathers I6 (by omega) (by omega) (by omega) (fun b9 e9 => by rw [e74859] at e9; cases e9; show 1 ≤ (pI P6 b74858 (a2.toInt.toNat)).toInt ∧ (pI P6 b74858 (a2.toInt.toNat)).toInt ≤ 16; omega) W6) (h74857).1 (h74857).2 rfl rfl (by decide) (Nat.le_of_ble_eq_true rfl) (by decide) dX12_readBy_19 (fun Y74902 h74903 => ?_)
        obtain ⟨Iy74904, Xy74905, W74906, p74907⟩ := h74903
        have p74907 : (pI Y74902 a0 28).toInt ≤ 4 + a5.toInt := p74907
        have q74908 := Xy74905.keepA e74859 (by decide) rfl (a2.toInt.toNat)
        have Xz74909 : EM [28, 29, 30, 31, 33, 34, 35, 36, 37, 38] a0 P Y74902 := EM.tr ha0 X6 (Xy74905.mono (by decide))
        have e74910 := Xy74905.ref h74857 (by decide) e74859
        have h74911 := Xy74905.at h74857
        have h74912 := Xy74905.ar h74860
        have h74913 := Iy74904.rg h74911 28 rfl
        refine g_iload C dX12_readBy_22 4 rfl ?_
        have u74915 := ti_rng a4
        refine b_if_ne C 34 dX12_readBy_24 (by decide) (fun h74914 => ?_) (fun h74914 => ?_)
        · have h74914 : a4.toInt ≠ 0 := ti_ne h74914
          refine g_aload_n C dX12_readBy_34 rfl 0 rfl ?_
          refine g_callVV (rest := []) C mv_X12_346 [] (s_X12_findSolved Iy74904 W74906) (h74911).1 (h74911).2 rfl rfl (by decide) (Nat.le_of_ble_eq_true rfl) (by decide) dX12_readBy_35 (fun Y74917 h74918 => ?_)
          obtain ⟨Iy74919, Xy74920, W74921⟩ := h74918
          have q74922 := Xy74920.keepA e74910 (by decide) rfl (a2.toInt.toNat)
          have q74923 := Xy74920.keepF 28 (by decide)
          have Xz74924 : EM [28, 29, 30, 31, 33, 34, 35, 36, 37, 38] a0 P Y74917 := EM.tr ha0 Xz74909 (Xy74920.mono (by decide))
          have e74925 := Xy74920.ref h74911 (by decide) e74910
          have h74926 := Xy74920.at h74911
          have h74927 := Xy74920.ar h74912
          exact J38 Y74917 Iy74919 Xz74924 W74921 (by omega) (by omega) (fun b9 e9 => by rw [e74925] at e9; cases e9; omega)
        · have h74914 : a4.toInt = 0 := congrArg Int32.toInt h74914
          refine g_aload_n C dX12_readBy_27 rfl 0 rfl ?_
          refine g_callVV (rest := []) C mv_X12_343 [] (s_X12_findPeeled Iy74904 W74906) (h74911).1 (h74911).2 rfl rfl (by decide) (Nat.le_of_ble_eq_true rfl) (by decide) dX12_readBy_28 (fun Y74929 h74930 => ?_)
          obtain ⟨Iy74931, Xy74932, W74933⟩ := h74930
          have q74934 := Xy74932.keepA e74910 (by decide) rfl (a2.toInt.toNat)
          have q74935 := Xy74932.keepF 28 (by decide)
          have Xz74936 : EM [28, 29, 30, 31, 33, 34, 35, 36, 37, 38] a0 P Y74929 := EM.tr ha0 Xz74909 (Xy74932.mono (by decide))
          have e74937 := Xy74932.ref h74911 (by decide) e74910
          have h74938 := Xy74932.at h74911
          have h74939 := Xy74932.ar h74912
          refine g_goto C 38 dX12_readBy_31 (by decide) ?_
          exact J38 Y74929 Iy74931 Xz74936 W74933 (by omega) (by omega) (fun b9 e9 => by rw [e74937] at e9; cases e9; omega)
  obtain ⟨b74940, e74941, h74942⟩ := I.fld (ha0) 10 13 2 rfl
  have hf0 := hf0 b74940 e74941
  refine g_iconst (v := 0) C dX12_readBy_0 (by decide) ?_
  refine g_istore (lv' := [(6, .int 0), (0, .ref a0), (1, .int a1), (2, .int a2), (3, .int a3), (4, .int a4), (5, .int a5)]) C dX12_readBy_1 (by decide) rfl ?_
  refine g_iconst (v := 0) C dX12_readBy_3 (by decide) ?_
  refine g_istore (lv' := [(7, .int 0), (6, .int 0), (0, .ref a0), (1, .int a1), (2, .int a2), (3, .int a3), (4, .int a4), (5, .int a5)]) C dX12_readBy_4 (by decide) rfl ?_
  refine g_lv (lv' := [(0, .ref a0), (1, .int a1), (2, .int a2), (3, .int a3), (4, .int a4), (5, .int a5), (6, .int 0), (7, .int 0)]) [2, 3, 4, 5, 6, 7, 1, 0] rfl ?_
  exact J6 _ P 0 0 (Nat.lt_succ_self _) I EM.rf hW (by decide) (fun b9 e9 => by rw [e74941] at e9; cases e9; omega)
theorem dX12_read_39 : decode cX12_read 39 = .ok (.iconst (-1), 1) := by decide +kernel
theorem dX12_read_40 : decode cX12_read 40 = .ok (.ireturn, 1) := by decide +kernel
theorem dX12_read_60 : decode cX12_read 60 = .ok (.ireturn, 1) := by decide +kernel
set_option maxHeartbeats 4000000 in
set_option maxRecDepth 100000 in
theorem s_X12_read {P : PP} {a0 : Nat} {a1 : Int32} {a2 : Int32} {a3 : Int32} {a4 : Int32} (I : IM P a0) (hW : MW P a0) : CtrI yX12_read cX12_read 5 (some Jvm.ClassFile.FieldType.int) ({ frames := 6, cells := 0, slots := 0, locals := 384 } : Room) 0 0 P [.ref a0, .int a1, .int a2, .int a3, .int a4] (fun r P2 => IM P2 a0 ∧ EM [0, 28, 29, 30, 31, 32, 33, 34, 35, 36, 37, 38] a0 P P2 ∧ MW P2 a0 ∧ (True)) := by
  refine enI (lv := [(0, .ref a0), (1, .int a1), (2, .int a2), (3, .int a3), (4, .int a4)]) (by decide) (Nat.le_of_ble_eq_true rfl) rfl (fun E D cy C Ci0 ret => ?_)
  have ha0 := I.2.1
  have J39 : ∀ (P39 : PP), (IM P39 a0) → (EM [0, 28, 29, 30, 31, 32, 33, 34, 35, 36, 37, 38] a0 P P39) → (MW P39 a0) → (0 ≤ (pI P39 a0 0).toInt ∧ (pI P39 a0 0).toInt ≤ 0) → G E ({ frames := 6, cells := 0, slots := 0, locals := 384 } : Room) D cy 5 P39 0 0 39 [] [] := by
    intro P39 I39 X39 W39 hq39_0
    have h75007 := X39.at ha0
    refine g_iconst (v := (-1)) C dX12_read_39 (by decide) ?_
    exact ret _ _ _ _ _ _ dX12_read_40 rfl (by decide) (by decide) ⟨I39, X39, W39, trivial⟩
  refine g_aload_n C dX12_read_0 rfl 0 rfl ?_
  refine g_iconst (v := 0) C dX12_read_1 (by decide) ?_
  refine g_putI C fi_X12_1 rfl (ha0).1 (ha0).2 dX12_read_2 ?_
  refine gqW (ks := [0]) (I.setI (rgOk.of rfl (by decide))) (EM.setI I (by decide)) (fun Y75008 Iy75009 Xy75010 w75011 => ?_)
  have w75011 : (pI Y75008 a0 0).toInt = 0 := w75011
  have W75012 := hW.keep I Xy75010 (by decide) (by decide) (by decide)
  have Xz75013 : EM [0, 28, 29, 30, 31, 32, 33, 34, 35, 36, 37, 38] a0 P Y75008 := Xy75010.mono (by decide)
  have h75014 := Xy75010.at ha0
  refine g_iload_n C dX12_read_5 rfl 1 rfl ?_
  refine g_callSI (b := 0) (ci := 0) (rest := []) C ms_X12_278 [.int a1] (s_X12_isQuarter Iy75009.1) rfl rfl (by decide) (Nat.le_of_ble_eq_true rfl) (by decide) dX12_read_6 (fun r75015 Y75016 h75017 => ?_)
  obtain ⟨rfl, h75017⟩ := h75017
  obtain ⟨h75017, hi75018⟩ := h75017
  have hi75018 : r75015.toInt = 0 ∨ (((0 : Int) ≤ a1.toInt ∧ a1.toInt ≤ (3 : Int))) := hi75018
  have h75017 : 0 ≤ r75015.toInt ∧ r75015.toInt ≤ 1 := h75017
  refine b_if_eq C 39 dX12_read_9 (by decide) (fun h75019 => ?_) (fun h75019 => ?_)
  · have h75019 : r75015.toInt = 0 := congrArg Int32.toInt h75019
    clear hi75018
    refine g_lv (lv' := []) [] rfl ?_
    exact J39 Y75008 Iy75009 Xz75013 W75012 (by omega)
  · have h75019 : r75015.toInt ≠ 0 := ti_ne h75019
    replace hi75018 := hi75018.resolve_left (by omega)
    refine g_aload_n C dX12_read_12 rfl 0 rfl ?_
    refine g_iload_n C dX12_read_13 rfl 2 rfl ?_
    refine g_callVI (rest := []) C mv_X12_192 [.int a2] (s_X12_isBook Iy75009 W75012) (h75014).1 (h75014).2 rfl rfl (by decide) (Nat.le_of_ble_eq_true rfl) (by decide) dX12_read_14 (fun r75020 Y75021 h75022 => ?_)
    obtain ⟨rfl, h75022⟩ := h75022
    obtain ⟨h75022, hi75023, hi75024⟩ := h75022
    have hi75023 : r75020.toInt = 0 ∨ (((0 : Int) ≤ a2.toInt ∧ a2.toInt ≤ (1 : Int))) := hi75023
    have h75022 : 0 ≤ r75020.toInt ∧ r75020.toInt ≤ 1 := h75022
    refine b_if_eq C 39 dX12_read_17 (by decide) (fun h75025 => ?_) (fun h75025 => ?_)
    · have h75025 : r75020.toInt = 0 := congrArg Int32.toInt h75025
      clear hi75023
      refine g_lv (lv' := []) [] rfl ?_
      exact J39 Y75008 Iy75009 Xz75013 W75012 (by omega)
    · have h75025 : r75020.toInt ≠ 0 := ti_ne h75025
      replace hi75023 := hi75023.resolve_left (by omega)
      obtain ⟨b75026, e75027, h75028⟩ := Iy75009.fld (h75014) 10 13 2 rfl
      have hi75024 := (hi75024.resolve_left (by omega)) b75026 e75027
      have hi75024 : 0 < (pI Y75008 b75026 (a2.toInt.toNat)).toInt := hi75024
      have h75029 := Iy75009.arr e75027 rfl (a2.toInt.toNat)
      refine g_aload_n C dX12_read_20 rfl 0 rfl ?_
      refine g_iload_n C dX12_read_21 rfl 2 rfl ?_
      refine g_iload_n C dX12_read_22 rfl 3 rfl ?_
      refine g_callVI (rest := []) C mv_X12_352 [.int a2, .int a3] (s_X12_isPage Iy75009 (by omega) W75012) (h75014).1 (h75014).2 rfl rfl (by decide) (Nat.le_of_ble_eq_true rfl) (by decide) dX12_read_23 (fun r75030 Y75031 h75032 => ?_)
      obtain ⟨rfl, h75032⟩ := h75032
      obtain ⟨h75032, hi75033⟩ := h75032
      have hi75033 : r75030.toInt = 0 ∨ (((0 : Int) ≤ a3.toInt ∧ a3.toInt ≤ (19 : Int))) := hi75033
      have h75032 : 0 ≤ r75030.toInt ∧ r75030.toInt ≤ 1 := h75032
      refine b_if_eq C 39 dX12_read_26 (by decide) (fun h75034 => ?_) (fun h75034 => ?_)
      · have h75034 : r75030.toInt = 0 := congrArg Int32.toInt h75034
        clear hi75033
        refine g_lv (lv' := []) [] rfl ?_
        exact J39 Y75008 Iy75009 Xz75013 W75012 (by omega)
      · have h75034 : r75030.toInt ≠ 0 := ti_ne h75034
        replace hi75033 := hi75033.resolve_left (by omega)
        refine g_iload C dX12_read_29 4 rfl ?_
        refine g_iconst (v := 0) C dX12_read_31 (by decide) ?_
        refine g_iconst (v := 1) C dX12_read_32 (by decide) ?_
        refine g_callSI (b := 0) (ci := 0) (rest := []) C ms_X12_178 [.int a4, .int 0, .int 1] (s_X12_within Iy75009.1) rfl rfl (by decide) (Nat.le_of_ble_eq_true rfl) (by decide) dX12_read_33 (fun r75035 Y75036 h75037 => ?_)
        obtain ⟨rfl, h75037⟩ := h75037
        obtain ⟨h75037, hi75038⟩ := h75037
        have hi75038 : r75035.toInt = 0 ∨ (0 ≤ a4.toInt ∧ a4.toInt ≤ 1) := hi75038
        have h75037 : 0 ≤ r75035.toInt ∧ r75035.toInt ≤ 1 := h75037
        refine b_if_ne C 41 dX12_read_36 (by decide) (fun h75039 => ?_) (fun h75039 => ?_)
        · have h75039 : r75035.toInt ≠ 0 := ti_ne h75039
          replace hi75038 := hi75038.resolve_left (by omega)
          refine g_aload_n C dX12_read_41 rfl 0 rfl ?_
          refine g_callVV (rest := []) C mv_X12_336 [] (s_X12_leavesNone Iy75009 W75012) (h75014).1 (h75014).2 rfl rfl (by decide) (Nat.le_of_ble_eq_true rfl) (by decide) dX12_read_42 (fun Y75041 h75042 => ?_)
          obtain ⟨Iy75043, Xy75044, W75045⟩ := h75042
          have q75046 := Xy75044.keepF 0 (by decide)
          have q75047 := Xy75044.keepA e75027 (by decide) rfl (a2.toInt.toNat)
          have Xz75048 : EM [0, 28, 29, 30, 31, 32, 33, 34, 35, 36, 37, 38] a0 P Y75041 := EM.tr ha0 Xz75013 (Xy75044.mono (by decide))
          have e75049 := Xy75044.ref h75014 (by decide) e75027
          have h75050 := Xy75044.at h75014
          have h75051 := Xy75044.ar h75028
          refine g_aload_n C dX12_read_45 rfl 0 rfl ?_
          refine g_iload_n C dX12_read_46 rfl 1 rfl ?_
          refine g_iload_n C dX12_read_47 rfl 2 rfl ?_
          refine g_iload_n C dX12_read_48 rfl 3 rfl ?_
          refine g_iload C dX12_read_49 4 rfl ?_
          refine g_aload_n C dX12_read_51 rfl 0 rfl ?_
          obtain ⟨b75052, e75053, h75054⟩ := Iy75043.fld (h75050) 20 13 20 rfl
          refine g_getR C fi_X12_69 rfl e75053 (h75050).1 (h75050).2 dX12_read_52 ?_
          refine g_iload_n C dX12_read_55 rfl 1 rfl ?_
          refine g_iald (j := (a1.toInt.toNat)) C h75054.1 h75054.2.1 (ix_in h75054.2.2 (by omega)) dX12_read_56 ?_
          have h75055 := Iy75043.arr e75053 rfl (a1.toInt.toNat)
          refine g_callVI (rest := []) C mv_X12_355 [.int a1, .int a2, .int a3, .int a4, .int (pI Y75041 b75052 (a1.toInt.toNat))] (s_X12_readBy Iy75043 (by omega) (by omega) (by omega) (by omega) (fun b9 e9 => by rw [e75049] at e9; cases e9; show 1 ≤ (pI Y75041 b75026 (a2.toInt.toNat)).toInt ∧ (pI Y75041 b75026 (a2.toInt.toNat)).toInt ≤ 16; omega) W75045) (h75050).1 (h75050).2 rfl rfl (by decide) (Nat.le_of_ble_eq_true rfl) (by decide) dX12_read_57 (fun r75056 Y75057 h75058 => ?_)
          obtain ⟨Iy75059, Xy75060, W75061, h75058⟩ := h75058
          have q75062 := Xy75060.keepF 0 (by decide)
          have q75063 := Xy75060.keepA e75049 (by decide) rfl (a2.toInt.toNat)
          have q75064 := Xy75060.keepA e75053 (by decide) rfl (a1.toInt.toNat)
          have Xz75065 : EM [0, 28, 29, 30, 31, 32, 33, 34, 35, 36, 37, 38] a0 P Y75057 := EM.tr ha0 Xz75048 (Xy75060.mono (by decide))
          have e75066 := Xy75060.ref h75050 (by decide) e75049
          have e75067 := Xy75060.ref h75050 (by decide) e75053
          have h75068 := Xy75060.at h75050
          have h75069 := Xy75060.ar h75051
          have h75070 := Xy75060.ar h75054
          have h75058 : True := h75058
          exact ret _ _ _ _ _ _ dX12_read_60 rfl (by decide) (by decide) ⟨Iy75059, Xz75065, W75061, trivial⟩
        · have h75039 : r75035.toInt = 0 := congrArg Int32.toInt h75039
          clear hi75038
          refine g_lv (lv' := []) [] rfl ?_
          exact J39 Y75008 Iy75009 Xz75013 W75012 (by omega)
theorem dX12_readLine_0 : decode cX12_readLine 0 = .ok (.aload_n 0, 1) := by decide +kernel
theorem dX12_readLine_1 : decode cX12_readLine 1 = .ok (.iconst 1, 1) := by decide +kernel
theorem dX12_readLine_2 : decode cX12_readLine 2 = .ok (.invokevirtual 172, 3) := by decide +kernel
theorem dX12_readLine_5 : decode cX12_readLine 5 = .ok (.ifCond .eq 12, 3) := by decide +kernel
theorem dX12_readLine_8 : decode cX12_readLine 8 = .ok (.aload_n 0, 1) := by decide +kernel
theorem dX12_readLine_9 : decode cX12_readLine 9 = .ok (.getfield 54, 3) := by decide +kernel
theorem dX12_readLine_12 : decode cX12_readLine 12 = .ok (.iconst 2, 1) := by decide +kernel
theorem dX12_readLine_13 : decode cX12_readLine 13 = .ok (.iaload, 1) := by decide +kernel
theorem dX12_readLine_14 : decode cX12_readLine 14 = .ok (.ifCond .gt 20, 3) := by decide +kernel
theorem dX12_readLine_17 : decode cX12_readLine 17 = .ok (.aload_n 0, 1) := by decide +kernel
theorem dX12_readLine_18 : decode cX12_readLine 18 = .ok (.iconst 3, 1) := by decide +kernel
theorem dX12_readLine_19 : decode cX12_readLine 19 = .ok (.invokevirtual 172, 3) := by decide +kernel
theorem dX12_readLine_22 : decode cX12_readLine 22 = .ok (.ifCond .eq 16, 3) := by decide +kernel
theorem dX12_readLine_25 : decode cX12_readLine 25 = .ok (.aload_n 0, 1) := by decide +kernel
theorem dX12_readLine_26 : decode cX12_readLine 26 = .ok (.getfield 66, 3) := by decide +kernel
theorem dX12_readLine_29 : decode cX12_readLine 29 = .ok (.iconst 2, 1) := by decide +kernel
theorem dX12_readLine_30 : decode cX12_readLine 30 = .ok (.iaload, 1) := by decide +kernel
theorem dX12_readLine_31 : decode cX12_readLine 31 = .ok (.ifCond .le 7, 3) := by decide +kernel
theorem dX12_readLine_34 : decode cX12_readLine 34 = .ok (.iconst 1, 1) := by decide +kernel
theorem dX12_readLine_35 : decode cX12_readLine 35 = .ok (.goto 4, 3) := by decide +kernel
theorem dX12_readLine_38 : decode cX12_readLine 38 = .ok (.iconst 0, 1) := by decide +kernel
theorem dX12_readLine_39 : decode cX12_readLine 39 = .ok (.istore_n 1, 1) := by decide +kernel
theorem dX12_readLine_40 : decode cX12_readLine 40 = .ok (.aload_n 0, 1) := by decide +kernel
theorem dX12_readLine_41 : decode cX12_readLine 41 = .ok (.iconst 0, 1) := by decide +kernel
theorem dX12_readLine_42 : decode cX12_readLine 42 = .ok (.invokevirtual 172, 3) := by decide +kernel
theorem dX12_readLine_45 : decode cX12_readLine 45 = .ok (.ifCond .ne 35, 3) := by decide +kernel
theorem dX12_readLine_48 : decode cX12_readLine 48 = .ok (.aload_n 0, 1) := by decide +kernel
theorem dX12_readLine_49 : decode cX12_readLine 49 = .ok (.iconst 1, 1) := by decide +kernel
theorem dX12_readLine_50 : decode cX12_readLine 50 = .ok (.invokevirtual 172, 3) := by decide +kernel
theorem dX12_readLine_53 : decode cX12_readLine 53 = .ok (.ifCond .ne 27, 3) := by decide +kernel
theorem dX12_readLine_56 : decode cX12_readLine 56 = .ok (.aload_n 0, 1) := by decide +kernel
theorem dX12_readLine_57 : decode cX12_readLine 57 = .ok (.iconst 2, 1) := by decide +kernel
theorem dX12_readLine_58 : decode cX12_readLine 58 = .ok (.invokevirtual 172, 3) := by decide +kernel
theorem dX12_readLine_61 : decode cX12_readLine 61 = .ok (.ifCond .ne 19, 3) := by decide +kernel
theorem dX12_readLine_64 : decode cX12_readLine 64 = .ok (.aload_n 0, 1) := by decide +kernel
theorem dX12_readLine_65 : decode cX12_readLine 65 = .ok (.iconst 3, 1) := by decide +kernel
theorem dX12_readLine_66 : decode cX12_readLine 66 = .ok (.invokevirtual 172, 3) := by decide +kernel
theorem dX12_readLine_69 : decode cX12_readLine 69 = .ok (.ifCond .ne 11, 3) := by decide +kernel
theorem dX12_readLine_72 : decode cX12_readLine 72 = .ok (.aload_n 0, 1) := by decide +kernel
theorem dX12_readLine_73 : decode cX12_readLine 73 = .ok (.iconst 1, 1) := by decide +kernel
theorem dX12_readLine_74 : decode cX12_readLine 74 = .ok (.invokevirtual 168, 3) := by decide +kernel
theorem dX12_wrong_0 : decode cX12_wrong 0 = .ok (.aload_n 0, 1) := by decide +kernel
theorem dX12_wrong_1 : decode cX12_wrong 1 = .ok (.getfield 162, 3) := by decide +kernel
theorem dX12_wrong_4 : decode cX12_wrong 4 = .ok (.ifCond .ne 21, 3) := by decide +kernel
theorem dX12_wrong_7 : decode cX12_wrong 7 = .ok (.aload_n 0, 1) := by decide +kernel
theorem dX12_wrong_8 : decode cX12_wrong 8 = .ok (.iload_n 1, 1) := by decide +kernel
theorem dX12_wrong_9 : decode cX12_wrong 9 = .ok (.bipush 16, 2) := by decide +kernel
theorem dX12_wrong_11 : decode cX12_wrong 11 = .ok (.aload_n 0, 1) := by decide +kernel
theorem dX12_wrong_12 : decode cX12_wrong 12 = .ok (.getfield 27, 3) := by decide +kernel
theorem dX12_wrong_15 : decode cX12_wrong 15 = .ok (.aload_n 0, 1) := by decide +kernel
theorem dX12_wrong_16 : decode cX12_wrong 16 = .ok (.getfield 159, 3) := by decide +kernel
theorem dX12_wrong_19 : decode cX12_wrong 19 = .ok (.iaload, 1) := by decide +kernel
theorem dX12_wrong_20 : decode cX12_wrong 20 = .ok (.imul, 1) := by decide +kernel
theorem dX12_wrong_21 : decode cX12_wrong 21 = .ok (.iadd, 1) := by decide +kernel
theorem dX12_wrong_22 : decode cX12_wrong 22 = .ok (.putfield 162, 3) := by decide +kernel
theorem dX12_wrong_25 : decode cX12_wrong 25 = .ok (.return_, 1) := by decide +kernel
set_option maxHeartbeats 4000000 in
set_option maxRecDepth 100000 in
theorem s_X12_wrong {P : PP} {a0 : Nat} {a1 : Int32} (I : IM P a0) (ha1 : 1 ≤ a1.toInt ∧ a1.toInt ≤ 5) (hW : MW P a0) : CtrV yX12_wrong cX12_wrong 2 none ({ frames := 1, cells := 0, slots := 0, locals := 64 } : Room) 0 0 P [.ref a0, .int a1] (fun P2 => IM P2 a0 ∧ EM [8] a0 P P2 ∧ MW P2 a0) := by
  refine enV (lv := [(0, .ref a0), (1, .int a1)]) (by decide) (Nat.le_of_ble_eq_true rfl) rfl (fun E D cy C Ci0 ret => ?_)
  have ha0 := I.2.1
  refine g_aload_n C dX12_wrong_0 rfl 0 rfl ?_
  refine g_getI C fi_X12_162 (by decide) (ha0).1 (ha0).2 dX12_wrong_1 ?_
  have h75124 := I.rg (ha0) 8 rfl
  refine b_if_ne C 25 dX12_wrong_4 (by decide) (fun h75125 => ?_) (fun h75125 => ?_)
  · have h75125 : (pI P a0 8).toInt ≠ 0 := ti_ne h75125
    exact ret _ _ _ _ _ dX12_wrong_25 (by decide) (by decide) ⟨I, EM.rf, hW⟩
  · have h75125 : (pI P a0 8).toInt = 0 := congrArg Int32.toInt h75125
    refine g_aload_n C dX12_wrong_7 rfl 0 rfl ?_
    refine g_iload_n C dX12_wrong_8 rfl 1 rfl ?_
    refine g_bipush (v := 16) C dX12_wrong_9 (by decide) ?_
    refine g_aload_n C dX12_wrong_11 rfl 0 rfl ?_
    obtain ⟨b75126, e75127, h75128⟩ := I.fld (ha0) 5 13 1002 rfl
    refine g_getR C fi_X12_27 rfl e75127 (ha0).1 (ha0).2 dX12_wrong_12 ?_
    refine g_aload_n C dX12_wrong_15 rfl 0 rfl ?_
    refine g_getI C fi_X12_159 (by decide) (ha0).1 (ha0).2 dX12_wrong_16 ?_
    have h75129 := I.rg (ha0) 7 rfl
    refine g_iald (j := ((pI P a0 7).toInt.toNat)) C h75128.1 h75128.2.1 (ix_in h75128.2.2 (by omega)) dX12_wrong_19 ?_
    have h75130 := I.arr e75127 rfl ((pI P a0 7).toInt.toNat)
    refine s_imul C dX12_wrong_20 (by show -2147483648 ≤ 16 * (pI P b75126 ((pI P a0 7).toInt.toNat)).toInt ∧ 16 * (pI P b75126 ((pI P a0 7).toInt.toNat)).toInt ≤ 2147483647; omega) (fun z75131 h75132 => ?_)
    have h75132 : z75131.toInt = 16 * (pI P b75126 ((pI P a0 7).toInt.toNat)).toInt := h75132
    refine s_iadd C dX12_wrong_21 (by show -2147483648 ≤ a1.toInt + z75131.toInt ∧ a1.toInt + z75131.toInt ≤ 2147483647; omega) (fun z75133 h75134 => ?_)
    have h75134 : z75133.toInt = a1.toInt + z75131.toInt := h75134
    refine g_putI C fi_X12_162 rfl (ha0).1 (ha0).2 dX12_wrong_22 ?_
    refine gqW (ks := [8]) (I.setI (rgOk.of rfl (by omega))) (EM.setI I (by decide)) (fun Y75135 Iy75136 Xy75137 w75138 => ?_)
    have w75138 : (pI Y75135 a0 8).toInt = z75133.toInt := w75138
    have q75139 := Xy75137.keepF 7 (by decide)
    have W75140 := hW.keep I Xy75137 (by decide) (by decide) (by decide)
    have Xz75141 : EM [8] a0 P Y75135 := Xy75137.mono (by decide)
    have h75142 := Xy75137.at ha0
    exact ret _ _ _ _ _ dX12_wrong_25 (by decide) (by decide) ⟨Iy75136, Xz75141, W75140⟩
theorem dX12_readLine_77 : decode cX12_readLine 77 = .ok (.goto 38, 3) := by decide +kernel
theorem dX12_readLine_80 : decode cX12_readLine 80 = .ok (.iload_n 1, 1) := by decide +kernel
theorem dX12_readLine_81 : decode cX12_readLine 81 = .ok (.ifCond .eq 11, 3) := by decide +kernel
theorem dX12_readLine_84 : decode cX12_readLine 84 = .ok (.aload_n 0, 1) := by decide +kernel
theorem dX12_readLine_85 : decode cX12_readLine 85 = .ok (.iconst 3, 1) := by decide +kernel
theorem dX12_readLine_86 : decode cX12_readLine 86 = .ok (.invokevirtual 168, 3) := by decide +kernel
theorem dX12_readLine_89 : decode cX12_readLine 89 = .ok (.goto 26, 3) := by decide +kernel
theorem dX12_readLine_92 : decode cX12_readLine 92 = .ok (.aload_n 0, 1) := by decide +kernel
theorem dX12_readLine_93 : decode cX12_readLine 93 = .ok (.iconst 2, 1) := by decide +kernel
theorem dX12_readLine_94 : decode cX12_readLine 94 = .ok (.invokevirtual 172, 3) := by decide +kernel
theorem dX12_readLine_97 : decode cX12_readLine 97 = .ok (.ifCond .eq 18, 3) := by decide +kernel
theorem dX12_readLine_100 : decode cX12_readLine 100 = .ok (.aload_n 0, 1) := by decide +kernel
theorem dX12_readLine_101 : decode cX12_readLine 101 = .ok (.getfield 60, 3) := by decide +kernel
theorem dX12_readLine_104 : decode cX12_readLine 104 = .ok (.iconst 2, 1) := by decide +kernel
theorem dX12_readLine_105 : decode cX12_readLine 105 = .ok (.iaload, 1) := by decide +kernel
theorem dX12_readLine_106 : decode cX12_readLine 106 = .ok (.iconst 4, 1) := by decide +kernel
theorem dX12_readLine_107 : decode cX12_readLine 107 = .ok (.if_icmp .ne 8, 3) := by decide +kernel
theorem dX12_readLine_110 : decode cX12_readLine 110 = .ok (.aload_n 0, 1) := by decide +kernel
theorem dX12_readLine_111 : decode cX12_readLine 111 = .ok (.iconst 5, 1) := by decide +kernel
theorem dX12_readLine_112 : decode cX12_readLine 112 = .ok (.invokevirtual 168, 3) := by decide +kernel
theorem dX12_readLine_115 : decode cX12_readLine 115 = .ok (.aload_n 0, 1) := by decide +kernel
theorem dX12_readLine_116 : decode cX12_readLine 116 = .ok (.getfield 162, 3) := by decide +kernel
theorem dX12_readLine_119 : decode cX12_readLine 119 = .ok (.ifCond .le 4, 3) := by decide +kernel
theorem dX12_readLine_123 : decode cX12_readLine 123 = .ok (.aload_n 0, 1) := by decide +kernel
theorem dX12_readLine_124 : decode cX12_readLine 124 = .ok (.iconst 0, 1) := by decide +kernel
theorem dX12_readLine_125 : decode cX12_readLine 125 = .ok (.invokevirtual 175, 3) := by decide +kernel
theorem dX12_readOdds_0 : decode cX12_readOdds 0 = .ok (.aload_n 0, 1) := by decide +kernel
theorem dX12_readOdds_1 : decode cX12_readOdds 1 = .ok (.getfield 24, 3) := by decide +kernel
theorem dX12_readOdds_4 : decode cX12_readOdds 4 = .ok (.aload_n 0, 1) := by decide +kernel
theorem dX12_readOdds_5 : decode cX12_readOdds 5 = .ok (.getfield 159, 3) := by decide +kernel
theorem dX12_readOdds_8 : decode cX12_readOdds 8 = .ok (.iaload, 1) := by decide +kernel
theorem dX12_readOdds_9 : decode cX12_readOdds 9 = .ok (.iconst 2, 1) := by decide +kernel
theorem dX12_readOdds_10 : decode cX12_readOdds 10 = .ok (.if_icmp .ne 59, 3) := by decide +kernel
theorem dX12_readOdds_13 : decode cX12_readOdds 13 = .ok (.aload_n 0, 1) := by decide +kernel
theorem dX12_readOdds_14 : decode cX12_readOdds 14 = .ok (.getfield 30, 3) := by decide +kernel
theorem dX12_readOdds_17 : decode cX12_readOdds 17 = .ok (.aload_n 0, 1) := by decide +kernel
theorem dX12_readOdds_18 : decode cX12_readOdds 18 = .ok (.getfield 159, 3) := by decide +kernel
theorem dX12_readOdds_21 : decode cX12_readOdds 21 = .ok (.laload, 1) := by decide +kernel
theorem dX12_readOdds_22 : decode cX12_readOdds 22 = .ok (.lconst 1, 1) := by decide +kernel
theorem dX12_readOdds_23 : decode cX12_readOdds 23 = .ok (.lcmp, 1) := by decide +kernel
theorem dX12_readOdds_24 : decode cX12_readOdds 24 = .ok (.ifCond .lt 45, 3) := by decide +kernel
theorem dX12_readOdds_27 : decode cX12_readOdds 27 = .ok (.aload_n 0, 1) := by decide +kernel
theorem dX12_readOdds_28 : decode cX12_readOdds 28 = .ok (.getfield 30, 3) := by decide +kernel
theorem dX12_readOdds_31 : decode cX12_readOdds 31 = .ok (.aload_n 0, 1) := by decide +kernel
theorem dX12_readOdds_32 : decode cX12_readOdds 32 = .ok (.getfield 159, 3) := by decide +kernel
theorem dX12_readOdds_35 : decode cX12_readOdds 35 = .ok (.laload, 1) := by decide +kernel
theorem dX12_readOdds_36 : decode cX12_readOdds 36 = .ok (.ldc2_w 221, 3) := by decide +kernel
theorem dX12_readOdds_39 : decode cX12_readOdds 39 = .ok (.lcmp, 1) := by decide +kernel
theorem dX12_readOdds_40 : decode cX12_readOdds 40 = .ok (.ifCond .gt 29, 3) := by decide +kernel
theorem dX12_readOdds_43 : decode cX12_readOdds 43 = .ok (.aload_n 0, 1) := by decide +kernel
theorem dX12_readOdds_44 : decode cX12_readOdds 44 = .ok (.getfield 51, 3) := by decide +kernel
theorem dX12_readOdds_47 : decode cX12_readOdds 47 = .ok (.bipush 42, 2) := by decide +kernel
theorem dX12_readOdds_49 : decode cX12_readOdds 49 = .ok (.aload_n 0, 1) := by decide +kernel
theorem dX12_readOdds_50 : decode cX12_readOdds 50 = .ok (.getfield 30, 3) := by decide +kernel
theorem dX12_readOdds_53 : decode cX12_readOdds 53 = .ok (.aload_n 0, 1) := by decide +kernel
theorem dX12_readOdds_54 : decode cX12_readOdds 54 = .ok (.getfield 159, 3) := by decide +kernel
theorem dX12_readOdds_57 : decode cX12_readOdds 57 = .ok (.laload, 1) := by decide +kernel
theorem dX12_readOdds_58 : decode cX12_readOdds 58 = .ok (.l2i, 1) := by decide +kernel
theorem dX12_readOdds_59 : decode cX12_readOdds 59 = .ok (.iadd, 1) := by decide +kernel
theorem dX12_readOdds_60 : decode cX12_readOdds 60 = .ok (.iaload, 1) := by decide +kernel
theorem dX12_readSum_0 : decode cX12_readSum 0 = .ok (.iconst 0, 1) := by decide +kernel
theorem dX12_readSum_1 : decode cX12_readSum 1 = .ok (.istore_n 1, 1) := by decide +kernel
theorem dX12_readSum_2 : decode cX12_readSum 2 = .ok (.iconst 0, 1) := by decide +kernel
theorem dX12_readSum_3 : decode cX12_readSum 3 = .ok (.istore_n 2, 1) := by decide +kernel
theorem dX12_readSum_4 : decode cX12_readSum 4 = .ok (.aload_n 0, 1) := by decide +kernel
theorem dX12_readSum_5 : decode cX12_readSum 5 = .ok (.getfield 162, 3) := by decide +kernel
theorem dX12_readSum_8 : decode cX12_readSum 8 = .ok (.ifCond .ne 97, 3) := by decide +kernel
theorem dX12_readSum_11 : decode cX12_readSum 11 = .ok (.iload_n 2, 1) := by decide +kernel
theorem dX12_readSum_12 : decode cX12_readSum 12 = .ok (.iconst 2, 1) := by decide +kernel
theorem dX12_readSum_13 : decode cX12_readSum 13 = .ok (.if_icmp .lt 16, 3) := by decide +kernel
theorem dX12_readSum_105 : decode cX12_readSum 105 = .ok (.aload_n 0, 1) := by decide +kernel
theorem dX12_readSum_106 : decode cX12_readSum 106 = .ok (.getfield 63, 3) := by decide +kernel
theorem dX12_readSum_109 : decode cX12_readSum 109 = .ok (.bipush 8, 2) := by decide +kernel
theorem dX12_readSum_111 : decode cX12_readSum 111 = .ok (.aload_n 0, 1) := by decide +kernel
theorem dX12_readSum_112 : decode cX12_readSum 112 = .ok (.getfield 60, 3) := by decide +kernel
theorem dX12_readSum_115 : decode cX12_readSum 115 = .ok (.iconst 2, 1) := by decide +kernel
theorem dX12_readSum_116 : decode cX12_readSum 116 = .ok (.iaload, 1) := by decide +kernel
theorem dX12_readSum_117 : decode cX12_readSum 117 = .ok (.iadd, 1) := by decide +kernel
theorem dX12_readSum_118 : decode cX12_readSum 118 = .ok (.iload_n 1, 1) := by decide +kernel
theorem dX12_readSum_119 : decode cX12_readSum 119 = .ok (.iastore, 1) := by decide +kernel
theorem dX12_right_0 : decode cX12_right 0 = .ok (.aload_n 0, 1) := by decide +kernel
theorem dX12_right_1 : decode cX12_right 1 = .ok (.iconst 0, 1) := by decide +kernel
theorem dX12_right_2 : decode cX12_right 2 = .ok (.putfield 1, 3) := by decide +kernel
theorem dX12_right_5 : decode cX12_right 5 = .ok (.aload_n 0, 1) := by decide +kernel
theorem dX12_right_6 : decode cX12_right 6 = .ok (.iload_n 1, 1) := by decide +kernel
theorem dX12_right_7 : decode cX12_right 7 = .ok (.iload_n 2, 1) := by decide +kernel
theorem dX12_right_8 : decode cX12_right 8 = .ok (.iload_n 3, 1) := by decide +kernel
theorem dX12_right_9 : decode cX12_right 9 = .ok (.invokevirtual 333, 3) := by decide +kernel
theorem dX12_right_12 : decode cX12_right 12 = .ok (.ifCond .eq 23, 3) := by decide +kernel
theorem dX12_right_15 : decode cX12_right 15 = .ok (.aload_n 0, 1) := by decide +kernel
theorem dX12_right_16 : decode cX12_right 16 = .ok (.iload_n 2, 1) := by decide +kernel
theorem dX12_right_17 : decode cX12_right 17 = .ok (.iload 4, 2) := by decide +kernel
theorem dX12_right_19 : decode cX12_right 19 = .ok (.invokevirtual 352, 3) := by decide +kernel
theorem dX12_right_22 : decode cX12_right 22 = .ok (.ifCond .eq 13, 3) := by decide +kernel
theorem dX12_right_25 : decode cX12_right 25 = .ok (.aload_n 0, 1) := by decide +kernel
theorem dX12_right_26 : decode cX12_right 26 = .ok (.iload_n 1, 1) := by decide +kernel
theorem dX12_right_27 : decode cX12_right 27 = .ok (.iload_n 2, 1) := by decide +kernel
theorem dX12_right_28 : decode cX12_right 28 = .ok (.iload_n 3, 1) := by decide +kernel
theorem dX12_right_29 : decode cX12_right 29 = .ok (.invokevirtual 364, 3) := by decide +kernel
theorem dX12_right_32 : decode cX12_right 32 = .ok (.ifCond .ne 5, 3) := by decide +kernel
theorem dX12_right_35 : decode cX12_right 35 = .ok (.iconst (-1), 1) := by decide +kernel
theorem dX12_right_36 : decode cX12_right 36 = .ok (.ireturn, 1) := by decide +kernel
theorem dX12_right_37 : decode cX12_right 37 = .ok (.iconst (-1), 1) := by decide +kernel
theorem dX12_right_38 : decode cX12_right 38 = .ok (.istore 5, 2) := by decide +kernel
theorem dX12_right_40 : decode cX12_right 40 = .ok (.iconst 0, 1) := by decide +kernel
theorem dX12_right_41 : decode cX12_right 41 = .ok (.istore 6, 2) := by decide +kernel
theorem dX12_right_43 : decode cX12_right 43 = .ok (.iload 6, 2) := by decide +kernel
theorem dX12_right_45 : decode cX12_right 45 = .ok (.aload_n 0, 1) := by decide +kernel
theorem dX12_right_46 : decode cX12_right 46 = .ok (.getfield 361, 3) := by decide +kernel
theorem dX12_right_49 : decode cX12_right 49 = .ok (.if_icmp .ge 80, 3) := by decide +kernel
theorem dX12_right_52 : decode cX12_right 52 = .ok (.aload_n 0, 1) := by decide +kernel
theorem dX12_right_53 : decode cX12_right 53 = .ok (.invokevirtual 336, 3) := by decide +kernel
theorem dX12_right_56 : decode cX12_right 56 = .ok (.aload_n 0, 1) := by decide +kernel
theorem dX12_right_57 : decode cX12_right 57 = .ok (.getfield 100, 3) := by decide +kernel
theorem dX12_right_60 : decode cX12_right 60 = .ok (.aload_n 0, 1) := by decide +kernel
theorem dX12_right_61 : decode cX12_right 61 = .ok (.getfield 112, 3) := by decide +kernel
theorem dX12_right_64 : decode cX12_right 64 = .ok (.iload 6, 2) := by decide +kernel
theorem dX12_right_66 : decode cX12_right 66 = .ok (.iaload, 1) := by decide +kernel
theorem dX12_right_67 : decode cX12_right 67 = .ok (.iconst 1, 1) := by decide +kernel
theorem dX12_right_68 : decode cX12_right 68 = .ok (.bastore, 1) := by decide +kernel
theorem dX12_right_69 : decode cX12_right 69 = .ok (.aload_n 0, 1) := by decide +kernel
theorem dX12_right_70 : decode cX12_right 70 = .ok (.iload_n 1, 1) := by decide +kernel
theorem dX12_right_71 : decode cX12_right 71 = .ok (.iload_n 2, 1) := by decide +kernel
theorem dX12_right_72 : decode cX12_right 72 = .ok (.iload_n 3, 1) := by decide +kernel
theorem dX12_right_73 : decode cX12_right 73 = .ok (.aload_n 0, 1) := by decide +kernel
theorem dX12_right_74 : decode cX12_right 74 = .ok (.getfield 69, 3) := by decide +kernel
theorem dX12_right_77 : decode cX12_right 77 = .ok (.iload_n 1, 1) := by decide +kernel
theorem dX12_right_78 : decode cX12_right 78 = .ok (.iaload, 1) := by decide +kernel
theorem dX12_right_79 : decode cX12_right 79 = .ok (.invokevirtual 339, 3) := by decide +kernel
theorem dX12_right_82 : decode cX12_right 82 = .ok (.aload_n 0, 1) := by decide +kernel
theorem dX12_right_83 : decode cX12_right 83 = .ok (.invokevirtual 346, 3) := by decide +kernel
theorem dX12_right_86 : decode cX12_right 86 = .ok (.aload_n 0, 1) := by decide +kernel
theorem dX12_right_87 : decode cX12_right 87 = .ok (.iload 4, 2) := by decide +kernel
theorem dX12_right_89 : decode cX12_right 89 = .ok (.invokevirtual 330, 3) := by decide +kernel
theorem dX12_right_92 : decode cX12_right 92 = .ok (.ifCond .eq 20, 3) := by decide +kernel
theorem dX12_right_95 : decode cX12_right 95 = .ok (.iload 5, 2) := by decide +kernel
theorem dX12_right_97 : decode cX12_right 97 = .ok (.ifCond .lt 17, 3) := by decide +kernel
theorem dX12_right_100 : decode cX12_right 100 = .ok (.iload 5, 2) := by decide +kernel
theorem dX12_right_102 : decode cX12_right 102 = .ok (.aload_n 0, 1) := by decide +kernel
theorem dX12_right_103 : decode cX12_right 103 = .ok (.getfield 109, 3) := by decide +kernel
theorem dX12_right_106 : decode cX12_right 106 = .ok (.iload 4, 2) := by decide +kernel
theorem dX12_right_108 : decode cX12_right 108 = .ok (.iaload, 1) := by decide +kernel
theorem dX12_right_109 : decode cX12_right 109 = .ok (.if_icmp .eq 5, 3) := by decide +kernel
theorem dX12_right_112 : decode cX12_right 112 = .ok (.iconst (-1), 1) := by decide +kernel
theorem dX12_right_113 : decode cX12_right 113 = .ok (.ireturn, 1) := by decide +kernel
theorem dX12_right_114 : decode cX12_right 114 = .ok (.aload_n 0, 1) := by decide +kernel
theorem dX12_right_115 : decode cX12_right 115 = .ok (.getfield 109, 3) := by decide +kernel
theorem dX12_right_118 : decode cX12_right 118 = .ok (.iload 4, 2) := by decide +kernel
theorem dX12_right_120 : decode cX12_right 120 = .ok (.iaload, 1) := by decide +kernel
theorem dX12_right_121 : decode cX12_right 121 = .ok (.istore 5, 2) := by decide +kernel
theorem dX12_right_123 : decode cX12_right 123 = .ok (.iinc 6 1, 3) := by decide +kernel
theorem dX12_right_126 : decode cX12_right 126 = .ok (.goto (-83), 3) := by decide +kernel
theorem dX12_right_129 : decode cX12_right 129 = .ok (.iload 5, 2) := by decide +kernel
theorem dX12_right_131 : decode cX12_right 131 = .ok (.ireturn, 1) := by decide +kernel
set_option maxHeartbeats 4000000 in
set_option maxRecDepth 100000 in
theorem s_X12_right {P : PP} {a0 : Nat} {a1 : Int32} {a2 : Int32} {a3 : Int32} {a4 : Int32} (I : IM P a0) (hW : MW P a0) : CtrI yX12_right cX12_right 7 (some Jvm.ClassFile.FieldType.int) ({ frames := 6, cells := 0, slots := 0, locals := 384 } : Room) 0 0 P [.ref a0, .int a1, .int a2, .int a3, .int a4] (fun r P2 => IM P2 a0 ∧ EM [0, 28, 29, 30, 31, 32, 35, 36, 37, 38, 39, 40] a0 P P2 ∧ MW P2 a0 ∧ (True)) := by
  refine enI (lv := [(0, .ref a0), (1, .int a1), (2, .int a2), (3, .int a3), (4, .int a4)]) (by decide) (Nat.le_of_ble_eq_true rfl) rfl (fun E D cy C Ci0 ret => ?_)
  have ha0 := I.2.1
  have J112 : ∀ (P112 : PP), (IM P112 a0) → (EM [0, 28, 29, 30, 31, 32, 35, 36, 37, 38, 39, 40] a0 P P112) → (MW P112 a0) → (0 ≤ (pI P112 a0 0).toInt ∧ (pI P112 a0 0).toInt ≤ 0) → (0 ≤ (pI P112 a0 28).toInt ∧ (pI P112 a0 28).toInt ≤ 44) → (1 ≤ (pI P112 a0 39).toInt ∧ (pI P112 a0 39).toInt ≤ 40) → (∀ b, pR P112 a0 10 = some b → 1 ≤ (pI P112 b (a2.toInt.toNat)).toInt ∧ (pI P112 b (a2.toInt.toNat)).toInt ≤ 16) → G E ({ frames := 6, cells := 0, slots := 0, locals := 384 } : Room) D cy 7 P112 0 0 112 [] [] := by
    intro P112 I112 X112 W112 hq112_0 hq112_1 hq112_2 hq112_3
    have h76923 := X112.at ha0
    obtain ⟨b76924, e76925, h76926⟩ := I112.fld (h76923) 10 13 2 rfl
    have hq112_3 := hq112_3 b76924 e76925
    refine g_iconst (v := (-1)) C dX12_right_112 (by decide) ?_
    exact ret _ _ _ _ _ _ dX12_right_113 rfl (by decide) (by decide) ⟨I112, X112, W112, trivial⟩
  have J43 : ∀ (n43 : Nat) (P43 : PP) (v43_5 : Int32) (v43_6 : Int32), (40 - v43_6.toInt).toNat < n43 → (IM P43 a0) → (EM [0, 28, 29, 30, 31, 32, 35, 36, 37, 38, 39, 40] a0 P P43) → (MW P43 a0) → (0 ≤ a1.toInt ∧ a1.toInt ≤ 3) → (0 ≤ a2.toInt ∧ a2.toInt ≤ 1) → (0 ≤ a3.toInt ∧ a3.toInt ≤ 1) → (0 ≤ a4.toInt ∧ a4.toInt ≤ 19) → (0 ≤ v43_6.toInt ∧ v43_6.toInt ≤ 40) → (0 ≤ (pI P43 a0 0).toInt ∧ (pI P43 a0 0).toInt ≤ 0) → (∀ b, pR P43 a0 10 = some b → 1 ≤ (pI P43 b (a2.toInt.toNat)).toInt ∧ (pI P43 b (a2.toInt.toNat)).toInt ≤ 16) → G E ({ frames := 6, cells := 0, slots := 0, locals := 384 } : Room) D cy 7 P43 0 0 43 [(0, .ref a0), (1, .int a1), (2, .int a2), (3, .int a3), (4, .int a4), (5, .int v43_5), (6, .int v43_6)] [] := by
    intro n43
    induction n43 with
    | zero => intro P43 v43_5 v43_6 hm43 I43 X43 W43 hv43_1 hv43_2 hv43_3 hv43_4 hv43_6 hq43_0 hq43_1; omega
    | succ n43 ih43 =>
      intro P43 v43_5 v43_6 hm43 I43 X43 W43 hv43_1 hv43_2 hv43_3 hv43_4 hv43_6 hq43_0 hq43_1
      have h76927 := X43.at ha0
      obtain ⟨b76928, e76929, h76930⟩ := I43.fld (h76927) 10 13 2 rfl
      have hq43_1 := hq43_1 b76928 e76929
      have J114 : ∀ (P114 : PP), (IM P114 a0) → (EM [0, 28, 29, 30, 31, 32, 35, 36, 37, 38, 39, 40] a0 P P114) → (MW P114 a0) → (0 ≤ a1.toInt ∧ a1.toInt ≤ 3) → (0 ≤ a2.toInt ∧ a2.toInt ≤ 1) → (0 ≤ a3.toInt ∧ a3.toInt ≤ 1) → (0 ≤ a4.toInt ∧ a4.toInt ≤ 19) → (0 ≤ v43_6.toInt ∧ v43_6.toInt ≤ 39) → (0 ≤ (pI P114 a0 0).toInt ∧ (pI P114 a0 0).toInt ≤ 0) → (0 ≤ (pI P114 a0 28).toInt ∧ (pI P114 a0 28).toInt ≤ 44) → (1 ≤ (pI P114 a0 39).toInt ∧ (pI P114 a0 39).toInt ≤ 40) → (∀ b, pR P114 a0 10 = some b → 1 ≤ (pI P114 b (a2.toInt.toNat)).toInt ∧ (pI P114 b (a2.toInt.toNat)).toInt ≤ 16) → G E ({ frames := 6, cells := 0, slots := 0, locals := 384 } : Room) D cy 7 P114 0 0 114 [(0, .ref a0), (1, .int a1), (2, .int a2), (3, .int a3), (4, .int a4), (6, .int v43_6)] [] := by
        intro P114 I114 X114 W114 hv114_1 hv114_2 hv114_3 hv114_4 hv114_6 hq114_0 hq114_1 hq114_2 hq114_3
        have h76931 := X114.at ha0
        obtain ⟨b76932, e76933, h76934⟩ := I114.fld (h76931) 10 13 2 rfl
        have hq114_3 := hq114_3 b76932 e76933
        refine g_aload_n C dX12_right_114 rfl 0 rfl ?_
        obtain ⟨b76935, e76936, h76937⟩ := I114.fld (h76931) 38 13 20 rfl
        refine g_getR C fi_X12_109 rfl e76936 (h76931).1 (h76931).2 dX12_right_115 ?_
        refine g_iload C dX12_right_118 4 rfl ?_
        refine g_iald (j := (a4.toInt.toNat)) C h76937.1 h76937.2.1 (ix_in h76937.2.2 (by omega)) dX12_right_120 ?_
        refine g_topi (fun z76938 h76939 => ?_)
        have h76939 : z76938.toInt = (pI P114 b76935 (a4.toInt.toNat)).toInt := congrArg Int32.toInt h76939
        refine g_istore (lv' := [(5, .int z76938), (0, .ref a0), (1, .int a1), (2, .int a2), (3, .int a3), (4, .int a4), (6, .int v43_6)]) C dX12_right_121 (by decide) rfl ?_
        refine s_iinc (lv0 := [(5, .int z76938), (0, .ref a0), (1, .int a1), (2, .int a2), (3, .int a3), (4, .int a4)]) (m := 1) C dX12_right_123 6 rfl (by decide) rfl (by decide) (by omega) (fun z76940 h76941 => ?_)
        have h76941 : z76940.toInt = v43_6.toInt + 1 := h76941
        refine g_goto C 43 dX12_right_126 (by decide) ?_
        refine g_lv (lv' := [(0, .ref a0), (1, .int a1), (2, .int a2), (3, .int a3), (4, .int a4), (5, .int z76938), (6, .int z76940)]) [2, 3, 4, 5, 6, 1, 0] rfl ?_
        exact ih43 P114 z76938 z76940 (by omega) I114 X114 W114 (by omega) (by omega) (by omega) (by omega) (by omega) (by omega) (fun b9 e9 => by rw [e76933] at e9; cases e9; omega)
      refine g_iload C dX12_right_43 6 rfl ?_
      refine g_aload_n C dX12_right_45 rfl 0 rfl ?_
      refine g_getI C fi_X12_361 (by decide) (h76927).1 (h76927).2 dX12_right_46 ?_
      have h76942 := I43.rg (h76927) 39 rfl
      refine b_icmp_ge C 129 dX12_right_49 (by decide) (fun h76943 => ?_) (fun h76943 => ?_)
      · have h76943 : (pI P43 a0 39).toInt ≤ v43_6.toInt := h76943
        refine g_iload C dX12_right_129 5 rfl ?_
        exact ret _ _ _ _ _ _ dX12_right_131 rfl (by decide) (by decide) ⟨I43, X43, W43, trivial⟩
      · have h76943 : v43_6.toInt < (pI P43 a0 39).toInt := h76943
        refine g_aload_n C dX12_right_52 rfl 0 rfl ?_
        refine g_callVV (rest := []) C mv_X12_336 [] (s_X12_leavesNone I43 W43) (h76927).1 (h76927).2 rfl rfl (by decide) (Nat.le_of_ble_eq_true rfl) (by decide) dX12_right_53 (fun Y76945 h76946 => ?_)
        obtain ⟨Iy76947, Xy76948, W76949⟩ := h76946
        have q76950 := Xy76948.keepF 0 (by decide)
        have q76951 := Xy76948.keepA e76929 (by decide) rfl (a2.toInt.toNat)
        have q76952 := Xy76948.keepF 39 (by decide)
        have Xz76953 : EM [0, 28, 29, 30, 31, 32, 35, 36, 37, 38, 39, 40] a0 P Y76945 := EM.tr ha0 X43 (Xy76948.mono (by decide))
        have e76954 := Xy76948.ref h76927 (by decide) e76929
        have h76955 := Xy76948.at h76927
        have h76956 := Xy76948.ar h76930
        refine g_aload_n C dX12_right_56 rfl 0 rfl ?_
        obtain ⟨b76957, e76958, h76959⟩ := Iy76947.fld (h76955) 32 15 40 rfl
        refine g_getR C fi_X12_100 rfl e76958 (h76955).1 (h76955).2 dX12_right_57 ?_
        refine g_aload_n C dX12_right_60 rfl 0 rfl ?_
        obtain ⟨b76960, e76961, h76962⟩ := Iy76947.fld (h76955) 40 13 40 rfl
        refine g_getR C fi_X12_112 rfl e76961 (h76955).1 (h76955).2 dX12_right_61 ?_
        refine g_iload C dX12_right_64 6 rfl ?_
        refine g_iald (j := (v43_6.toInt.toNat)) C h76962.1 h76962.2.1 (ix_in h76962.2.2 (by omega)) dX12_right_66 ?_
        have h76963 := Iy76947.arr e76961 rfl (v43_6.toInt.toNat)
        refine g_iconst (v := 1) C dX12_right_67 (by decide) ?_
        refine g_zast (j := ((pI Y76945 b76960 (v43_6.toInt.toNat)).toInt.toNat)) C h76959.1 h76959.2.1 (ix_in h76959.2.2 (by omega)) (Or.inr rfl) dX12_right_68 ?_
        refine gqW (ks := [32]) (Iy76947.setA e76958 h76959 (by decide) (arOk.none rfl)) (EM.setA Iy76947 e76958 rfl (by decide)) (fun Y76964 Iy76965 Xy76966 w76967 => ?_)
        have w76967 : (pI Y76964 b76957 ((pI Y76945 b76960 (v43_6.toInt.toNat)).toInt.toNat)).toInt = 1 := w76967
        have q76968 := Xy76966.keepF 0 (by decide)
        have q76969 := Xy76966.keepA e76954 (by decide) rfl (a2.toInt.toNat)
        have q76970 := Xy76966.keepF 39 (by decide)
        have q76971 := Xy76966.keepA e76961 (by decide) rfl (v43_6.toInt.toNat)
        have W76972 := W76949.keep Iy76947 Xy76966 (by decide) (by decide) (by decide)
        have Xz76973 : EM [0, 28, 29, 30, 31, 32, 35, 36, 37, 38, 39, 40] a0 P Y76964 := EM.tr ha0 Xz76953 (Xy76966.mono (by decide))
        have e76974 := Xy76966.ref h76955 (by decide) e76954
        have e76975 := Xy76966.ref h76955 (by decide) e76961
        have h76976 := Xy76966.at h76955
        have h76977 := Xy76966.ar h76956
        have h76978 := Xy76966.ar h76962
        refine g_aload_n C dX12_right_69 rfl 0 rfl ?_
        refine g_iload_n C dX12_right_70 rfl 1 rfl ?_
        refine g_iload_n C dX12_right_71 rfl 2 rfl ?_
        refine g_iload_n C dX12_right_72 rfl 3 rfl ?_
        refine g_aload_n C dX12_right_73 rfl 0 rfl ?_
        obtain ⟨b76979, e76980, h76981⟩ := Iy76965.fld (h76976) 20 13 20 rfl
        refine g_getR C fi_X12_69 rfl e76980 (h76976).1 (h76976).2 dX12_right_74 ?_
        refine g_iload_n C dX12_right_77 rfl 1 rfl ?_
        refine g_iald (j := (a1.toInt.toNat)) C h76981.1 h76981.2.1 (ix_in h76981.2.2 (by omega)) dX12_right_78 ?_
        have h76982 := Iy76965.arr e76980 rfl (a1.toInt.toNat)
        refine g_callVV (rest := []) C mv_X12_339 [.int a1, .int a2, .int a3, .int (pI Y76964 b76979 (a1.toInt.toNat))] (s_X12_gathers Iy76965 (by omega) (by omega) (by omega) (fun b9 e9 => by rw [e76974] at e9; cases e9; show 1 ≤ (pI Y76964 b76928 (a2.toInt.toNat)).toInt ∧ (pI Y76964 b76928 (a2.toInt.toNat)).toInt ≤ 16; omega) W76972) (h76976).1 (h76976).2 rfl rfl (by decide) (Nat.le_of_ble_eq_true rfl) (by decide) dX12_right_79 (fun Y76984 h76985 => ?_)
        obtain ⟨Iy76986, Xy76987, W76988, p76989⟩ := h76985
        have p76989 : (pI Y76984 a0 28).toInt ≤ 4 + (pI Y76964 b76979 (a1.toInt.toNat)).toInt := p76989
        have q76990 := Xy76987.keepF 0 (by decide)
        have q76991 := Xy76987.keepA e76974 (by decide) rfl (a2.toInt.toNat)
        have q76992 := Xy76987.keepF 39 (by decide)
        have q76993 := Xy76987.keepA e76975 (by decide) rfl (v43_6.toInt.toNat)
        have q76994 := Xy76987.keepA e76980 (by decide) rfl (a1.toInt.toNat)
        have Xz76995 : EM [0, 28, 29, 30, 31, 32, 35, 36, 37, 38, 39, 40] a0 P Y76984 := EM.tr ha0 Xz76973 (Xy76987.mono (by decide))
        have e76996 := Xy76987.ref h76976 (by decide) e76974
        have e76997 := Xy76987.ref h76976 (by decide) e76975
        have e76998 := Xy76987.ref h76976 (by decide) e76980
        have h76999 := Xy76987.at h76976
        have h77000 := Xy76987.ar h76977
        have h77001 := Xy76987.ar h76978
        have h77002 := Xy76987.ar h76981
        have h77003 := Iy76986.rg h76999 28 rfl
        refine g_aload_n C dX12_right_82 rfl 0 rfl ?_
        refine g_callVV (rest := []) C mv_X12_346 [] (s_X12_findSolved Iy76986 W76988) (h76999).1 (h76999).2 rfl rfl (by decide) (Nat.le_of_ble_eq_true rfl) (by decide) dX12_right_83 (fun Y77005 h77006 => ?_)
        obtain ⟨Iy77007, Xy77008, W77009⟩ := h77006
        have q77010 := Xy77008.keepF 0 (by decide)
        have q77011 := Xy77008.keepA e76996 (by decide) rfl (a2.toInt.toNat)
        have q77012 := Xy77008.keepF 39 (by decide)
        have q77013 := Xy77008.keepA e76997 (by decide) rfl (v43_6.toInt.toNat)
        have q77014 := Xy77008.keepA e76998 (by decide) rfl (a1.toInt.toNat)
        have q77015 := Xy77008.keepF 28 (by decide)
        have Xz77016 : EM [0, 28, 29, 30, 31, 32, 35, 36, 37, 38, 39, 40] a0 P Y77005 := EM.tr ha0 Xz76995 (Xy77008.mono (by decide))
        have e77017 := Xy77008.ref h76999 (by decide) e76996
        have e77018 := Xy77008.ref h76999 (by decide) e76997
        have e77019 := Xy77008.ref h76999 (by decide) e76998
        have h77020 := Xy77008.at h76999
        have h77021 := Xy77008.ar h77000
        have h77022 := Xy77008.ar h77001
        have h77023 := Xy77008.ar h77002
        refine g_aload_n C dX12_right_86 rfl 0 rfl ?_
        refine g_iload C dX12_right_87 4 rfl ?_
        refine g_callVI (rest := []) C mv_X12_330 [.int a4] (s_X12_isFixed Iy77007 (by omega) W77009) (h77020).1 (h77020).2 rfl rfl (by decide) (Nat.le_of_ble_eq_true rfl) (by decide) dX12_right_89 (fun r77024 Y77025 h77026 => ?_)
        obtain ⟨rfl, h77026⟩ := h77026
        have h77026 : 0 ≤ r77024.toInt ∧ r77024.toInt ≤ 1 := h77026
        refine b_if_eq C 112 dX12_right_92 (by decide) (fun h77027 => ?_) (fun h77027 => ?_)
        · have h77027 : r77024.toInt = 0 := congrArg Int32.toInt h77027
          refine g_lv (lv' := []) [] rfl ?_
          exact J112 Y77005 Iy77007 Xz77016 W77009 (by omega) (by omega) (by omega) (fun b9 e9 => by rw [e77017] at e9; cases e9; omega)
        · have h77027 : r77024.toInt ≠ 0 := ti_ne h77027
          refine g_iload C dX12_right_95 5 rfl ?_
          have u77029 := ti_rng v43_5
          refine b_if_lt C 114 dX12_right_97 (by decide) (fun h77028 => ?_) (fun h77028 => ?_)
          · have h77028 : v43_5.toInt < 0 := h77028
            refine g_lv (lv' := [(0, .ref a0), (1, .int a1), (2, .int a2), (3, .int a3), (4, .int a4), (6, .int v43_6)]) [0, 1, 2, 3, 4, 6] rfl ?_
            exact J114 Y77005 Iy77007 Xz77016 W77009 (by omega) (by omega) (by omega) (by omega) (by omega) (by omega) (by omega) (by omega) (fun b9 e9 => by rw [e77017] at e9; cases e9; omega)
          · have h77028 : 0 ≤ v43_5.toInt := h77028
            refine g_iload C dX12_right_100 5 rfl ?_
            refine g_aload_n C dX12_right_102 rfl 0 rfl ?_
            obtain ⟨b77030, e77031, h77032⟩ := Iy77007.fld (h77020) 38 13 20 rfl
            refine g_getR C fi_X12_109 rfl e77031 (h77020).1 (h77020).2 dX12_right_103 ?_
            refine g_iload C dX12_right_106 4 rfl ?_
            refine g_iald (j := (a4.toInt.toNat)) C h77032.1 h77032.2.1 (ix_in h77032.2.2 (by omega)) dX12_right_108 ?_
            have u77034 := ti_rng v43_5
            have u77035 := ti_rng (pI Y77005 b77030 (a4.toInt.toNat))
            refine b_icmp_eq C 114 dX12_right_109 (by decide) (fun h77033 => ?_) (fun h77033 => ?_)
            · have h77033 : v43_5.toInt = (pI Y77005 b77030 (a4.toInt.toNat)).toInt := congrArg Int32.toInt h77033
              refine g_lv (lv' := [(0, .ref a0), (1, .int a1), (2, .int a2), (3, .int a3), (4, .int a4), (6, .int v43_6)]) [0, 1, 2, 3, 4, 6] rfl ?_
              exact J114 Y77005 Iy77007 Xz77016 W77009 (by omega) (by omega) (by omega) (by omega) (by omega) (by omega) (by omega) (by omega) (fun b9 e9 => by rw [e77017] at e9; cases e9; omega)
            · have h77033 : v43_5.toInt ≠ (pI Y77005 b77030 (a4.toInt.toNat)).toInt := ti_ne h77033
              refine g_lv (lv' := []) [] rfl ?_
              exact J112 Y77005 Iy77007 Xz77016 W77009 (by omega) (by omega) (by omega) (fun b9 e9 => by rw [e77017] at e9; cases e9; omega)
  have J35 : ∀ (P35 : PP), (IM P35 a0) → (EM [0, 28, 29, 30, 31, 32, 35, 36, 37, 38, 39, 40] a0 P P35) → (MW P35 a0) → (0 ≤ (pI P35 a0 0).toInt ∧ (pI P35 a0 0).toInt ≤ 0) → G E ({ frames := 6, cells := 0, slots := 0, locals := 384 } : Room) D cy 7 P35 0 0 35 [] [] := by
    intro P35 I35 X35 W35 hq35_0
    have h77036 := X35.at ha0
    refine g_iconst (v := (-1)) C dX12_right_35 (by decide) ?_
    exact ret _ _ _ _ _ _ dX12_right_36 rfl (by decide) (by decide) ⟨I35, X35, W35, trivial⟩
  refine g_aload_n C dX12_right_0 rfl 0 rfl ?_
  refine g_iconst (v := 0) C dX12_right_1 (by decide) ?_
  refine g_putI C fi_X12_1 rfl (ha0).1 (ha0).2 dX12_right_2 ?_
  refine gqW (ks := [0]) (I.setI (rgOk.of rfl (by decide))) (EM.setI I (by decide)) (fun Y77037 Iy77038 Xy77039 w77040 => ?_)
  have w77040 : (pI Y77037 a0 0).toInt = 0 := w77040
  have W77041 := hW.keep I Xy77039 (by decide) (by decide) (by decide)
  have Xz77042 : EM [0, 28, 29, 30, 31, 32, 35, 36, 37, 38, 39, 40] a0 P Y77037 := Xy77039.mono (by decide)
  have h77043 := Xy77039.at ha0
  refine g_aload_n C dX12_right_5 rfl 0 rfl ?_
  refine g_iload_n C dX12_right_6 rfl 1 rfl ?_
  refine g_iload_n C dX12_right_7 rfl 2 rfl ?_
  refine g_iload_n C dX12_right_8 rfl 3 rfl ?_
  refine g_callVI (rest := []) C mv_X12_333 [.int a1, .int a2, .int a3] (s_X12_isAsked Iy77038 W77041) (h77043).1 (h77043).2 rfl rfl (by decide) (Nat.le_of_ble_eq_true rfl) (by decide) dX12_right_9 (fun r77044 Y77045 h77046 => ?_)
  obtain ⟨rfl, h77046⟩ := h77046
  obtain ⟨h77046, hi77047, hi77048⟩ := h77046
  have hi77047 : r77044.toInt = 0 ∨ (((0 : Int) ≤ a1.toInt ∧ a1.toInt ≤ (3 : Int)) ∧ ((0 : Int) ≤ a2.toInt ∧ a2.toInt ≤ (1 : Int)) ∧ ((0 : Int) ≤ a3.toInt ∧ a3.toInt ≤ (1 : Int))) := hi77047
  have h77046 : 0 ≤ r77044.toInt ∧ r77044.toInt ≤ 1 := h77046
  refine b_if_eq C 35 dX12_right_12 (by decide) (fun h77049 => ?_) (fun h77049 => ?_)
  · have h77049 : r77044.toInt = 0 := congrArg Int32.toInt h77049
    clear hi77047
    refine g_lv (lv' := []) [] rfl ?_
    exact J35 Y77037 Iy77038 Xz77042 W77041 (by omega)
  · have h77049 : r77044.toInt ≠ 0 := ti_ne h77049
    replace hi77047 := hi77047.resolve_left (by omega)
    obtain ⟨b77050, e77051, h77052⟩ := Iy77038.fld (h77043) 10 13 2 rfl
    have hi77048 := (hi77048.resolve_left (by omega)) b77050 e77051
    have hi77048 : 0 < (pI Y77037 b77050 (a2.toInt.toNat)).toInt := hi77048
    have h77053 := Iy77038.arr e77051 rfl (a2.toInt.toNat)
    refine g_aload_n C dX12_right_15 rfl 0 rfl ?_
    refine g_iload_n C dX12_right_16 rfl 2 rfl ?_
    refine g_iload C dX12_right_17 4 rfl ?_
    refine g_callVI (rest := []) C mv_X12_352 [.int a2, .int a4] (s_X12_isPage Iy77038 (by omega) W77041) (h77043).1 (h77043).2 rfl rfl (by decide) (Nat.le_of_ble_eq_true rfl) (by decide) dX12_right_19 (fun r77054 Y77055 h77056 => ?_)
    obtain ⟨rfl, h77056⟩ := h77056
    obtain ⟨h77056, hi77057⟩ := h77056
    have hi77057 : r77054.toInt = 0 ∨ (((0 : Int) ≤ a4.toInt ∧ a4.toInt ≤ (19 : Int))) := hi77057
    have h77056 : 0 ≤ r77054.toInt ∧ r77054.toInt ≤ 1 := h77056
    refine b_if_eq C 35 dX12_right_22 (by decide) (fun h77058 => ?_) (fun h77058 => ?_)
    · have h77058 : r77054.toInt = 0 := congrArg Int32.toInt h77058
      clear hi77057
      refine g_lv (lv' := []) [] rfl ?_
      exact J35 Y77037 Iy77038 Xz77042 W77041 (by omega)
    · have h77058 : r77054.toInt ≠ 0 := ti_ne h77058
      replace hi77057 := hi77057.resolve_left (by omega)
      refine g_aload_n C dX12_right_25 rfl 0 rfl ?_
      refine g_iload_n C dX12_right_26 rfl 1 rfl ?_
      refine g_iload_n C dX12_right_27 rfl 2 rfl ?_
      refine g_iload_n C dX12_right_28 rfl 3 rfl ?_
      refine g_callVI (rest := []) C mv_X12_364 [.int a1, .int a2, .int a3] (s_X12_findSlipped Iy77038 (by omega) (by omega) (by omega) (fun b9 e9 => by rw [e77051] at e9; cases e9; show 1 ≤ (pI Y77037 b77050 (a2.toInt.toNat)).toInt ∧ (pI Y77037 b77050 (a2.toInt.toNat)).toInt ≤ 16; omega) W77041) (h77043).1 (h77043).2 rfl rfl (by decide) (Nat.le_of_ble_eq_true rfl) (by decide) dX12_right_29 (fun r77059 Y77060 h77061 => ?_)
      obtain ⟨Iy77062, Xy77063, W77064, h77061⟩ := h77061
      have q77065 := Xy77063.keepF 0 (by decide)
      have q77066 := Xy77063.keepA e77051 (by decide) rfl (a2.toInt.toNat)
      have Xz77067 : EM [0, 28, 29, 30, 31, 32, 35, 36, 37, 38, 39, 40] a0 P Y77060 := EM.tr ha0 Xz77042 (Xy77063.mono (by decide))
      have e77068 := Xy77063.ref h77043 (by decide) e77051
      have h77069 := Xy77063.at h77043
      have h77070 := Xy77063.ar h77052
      have h77061 : 0 ≤ r77059.toInt ∧ r77059.toInt ≤ 1 := h77061
      refine b_if_ne C 37 dX12_right_32 (by decide) (fun h77071 => ?_) (fun h77071 => ?_)
      · have h77071 : r77059.toInt ≠ 0 := ti_ne h77071
        refine g_iconst (v := (-1)) C dX12_right_37 (by decide) ?_
        refine g_istore (lv' := [(5, .int (-1)), (0, .ref a0), (1, .int a1), (2, .int a2), (3, .int a3), (4, .int a4)]) C dX12_right_38 (by decide) rfl ?_
        refine g_iconst (v := 0) C dX12_right_40 (by decide) ?_
        refine g_istore (lv' := [(6, .int 0), (5, .int (-1)), (0, .ref a0), (1, .int a1), (2, .int a2), (3, .int a3), (4, .int a4)]) C dX12_right_41 (by decide) rfl ?_
        refine g_lv (lv' := [(0, .ref a0), (1, .int a1), (2, .int a2), (3, .int a3), (4, .int a4), (5, .int (-1)), (6, .int 0)]) [2, 3, 4, 5, 6, 1, 0] rfl ?_
        exact J43 _ Y77060 (-1) 0 (Nat.lt_succ_self _) Iy77062 Xz77067 W77064 (by omega) (by omega) (by omega) (by omega) (by decide) (by omega) (fun b9 e9 => by rw [e77068] at e9; cases e9; omega)
      · have h77071 : r77059.toInt = 0 := congrArg Int32.toInt h77071
        refine g_lv (lv' := []) [] rfl ?_
        exact J35 Y77060 Iy77062 Xz77067 W77064 (by omega)
theorem dX12_scatter_0 : decode cX12_scatter 0 = .ok (.aload_n 0, 1) := by decide +kernel
theorem dX12_scatter_1 : decode cX12_scatter 1 = .ok (.iconst 0, 1) := by decide +kernel
theorem dX12_scatter_2 : decode cX12_scatter 2 = .ok (.putfield 1, 3) := by decide +kernel
theorem dX12_scatter_5 : decode cX12_scatter 5 = .ok (.aload_n 0, 1) := by decide +kernel
theorem dX12_scatter_6 : decode cX12_scatter 6 = .ok (.iload_n 1, 1) := by decide +kernel
theorem dX12_scatter_7 : decode cX12_scatter 7 = .ok (.invokevirtual 192, 3) := by decide +kernel
theorem dX12_scatter_10 : decode cX12_scatter 10 = .ok (.ifCond .eq 30, 3) := by decide +kernel
theorem dX12_scatter_13 : decode cX12_scatter 13 = .ok (.iload_n 2, 1) := by decide +kernel
theorem dX12_scatter_14 : decode cX12_scatter 14 = .ok (.invokestatic 258, 3) := by decide +kernel
theorem dX12_scatter_17 : decode cX12_scatter 17 = .ok (.ifCond .eq 23, 3) := by decide +kernel
theorem dX12_scatter_20 : decode cX12_scatter 20 = .ok (.iload_n 3, 1) := by decide +kernel
theorem dX12_scatter_21 : decode cX12_scatter 21 = .ok (.invokestatic 258, 3) := by decide +kernel
theorem dX12_scatter_24 : decode cX12_scatter 24 = .ok (.ifCond .eq 16, 3) := by decide +kernel
theorem dX12_scatter_27 : decode cX12_scatter 27 = .ok (.iload_n 3, 1) := by decide +kernel
theorem dX12_scatter_28 : decode cX12_scatter 28 = .ok (.iload_n 2, 1) := by decide +kernel
theorem dX12_scatter_29 : decode cX12_scatter 29 = .ok (.if_icmp .lt 11, 3) := by decide +kernel
theorem dX12_scatter_32 : decode cX12_scatter 32 = .ok (.iload_n 3, 1) := by decide +kernel
theorem dX12_scatter_33 : decode cX12_scatter 33 = .ok (.iload_n 2, 1) := by decide +kernel
theorem dX12_scatter_34 : decode cX12_scatter 34 = .ok (.isub, 1) := by decide +kernel
theorem dX12_scatter_35 : decode cX12_scatter 35 = .ok (.bipush 99, 2) := by decide +kernel
theorem dX12_scatter_37 : decode cX12_scatter 37 = .ok (.if_icmp .le 5, 3) := by decide +kernel
theorem dX12_scatter_40 : decode cX12_scatter 40 = .ok (.iconst (-1), 1) := by decide +kernel
theorem dX12_scatter_41 : decode cX12_scatter 41 = .ok (.ireturn, 1) := by decide +kernel
theorem dX12_scatter_42 : decode cX12_scatter 42 = .ok (.iconst 0, 1) := by decide +kernel
theorem dX12_scatter_43 : decode cX12_scatter 43 = .ok (.istore 4, 2) := by decide +kernel
theorem dX12_scatter_45 : decode cX12_scatter 45 = .ok (.iload_n 2, 1) := by decide +kernel
theorem dX12_scatter_46 : decode cX12_scatter 46 = .ok (.istore 5, 2) := by decide +kernel
theorem dX12_scatter_48 : decode cX12_scatter 48 = .ok (.iload 5, 2) := by decide +kernel
theorem dX12_scatter_50 : decode cX12_scatter 50 = .ok (.iload_n 3, 1) := by decide +kernel
theorem dX12_scatter_51 : decode cX12_scatter 51 = .ok (.if_icmp .gt 119, 3) := by decide +kernel
theorem dX12_scatter_54 : decode cX12_scatter 54 = .ok (.aload_n 0, 1) := by decide +kernel
theorem dX12_scatter_55 : decode cX12_scatter 55 = .ok (.iload_n 1, 1) := by decide +kernel
theorem dX12_scatter_56 : decode cX12_scatter 56 = .ok (.aload_n 0, 1) := by decide +kernel
theorem dX12_scatter_57 : decode cX12_scatter 57 = .ok (.iload_n 1, 1) := by decide +kernel
theorem dX12_scatter_58 : decode cX12_scatter 58 = .ok (.iload 5, 2) := by decide +kernel
theorem dX12_scatter_60 : decode cX12_scatter 60 = .ok (.invokevirtual 261, 3) := by decide +kernel
theorem dX12_scatter_63 : decode cX12_scatter 63 = .ok (.invokevirtual 223, 3) := by decide +kernel
theorem dX12_scatter_66 : decode cX12_scatter 66 = .ok (.istore 6, 2) := by decide +kernel
theorem dX12_scatter_68 : decode cX12_scatter 68 = .ok (.iconst 0, 1) := by decide +kernel
theorem dX12_scatter_69 : decode cX12_scatter 69 = .ok (.istore 7, 2) := by decide +kernel
theorem dX12_scatter_71 : decode cX12_scatter 71 = .ok (.iload 7, 2) := by decide +kernel
theorem dX12_scatter_73 : decode cX12_scatter 73 = .ok (.iconst 4, 1) := by decide +kernel
theorem dX12_scatter_74 : decode cX12_scatter 74 = .ok (.if_icmp .ge 90, 3) := by decide +kernel
theorem dX12_scatter_77 : decode cX12_scatter 77 = .ok (.aload_n 0, 1) := by decide +kernel
theorem dX12_scatter_78 : decode cX12_scatter 78 = .ok (.iload 7, 2) := by decide +kernel
theorem dX12_scatter_80 : decode cX12_scatter 80 = .ok (.iload_n 1, 1) := by decide +kernel
theorem dX12_scatter_81 : decode cX12_scatter 81 = .ok (.iload 5, 2) := by decide +kernel
theorem dX12_scatter_83 : decode cX12_scatter 83 = .ok (.invokevirtual 402, 3) := by decide +kernel
theorem dX12_scatter_86 : decode cX12_scatter 86 = .ok (.ifCond .eq 72, 3) := by decide +kernel
theorem dX12_scatter_89 : decode cX12_scatter 89 = .ok (.aload_n 0, 1) := by decide +kernel
theorem dX12_scatter_90 : decode cX12_scatter 90 = .ok (.getfield 69, 3) := by decide +kernel
theorem dX12_scatter_93 : decode cX12_scatter 93 = .ok (.iload 7, 2) := by decide +kernel
theorem dX12_scatter_95 : decode cX12_scatter 95 = .ok (.iaload, 1) := by decide +kernel
theorem dX12_scatter_96 : decode cX12_scatter 96 = .ok (.bipush 40, 2) := by decide +kernel
theorem dX12_scatter_98 : decode cX12_scatter 98 = .ok (.if_icmp .ge 60, 3) := by decide +kernel
theorem dX12_scatter_101 : decode cX12_scatter 101 = .ok (.aload_n 0, 1) := by decide +kernel
theorem dX12_scatter_102 : decode cX12_scatter 102 = .ok (.iload 7, 2) := by decide +kernel
theorem dX12_scatter_104 : decode cX12_scatter 104 = .ok (.iload_n 1, 1) := by decide +kernel
theorem dX12_scatter_105 : decode cX12_scatter 105 = .ok (.iload 5, 2) := by decide +kernel
theorem dX12_scatter_107 : decode cX12_scatter 107 = .ok (.iload 6, 2) := by decide +kernel
theorem dX12_scatter_109 : decode cX12_scatter 109 = .ok (.iconst 3, 1) := by decide +kernel
theorem dX12_scatter_110 : decode cX12_scatter 110 = .ok (.aload_n 0, 1) := by decide +kernel
theorem dX12_scatter_111 : decode cX12_scatter 111 = .ok (.iload_n 1, 1) := by decide +kernel
theorem dX12_scatter_112 : decode cX12_scatter 112 = .ok (.iload 5, 2) := by decide +kernel
theorem dX12_scatter_114 : decode cX12_scatter 114 = .ok (.iload 6, 2) := by decide +kernel
theorem dX12_scatter_116 : decode cX12_scatter 116 = .ok (.invokevirtual 267, 3) := by decide +kernel
theorem dX12_scatter_119 : decode cX12_scatter 119 = .ok (.invokevirtual 284, 3) := by decide +kernel
theorem dX12_scatter_122 : decode cX12_scatter 122 = .ok (.istore 8, 2) := by decide +kernel
theorem dX12_scatter_124 : decode cX12_scatter 124 = .ok (.aload_n 0, 1) := by decide +kernel
theorem dX12_scatter_125 : decode cX12_scatter 125 = .ok (.iload 7, 2) := by decide +kernel
theorem dX12_scatter_127 : decode cX12_scatter 127 = .ok (.bipush 40, 2) := by decide +kernel
theorem dX12_scatter_129 : decode cX12_scatter 129 = .ok (.iload 7, 2) := by decide +kernel
theorem dX12_scatter_131 : decode cX12_scatter 131 = .ok (.imul, 1) := by decide +kernel
theorem dX12_scatter_132 : decode cX12_scatter 132 = .ok (.iload 8, 2) := by decide +kernel
theorem dX12_scatter_134 : decode cX12_scatter 134 = .ok (.iadd, 1) := by decide +kernel
theorem dX12_scatter_135 : decode cX12_scatter 135 = .ok (.invokevirtual 405, 3) := by decide +kernel
theorem dX12_scatter_138 : decode cX12_scatter 138 = .ok (.ifCond .eq 17, 3) := by decide +kernel
theorem dX12_scatter_141 : decode cX12_scatter 141 = .ok (.aload_n 0, 1) := by decide +kernel
theorem dX12_scatter_142 : decode cX12_scatter 142 = .ok (.getfield 69, 3) := by decide +kernel
theorem dX12_scatter_145 : decode cX12_scatter 145 = .ok (.iload 7, 2) := by decide +kernel
theorem dX12_scatter_147 : decode cX12_scatter 147 = .ok (.dup2, 1) := by decide +kernel
theorem dX12_scatter_148 : decode cX12_scatter 148 = .ok (.iaload, 1) := by decide +kernel
theorem dX12_scatter_149 : decode cX12_scatter 149 = .ok (.iconst 1, 1) := by decide +kernel
theorem dX12_scatter_150 : decode cX12_scatter 150 = .ok (.isub, 1) := by decide +kernel
theorem dX12_scatter_151 : decode cX12_scatter 151 = .ok (.iastore, 1) := by decide +kernel
theorem dX12_scatter_152 : decode cX12_scatter 152 = .ok (.goto 6, 3) := by decide +kernel
theorem dX12_scatter_155 : decode cX12_scatter 155 = .ok (.iinc 4 1, 3) := by decide +kernel
theorem dX12_scatter_158 : decode cX12_scatter 158 = .ok (.iinc 7 1, 3) := by decide +kernel
theorem dX12_scatter_161 : decode cX12_scatter 161 = .ok (.goto (-90), 3) := by decide +kernel
theorem dX12_scatter_164 : decode cX12_scatter 164 = .ok (.iinc 5 1, 3) := by decide +kernel
theorem dX12_scatter_167 : decode cX12_scatter 167 = .ok (.goto (-119), 3) := by decide +kernel
theorem dX12_scatter_170 : decode cX12_scatter 170 = .ok (.iload 4, 2) := by decide +kernel
theorem dX12_scatter_172 : decode cX12_scatter 172 = .ok (.ireturn, 1) := by decide +kernel
set_option maxHeartbeats 4000000 in
set_option maxRecDepth 100000 in
theorem s_X12_scatter {P : PP} {a0 : Nat} {a1 : Int32} {a2 : Int32} {a3 : Int32} (I : IM P a0) (hW : MW P a0) : CtrI yX12_scatter cX12_scatter 9 (some Jvm.ClassFile.FieldType.int) ({ frames := 4, cells := 0, slots := 0, locals := 256 } : Room) 0 0 P [.ref a0, .int a1, .int a2, .int a3] (fun r P2 => IM P2 a0 ∧ EM [0, 20, 21, 22, 23, 24, 25] a0 P P2 ∧ MW P2 a0 ∧ (True)) := by
  refine enI (lv := [(0, .ref a0), (1, .int a1), (2, .int a2), (3, .int a3)]) (by decide) (Nat.le_of_ble_eq_true rfl) rfl (fun E D cy C Ci0 ret => ?_)
  have ha0 := I.2.1
  have J48 : ∀ (n48 : Nat) (P48 : PP) (v48_4 : Int32) (v48_5 : Int32), (10000 - v48_5.toInt).toNat < n48 → (IM P48 a0) → (EM [0, 20, 21, 22, 23, 24, 25] a0 P P48) → (MW P48 a0) → (0 ≤ a1.toInt ∧ a1.toInt ≤ 1) → (0 ≤ a3.toInt ∧ a3.toInt ≤ 9999) → (0 ≤ v48_5.toInt ∧ v48_5.toInt ≤ 10000) → (0 ≤ (pI P48 a0 0).toInt ∧ (pI P48 a0 0).toInt ≤ 0) → (∀ b, pR P48 a0 10 = some b → 1 ≤ (pI P48 b (a1.toInt.toNat)).toInt ∧ (pI P48 b (a1.toInt.toNat)).toInt ≤ 16) → G E ({ frames := 4, cells := 0, slots := 0, locals := 256 } : Room) D cy 9 P48 0 0 48 [(0, .ref a0), (1, .int a1), (3, .int a3), (4, .int v48_4), (5, .int v48_5)] [] := by
    intro n48
    induction n48 with
    | zero => intro P48 v48_4 v48_5 hm48 I48 X48 W48 hv48_1 hv48_3 hv48_5 hq48_0 hq48_1; omega
    | succ n48 ih48 =>
      intro P48 v48_4 v48_5 hm48 I48 X48 W48 hv48_1 hv48_3 hv48_5 hq48_0 hq48_1
      have h79920 := X48.at ha0
      obtain ⟨b79921, e79922, h79923⟩ := I48.fld (h79920) 10 13 2 rfl
      have hq48_1 := hq48_1 b79921 e79922
      have J71 : ∀ (n71 : Nat) (P71 : PP) (v71_4 : Int32) (v71_6 : Int32) (v71_7 : Int32), (4 - v71_7.toInt).toNat < n71 → (IM P71 a0) → (EM [0, 20, 21, 22, 23, 24, 25] a0 P P71) → (MW P71 a0) → (0 ≤ a1.toInt ∧ a1.toInt ≤ 1) → (0 ≤ a3.toInt ∧ a3.toInt ≤ 9999) → (0 ≤ v48_5.toInt ∧ v48_5.toInt ≤ 9999) → (0 ≤ v71_7.toInt ∧ v71_7.toInt ≤ 4) → (0 ≤ (pI P71 a0 0).toInt ∧ (pI P71 a0 0).toInt ≤ 0) → (∀ b, pR P71 a0 10 = some b → 1 ≤ (pI P71 b (a1.toInt.toNat)).toInt ∧ (pI P71 b (a1.toInt.toNat)).toInt ≤ 16) → G E ({ frames := 4, cells := 0, slots := 0, locals := 256 } : Room) D cy 9 P71 0 0 71 [(0, .ref a0), (1, .int a1), (3, .int a3), (4, .int v71_4), (5, .int v48_5), (6, .int v71_6), (7, .int v71_7)] [] := by
        intro n71
        induction n71 with
        | zero => intro P71 v71_4 v71_6 v71_7 hm71 I71 X71 W71 hv71_1 hv71_3 hv71_5 hv71_7 hq71_0 hq71_1; omega
        | succ n71 ih71 =>
          intro P71 v71_4 v71_6 v71_7 hm71 I71 X71 W71 hv71_1 hv71_3 hv71_5 hv71_7 hq71_0 hq71_1
          have h79924 := X71.at ha0
          obtain ⟨b79925, e79926, h79927⟩ := I71.fld (h79924) 10 13 2 rfl
          have hq71_1 := hq71_1 b79925 e79926
          have J158 : ∀ (P158 : PP) (v158_4 : Int32), (IM P158 a0) → (EM [0, 20, 21, 22, 23, 24, 25] a0 P P158) → (MW P158 a0) → (0 ≤ a1.toInt ∧ a1.toInt ≤ 1) → (0 ≤ a3.toInt ∧ a3.toInt ≤ 9999) → (0 ≤ v48_5.toInt ∧ v48_5.toInt ≤ 9999) → (0 ≤ v71_7.toInt ∧ v71_7.toInt ≤ 3) → (0 ≤ (pI P158 a0 0).toInt ∧ (pI P158 a0 0).toInt ≤ 0) → (∀ b, pR P158 a0 10 = some b → 1 ≤ (pI P158 b (a1.toInt.toNat)).toInt ∧ (pI P158 b (a1.toInt.toNat)).toInt ≤ 16) → G E ({ frames := 4, cells := 0, slots := 0, locals := 256 } : Room) D cy 9 P158 0 0 158 [(0, .ref a0), (1, .int a1), (3, .int a3), (4, .int v158_4), (5, .int v48_5), (6, .int v71_6), (7, .int v71_7)] [] := by
            intro P158 v158_4 I158 X158 W158 hv158_1 hv158_3 hv158_5 hv158_7 hq158_0 hq158_1
            have h79928 := X158.at ha0
            obtain ⟨b79929, e79930, h79931⟩ := I158.fld (h79928) 10 13 2 rfl
            have hq158_1 := hq158_1 b79929 e79930
            refine s_iinc (lv0 := [(0, .ref a0), (1, .int a1), (3, .int a3), (4, .int v158_4), (5, .int v48_5), (6, .int v71_6)]) (m := 1) C dX12_scatter_158 6 rfl (by decide) rfl (by decide) (by omega) (fun z79932 h79933 => ?_)
            have h79933 : z79932.toInt = v71_7.toInt + 1 := h79933
            refine g_goto C 71 dX12_scatter_161 (by decide) ?_
            refine g_lv (lv' := [(0, .ref a0), (1, .int a1), (3, .int a3), (4, .int v158_4), (5, .int v48_5), (6, .int v71_6), (7, .int z79932)]) [1, 2, 3, 4, 5, 6, 0] rfl ?_
            exact ih71 P158 v158_4 v71_6 z79932 (by omega) I158 X158 W158 (by omega) (by omega) (by omega) (by omega) (by omega) (fun b9 e9 => by rw [e79930] at e9; cases e9; omega)
          refine g_iload C dX12_scatter_71 6 rfl ?_
          refine g_iconst (v := 4) C dX12_scatter_73 (by decide) ?_
          refine b_icmp_ge C 164 dX12_scatter_74 (by decide) (fun h79934 => ?_) (fun h79934 => ?_)
          · have h79934 : 4 ≤ v71_7.toInt := h79934
            refine s_iinc (lv0 := [(0, .ref a0), (1, .int a1), (3, .int a3), (4, .int v71_4), (6, .int v71_6), (7, .int v71_7)]) (m := 1) C dX12_scatter_164 4 rfl (by decide) rfl (by decide) (by omega) (fun z79935 h79936 => ?_)
            have h79936 : z79935.toInt = v48_5.toInt + 1 := h79936
            refine g_goto C 48 dX12_scatter_167 (by decide) ?_
            refine g_lv (lv' := [(0, .ref a0), (1, .int a1), (3, .int a3), (4, .int v71_4), (5, .int z79935)]) [1, 2, 3, 4, 0] rfl ?_
            exact ih48 P71 v71_4 z79935 (by omega) I71 X71 W71 (by omega) (by omega) (by omega) (by omega) (fun b9 e9 => by rw [e79926] at e9; cases e9; omega)
          · have h79934 : v71_7.toInt < 4 := h79934
            refine g_aload_n C dX12_scatter_77 rfl 0 rfl ?_
            refine g_iload C dX12_scatter_78 6 rfl ?_
            refine g_iload_n C dX12_scatter_80 rfl 1 rfl ?_
            refine g_iload C dX12_scatter_81 4 rfl ?_
            refine g_callVI (rest := []) C mv_X12_402 [.int v71_7, .int a1, .int v48_5] (s_X12_falls I71 (by omega) W71) (h79924).1 (h79924).2 rfl rfl (by decide) (Nat.le_of_ble_eq_true rfl) (by decide) dX12_scatter_83 (fun r79937 Y79938 h79939 => ?_)
            obtain ⟨rfl, h79939⟩ := h79939
            have h79939 : 0 ≤ r79937.toInt ∧ r79937.toInt ≤ 1 := h79939
            refine b_if_eq C 158 dX12_scatter_86 (by decide) (fun h79940 => ?_) (fun h79940 => ?_)
            · have h79940 : r79937.toInt = 0 := congrArg Int32.toInt h79940
              exact J158 P71 v71_4 I71 X71 W71 (by omega) (by omega) (by omega) (by omega) (by omega) (fun b9 e9 => by rw [e79926] at e9; cases e9; omega)
            · have h79940 : r79937.toInt ≠ 0 := ti_ne h79940
              refine g_aload_n C dX12_scatter_89 rfl 0 rfl ?_
              obtain ⟨b79941, e79942, h79943⟩ := I71.fld (h79924) 20 13 20 rfl
              refine g_getR C fi_X12_69 rfl e79942 (h79924).1 (h79924).2 dX12_scatter_90 ?_
              refine g_iload C dX12_scatter_93 6 rfl ?_
              refine g_iald (j := (v71_7.toInt.toNat)) C h79943.1 h79943.2.1 (ix_in h79943.2.2 (by omega)) dX12_scatter_95 ?_
              have h79944 := I71.arr e79942 rfl (v71_7.toInt.toNat)
              refine g_bipush (v := 40) C dX12_scatter_96 (by decide) ?_
              refine b_icmp_ge C 158 dX12_scatter_98 (by decide) (fun h79945 => ?_) (fun h79945 => ?_)
              · have h79945 : 40 ≤ (pI P71 b79941 (v71_7.toInt.toNat)).toInt := h79945
                exact J158 P71 v71_4 I71 X71 W71 (by omega) (by omega) (by omega) (by omega) (by omega) (fun b9 e9 => by rw [e79926] at e9; cases e9; omega)
              · have h79945 : (pI P71 b79941 (v71_7.toInt.toNat)).toInt < 40 := h79945
                refine g_aload_n C dX12_scatter_101 rfl 0 rfl ?_
                refine g_iload C dX12_scatter_102 6 rfl ?_
                refine g_iload_n C dX12_scatter_104 rfl 1 rfl ?_
                refine g_iload C dX12_scatter_105 4 rfl ?_
                refine g_iload C dX12_scatter_107 5 rfl ?_
                refine g_iconst (v := 3) C dX12_scatter_109 (by decide) ?_
                refine g_aload_n C dX12_scatter_110 rfl 0 rfl ?_
                refine g_iload_n C dX12_scatter_111 rfl 1 rfl ?_
                refine g_iload C dX12_scatter_112 4 rfl ?_
                refine g_iload C dX12_scatter_114 5 rfl ?_
                refine g_callVI (rest := [.int 3, .int v71_6, .int v48_5, .int a1, .int v71_7, .ref a0]) C mv_X12_267 [.int a1, .int v48_5, .int v71_6] (s_X12_sealOf I71 (by omega) W71) (h79924).1 (h79924).2 rfl rfl (by decide) (Nat.le_of_ble_eq_true rfl) (by decide) dX12_scatter_116 (fun r79946 Y79947 h79948 => ?_)
                obtain ⟨rfl, h79948⟩ := h79948
                have h79948 : -996 ≤ r79946.toInt ∧ r79946.toInt ≤ 996 := h79948
                refine g_callVI (rest := []) C mv_X12_284 [.int v71_7, .int a1, .int v48_5, .int v71_6, .int 3, .int r79946] (s_X12_lays I71 (by omega) (by omega) (fun b9 e9 => by rw [e79942] at e9; cases e9; show 0 ≤ (pI P71 b79941 (v71_7.toInt.toNat)).toInt ∧ (pI P71 b79941 (v71_7.toInt.toNat)).toInt ≤ 39; omega) W71 (fun c9 f9 _ => by rw [e79926] at f9; cases f9; show 0 < (pI P71 b79925 (a1.toInt.toNat)).toInt; omega)) (h79924).1 (h79924).2 rfl rfl (by decide) (Nat.le_of_ble_eq_true rfl) (by decide) dX12_scatter_119 (fun r79949 Y79950 h79951 => ?_)
                obtain ⟨Iy79952, Xy79953, W79954, p79955, h79951⟩ := h79951
                have p79955 := p79955 b79941 e79942
                have p79955 : (pI Y79950 b79941 (v71_7.toInt.toNat)).toInt = (pI P71 b79941 (v71_7.toInt.toNat)).toInt + 1 := p79955
                have q79956 := Xy79953.keepF 0 (by decide)
                have q79957 := Xy79953.keepA e79926 (by decide) rfl (a1.toInt.toNat)
                have Xz79958 : EM [0, 20, 21, 22, 23, 24, 25] a0 P Y79950 := EM.tr ha0 X71 (Xy79953.mono (by decide))
                have e79959 := Xy79953.ref h79924 (by decide) e79926
                have e79960 := Xy79953.ref h79924 (by decide) e79942
                have h79961 := Xy79953.at h79924
                have h79962 := Xy79953.ar h79927
                have h79963 := Xy79953.ar h79943
                have h79951 : 0 ≤ r79949.toInt ∧ r79949.toInt ≤ 39 := h79951
                refine g_istore (lv' := [(8, .int r79949), (0, .ref a0), (1, .int a1), (3, .int a3), (4, .int v71_4), (5, .int v48_5), (6, .int v71_6), (7, .int v71_7)]) C dX12_scatter_122 (by decide) rfl ?_
                refine g_aload_n C dX12_scatter_124 rfl 1 rfl ?_
                refine g_iload C dX12_scatter_125 7 rfl ?_
                refine g_bipush (v := 40) C dX12_scatter_127 (by decide) ?_
                refine g_iload C dX12_scatter_129 7 rfl ?_
                refine s_imul C dX12_scatter_131 (by show -2147483648 ≤ 40 * v71_7.toInt ∧ 40 * v71_7.toInt ≤ 2147483647; omega) (fun z79964 h79965 => ?_)
                have h79965 : z79964.toInt = 40 * v71_7.toInt := h79965
                refine g_iload C dX12_scatter_132 0 rfl ?_
                refine s_iadd C dX12_scatter_134 (by show -2147483648 ≤ z79964.toInt + r79949.toInt ∧ z79964.toInt + r79949.toInt ≤ 2147483647; omega) (fun z79966 h79967 => ?_)
                have h79967 : z79966.toInt = z79964.toInt + r79949.toInt := h79967
                refine g_callVI (rest := []) C mv_X12_405 [.int v71_7, .int z79966] (s_X12_hasAlike Iy79952 (by omega) (by omega) W79954) (h79961).1 (h79961).2 rfl rfl (by decide) (Nat.le_of_ble_eq_true rfl) (by decide) dX12_scatter_135 (fun r79968 Y79969 h79970 => ?_)
                obtain ⟨rfl, h79970⟩ := h79970
                have h79970 : 0 ≤ r79968.toInt ∧ r79968.toInt ≤ 1 := h79970
                refine b_if_eq C 155 dX12_scatter_138 (by decide) (fun h79971 => ?_) (fun h79971 => ?_)
                · have h79971 : r79968.toInt = 0 := congrArg Int32.toInt h79971
                  refine a_iinc (lv0 := [(8, .int r79949), (0, .ref a0), (1, .int a1), (3, .int a3), (5, .int v48_5), (6, .int v71_6), (7, .int v71_7)]) C dX12_scatter_155 4 rfl (by decide) rfl (fun z79972 => ?_)
                  refine g_lv (lv' := [(0, .ref a0), (1, .int a1), (3, .int a3), (4, .int z79972), (5, .int v48_5), (6, .int v71_6), (7, .int v71_7)]) [2, 3, 4, 0, 5, 6, 7] rfl ?_
                  exact J158 Y79950 z79972 Iy79952 Xz79958 W79954 (by omega) (by omega) (by omega) (by omega) (by omega) (fun b9 e9 => by rw [e79959] at e9; cases e9; omega)
                · have h79971 : r79968.toInt ≠ 0 := ti_ne h79971
                  refine g_aload_n C dX12_scatter_141 rfl 1 rfl ?_
                  refine g_getR C fi_X12_69 rfl e79960 (h79961).1 (h79961).2 dX12_scatter_142 ?_
                  refine g_iload C dX12_scatter_145 7 rfl ?_
                  refine g_dup2_11 C dX12_scatter_147 rfl rfl ?_
                  refine g_iald (j := (v71_7.toInt.toNat)) C h79963.1 h79963.2.1 (ix_in h79963.2.2 (by omega)) dX12_scatter_148 ?_
                  refine g_iconst (v := 1) C dX12_scatter_149 (by decide) ?_
                  refine s_isub C dX12_scatter_150 (by show -2147483648 ≤ (pI Y79950 b79941 (v71_7.toInt.toNat)).toInt - 1 ∧ (pI Y79950 b79941 (v71_7.toInt.toNat)).toInt - 1 ≤ 2147483647; omega) (fun z79974 h79975 => ?_)
                  have h79975 : z79974.toInt = (pI Y79950 b79941 (v71_7.toInt.toNat)).toInt - 1 := h79975
                  refine g_iast (j := (v71_7.toInt.toNat)) C h79963.1 h79963.2.1 (ix_in h79963.2.2 (by omega)) dX12_scatter_151 ?_
                  refine gqW (ks := [20]) (Iy79952.setA e79960 h79963 (by decide) (arOk.of rfl (by omega))) (EM.setA Iy79952 e79960 rfl (by decide)) (fun Y79976 Iy79977 Xy79978 w79979 => ?_)
                  have w79979 : (pI Y79976 b79941 (v71_7.toInt.toNat)).toInt = z79974.toInt := w79979
                  have q79980 := Xy79978.keepF 0 (by decide)
                  have q79981 := Xy79978.keepA e79959 (by decide) rfl (a1.toInt.toNat)
                  have W79982 := W79954.keep Iy79952 Xy79978 (by decide) (by decide) (by decide)
                  have Xz79983 : EM [0, 20, 21, 22, 23, 24, 25] a0 P Y79976 := EM.tr ha0 Xz79958 (Xy79978.mono (by decide))
                  have e79984 := Xy79978.ref h79961 (by decide) e79959
                  have e79985 := Xy79978.ref h79961 (by decide) e79960
                  have h79986 := Xy79978.at h79961
                  have h79987 := Xy79978.ar h79962
                  have h79988 := Xy79978.ar h79963
                  refine g_goto C 158 dX12_scatter_152 (by decide) ?_
                  refine g_lv (lv' := [(0, .ref a0), (1, .int a1), (3, .int a3), (4, .int v71_4), (5, .int v48_5), (6, .int v71_6), (7, .int v71_7)]) [1, 2, 3, 4, 5, 6, 7] rfl ?_
                  exact J158 Y79976 v71_4 Iy79977 Xz79983 W79982 (by omega) (by omega) (by omega) (by omega) (by omega) (fun b9 e9 => by rw [e79984] at e9; cases e9; omega)
      refine g_iload C dX12_scatter_48 4 rfl ?_
      refine g_iload_n C dX12_scatter_50 rfl 2 rfl ?_
      refine b_icmp_gt C 170 dX12_scatter_51 (by decide) (fun h79989 => ?_) (fun h79989 => ?_)
      · have h79989 : a3.toInt < v48_5.toInt := h79989
        refine g_iload C dX12_scatter_170 3 rfl ?_
        exact ret _ _ _ _ _ _ dX12_scatter_172 rfl (by decide) (by decide) ⟨I48, X48, W48, trivial⟩
      · have h79989 : v48_5.toInt ≤ a3.toInt := h79989
        refine g_aload_n C dX12_scatter_54 rfl 0 rfl ?_
        refine g_iload_n C dX12_scatter_55 rfl 1 rfl ?_
        refine g_aload_n C dX12_scatter_56 rfl 0 rfl ?_
        refine g_iload_n C dX12_scatter_57 rfl 1 rfl ?_
        refine g_iload C dX12_scatter_58 4 rfl ?_
        refine g_callVI (rest := [.int a1, .ref a0]) C mv_X12_261 [.int a1, .int v48_5] (s_X12_setOf I48 (by omega) (fun b9 e9 => by rw [e79922] at e9; cases e9; show 1 ≤ (pI P48 b79921 (a1.toInt.toNat)).toInt ∧ (pI P48 b79921 (a1.toInt.toNat)).toInt ≤ 16; omega) W48) (h79920).1 (h79920).2 rfl rfl (by decide) (Nat.le_of_ble_eq_true rfl) (by decide) dX12_scatter_60 (fun r79990 Y79991 h79992 => ?_)
        obtain ⟨Iy79993, Xy79994, W79995, h79992⟩ := h79992
        have q79996 := Xy79994.keepF 0 (by decide)
        have q79997 := Xy79994.keepA e79922 (by decide) rfl (a1.toInt.toNat)
        have Xz79998 : EM [0, 20, 21, 22, 23, 24, 25] a0 P Y79991 := EM.tr ha0 X48 (Xy79994.mono (by decide))
        have e79999 := Xy79994.ref h79920 (by decide) e79922
        have h80000 := Xy79994.at h79920
        have h80001 := Xy79994.ar h79923
        have h79992 : True := h79992
        refine g_callVI (rest := []) C mv_X12_223 [.int a1, .int r79990] (s_X12_sumOf Iy79993 (by omega) W79995) (h80000).1 (h80000).2 rfl rfl (by decide) (Nat.le_of_ble_eq_true rfl) (by decide) dX12_scatter_63 (fun r80002 Y80003 h80004 => ?_)
        obtain ⟨rfl, h80004⟩ := h80004
        have h80004 : True := h80004
        refine g_istore (lv' := [(6, .int r80002), (0, .ref a0), (1, .int a1), (3, .int a3), (4, .int v48_4), (5, .int v48_5)]) C dX12_scatter_66 (by decide) rfl ?_
        refine g_iconst (v := 0) C dX12_scatter_68 (by decide) ?_
        refine g_istore (lv' := [(7, .int 0), (6, .int r80002), (0, .ref a0), (1, .int a1), (3, .int a3), (4, .int v48_4), (5, .int v48_5)]) C dX12_scatter_69 (by decide) rfl ?_
        refine g_lv (lv' := [(0, .ref a0), (1, .int a1), (3, .int a3), (4, .int v48_4), (5, .int v48_5), (6, .int r80002), (7, .int 0)]) [2, 3, 4, 5, 6, 1, 0] rfl ?_
        exact J71 _ Y79991 v48_4 r80002 0 (Nat.lt_succ_self _) Iy79993 Xz79998 W79995 (by omega) (by omega) (by omega) (by decide) (by omega) (fun b9 e9 => by rw [e79999] at e9; cases e9; omega)
  have J40 : ∀ (P40 : PP), (IM P40 a0) → (EM [0, 20, 21, 22, 23, 24, 25] a0 P P40) → (MW P40 a0) → (0 ≤ (pI P40 a0 0).toInt ∧ (pI P40 a0 0).toInt ≤ 0) → G E ({ frames := 4, cells := 0, slots := 0, locals := 256 } : Room) D cy 9 P40 0 0 40 [] [] := by
    intro P40 I40 X40 W40 hq40_0
    have h80005 := X40.at ha0
    refine g_iconst (v := (-1)) C dX12_scatter_40 (by decide) ?_
    exact ret _ _ _ _ _ _ dX12_scatter_41 rfl (by decide) (by decide) ⟨I40, X40, W40, trivial⟩
  refine g_aload_n C dX12_scatter_0 rfl 0 rfl ?_
  refine g_iconst (v := 0) C dX12_scatter_1 (by decide) ?_
  refine g_putI C fi_X12_1 rfl (ha0).1 (ha0).2 dX12_scatter_2 ?_
  refine gqW (ks := [0]) (I.setI (rgOk.of rfl (by decide))) (EM.setI I (by decide)) (fun Y80006 Iy80007 Xy80008 w80009 => ?_)
  have w80009 : (pI Y80006 a0 0).toInt = 0 := w80009
  have W80010 := hW.keep I Xy80008 (by decide) (by decide) (by decide)
  have Xz80011 : EM [0, 20, 21, 22, 23, 24, 25] a0 P Y80006 := Xy80008.mono (by decide)
  have h80012 := Xy80008.at ha0
  refine g_aload_n C dX12_scatter_5 rfl 0 rfl ?_
  refine g_iload_n C dX12_scatter_6 rfl 1 rfl ?_
  refine g_callVI (rest := []) C mv_X12_192 [.int a1] (s_X12_isBook Iy80007 W80010) (h80012).1 (h80012).2 rfl rfl (by decide) (Nat.le_of_ble_eq_true rfl) (by decide) dX12_scatter_7 (fun r80013 Y80014 h80015 => ?_)
  obtain ⟨rfl, h80015⟩ := h80015
  obtain ⟨h80015, hi80016, hi80017⟩ := h80015
  have hi80016 : r80013.toInt = 0 ∨ (((0 : Int) ≤ a1.toInt ∧ a1.toInt ≤ (1 : Int))) := hi80016
  have h80015 : 0 ≤ r80013.toInt ∧ r80013.toInt ≤ 1 := h80015
  refine b_if_eq C 40 dX12_scatter_10 (by decide) (fun h80018 => ?_) (fun h80018 => ?_)
  · have h80018 : r80013.toInt = 0 := congrArg Int32.toInt h80018
    clear hi80016
    refine g_lv (lv' := []) [] rfl ?_
    exact J40 Y80006 Iy80007 Xz80011 W80010 (by omega)
  · have h80018 : r80013.toInt ≠ 0 := ti_ne h80018
    replace hi80016 := hi80016.resolve_left (by omega)
    obtain ⟨b80019, e80020, h80021⟩ := Iy80007.fld (h80012) 10 13 2 rfl
    have hi80017 := (hi80017.resolve_left (by omega)) b80019 e80020
    have hi80017 : 0 < (pI Y80006 b80019 (a1.toInt.toNat)).toInt := hi80017
    have h80022 := Iy80007.arr e80020 rfl (a1.toInt.toNat)
    refine g_iload_n C dX12_scatter_13 rfl 2 rfl ?_
    refine g_callSI (b := 0) (ci := 0) (rest := []) C ms_X12_258 [.int a2] (s_X12_isNumber Iy80007.1) rfl rfl (by decide) (Nat.le_of_ble_eq_true rfl) (by decide) dX12_scatter_14 (fun r80023 Y80024 h80025 => ?_)
    obtain ⟨rfl, h80025⟩ := h80025
    obtain ⟨h80025, hi80026⟩ := h80025
    have hi80026 : r80023.toInt = 0 ∨ (((0 : Int) ≤ a2.toInt ∧ a2.toInt ≤ (9999 : Int))) := hi80026
    have h80025 : 0 ≤ r80023.toInt ∧ r80023.toInt ≤ 1 := h80025
    refine b_if_eq C 40 dX12_scatter_17 (by decide) (fun h80027 => ?_) (fun h80027 => ?_)
    · have h80027 : r80023.toInt = 0 := congrArg Int32.toInt h80027
      clear hi80026
      refine g_lv (lv' := []) [] rfl ?_
      exact J40 Y80006 Iy80007 Xz80011 W80010 (by omega)
    · have h80027 : r80023.toInt ≠ 0 := ti_ne h80027
      replace hi80026 := hi80026.resolve_left (by omega)
      refine g_iload_n C dX12_scatter_20 rfl 3 rfl ?_
      refine g_callSI (b := 0) (ci := 0) (rest := []) C ms_X12_258 [.int a3] (s_X12_isNumber Iy80007.1) rfl rfl (by decide) (Nat.le_of_ble_eq_true rfl) (by decide) dX12_scatter_21 (fun r80028 Y80029 h80030 => ?_)
      obtain ⟨rfl, h80030⟩ := h80030
      obtain ⟨h80030, hi80031⟩ := h80030
      have hi80031 : r80028.toInt = 0 ∨ (((0 : Int) ≤ a3.toInt ∧ a3.toInt ≤ (9999 : Int))) := hi80031
      have h80030 : 0 ≤ r80028.toInt ∧ r80028.toInt ≤ 1 := h80030
      refine b_if_eq C 40 dX12_scatter_24 (by decide) (fun h80032 => ?_) (fun h80032 => ?_)
      · have h80032 : r80028.toInt = 0 := congrArg Int32.toInt h80032
        clear hi80031
        refine g_lv (lv' := []) [] rfl ?_
        exact J40 Y80006 Iy80007 Xz80011 W80010 (by omega)
      · have h80032 : r80028.toInt ≠ 0 := ti_ne h80032
        replace hi80031 := hi80031.resolve_left (by omega)
        refine g_iload_n C dX12_scatter_27 rfl 3 rfl ?_
        refine g_iload_n C dX12_scatter_28 rfl 2 rfl ?_
        refine b_icmp_lt C 40 dX12_scatter_29 (by decide) (fun h80033 => ?_) (fun h80033 => ?_)
        · have h80033 : a3.toInt < a2.toInt := h80033
          refine g_lv (lv' := []) [] rfl ?_
          exact J40 Y80006 Iy80007 Xz80011 W80010 (by omega)
        · have h80033 : a2.toInt ≤ a3.toInt := h80033
          refine g_iload_n C dX12_scatter_32 rfl 3 rfl ?_
          refine g_iload_n C dX12_scatter_33 rfl 2 rfl ?_
          refine s_isub C dX12_scatter_34 (by show -2147483648 ≤ a3.toInt - a2.toInt ∧ a3.toInt - a2.toInt ≤ 2147483647; omega) (fun z80034 h80035 => ?_)
          have h80035 : z80034.toInt = a3.toInt - a2.toInt := h80035
          refine g_bipush (v := 99) C dX12_scatter_35 (by decide) ?_
          refine b_icmp_le C 42 dX12_scatter_37 (by decide) (fun h80036 => ?_) (fun h80036 => ?_)
          · have h80036 : z80034.toInt ≤ 99 := h80036
            refine g_iconst (v := 0) C dX12_scatter_42 (by decide) ?_
            refine g_istore (lv' := [(4, .int 0), (0, .ref a0), (1, .int a1), (2, .int a2), (3, .int a3)]) C dX12_scatter_43 (by decide) rfl ?_
            refine g_iload_n C dX12_scatter_45 rfl 3 rfl ?_
            refine g_istore (lv' := [(5, .int a2), (4, .int 0), (0, .ref a0), (1, .int a1), (2, .int a2), (3, .int a3)]) C dX12_scatter_46 (by decide) rfl ?_
            refine g_lv (lv' := [(0, .ref a0), (1, .int a1), (3, .int a3), (4, .int 0), (5, .int a2)]) [2, 3, 5, 1, 0] rfl ?_
            exact J48 _ Y80006 0 a2 (Nat.lt_succ_self _) Iy80007 Xz80011 W80010 (by omega) (by omega) (by omega) (by omega) (fun b9 e9 => by rw [e80020] at e9; cases e9; omega)
          · have h80036 : 99 < z80034.toInt := h80036
            refine g_lv (lv' := []) [] rfl ?_
            exact J40 Y80006 Iy80007 Xz80011 W80010 (by omega)
theorem dX12_slip_0 : decode cX12_slip 0 = .ok (.aload_n 0, 1) := by decide +kernel
theorem dX12_slip_1 : decode cX12_slip 1 = .ok (.iconst 0, 1) := by decide +kernel
theorem dX12_slip_2 : decode cX12_slip 2 = .ok (.putfield 1, 3) := by decide +kernel
theorem dX12_slip_5 : decode cX12_slip 5 = .ok (.iload_n 1, 1) := by decide +kernel
theorem dX12_slip_6 : decode cX12_slip 6 = .ok (.invokestatic 278, 3) := by decide +kernel
theorem dX12_slip_9 : decode cX12_slip 9 = .ok (.ifCond .eq 40, 3) := by decide +kernel
theorem dX12_slip_12 : decode cX12_slip 12 = .ok (.aload_n 0, 1) := by decide +kernel
theorem dX12_slip_13 : decode cX12_slip 13 = .ok (.iload_n 2, 1) := by decide +kernel
theorem dX12_slip_14 : decode cX12_slip 14 = .ok (.invokevirtual 192, 3) := by decide +kernel
theorem dX12_slip_17 : decode cX12_slip 17 = .ok (.ifCond .eq 32, 3) := by decide +kernel
theorem dX12_slip_20 : decode cX12_slip 20 = .ok (.iload_n 3, 1) := by decide +kernel
theorem dX12_slip_21 : decode cX12_slip 21 = .ok (.invokestatic 258, 3) := by decide +kernel
theorem dX12_slip_24 : decode cX12_slip 24 = .ok (.ifCond .eq 25, 3) := by decide +kernel
theorem dX12_slip_27 : decode cX12_slip 27 = .ok (.iload 4, 2) := by decide +kernel
theorem dX12_slip_29 : decode cX12_slip 29 = .ok (.iconst 1, 1) := by decide +kernel
theorem dX12_slip_30 : decode cX12_slip 30 = .ok (.ldc 195, 2) := by decide +kernel
theorem dX12_slip_32 : decode cX12_slip 32 = .ok (.invokestatic 178, 3) := by decide +kernel
theorem dX12_slip_35 : decode cX12_slip 35 = .ok (.ifCond .eq 14, 3) := by decide +kernel
theorem dX12_slip_38 : decode cX12_slip 38 = .ok (.aload_n 0, 1) := by decide +kernel
theorem dX12_slip_39 : decode cX12_slip 39 = .ok (.getfield 69, 3) := by decide +kernel
theorem dX12_slip_42 : decode cX12_slip 42 = .ok (.iload_n 1, 1) := by decide +kernel
theorem dX12_slip_43 : decode cX12_slip 43 = .ok (.iaload, 1) := by decide +kernel
theorem dX12_slip_44 : decode cX12_slip 44 = .ok (.bipush 40, 2) := by decide +kernel
theorem dX12_slip_46 : decode cX12_slip 46 = .ok (.if_icmp .ne 5, 3) := by decide +kernel
theorem dX12_slip_49 : decode cX12_slip 49 = .ok (.iconst (-1), 1) := by decide +kernel
theorem dX12_slip_50 : decode cX12_slip 50 = .ok (.ireturn, 1) := by decide +kernel
theorem dX12_slip_51 : decode cX12_slip 51 = .ok (.aload_n 0, 1) := by decide +kernel
theorem dX12_slip_52 : decode cX12_slip 52 = .ok (.iload_n 2, 1) := by decide +kernel
theorem dX12_slip_53 : decode cX12_slip 53 = .ok (.aload_n 0, 1) := by decide +kernel
theorem dX12_slip_54 : decode cX12_slip 54 = .ok (.iload_n 2, 1) := by decide +kernel
theorem dX12_slip_55 : decode cX12_slip 55 = .ok (.iload_n 3, 1) := by decide +kernel
theorem dX12_slip_56 : decode cX12_slip 56 = .ok (.invokevirtual 261, 3) := by decide +kernel
theorem dX12_slip_59 : decode cX12_slip 59 = .ok (.invokevirtual 223, 3) := by decide +kernel
theorem dX12_slip_62 : decode cX12_slip 62 = .ok (.istore 5, 2) := by decide +kernel
theorem dX12_slip_64 : decode cX12_slip 64 = .ok (.aload_n 0, 1) := by decide +kernel
theorem dX12_slip_65 : decode cX12_slip 65 = .ok (.iload_n 1, 1) := by decide +kernel
theorem dX12_slip_66 : decode cX12_slip 66 = .ok (.iload_n 2, 1) := by decide +kernel
theorem dX12_slip_67 : decode cX12_slip 67 = .ok (.iload_n 3, 1) := by decide +kernel
theorem dX12_slip_68 : decode cX12_slip 68 = .ok (.iload 5, 2) := by decide +kernel
theorem dX12_slip_70 : decode cX12_slip 70 = .ok (.iload 4, 2) := by decide +kernel
theorem dX12_slip_72 : decode cX12_slip 72 = .ok (.ixor, 1) := by decide +kernel
theorem dX12_slip_73 : decode cX12_slip 73 = .ok (.aload_n 0, 1) := by decide +kernel
theorem dX12_slip_74 : decode cX12_slip 74 = .ok (.iload_n 2, 1) := by decide +kernel
theorem dX12_slip_75 : decode cX12_slip 75 = .ok (.iload_n 3, 1) := by decide +kernel
theorem dX12_slip_76 : decode cX12_slip 76 = .ok (.iload 5, 2) := by decide +kernel
theorem dX12_slip_78 : decode cX12_slip 78 = .ok (.invokevirtual 267, 3) := by decide +kernel
theorem dX12_slip_81 : decode cX12_slip 81 = .ok (.invokevirtual 291, 3) := by decide +kernel
theorem dX12_slip_84 : decode cX12_slip 84 = .ok (.ireturn, 1) := by decide +kernel
set_option maxHeartbeats 4000000 in
set_option maxRecDepth 100000 in
theorem s_X12_slip {P : PP} {a0 : Nat} {a1 : Int32} {a2 : Int32} {a3 : Int32} {a4 : Int32} (I : IM P a0) (hW : MW P a0) : CtrI yX12_slip cX12_slip 6 (some Jvm.ClassFile.FieldType.int) ({ frames := 4, cells := 0, slots := 0, locals := 256 } : Room) 0 0 P [.ref a0, .int a1, .int a2, .int a3, .int a4] (fun r P2 => IM P2 a0 ∧ EM [0, 20, 21, 22, 23, 24, 25, 27] a0 P P2 ∧ MW P2 a0 ∧ (-1 ≤ r.toInt ∧ r.toInt ≤ 39)) := by
  refine enI (lv := [(0, .ref a0), (1, .int a1), (2, .int a2), (3, .int a3), (4, .int a4)]) (by decide) (Nat.le_of_ble_eq_true rfl) rfl (fun E D cy C Ci0 ret => ?_)
  have ha0 := I.2.1
  have J49 : ∀ (P49 : PP), (IM P49 a0) → (EM [0, 20, 21, 22, 23, 24, 25, 27] a0 P P49) → (MW P49 a0) → (0 ≤ (pI P49 a0 0).toInt ∧ (pI P49 a0 0).toInt ≤ 0) → G E ({ frames := 4, cells := 0, slots := 0, locals := 256 } : Room) D cy 6 P49 0 0 49 [] [] := by
    intro P49 I49 X49 W49 hq49_0
    have h80110 := X49.at ha0
    refine g_iconst (v := (-1)) C dX12_slip_49 (by decide) ?_
    exact ret _ _ _ _ _ _ dX12_slip_50 rfl (by decide) (by decide) ⟨I49, X49, W49, (by decide)⟩
  refine g_aload_n C dX12_slip_0 rfl 0 rfl ?_
  refine g_iconst (v := 0) C dX12_slip_1 (by decide) ?_
  refine g_putI C fi_X12_1 rfl (ha0).1 (ha0).2 dX12_slip_2 ?_
  refine gqW (ks := [0]) (I.setI (rgOk.of rfl (by decide))) (EM.setI I (by decide)) (fun Y80111 Iy80112 Xy80113 w80114 => ?_)
  have w80114 : (pI Y80111 a0 0).toInt = 0 := w80114
  have W80115 := hW.keep I Xy80113 (by decide) (by decide) (by decide)
  have Xz80116 : EM [0, 20, 21, 22, 23, 24, 25, 27] a0 P Y80111 := Xy80113.mono (by decide)
  have h80117 := Xy80113.at ha0
  refine g_iload_n C dX12_slip_5 rfl 1 rfl ?_
  refine g_callSI (b := 0) (ci := 0) (rest := []) C ms_X12_278 [.int a1] (s_X12_isQuarter Iy80112.1) rfl rfl (by decide) (Nat.le_of_ble_eq_true rfl) (by decide) dX12_slip_6 (fun r80118 Y80119 h80120 => ?_)
  obtain ⟨rfl, h80120⟩ := h80120
  obtain ⟨h80120, hi80121⟩ := h80120
  have hi80121 : r80118.toInt = 0 ∨ (((0 : Int) ≤ a1.toInt ∧ a1.toInt ≤ (3 : Int))) := hi80121
  have h80120 : 0 ≤ r80118.toInt ∧ r80118.toInt ≤ 1 := h80120
  refine b_if_eq C 49 dX12_slip_9 (by decide) (fun h80122 => ?_) (fun h80122 => ?_)
  · have h80122 : r80118.toInt = 0 := congrArg Int32.toInt h80122
    clear hi80121
    refine g_lv (lv' := []) [] rfl ?_
    exact J49 Y80111 Iy80112 Xz80116 W80115 (by omega)
  · have h80122 : r80118.toInt ≠ 0 := ti_ne h80122
    replace hi80121 := hi80121.resolve_left (by omega)
    refine g_aload_n C dX12_slip_12 rfl 0 rfl ?_
    refine g_iload_n C dX12_slip_13 rfl 2 rfl ?_
    refine g_callVI (rest := []) C mv_X12_192 [.int a2] (s_X12_isBook Iy80112 W80115) (h80117).1 (h80117).2 rfl rfl (by decide) (Nat.le_of_ble_eq_true rfl) (by decide) dX12_slip_14 (fun r80123 Y80124 h80125 => ?_)
    obtain ⟨rfl, h80125⟩ := h80125
    obtain ⟨h80125, hi80126, hi80127⟩ := h80125
    have hi80126 : r80123.toInt = 0 ∨ (((0 : Int) ≤ a2.toInt ∧ a2.toInt ≤ (1 : Int))) := hi80126
    have h80125 : 0 ≤ r80123.toInt ∧ r80123.toInt ≤ 1 := h80125
    refine b_if_eq C 49 dX12_slip_17 (by decide) (fun h80128 => ?_) (fun h80128 => ?_)
    · have h80128 : r80123.toInt = 0 := congrArg Int32.toInt h80128
      clear hi80126
      refine g_lv (lv' := []) [] rfl ?_
      exact J49 Y80111 Iy80112 Xz80116 W80115 (by omega)
    · have h80128 : r80123.toInt ≠ 0 := ti_ne h80128
      replace hi80126 := hi80126.resolve_left (by omega)
      obtain ⟨b80129, e80130, h80131⟩ := Iy80112.fld (h80117) 10 13 2 rfl
      have hi80127 := (hi80127.resolve_left (by omega)) b80129 e80130
      have hi80127 : 0 < (pI Y80111 b80129 (a2.toInt.toNat)).toInt := hi80127
      have h80132 := Iy80112.arr e80130 rfl (a2.toInt.toNat)
      refine g_iload_n C dX12_slip_20 rfl 3 rfl ?_
      refine g_callSI (b := 0) (ci := 0) (rest := []) C ms_X12_258 [.int a3] (s_X12_isNumber Iy80112.1) rfl rfl (by decide) (Nat.le_of_ble_eq_true rfl) (by decide) dX12_slip_21 (fun r80133 Y80134 h80135 => ?_)
      obtain ⟨rfl, h80135⟩ := h80135
      obtain ⟨h80135, hi80136⟩ := h80135
      have hi80136 : r80133.toInt = 0 ∨ (((0 : Int) ≤ a3.toInt ∧ a3.toInt ≤ (9999 : Int))) := hi80136
      have h80135 : 0 ≤ r80133.toInt ∧ r80133.toInt ≤ 1 := h80135
      refine b_if_eq C 49 dX12_slip_24 (by decide) (fun h80137 => ?_) (fun h80137 => ?_)
      · have h80137 : r80133.toInt = 0 := congrArg Int32.toInt h80137
        clear hi80136
        refine g_lv (lv' := []) [] rfl ?_
        exact J49 Y80111 Iy80112 Xz80116 W80115 (by omega)
      · have h80137 : r80133.toInt ≠ 0 := ti_ne h80137
        replace hi80136 := hi80136.resolve_left (by omega)
        refine g_iload C dX12_slip_27 4 rfl ?_
        refine g_iconst (v := 1) C dX12_slip_29 (by decide) ?_
        refine g_ldc (v := 65535) C kc_X12_195 dX12_slip_30 ?_
        refine g_callSI (b := 0) (ci := 0) (rest := []) C ms_X12_178 [.int a4, .int 1, .int 65535] (s_X12_within Iy80112.1) rfl rfl (by decide) (Nat.le_of_ble_eq_true rfl) (by decide) dX12_slip_32 (fun r80138 Y80139 h80140 => ?_)
        obtain ⟨rfl, h80140⟩ := h80140
        obtain ⟨h80140, hi80141⟩ := h80140
        have hi80141 : r80138.toInt = 0 ∨ (1 ≤ a4.toInt ∧ a4.toInt ≤ 65535) := hi80141
        have h80140 : 0 ≤ r80138.toInt ∧ r80138.toInt ≤ 1 := h80140
        refine b_if_eq C 49 dX12_slip_35 (by decide) (fun h80142 => ?_) (fun h80142 => ?_)
        · have h80142 : r80138.toInt = 0 := congrArg Int32.toInt h80142
          clear hi80141
          refine g_lv (lv' := []) [] rfl ?_
          exact J49 Y80111 Iy80112 Xz80116 W80115 (by omega)
        · have h80142 : r80138.toInt ≠ 0 := ti_ne h80142
          replace hi80141 := hi80141.resolve_left (by omega)
          refine g_aload_n C dX12_slip_38 rfl 0 rfl ?_
          obtain ⟨b80143, e80144, h80145⟩ := Iy80112.fld (h80117) 20 13 20 rfl
          refine g_getR C fi_X12_69 rfl e80144 (h80117).1 (h80117).2 dX12_slip_39 ?_
          refine g_iload_n C dX12_slip_42 rfl 1 rfl ?_
          refine g_iald (j := (a1.toInt.toNat)) C h80145.1 h80145.2.1 (ix_in h80145.2.2 (by omega)) dX12_slip_43 ?_
          have h80146 := Iy80112.arr e80144 rfl (a1.toInt.toNat)
          refine g_bipush (v := 40) C dX12_slip_44 (by decide) ?_
          refine b_icmp_ne C 51 dX12_slip_46 (by decide) (fun h80147 => ?_) (fun h80147 => ?_)
          · have h80147 : (pI Y80111 b80143 (a1.toInt.toNat)).toInt ≠ 40 := ti_ne h80147
            refine g_aload_n C dX12_slip_51 rfl 0 rfl ?_
            refine g_iload_n C dX12_slip_52 rfl 2 rfl ?_
            refine g_aload_n C dX12_slip_53 rfl 0 rfl ?_
            refine g_iload_n C dX12_slip_54 rfl 2 rfl ?_
            refine g_iload_n C dX12_slip_55 rfl 3 rfl ?_
            refine g_callVI (rest := [.int a2, .ref a0]) C mv_X12_261 [.int a2, .int a3] (s_X12_setOf Iy80112 (by omega) (fun b9 e9 => by rw [e80130] at e9; cases e9; show 1 ≤ (pI Y80111 b80129 (a2.toInt.toNat)).toInt ∧ (pI Y80111 b80129 (a2.toInt.toNat)).toInt ≤ 16; omega) W80115) (h80117).1 (h80117).2 rfl rfl (by decide) (Nat.le_of_ble_eq_true rfl) (by decide) dX12_slip_56 (fun r80148 Y80149 h80150 => ?_)
            obtain ⟨Iy80151, Xy80152, W80153, h80150⟩ := h80150
            have q80154 := Xy80152.keepF 0 (by decide)
            have q80155 := Xy80152.keepA e80130 (by decide) rfl (a2.toInt.toNat)
            have q80156 := Xy80152.keepA e80144 (by decide) rfl (a1.toInt.toNat)
            have Xz80157 : EM [0, 20, 21, 22, 23, 24, 25, 27] a0 P Y80149 := EM.tr ha0 Xz80116 (Xy80152.mono (by decide))
            have e80158 := Xy80152.ref h80117 (by decide) e80130
            have e80159 := Xy80152.ref h80117 (by decide) e80144
            have h80160 := Xy80152.at h80117
            have h80161 := Xy80152.ar h80131
            have h80162 := Xy80152.ar h80145
            have h80150 : True := h80150
            refine g_callVI (rest := []) C mv_X12_223 [.int a2, .int r80148] (s_X12_sumOf Iy80151 (by omega) W80153) (h80160).1 (h80160).2 rfl rfl (by decide) (Nat.le_of_ble_eq_true rfl) (by decide) dX12_slip_59 (fun r80163 Y80164 h80165 => ?_)
            obtain ⟨rfl, h80165⟩ := h80165
            have h80165 : True := h80165
            refine g_istore (lv' := [(5, .int r80163), (0, .ref a0), (1, .int a1), (2, .int a2), (3, .int a3), (4, .int a4)]) C dX12_slip_62 (by decide) rfl ?_
            refine g_aload_n C dX12_slip_64 rfl 1 rfl ?_
            refine g_iload_n C dX12_slip_65 rfl 2 rfl ?_
            refine g_iload_n C dX12_slip_66 rfl 3 rfl ?_
            refine g_iload_n C dX12_slip_67 rfl 4 rfl ?_
            refine g_iload C dX12_slip_68 0 rfl ?_
            refine g_iload C dX12_slip_70 5 rfl ?_
            refine a_ixor C dX12_slip_72 (fun z80166 => ?_)
            refine g_aload_n C dX12_slip_73 rfl 1 rfl ?_
            refine g_iload_n C dX12_slip_74 rfl 3 rfl ?_
            refine g_iload_n C dX12_slip_75 rfl 4 rfl ?_
            refine g_iload C dX12_slip_76 0 rfl ?_
            refine g_callVI (rest := [.int z80166, .int a3, .int a2, .int a1, .ref a0]) C mv_X12_267 [.int a2, .int a3, .int r80163] (s_X12_sealOf Iy80151 (by omega) W80153) (h80160).1 (h80160).2 rfl rfl (by decide) (Nat.le_of_ble_eq_true rfl) (by decide) dX12_slip_78 (fun r80168 Y80169 h80170 => ?_)
            obtain ⟨rfl, h80170⟩ := h80170
            have h80170 : -996 ≤ r80168.toInt ∧ r80168.toInt ≤ 996 := h80170
            refine g_callVI (rest := []) C mv_X12_291 [.int a1, .int a2, .int a3, .int z80166, .int r80168] (s_X12_laysIf Iy80151 (by omega) (by omega) (fun b9 e9 => by rw [e80158] at e9; cases e9; show 1 ≤ (pI Y80149 b80129 (a2.toInt.toNat)).toInt ∧ (pI Y80149 b80129 (a2.toInt.toNat)).toInt ≤ 16; omega) (fun b9 e9 => by rw [e80159] at e9; cases e9; show 0 ≤ (pI Y80149 b80143 (a1.toInt.toNat)).toInt ∧ (pI Y80149 b80143 (a1.toInt.toNat)).toInt ≤ 39; omega) W80153) (h80160).1 (h80160).2 rfl rfl (by decide) (Nat.le_of_ble_eq_true rfl) (by decide) dX12_slip_81 (fun r80171 Y80172 h80173 => ?_)
            obtain ⟨Iy80174, Xy80175, W80176, h80173⟩ := h80173
            have q80177 := Xy80175.keepF 0 (by decide)
            have q80178 := Xy80175.keepA e80158 (by decide) rfl (a2.toInt.toNat)
            have Xz80179 : EM [0, 20, 21, 22, 23, 24, 25, 27] a0 P Y80172 := EM.tr ha0 Xz80157 (Xy80175.mono (by decide))
            have e80180 := Xy80175.ref h80160 (by decide) e80158
            have h80181 := Xy80175.at h80160
            have h80182 := Xy80175.ar h80161
            have h80173 : -1 ≤ r80171.toInt ∧ r80171.toInt ≤ 39 := h80173
            exact ret _ _ _ _ _ _ dX12_slip_84 rfl (by decide) (by decide) ⟨Iy80174, Xz80179, W80176, (by omega)⟩
          · have h80147 : (pI Y80111 b80143 (a1.toInt.toNat)).toInt = 40 := congrArg Int32.toInt h80147
            refine g_lv (lv' := []) [] rfl ?_
            exact J49 Y80111 Iy80112 Xz80116 W80115 (by omega)
theorem dX12_slipped_0 : decode cX12_slipped 0 = .ok (.aload_n 0, 1) := by decide +kernel
theorem dX12_slipped_1 : decode cX12_slipped 1 = .ok (.iconst 0, 1) := by decide +kernel
theorem dX12_slipped_2 : decode cX12_slipped 2 = .ok (.putfield 1, 3) := by decide +kernel
theorem dX12_slipped_5 : decode cX12_slipped 5 = .ok (.aload_n 0, 1) := by decide +kernel
theorem dX12_slipped_6 : decode cX12_slipped 6 = .ok (.iload_n 1, 1) := by decide +kernel
theorem dX12_slipped_7 : decode cX12_slipped 7 = .ok (.iload_n 2, 1) := by decide +kernel
theorem dX12_slipped_8 : decode cX12_slipped 8 = .ok (.iload_n 3, 1) := by decide +kernel
theorem dX12_slipped_9 : decode cX12_slipped 9 = .ok (.invokevirtual 333, 3) := by decide +kernel
theorem dX12_slipped_12 : decode cX12_slipped 12 = .ok (.ifCond .eq 23, 3) := by decide +kernel
theorem dX12_slipped_15 : decode cX12_slipped 15 = .ok (.iload 4, 2) := by decide +kernel
theorem dX12_slipped_17 : decode cX12_slipped 17 = .ok (.iconst 0, 1) := by decide +kernel
theorem dX12_slipped_18 : decode cX12_slipped 18 = .ok (.iconst 2, 1) := by decide +kernel
theorem dX12_slipped_19 : decode cX12_slipped 19 = .ok (.invokestatic 178, 3) := by decide +kernel
theorem dX12_slipped_22 : decode cX12_slipped 22 = .ok (.ifCond .eq 13, 3) := by decide +kernel
theorem dX12_slipped_25 : decode cX12_slipped 25 = .ok (.aload_n 0, 1) := by decide +kernel
theorem dX12_slipped_26 : decode cX12_slipped 26 = .ok (.iload_n 1, 1) := by decide +kernel
theorem dX12_slipped_27 : decode cX12_slipped 27 = .ok (.iload_n 2, 1) := by decide +kernel
theorem dX12_slipped_28 : decode cX12_slipped 28 = .ok (.iload_n 3, 1) := by decide +kernel
theorem dX12_slipped_29 : decode cX12_slipped 29 = .ok (.invokevirtual 364, 3) := by decide +kernel
theorem dX12_slipped_32 : decode cX12_slipped 32 = .ok (.ifCond .ne 5, 3) := by decide +kernel
theorem dX12_slipped_35 : decode cX12_slipped 35 = .ok (.iconst (-1), 1) := by decide +kernel
theorem dX12_slipped_36 : decode cX12_slipped 36 = .ok (.ireturn, 1) := by decide +kernel
theorem dX12_slipped_37 : decode cX12_slipped 37 = .ok (.iload 4, 2) := by decide +kernel
theorem dX12_slipped_39 : decode cX12_slipped 39 = .ok (.ifCond .ne 10, 3) := by decide +kernel
theorem dX12_slipped_42 : decode cX12_slipped 42 = .ok (.aload_n 0, 1) := by decide +kernel
theorem dX12_slipped_43 : decode cX12_slipped 43 = .ok (.getfield 361, 3) := by decide +kernel
theorem dX12_slipped_46 : decode cX12_slipped 46 = .ok (.goto 42, 3) := by decide +kernel
theorem dX12_slipped_49 : decode cX12_slipped 49 = .ok (.iload 4, 2) := by decide +kernel
theorem dX12_slipped_51 : decode cX12_slipped 51 = .ok (.iconst 2, 1) := by decide +kernel
theorem dX12_slipped_52 : decode cX12_slipped 52 = .ok (.if_icmp .ne 19, 3) := by decide +kernel
theorem dX12_slipped_55 : decode cX12_slipped 55 = .ok (.aload_n 0, 1) := by decide +kernel
theorem dX12_slipped_56 : decode cX12_slipped 56 = .ok (.getfield 361, 3) := by decide +kernel
theorem dX12_slipped_59 : decode cX12_slipped 59 = .ok (.iconst 1, 1) := by decide +kernel
theorem dX12_slipped_60 : decode cX12_slipped 60 = .ok (.if_icmp .ne 7, 3) := by decide +kernel
theorem dX12_slipped_63 : decode cX12_slipped 63 = .ok (.iconst 1, 1) := by decide +kernel
theorem dX12_slipped_64 : decode cX12_slipped 64 = .ok (.goto 24, 3) := by decide +kernel
theorem dX12_slipped_67 : decode cX12_slipped 67 = .ok (.iconst 0, 1) := by decide +kernel
theorem dX12_slipped_68 : decode cX12_slipped 68 = .ok (.goto 20, 3) := by decide +kernel
theorem dX12_slipped_71 : decode cX12_slipped 71 = .ok (.aload_n 0, 1) := by decide +kernel
theorem dX12_slipped_72 : decode cX12_slipped 72 = .ok (.getfield 361, 3) := by decide +kernel
theorem dX12_slipped_75 : decode cX12_slipped 75 = .ok (.ifCond .ne 7, 3) := by decide +kernel
theorem dX12_slipped_78 : decode cX12_slipped 78 = .ok (.iconst (-1), 1) := by decide +kernel
theorem dX12_slipped_79 : decode cX12_slipped 79 = .ok (.goto 9, 3) := by decide +kernel
theorem dX12_slipped_82 : decode cX12_slipped 82 = .ok (.aload_n 0, 1) := by decide +kernel
theorem dX12_slipped_83 : decode cX12_slipped 83 = .ok (.getfield 112, 3) := by decide +kernel
theorem dX12_slipped_86 : decode cX12_slipped 86 = .ok (.iconst 0, 1) := by decide +kernel
theorem dX12_slipped_87 : decode cX12_slipped 87 = .ok (.iaload, 1) := by decide +kernel
theorem dX12_slipped_88 : decode cX12_slipped 88 = .ok (.ireturn, 1) := by decide +kernel
set_option maxHeartbeats 4000000 in
set_option maxRecDepth 100000 in
theorem s_X12_slipped {P : PP} {a0 : Nat} {a1 : Int32} {a2 : Int32} {a3 : Int32} {a4 : Int32} (I : IM P a0) (hW : MW P a0) : CtrI yX12_slipped cX12_slipped 5 (some Jvm.ClassFile.FieldType.int) ({ frames := 6, cells := 0, slots := 0, locals := 384 } : Room) 0 0 P [.ref a0, .int a1, .int a2, .int a3, .int a4] (fun r P2 => IM P2 a0 ∧ EM [0, 28, 29, 30, 31, 32, 35, 36, 37, 38, 39, 40] a0 P P2 ∧ MW P2 a0 ∧ (-1 ≤ r.toInt ∧ r.toInt ≤ 40)) := by
  refine enI (lv := [(0, .ref a0), (1, .int a1), (2, .int a2), (3, .int a3), (4, .int a4)]) (by decide) (Nat.le_of_ble_eq_true rfl) rfl (fun E D cy C Ci0 ret => ?_)
  have ha0 := I.2.1
  have J35 : ∀ (P35 : PP), (IM P35 a0) → (EM [0, 28, 29, 30, 31, 32, 35, 36, 37, 38, 39, 40] a0 P P35) → (MW P35 a0) → (0 ≤ (pI P35 a0 0).toInt ∧ (pI P35 a0 0).toInt ≤ 0) → G E ({ frames := 6, cells := 0, slots := 0, locals := 384 } : Room) D cy 5 P35 0 0 35 [] [] := by
    intro P35 I35 X35 W35 hq35_0
    have h80230 := X35.at ha0
    refine g_iconst (v := (-1)) C dX12_slipped_35 (by decide) ?_
    exact ret _ _ _ _ _ _ dX12_slipped_36 rfl (by decide) (by decide) ⟨I35, X35, W35, (by decide)⟩
  refine g_aload_n C dX12_slipped_0 rfl 0 rfl ?_
  refine g_iconst (v := 0) C dX12_slipped_1 (by decide) ?_
  refine g_putI C fi_X12_1 rfl (ha0).1 (ha0).2 dX12_slipped_2 ?_
  refine gqW (ks := [0]) (I.setI (rgOk.of rfl (by decide))) (EM.setI I (by decide)) (fun Y80231 Iy80232 Xy80233 w80234 => ?_)
  have w80234 : (pI Y80231 a0 0).toInt = 0 := w80234
  have W80235 := hW.keep I Xy80233 (by decide) (by decide) (by decide)
  have Xz80236 : EM [0, 28, 29, 30, 31, 32, 35, 36, 37, 38, 39, 40] a0 P Y80231 := Xy80233.mono (by decide)
  have h80237 := Xy80233.at ha0
  refine g_aload_n C dX12_slipped_5 rfl 0 rfl ?_
  refine g_iload_n C dX12_slipped_6 rfl 1 rfl ?_
  refine g_iload_n C dX12_slipped_7 rfl 2 rfl ?_
  refine g_iload_n C dX12_slipped_8 rfl 3 rfl ?_
  refine g_callVI (rest := []) C mv_X12_333 [.int a1, .int a2, .int a3] (s_X12_isAsked Iy80232 W80235) (h80237).1 (h80237).2 rfl rfl (by decide) (Nat.le_of_ble_eq_true rfl) (by decide) dX12_slipped_9 (fun r80238 Y80239 h80240 => ?_)
  obtain ⟨rfl, h80240⟩ := h80240
  obtain ⟨h80240, hi80241, hi80242⟩ := h80240
  have hi80241 : r80238.toInt = 0 ∨ (((0 : Int) ≤ a1.toInt ∧ a1.toInt ≤ (3 : Int)) ∧ ((0 : Int) ≤ a2.toInt ∧ a2.toInt ≤ (1 : Int)) ∧ ((0 : Int) ≤ a3.toInt ∧ a3.toInt ≤ (1 : Int))) := hi80241
  have h80240 : 0 ≤ r80238.toInt ∧ r80238.toInt ≤ 1 := h80240
  refine b_if_eq C 35 dX12_slipped_12 (by decide) (fun h80243 => ?_) (fun h80243 => ?_)
  · have h80243 : r80238.toInt = 0 := congrArg Int32.toInt h80243
    clear hi80241
    refine g_lv (lv' := []) [] rfl ?_
    exact J35 Y80231 Iy80232 Xz80236 W80235 (by omega)
  · have h80243 : r80238.toInt ≠ 0 := ti_ne h80243
    replace hi80241 := hi80241.resolve_left (by omega)
    obtain ⟨b80244, e80245, h80246⟩ := Iy80232.fld (h80237) 10 13 2 rfl
    have hi80242 := (hi80242.resolve_left (by omega)) b80244 e80245
    have hi80242 : 0 < (pI Y80231 b80244 (a2.toInt.toNat)).toInt := hi80242
    have h80247 := Iy80232.arr e80245 rfl (a2.toInt.toNat)
    refine g_iload C dX12_slipped_15 4 rfl ?_
    refine g_iconst (v := 0) C dX12_slipped_17 (by decide) ?_
    refine g_iconst (v := 2) C dX12_slipped_18 (by decide) ?_
    refine g_callSI (b := 0) (ci := 0) (rest := []) C ms_X12_178 [.int a4, .int 0, .int 2] (s_X12_within Iy80232.1) rfl rfl (by decide) (Nat.le_of_ble_eq_true rfl) (by decide) dX12_slipped_19 (fun r80248 Y80249 h80250 => ?_)
    obtain ⟨rfl, h80250⟩ := h80250
    obtain ⟨h80250, hi80251⟩ := h80250
    have hi80251 : r80248.toInt = 0 ∨ (0 ≤ a4.toInt ∧ a4.toInt ≤ 2) := hi80251
    have h80250 : 0 ≤ r80248.toInt ∧ r80248.toInt ≤ 1 := h80250
    refine b_if_eq C 35 dX12_slipped_22 (by decide) (fun h80252 => ?_) (fun h80252 => ?_)
    · have h80252 : r80248.toInt = 0 := congrArg Int32.toInt h80252
      clear hi80251
      refine g_lv (lv' := []) [] rfl ?_
      exact J35 Y80231 Iy80232 Xz80236 W80235 (by omega)
    · have h80252 : r80248.toInt ≠ 0 := ti_ne h80252
      replace hi80251 := hi80251.resolve_left (by omega)
      refine g_aload_n C dX12_slipped_25 rfl 0 rfl ?_
      refine g_iload_n C dX12_slipped_26 rfl 1 rfl ?_
      refine g_iload_n C dX12_slipped_27 rfl 2 rfl ?_
      refine g_iload_n C dX12_slipped_28 rfl 3 rfl ?_
      refine g_callVI (rest := []) C mv_X12_364 [.int a1, .int a2, .int a3] (s_X12_findSlipped Iy80232 (by omega) (by omega) (by omega) (fun b9 e9 => by rw [e80245] at e9; cases e9; show 1 ≤ (pI Y80231 b80244 (a2.toInt.toNat)).toInt ∧ (pI Y80231 b80244 (a2.toInt.toNat)).toInt ≤ 16; omega) W80235) (h80237).1 (h80237).2 rfl rfl (by decide) (Nat.le_of_ble_eq_true rfl) (by decide) dX12_slipped_29 (fun r80253 Y80254 h80255 => ?_)
      obtain ⟨Iy80256, Xy80257, W80258, h80255⟩ := h80255
      have q80259 := Xy80257.keepF 0 (by decide)
      have q80260 := Xy80257.keepA e80245 (by decide) rfl (a2.toInt.toNat)
      have Xz80261 : EM [0, 28, 29, 30, 31, 32, 35, 36, 37, 38, 39, 40] a0 P Y80254 := EM.tr ha0 Xz80236 (Xy80257.mono (by decide))
      have e80262 := Xy80257.ref h80237 (by decide) e80245
      have h80263 := Xy80257.at h80237
      have h80264 := Xy80257.ar h80246
      have h80255 : 0 ≤ r80253.toInt ∧ r80253.toInt ≤ 1 := h80255
      refine b_if_ne C 37 dX12_slipped_32 (by decide) (fun h80265 => ?_) (fun h80265 => ?_)
      · have h80265 : r80253.toInt ≠ 0 := ti_ne h80265
        refine g_iload C dX12_slipped_37 4 rfl ?_
        refine b_if_ne C 49 dX12_slipped_39 (by decide) (fun h80266 => ?_) (fun h80266 => ?_)
        · have h80266 : a4.toInt ≠ 0 := ti_ne h80266
          refine g_iload C dX12_slipped_49 4 rfl ?_
          refine g_iconst (v := 2) C dX12_slipped_51 (by decide) ?_
          refine b_icmp_ne C 71 dX12_slipped_52 (by decide) (fun h80267 => ?_) (fun h80267 => ?_)
          · have h80267 : a4.toInt ≠ 2 := ti_ne h80267
            refine g_aload_n C dX12_slipped_71 rfl 0 rfl ?_
            refine g_getI C fi_X12_361 (by decide) (h80263).1 (h80263).2 dX12_slipped_72 ?_
            have h80268 := Iy80256.rg (h80263) 39 rfl
            refine b_if_ne C 82 dX12_slipped_75 (by decide) (fun h80269 => ?_) (fun h80269 => ?_)
            · have h80269 : (pI Y80254 a0 39).toInt ≠ 0 := ti_ne h80269
              refine g_aload_n C dX12_slipped_82 rfl 0 rfl ?_
              obtain ⟨b80270, e80271, h80272⟩ := Iy80256.fld (h80263) 40 13 40 rfl
              refine g_getR C fi_X12_112 rfl e80271 (h80263).1 (h80263).2 dX12_slipped_83 ?_
              refine g_iconst (v := 0) C dX12_slipped_86 (by decide) ?_
              refine g_iald (j := 0) C h80272.1 h80272.2.1 (IX.litn (j := 0) h80272.2.2 rfl (by decide) (by decide)) dX12_slipped_87 ?_
              have h80273 := Iy80256.arr e80271 rfl 0
              exact ret _ _ _ _ _ _ dX12_slipped_88 rfl (by decide) (by decide) ⟨Iy80256, Xz80261, W80258, (by omega)⟩
            · have h80269 : (pI Y80254 a0 39).toInt = 0 := congrArg Int32.toInt h80269
              refine g_iconst (v := (-1)) C dX12_slipped_78 (by decide) ?_
              refine g_goto C 88 dX12_slipped_79 (by decide) ?_
              exact ret _ _ _ _ _ _ dX12_slipped_88 rfl (by decide) (by decide) ⟨Iy80256, Xz80261, W80258, (by decide)⟩
          · have h80267 : a4.toInt = 2 := congrArg Int32.toInt h80267
            refine g_aload_n C dX12_slipped_55 rfl 0 rfl ?_
            refine g_getI C fi_X12_361 (by decide) (h80263).1 (h80263).2 dX12_slipped_56 ?_
            have h80274 := Iy80256.rg (h80263) 39 rfl
            refine g_iconst (v := 1) C dX12_slipped_59 (by decide) ?_
            refine b_icmp_ne C 67 dX12_slipped_60 (by decide) (fun h80275 => ?_) (fun h80275 => ?_)
            · have h80275 : (pI Y80254 a0 39).toInt ≠ 1 := ti_ne h80275
              refine g_iconst (v := 0) C dX12_slipped_67 (by decide) ?_
              refine g_goto C 88 dX12_slipped_68 (by decide) ?_
              exact ret _ _ _ _ _ _ dX12_slipped_88 rfl (by decide) (by decide) ⟨Iy80256, Xz80261, W80258, (by decide)⟩
            · have h80275 : (pI Y80254 a0 39).toInt = 1 := congrArg Int32.toInt h80275
              refine g_iconst (v := 1) C dX12_slipped_63 (by decide) ?_
              refine g_goto C 88 dX12_slipped_64 (by decide) ?_
              exact ret _ _ _ _ _ _ dX12_slipped_88 rfl (by decide) (by decide) ⟨Iy80256, Xz80261, W80258, (by decide)⟩
        · have h80266 : a4.toInt = 0 := congrArg Int32.toInt h80266
          refine g_aload_n C dX12_slipped_42 rfl 0 rfl ?_
          refine g_getI C fi_X12_361 (by decide) (h80263).1 (h80263).2 dX12_slipped_43 ?_
          have h80276 := Iy80256.rg (h80263) 39 rfl
          refine g_goto C 88 dX12_slipped_46 (by decide) ?_
          exact ret _ _ _ _ _ _ dX12_slipped_88 rfl (by decide) (by decide) ⟨Iy80256, Xz80261, W80258, (by omega)⟩
      · have h80265 : r80253.toInt = 0 := congrArg Int32.toInt h80265
        refine g_lv (lv' := []) [] rfl ?_
        exact J35 Y80254 Iy80256 Xz80261 W80258 (by omega)
