theorem dX12_book_64 : decode cX12_book 64 = .ok (.iconst 0, 1) := by decide +kernel
theorem dX12_book_65 : decode cX12_book 65 = .ok (.istore_n 3, 1) := by decide +kernel
theorem dX12_book_66 : decode cX12_book 66 = .ok (.iload_n 3, 1) := by decide +kernel
theorem dX12_book_67 : decode cX12_book 67 = .ok (.iconst 4, 1) := by decide +kernel
theorem dX12_book_68 : decode cX12_book 68 = .ok (.if_icmp .ge 68, 3) := by decide +kernel
theorem dX12_book_71 : decode cX12_book 71 = .ok (.aload_n 0, 1) := by decide +kernel
theorem dX12_book_72 : decode cX12_book 72 = .ok (.getfield 69, 3) := by decide +kernel
theorem dX12_book_75 : decode cX12_book 75 = .ok (.iload_n 3, 1) := by decide +kernel
theorem dX12_book_76 : decode cX12_book 76 = .ok (.iaload, 1) := by decide +kernel
theorem dX12_book_77 : decode cX12_book 77 = .ok (.iconst 1, 1) := by decide +kernel
theorem dX12_book_78 : decode cX12_book 78 = .ok (.isub, 1) := by decide +kernel
theorem dX12_book_79 : decode cX12_book 79 = .ok (.istore 4, 2) := by decide +kernel
theorem dX12_book_81 : decode cX12_book 81 = .ok (.iload 4, 2) := by decide +kernel
theorem dX12_book_83 : decode cX12_book 83 = .ok (.ifCond .lt 47, 3) := by decide +kernel
theorem dX12_book_86 : decode cX12_book 86 = .ok (.aload_n 0, 1) := by decide +kernel
theorem dX12_book_87 : decode cX12_book 87 = .ok (.getfield 75, 3) := by decide +kernel
theorem dX12_book_90 : decode cX12_book 90 = .ok (.bipush 40, 2) := by decide +kernel
theorem dX12_book_92 : decode cX12_book 92 = .ok (.iload_n 3, 1) := by decide +kernel
theorem dX12_book_93 : decode cX12_book 93 = .ok (.imul, 1) := by decide +kernel
theorem dX12_book_94 : decode cX12_book 94 = .ok (.iload 4, 2) := by decide +kernel
theorem dX12_book_96 : decode cX12_book 96 = .ok (.iadd, 1) := by decide +kernel
theorem dX12_book_97 : decode cX12_book 97 = .ok (.iaload, 1) := by decide +kernel
theorem dX12_book_98 : decode cX12_book 98 = .ok (.iload_n 1, 1) := by decide +kernel
theorem dX12_book_99 : decode cX12_book 99 = .ok (.if_icmp .eq 18, 3) := by decide +kernel
theorem dX12_book_102 : decode cX12_book 102 = .ok (.aload_n 0, 1) := by decide +kernel
theorem dX12_book_103 : decode cX12_book 103 = .ok (.getfield 75, 3) := by decide +kernel
theorem dX12_book_106 : decode cX12_book 106 = .ok (.bipush 40, 2) := by decide +kernel
theorem dX12_book_108 : decode cX12_book 108 = .ok (.iload_n 3, 1) := by decide +kernel
theorem dX12_book_109 : decode cX12_book 109 = .ok (.imul, 1) := by decide +kernel
theorem dX12_book_110 : decode cX12_book 110 = .ok (.iload 4, 2) := by decide +kernel
theorem dX12_book_112 : decode cX12_book 112 = .ok (.iadd, 1) := by decide +kernel
theorem dX12_book_113 : decode cX12_book 113 = .ok (.iaload, 1) := by decide +kernel
theorem dX12_book_114 : decode cX12_book 114 = .ok (.ifCond .ge 10, 3) := by decide +kernel
theorem dX12_book_117 : decode cX12_book 117 = .ok (.aload_n 0, 1) := by decide +kernel
theorem dX12_book_118 : decode cX12_book 118 = .ok (.iload_n 3, 1) := by decide +kernel
theorem dX12_book_119 : decode cX12_book 119 = .ok (.iload 4, 2) := by decide +kernel
theorem dX12_book_121 : decode cX12_book 121 = .ok (.invokevirtual 185, 3) := by decide +kernel
theorem dX12_book_124 : decode cX12_book 124 = .ok (.iinc 4 (-1), 3) := by decide +kernel
theorem dX12_book_127 : decode cX12_book 127 = .ok (.goto (-46), 3) := by decide +kernel
theorem dX12_book_130 : decode cX12_book 130 = .ok (.iinc 3 1, 3) := by decide +kernel
theorem dX12_book_133 : decode cX12_book 133 = .ok (.goto (-67), 3) := by decide +kernel
theorem dX12_book_136 : decode cX12_book 136 = .ok (.aload_n 0, 1) := by decide +kernel
theorem dX12_book_137 : decode cX12_book 137 = .ok (.invokevirtual 189, 3) := by decide +kernel
theorem dX12_forgetsMarks_0 : decode cX12_forgetsMarks 0 = .ok (.iconst 0, 1) := by decide +kernel
theorem dX12_forgetsMarks_1 : decode cX12_forgetsMarks 1 = .ok (.istore_n 1, 1) := by decide +kernel
theorem dX12_forgetsMarks_2 : decode cX12_forgetsMarks 2 = .ok (.iload_n 1, 1) := by decide +kernel
theorem dX12_forgetsMarks_3 : decode cX12_forgetsMarks 3 = .ok (.iconst 4, 1) := by decide +kernel
theorem dX12_forgetsMarks_4 : decode cX12_forgetsMarks 4 = .ok (.if_icmp .ge 16, 3) := by decide +kernel
theorem dX12_forgetsMarks_7 : decode cX12_forgetsMarks 7 = .ok (.aload_n 0, 1) := by decide +kernel
theorem dX12_forgetsMarks_8 : decode cX12_forgetsMarks 8 = .ok (.getfield 87, 3) := by decide +kernel
theorem dX12_forgetsMarks_11 : decode cX12_forgetsMarks 11 = .ok (.iload_n 1, 1) := by decide +kernel
theorem dX12_forgetsMarks_12 : decode cX12_forgetsMarks 12 = .ok (.iconst 0, 1) := by decide +kernel
theorem dX12_forgetsMarks_13 : decode cX12_forgetsMarks 13 = .ok (.bastore, 1) := by decide +kernel
theorem dX12_forgetsMarks_14 : decode cX12_forgetsMarks 14 = .ok (.iinc 1 1, 3) := by decide +kernel
theorem dX12_forgetsMarks_17 : decode cX12_forgetsMarks 17 = .ok (.goto (-15), 3) := by decide +kernel
theorem dX12_forgetsMarks_20 : decode cX12_forgetsMarks 20 = .ok (.return_, 1) := by decide +kernel
set_option maxHeartbeats 4000000 in
set_option maxRecDepth 100000 in
theorem s_X12_forgetsMarks {P : PP} {a0 : Nat} (I : IM P a0) (hW : MW P a0) : CtrV yX12_forgetsMarks cX12_forgetsMarks 2 none ({ frames := 1, cells := 0, slots := 0, locals := 64 } : Room) 0 0 P [.ref a0] (fun P2 => IM P2 a0 ∧ EM [26] a0 P P2 ∧ MW P2 a0) := by
  refine enV (lv := [(0, .ref a0)]) (by decide) (Nat.le_of_ble_eq_true rfl) rfl (fun E D cy C Ci0 ret => ?_)
  have ha0 := I.2.1
  have J2 : ∀ (n2 : Nat) (P2 : PP) (v2_1 : Int32), (4 - v2_1.toInt).toNat < n2 → (IM P2 a0) → (EM [26] a0 P P2) → (MW P2 a0) → (0 ≤ v2_1.toInt ∧ v2_1.toInt ≤ 4) → G E ({ frames := 1, cells := 0, slots := 0, locals := 64 } : Room) D cy 2 P2 0 0 2 [(0, .ref a0), (1, .int v2_1)] [] := by
    intro n2
    induction n2 with
    | zero => intro P2 v2_1 hm2 I2 X2 W2 hv2_1; omega
    | succ n2 ih2 =>
      intro P2 v2_1 hm2 I2 X2 W2 hv2_1
      have h39606 := X2.at ha0
      refine g_iload_n C dX12_forgetsMarks_2 rfl 1 rfl ?_
      refine g_iconst (v := 4) C dX12_forgetsMarks_3 (by decide) ?_
      refine b_icmp_ge C 20 dX12_forgetsMarks_4 (by decide) (fun h39607 => ?_) (fun h39607 => ?_)
      · have h39607 : 4 ≤ v2_1.toInt := h39607
        exact ret _ _ _ _ _ dX12_forgetsMarks_20 (by decide) (by decide) ⟨I2, X2, W2⟩
      · have h39607 : v2_1.toInt < 4 := h39607
        refine g_aload_n C dX12_forgetsMarks_7 rfl 0 rfl ?_
        obtain ⟨b39608, e39609, h39610⟩ := I2.fld (h39606) 26 15 4 rfl
        refine g_getR C fi_X12_87 rfl e39609 (h39606).1 (h39606).2 dX12_forgetsMarks_8 ?_
        refine g_iload_n C dX12_forgetsMarks_11 rfl 1 rfl ?_
        refine g_iconst (v := 0) C dX12_forgetsMarks_12 (by decide) ?_
        refine g_zast (j := (v2_1.toInt.toNat)) C h39610.1 h39610.2.1 (ix_in h39610.2.2 (by omega)) (Or.inl rfl) dX12_forgetsMarks_13 ?_
        refine gqW (ks := [26]) (I2.setA e39609 h39610 (by decide) (arOk.none rfl)) (EM.setA I2 e39609 rfl (by decide)) (fun Y39611 Iy39612 Xy39613 w39614  => ?_)
        have w39614 : (pI Y39611 b39608 (v2_1.toInt.toNat)).toInt = 0 := w39614
        have W39615 := W2.keep I2 Xy39613 (by decide) (by decide) (by decide) (by decide)
        have Xz39616 : EM [26] a0 P Y39611 := EM.tr ha0 X2 (Xy39613.mono (by decide))
        have e39617 := Xy39613.ref h39606 (by decide) e39609
        have h39618 := Xy39613.at h39606
        have h39619 := Xy39613.ar h39610
        refine s_iinc (lv0 := [(0, .ref a0)]) (m := 1) C dX12_forgetsMarks_14 1 rfl (by decide) rfl (by decide) (by omega) (fun z39620 h39621 => ?_)
        have h39621 : z39620.toInt = v2_1.toInt + 1 := h39621
        refine g_goto C 2 dX12_forgetsMarks_17 (by decide) ?_
        refine g_lv (lv' := [(0, .ref a0), (1, .int z39620)]) [1, 0] rfl ?_
        exact ih2 Y39611 z39620 (by omega) Iy39612 Xz39616 W39615 (by omega)
  refine g_iconst (v := 0) C dX12_forgetsMarks_0 (by decide) ?_
  refine g_istore_n (lv' := [(1, .int 0), (0, .ref a0)]) C dX12_forgetsMarks_1 rfl (by decide) rfl ?_
  refine g_lv (lv' := [(0, .ref a0), (1, .int 0)]) [1, 0] rfl ?_
  exact J2 _ P 0 (Nat.lt_succ_self _) I EM.rf hW (by decide)
theorem dX12_book_140 : decode cX12_book 140 = .ok (.iconst 1, 1) := by decide +kernel
theorem dX12_book_141 : decode cX12_book 141 = .ok (.ireturn, 1) := by decide +kernel
set_option maxHeartbeats 4000000 in
set_option maxRecDepth 100000 in
theorem s_X12_book {P : PP} {a0 : Nat} {a1 : Int32} {a2 : Int32} (I : IM P a0) (hW : MW P a0) : CtrI yX12_book cX12_book 5 (some Jvm.ClassFile.FieldType.boolean) ({ frames := 3, cells := 0, slots := 0, locals := 192 } : Room) 0 0 P [.ref a0, .int a1, .int a2] (fun r P2 => IM P2 a0 ∧ EM [0, 10, 11, 12, 13, 14, 15, 17, 20, 21, 22, 23, 24, 25, 26] a0 P P2 ∧ MW P2 a0 ∧ (0 ≤ r.toInt ∧ r.toInt ≤ 1) ∧ (r.toInt = 0 ∨ (((0 : Int) ≤ a1.toInt ∧ a1.toInt ≤ (1 : Int))))) := by
  refine enI (lv := [(0, .ref a0), (1, .int a1), (2, .int a2)]) (by decide) (Nat.le_of_ble_eq_true rfl) rfl (fun E D cy C Ci0 ret => ?_)
  have ha0 := I.2.1
  have J66 : ∀ (n66 : Nat) (P66 : PP) (v66_3 : Int32), (4 - v66_3.toInt).toNat < n66 → (IM P66 a0) → (EM [0, 10, 11, 12, 13, 14, 15, 17, 20, 21, 22, 23, 24, 25, 26] a0 P P66) → (MW P66 a0) → (0 ≤ a1.toInt ∧ a1.toInt ≤ 1) → (0 ≤ v66_3.toInt ∧ v66_3.toInt ≤ 4) → (0 ≤ (pI P66 a0 0).toInt ∧ (pI P66 a0 0).toInt ≤ 0) → (∀ b, pR P66 a0 10 = some b → 1 ≤ (pI P66 b (a1.toInt.toNat)).toInt ∧ (pI P66 b (a1.toInt.toNat)).toInt ≤ 16) → G E ({ frames := 3, cells := 0, slots := 0, locals := 192 } : Room) D cy 5 P66 0 0 66 [(0, .ref a0), (1, .int a1), (3, .int v66_3)] [] := by
    intro n66
    induction n66 with
    | zero => intro P66 v66_3 hm66 I66 X66 W66 hv66_1 hv66_3 hq66_0 hq66_1; omega
    | succ n66 ih66 =>
      intro P66 v66_3 hm66 I66 X66 W66 hv66_1 hv66_3 hq66_0 hq66_1
      have h40273 := X66.at ha0
      obtain ⟨b40274, e40275, h40276⟩ := I66.fld (h40273) 10 13 2 rfl
      have hq66_1 := hq66_1 b40274 e40275
      have J81 : ∀ (n81 : Nat) (P81 : PP) (v81_4 : Int32), (v81_4.toInt - (-1)).toNat < n81 → (IM P81 a0) → (EM [0, 10, 11, 12, 13, 14, 15, 17, 20, 21, 22, 23, 24, 25, 26] a0 P P81) → (MW P81 a0) → (0 ≤ a1.toInt ∧ a1.toInt ≤ 1) → (0 ≤ v66_3.toInt ∧ v66_3.toInt ≤ 3) → (-1 ≤ v81_4.toInt ∧ v81_4.toInt ≤ 39) → (0 ≤ (pI P81 a0 0).toInt ∧ (pI P81 a0 0).toInt ≤ 0) → (∀ b, pR P81 a0 10 = some b → 1 ≤ (pI P81 b (a1.toInt.toNat)).toInt ∧ (pI P81 b (a1.toInt.toNat)).toInt ≤ 16) → (∀ b920, pR P81 a0 20 = some b920 → v81_4.toInt < (pI P81 b920 (v66_3.toInt.toNat)).toInt) → G E ({ frames := 3, cells := 0, slots := 0, locals := 192 } : Room) D cy 5 P81 0 0 81 [(0, .ref a0), (1, .int a1), (3, .int v66_3), (4, .int v81_4)] [] := by
        intro n81
        induction n81 with
        | zero => intro P81 v81_4 hm81 I81 X81 W81 hv81_1 hv81_3 hv81_4 hq81_0 hq81_1 rel81_0; omega
        | succ n81 ih81 =>
          intro P81 v81_4 hm81 I81 X81 W81 hv81_1 hv81_3 hv81_4 hq81_0 hq81_1 rel81_0
          have h40277 := X81.at ha0
          obtain ⟨b40278, e40279, h40280⟩ := I81.fld (h40277) 10 13 2 rfl
          have hq81_1 := hq81_1 b40278 e40279
          obtain ⟨b40281, e40282, h40283⟩ := I81.fld (h40277) 20 13 20 rfl
          have rel81_0 := rel81_0 b40281 e40282
          have h40284 := I81.arr e40282 rfl (v66_3.toInt.toNat)
          have J124 : ∀ (P124 : PP), (IM P124 a0) → (EM [0, 10, 11, 12, 13, 14, 15, 17, 20, 21, 22, 23, 24, 25, 26] a0 P P124) → (MW P124 a0) → (0 ≤ a1.toInt ∧ a1.toInt ≤ 1) → (0 ≤ v66_3.toInt ∧ v66_3.toInt ≤ 3) → (0 ≤ v81_4.toInt ∧ v81_4.toInt ≤ 39) → (0 ≤ (pI P124 a0 0).toInt ∧ (pI P124 a0 0).toInt ≤ 0) → (∀ b, pR P124 a0 10 = some b → 1 ≤ (pI P124 b (a1.toInt.toNat)).toInt ∧ (pI P124 b (a1.toInt.toNat)).toInt ≤ 16) → (∀ b920, pR P124 a0 20 = some b920 → v81_4.toInt ≤ (pI P124 b920 (v66_3.toInt.toNat)).toInt) → G E ({ frames := 3, cells := 0, slots := 0, locals := 192 } : Room) D cy 5 P124 0 0 124 [(0, .ref a0), (1, .int a1), (3, .int v66_3), (4, .int v81_4)] [] := by
            intro P124 I124 X124 W124 hv124_1 hv124_3 hv124_4 hq124_0 hq124_1 rel124_0
            have h40285 := X124.at ha0
            obtain ⟨b40286, e40287, h40288⟩ := I124.fld (h40285) 10 13 2 rfl
            have hq124_1 := hq124_1 b40286 e40287
            obtain ⟨b40289, e40290, h40291⟩ := I124.fld (h40285) 20 13 20 rfl
            have rel124_0 := rel124_0 b40289 e40290
            have h40292 := I124.arr e40290 rfl (v66_3.toInt.toNat)
            refine s_iinc (lv0 := [(0, .ref a0), (1, .int a1), (3, .int v66_3)]) (m := -1) C dX12_book_124 3 rfl (by decide) rfl (by decide) (by omega) (fun z40293 h40294 => ?_)
            have h40294 : z40293.toInt = v81_4.toInt + (-1) := h40294
            refine g_goto C 81 dX12_book_127 (by decide) ?_
            refine g_lv (lv' := [(0, .ref a0), (1, .int a1), (3, .int v66_3), (4, .int z40293)]) [1, 2, 3, 0] rfl ?_
            exact ih81 P124 z40293 (by omega) I124 X124 W124 (by omega) (by omega) (by omega) (by omega) (fun b9 e9 => by rw [e40287] at e9; cases e9; omega) (by intro b920 e920; rw [e40290] at e920; cases e920; show z40293.toInt < (pI P124 b40289 (v66_3.toInt.toNat)).toInt; omega)
          have J117 : (0 ≤ a1.toInt ∧ a1.toInt ≤ 1) → (0 ≤ v66_3.toInt ∧ v66_3.toInt ≤ 3) → (0 ≤ v81_4.toInt ∧ v81_4.toInt ≤ 39) → (0 ≤ (pI P81 a0 0).toInt ∧ (pI P81 a0 0).toInt ≤ 0) → (∀ b, pR P81 a0 10 = some b → 1 ≤ (pI P81 b (a1.toInt.toNat)).toInt ∧ (pI P81 b (a1.toInt.toNat)).toInt ≤ 16) → (∀ b920, pR P81 a0 20 = some b920 → v81_4.toInt < (pI P81 b920 (v66_3.toInt.toNat)).toInt) → G E ({ frames := 3, cells := 0, slots := 0, locals := 192 } : Room) D cy 5 P81 0 0 117 [(0, .ref a0), (1, .int a1), (3, .int v66_3), (4, .int v81_4)] [] := by
            intro hv117_1 hv117_3 hv117_4 hq117_0 hq117_1 rel117_0
            have h40295 := X81.at ha0
            obtain ⟨b40296, e40297, h40298⟩ := I81.fld (h40295) 10 13 2 rfl
            have hq117_1 := hq117_1 b40296 e40297
            obtain ⟨b40299, e40300, h40301⟩ := I81.fld (h40295) 20 13 20 rfl
            have rel117_0 := rel117_0 b40299 e40300
            have h40302 := I81.arr e40300 rfl (v66_3.toInt.toNat)
            refine g_aload_n C dX12_book_117 rfl 0 rfl ?_
            refine g_iload_n C dX12_book_118 rfl 2 rfl ?_
            refine g_iload C dX12_book_119 3 rfl ?_
            refine g_callVV (rest := []) C mv_X12_185 [.int v66_3, .int v81_4] (s_X12_takesOut I81 (by omega) (by omega) (fun b9 e9 => by rw [e40300] at e9; cases e9; show 1 ≤ (pI P81 b40299 (v66_3.toInt.toNat)).toInt ∧ (pI P81 b40299 (v66_3.toInt.toNat)).toInt ≤ 40; omega) W81) (h40295).1 (h40295).2 rfl rfl (by decide) (Nat.le_of_ble_eq_true rfl) (by decide) dX12_book_121 (fun Y40304 h40305 => ?_)
            obtain ⟨Iy40306, Xy40307, W40308, p40309⟩ := h40305
            have p40309 := p40309 b40299 e40300
            have p40309 : (pI Y40304 b40299 (v66_3.toInt.toNat)).toInt = (pI P81 b40299 (v66_3.toInt.toNat)).toInt - 1 := p40309
            have q40310 := Xy40307.keepF 0 (by decide)
            have q40311 := Xy40307.keepA e40297 (by decide) rfl (a1.toInt.toNat)
            have Xz40312 : EM [0, 10, 11, 12, 13, 14, 15, 17, 20, 21, 22, 23, 24, 25, 26] a0 P Y40304 := EM.tr ha0 X81 (Xy40307.mono (by decide))
            have e40313 := Xy40307.ref h40295 (by decide) e40297
            have e40314 := Xy40307.ref h40295 (by decide) e40300
            have h40315 := Xy40307.at h40295
            have h40316 := Xy40307.ar h40298
            have h40317 := Xy40307.ar h40301
            exact J124 Y40304 Iy40306 Xz40312 W40308 (by omega) (by omega) (by omega) (by omega) (fun b9 e9 => by rw [e40313] at e9; cases e9; omega) (by intro b920 e920; rw [e40314] at e920; cases e920; show v81_4.toInt ≤ (pI Y40304 b40299 (v66_3.toInt.toNat)).toInt; omega)
          refine g_iload C dX12_book_81 3 rfl ?_
          refine b_if_lt C 130 dX12_book_83 (by decide) (fun h40318 => ?_) (fun h40318 => ?_)
          · have h40318 : v81_4.toInt < 0 := h40318
            refine s_iinc (lv0 := [(0, .ref a0), (1, .int a1), (4, .int v81_4)]) (m := 1) C dX12_book_130 2 rfl (by decide) rfl (by decide) (by omega) (fun z40319 h40320 => ?_)
            have h40320 : z40319.toInt = v66_3.toInt + 1 := h40320
            refine g_goto C 66 dX12_book_133 (by decide) ?_
            refine g_lv (lv' := [(0, .ref a0), (1, .int a1), (3, .int z40319)]) [1, 2, 0] rfl ?_
            exact ih66 P81 z40319 (by omega) I81 X81 W81 (by omega) (by omega) (by omega) (fun b9 e9 => by rw [e40279] at e9; cases e9; omega)
          · have h40318 : 0 ≤ v81_4.toInt := h40318
            refine g_aload_n C dX12_book_86 rfl 0 rfl ?_
            obtain ⟨b40321, e40322, h40323⟩ := I81.fld (h40277) 22 13 800 rfl
            refine g_getR C fi_X12_75 rfl e40322 (h40277).1 (h40277).2 dX12_book_87 ?_
            refine g_bipush (v := 40) C dX12_book_90 (by decide) ?_
            refine g_iload_n C dX12_book_92 rfl 2 rfl ?_
            refine s_imul C dX12_book_93 (by show -2147483648 ≤ 40 * v66_3.toInt ∧ 40 * v66_3.toInt ≤ 2147483647; omega) (fun z40324 h40325 => ?_)
            have h40325 : z40324.toInt = 40 * v66_3.toInt := h40325
            refine g_iload C dX12_book_94 3 rfl ?_
            refine s_iadd C dX12_book_96 (by show -2147483648 ≤ z40324.toInt + v81_4.toInt ∧ z40324.toInt + v81_4.toInt ≤ 2147483647; omega) (fun z40326 h40327 => ?_)
            have h40327 : z40326.toInt = z40324.toInt + v81_4.toInt := h40327
            refine g_iald (j := (z40326.toInt.toNat)) C h40323.1 h40323.2.1 (ix_in h40323.2.2 (by omega)) dX12_book_97 ?_
            have h40328 := I81.arr e40322 rfl (z40326.toInt.toNat)
            refine g_iload_n C dX12_book_98 rfl 1 rfl ?_
            refine b_icmp_eq C 117 dX12_book_99 (by decide) (fun h40329 => ?_) (fun h40329 => ?_)
            · have h40329 : (pI P81 b40321 (z40326.toInt.toNat)).toInt = a1.toInt := congrArg Int32.toInt h40329
              exact J117 (by omega) (by omega) (by omega) (by omega) (fun b9 e9 => by rw [e40279] at e9; cases e9; omega) (by intro b920 e920; rw [e40282] at e920; cases e920; show v81_4.toInt < (pI P81 b40281 (v66_3.toInt.toNat)).toInt; omega)
            · have h40329 : (pI P81 b40321 (z40326.toInt.toNat)).toInt ≠ a1.toInt := ti_ne h40329
              refine g_aload_n C dX12_book_102 rfl 0 rfl ?_
              refine g_getR C fi_X12_75 rfl e40322 (h40277).1 (h40277).2 dX12_book_103 ?_
              refine g_bipush (v := 40) C dX12_book_106 (by decide) ?_
              refine g_iload_n C dX12_book_108 rfl 2 rfl ?_
              refine s_imul C dX12_book_109 (by show -2147483648 ≤ 40 * v66_3.toInt ∧ 40 * v66_3.toInt ≤ 2147483647; omega) (fun z40330 h40331 => ?_)
              have h40331 : z40330.toInt = 40 * v66_3.toInt := h40331
              refine g_iload C dX12_book_110 3 rfl ?_
              refine s_iadd C dX12_book_112 (by show -2147483648 ≤ z40330.toInt + v81_4.toInt ∧ z40330.toInt + v81_4.toInt ≤ 2147483647; omega) (fun z40332 h40333 => ?_)
              have h40333 : z40332.toInt = z40330.toInt + v81_4.toInt := h40333
              refine g_iald (j := (z40332.toInt.toNat)) C h40323.1 h40323.2.1 (ix_in h40323.2.2 (by omega)) dX12_book_113 ?_
              have h40334 := I81.arr e40322 rfl (z40332.toInt.toNat)
              refine b_if_ge C 124 dX12_book_114 (by decide) (fun h40335 => ?_) (fun h40335 => ?_)
              · have h40335 : 0 ≤ (pI P81 b40321 (z40332.toInt.toNat)).toInt := h40335
                exact J124 P81 I81 X81 W81 (by omega) (by omega) (by omega) (by omega) (fun b9 e9 => by rw [e40279] at e9; cases e9; omega) (by intro b920 e920; rw [e40282] at e920; cases e920; show v81_4.toInt ≤ (pI P81 b40281 (v66_3.toInt.toNat)).toInt; omega)
              · have h40335 : (pI P81 b40321 (z40332.toInt.toNat)).toInt < 0 := h40335
                exact J117 (by omega) (by omega) (by omega) (by omega) (fun b9 e9 => by rw [e40279] at e9; cases e9; omega) (by intro b920 e920; rw [e40282] at e920; cases e920; show v81_4.toInt < (pI P81 b40281 (v66_3.toInt.toNat)).toInt; omega)
      refine g_iload_n C dX12_book_66 rfl 2 rfl ?_
      refine g_iconst (v := 4) C dX12_book_67 (by decide) ?_
      refine b_icmp_ge C 136 dX12_book_68 (by decide) (fun h40336 => ?_) (fun h40336 => ?_)
      · have h40336 : 4 ≤ v66_3.toInt := h40336
        refine g_aload_n C dX12_book_136 rfl 0 rfl ?_
        refine g_callVV (rest := []) C mv_X12_189 [] (s_X12_forgetsMarks I66 W66) (h40273).1 (h40273).2 rfl rfl (by decide) (Nat.le_of_ble_eq_true rfl) (by decide) dX12_book_137 (fun Y40338 h40339 => ?_)
        obtain ⟨Iy40340, Xy40341, W40342⟩ := h40339
        have q40343 := Xy40341.keepF 0 (by decide)
        have q40344 := Xy40341.keepA e40275 (by decide) rfl (a1.toInt.toNat)
        have Xz40345 : EM [0, 10, 11, 12, 13, 14, 15, 17, 20, 21, 22, 23, 24, 25, 26] a0 P Y40338 := EM.tr ha0 X66 (Xy40341.mono (by decide))
        have e40346 := Xy40341.ref h40273 (by decide) e40275
        have h40347 := Xy40341.at h40273
        have h40348 := Xy40341.ar h40276
        refine g_iconst (v := 1) C dX12_book_140 (by decide) ?_
        exact ret _ _ _ _ _ _ dX12_book_141 rfl (by decide) (by decide) ⟨Iy40340, Xz40345, W40342, (by decide), Or.inr (by omega)⟩
      · have h40336 : v66_3.toInt < 4 := h40336
        refine g_aload_n C dX12_book_71 rfl 0 rfl ?_
        obtain ⟨b40349, e40350, h40351⟩ := I66.fld (h40273) 20 13 20 rfl
        refine g_getR C fi_X12_69 rfl e40350 (h40273).1 (h40273).2 dX12_book_72 ?_
        refine g_iload_n C dX12_book_75 rfl 2 rfl ?_
        refine g_iald (j := (v66_3.toInt.toNat)) C h40351.1 h40351.2.1 (ix_in h40351.2.2 (by omega)) dX12_book_76 ?_
        have h40352 := I66.arr e40350 rfl (v66_3.toInt.toNat)
        refine g_iconst (v := 1) C dX12_book_77 (by decide) ?_
        refine s_isub C dX12_book_78 (by show -2147483648 ≤ (pI P66 b40349 (v66_3.toInt.toNat)).toInt - 1 ∧ (pI P66 b40349 (v66_3.toInt.toNat)).toInt - 1 ≤ 2147483647; omega) (fun z40353 h40354 => ?_)
        have h40354 : z40353.toInt = (pI P66 b40349 (v66_3.toInt.toNat)).toInt - 1 := h40354
        refine g_istore (lv' := [(4, .int z40353), (0, .ref a0), (1, .int a1), (3, .int v66_3)]) C dX12_book_79 (by decide) rfl ?_
        refine g_lv (lv' := [(0, .ref a0), (1, .int a1), (3, .int v66_3), (4, .int z40353)]) [1, 2, 3, 0] rfl ?_
        exact J81 _ P66 z40353 (Nat.lt_succ_self _) I66 X66 W66 (by omega) (by omega) (by omega) (by omega) (fun b9 e9 => by rw [e40275] at e9; cases e9; omega) (by intro b920 e920; rw [e40350] at e920; cases e920; show z40353.toInt < (pI P66 b40349 (v66_3.toInt.toNat)).toInt; omega)
  have J35 : ∀ (n35 : Nat) (P35 : PP) (v35_3 : Int32), (16 - v35_3.toInt).toNat < n35 → (IM P35 a0) → (EM [0, 10, 11, 12, 13, 14, 15, 17, 20, 21, 22, 23, 24, 25, 26] a0 P P35) → (MX P35 a0 (a1.toInt.toNat)) → (0 ≤ a1.toInt ∧ a1.toInt ≤ 1) → (0 ≤ v35_3.toInt ∧ v35_3.toInt ≤ 16) → (0 ≤ (pI P35 a0 0).toInt ∧ (pI P35 a0 0).toInt ≤ 0) → (∀ b, pR P35 a0 10 = some b → 1 ≤ (pI P35 b (a1.toInt.toNat)).toInt ∧ (pI P35 b (a1.toInt.toNat)).toInt ≤ 16) → G E ({ frames := 3, cells := 0, slots := 0, locals := 192 } : Room) D cy 5 P35 0 0 35 [(0, .ref a0), (1, .int a1), (3, .int v35_3)] [] := by
    intro n35
    induction n35 with
    | zero => intro P35 v35_3 hm35 I35 X35 W35 hv35_1 hv35_3 hq35_0 hq35_1; omega
    | succ n35 ih35 =>
      intro P35 v35_3 hm35 I35 X35 W35 hv35_1 hv35_3 hq35_0 hq35_1
      have h40355 := X35.at ha0
      obtain ⟨b40356, e40357, h40358⟩ := I35.fld (h40355) 10 13 2 rfl
      have hq35_1 := hq35_1 b40356 e40357
      refine g_iload_n C dX12_book_35 rfl 2 rfl ?_
      refine g_bipush (v := 16) C dX12_book_36 (by decide) ?_
      refine b_icmp_ge C 59 dX12_book_38 (by decide) (fun h40359 => ?_) (fun h40359 => ?_)
      · have h40359 : 16 ≤ v35_3.toInt := h40359
        refine g_aload_n C dX12_book_59 rfl 0 rfl ?_
        refine g_iload_n C dX12_book_60 rfl 1 rfl ?_
        refine g_callVV (rest := []) C mv_X12_182 [.int a1] (s_X12_forgetsDrawx I35 (by omega) W35) (h40355).1 (h40355).2 rfl rfl (by decide) (Nat.le_of_ble_eq_true rfl) (by decide) dX12_book_61 (fun Y40361 h40362 => ?_)
        obtain ⟨Iy40363, Xy40364, W40365, p40366⟩ := h40362
        obtain ⟨b40367, e40368, h40369⟩ := I35.fld (h40355) 14 13 3 rfl
        have p40366 := p40366 b40367 e40368
        have p40366 : (pI Y40361 b40367 (a1.toInt.toNat)).toInt = 1 := p40366
        have h40370 := I35.arr e40368 rfl (a1.toInt.toNat)
        have q40371 := Xy40364.keepF 0 (by decide)
        have q40372 := Xy40364.keepA e40357 (by decide) rfl (a1.toInt.toNat)
        have Xz40373 : EM [0, 10, 11, 12, 13, 14, 15, 17, 20, 21, 22, 23, 24, 25, 26] a0 P Y40361 := EM.tr ha0 X35 (Xy40364.mono (by decide))
        have e40374 := Xy40364.ref h40355 (by decide) e40357
        have e40375 := Xy40364.ref h40355 (by decide) e40368
        have h40376 := Xy40364.at h40355
        have h40377 := Xy40364.ar h40358
        have h40378 := Xy40364.ar h40369
        have W40379 := W40365.back (fun c9 f9 => by rw [e40375] at f9; cases f9; omega)
        refine g_iconst (v := 0) C dX12_book_64 (by decide) ?_
        refine g_istore_n (lv' := [(3, .int 0), (0, .ref a0), (1, .int a1)]) C dX12_book_65 rfl (by decide) rfl ?_
        refine g_lv (lv' := [(0, .ref a0), (1, .int a1), (3, .int 0)]) [1, 2, 0] rfl ?_
        exact J66 _ Y40361 0 (Nat.lt_succ_self _) Iy40363 Xz40373 W40379 (by omega) (by decide) (by omega) (fun b9 e9 => by rw [e40374] at e9; cases e9; omega)
      · have h40359 : v35_3.toInt < 16 := h40359
        refine g_aload_n C dX12_book_41 rfl 0 rfl ?_
        obtain ⟨b40380, e40381, h40382⟩ := I35.fld (h40355) 11 13 32 rfl
        refine g_getR C fi_X12_48 rfl e40381 (h40355).1 (h40355).2 dX12_book_42 ?_
        refine g_bipush (v := 16) C dX12_book_45 (by decide) ?_
        refine g_iload_n C dX12_book_47 rfl 1 rfl ?_
        refine s_imul C dX12_book_48 (by show -2147483648 ≤ 16 * a1.toInt ∧ 16 * a1.toInt ≤ 2147483647; omega) (fun z40383 h40384 => ?_)
        have h40384 : z40383.toInt = 16 * a1.toInt := h40384
        refine g_iload_n C dX12_book_49 rfl 2 rfl ?_
        refine s_iadd C dX12_book_50 (by show -2147483648 ≤ z40383.toInt + v35_3.toInt ∧ z40383.toInt + v35_3.toInt ≤ 2147483647; omega) (fun z40385 h40386 => ?_)
        have h40386 : z40385.toInt = z40383.toInt + v35_3.toInt := h40386
        refine g_iconst (v := 0) C dX12_book_51 (by decide) ?_
        refine g_iast (j := (z40385.toInt.toNat)) C h40382.1 h40382.2.1 (ix_in h40382.2.2 (by omega)) dX12_book_52 ?_
        refine gqW (ks := [11]) (I35.setA e40381 h40382 (by decide) (arOk.none rfl)) (EM.setA I35 e40381 rfl (by decide)) (fun Y40387 Iy40388 Xy40389 w40390  => ?_)
        have w40390 : (pI Y40387 b40380 (z40385.toInt.toNat)).toInt = 0 := w40390
        have q40391 := Xy40389.keepF 0 (by decide)
        have q40392 := Xy40389.keepA e40357 (by decide) rfl (a1.toInt.toNat)
        have W40393 := W35.keep I35 Xy40389 (by decide) (by decide) (by decide) (by decide)
        have Xz40394 : EM [0, 10, 11, 12, 13, 14, 15, 17, 20, 21, 22, 23, 24, 25, 26] a0 P Y40387 := EM.tr ha0 X35 (Xy40389.mono (by decide))
        have e40395 := Xy40389.ref h40355 (by decide) e40357
        have e40396 := Xy40389.ref h40355 (by decide) e40381
        have h40397 := Xy40389.at h40355
        have h40398 := Xy40389.ar h40358
        have h40399 := Xy40389.ar h40382
        refine s_iinc (lv0 := [(0, .ref a0), (1, .int a1)]) (m := 1) C dX12_book_53 2 rfl (by decide) rfl (by decide) (by omega) (fun z40400 h40401 => ?_)
        have h40401 : z40400.toInt = v35_3.toInt + 1 := h40401
        refine g_goto C 35 dX12_book_56 (by decide) ?_
        refine g_lv (lv' := [(0, .ref a0), (1, .int a1), (3, .int z40400)]) [1, 2, 0] rfl ?_
        exact ih35 Y40387 z40400 (by omega) Iy40388 Xz40394 W40393 (by omega) (by omega) (by omega) (fun b9 e9 => by rw [e40395] at e9; cases e9; omega)
  have J24 : ∀ (P24 : PP), (IM P24 a0) → (EM [0, 10, 11, 12, 13, 14, 15, 17, 20, 21, 22, 23, 24, 25, 26] a0 P P24) → (MW P24 a0) → (0 ≤ (pI P24 a0 0).toInt ∧ (pI P24 a0 0).toInt ≤ 0) → G E ({ frames := 3, cells := 0, slots := 0, locals := 192 } : Room) D cy 5 P24 0 0 24 [] [] := by
    intro P24 I24 X24 W24 hq24_0
    have h40402 := X24.at ha0
    refine g_iconst (v := 0) C dX12_book_24 (by decide) ?_
    exact ret _ _ _ _ _ _ dX12_book_25 rfl (by decide) (by decide) ⟨I24, X24, W24, (by decide), Or.inl rfl⟩
  refine g_aload_n C dX12_book_0 rfl 0 rfl ?_
  refine g_iconst (v := 0) C dX12_book_1 (by decide) ?_
  refine g_putI C fi_X12_1 rfl (ha0).1 (ha0).2 dX12_book_2 ?_
  refine gqW (ks := [0]) (I.setI (rgOk.of rfl (by decide))) (EM.setI I (by decide)) (fun Y40403 Iy40404 Xy40405 w40406  => ?_)
  have w40406 : (pI Y40403 a0 0).toInt = 0 := w40406
  have W40407 := hW.keep I Xy40405 (by decide) (by decide) (by decide) (by decide)
  have Xz40408 : EM [0, 10, 11, 12, 13, 14, 15, 17, 20, 21, 22, 23, 24, 25, 26] a0 P Y40403 := Xy40405.mono (by decide)
  have h40409 := Xy40405.at ha0
  refine g_iload_n C dX12_book_5 rfl 1 rfl ?_
  refine g_iconst (v := 0) C dX12_book_6 (by decide) ?_
  refine g_iconst (v := 1) C dX12_book_7 (by decide) ?_
  refine g_callSI (b := 0) (ci := 0) (rest := []) C ms_X12_178 [.int a1, .int 0, .int 1] (s_X12_within Iy40404.1) rfl rfl (by decide) (Nat.le_of_ble_eq_true rfl) (by decide) dX12_book_8 (fun r40410 Y40411 h40412 => ?_)
  obtain ⟨rfl, h40412⟩ := h40412
  obtain ⟨h40412, hi40413⟩ := h40412
  have hi40413 : r40410.toInt = 0 ∨ (0 ≤ a1.toInt ∧ a1.toInt ≤ 1) := hi40413
  have h40412 : 0 ≤ r40410.toInt ∧ r40410.toInt ≤ 1 := h40412
  refine b_if_eq C 24 dX12_book_11 (by decide) (fun h40414 => ?_) (fun h40414 => ?_)
  · have h40414 : r40410.toInt = 0 := congrArg Int32.toInt h40414
    clear hi40413
    refine g_lv (lv' := []) [] rfl ?_
    exact J24 Y40403 Iy40404 Xz40408 W40407 (by omega)
  · have h40414 : r40410.toInt ≠ 0 := ti_ne h40414
    replace hi40413 := hi40413.resolve_left (by omega)
    refine g_iload_n C dX12_book_14 rfl 2 rfl ?_
    refine g_iconst (v := 1) C dX12_book_15 (by decide) ?_
    refine g_bipush (v := 16) C dX12_book_16 (by decide) ?_
    refine g_callSI (b := 0) (ci := 0) (rest := []) C ms_X12_178 [.int a2, .int 1, .int 16] (s_X12_within Iy40404.1) rfl rfl (by decide) (Nat.le_of_ble_eq_true rfl) (by decide) dX12_book_18 (fun r40415 Y40416 h40417 => ?_)
    obtain ⟨rfl, h40417⟩ := h40417
    obtain ⟨h40417, hi40418⟩ := h40417
    have hi40418 : r40415.toInt = 0 ∨ (1 ≤ a2.toInt ∧ a2.toInt ≤ 16) := hi40418
    have h40417 : 0 ≤ r40415.toInt ∧ r40415.toInt ≤ 1 := h40417
    refine b_if_ne C 26 dX12_book_21 (by decide) (fun h40419 => ?_) (fun h40419 => ?_)
    · have h40419 : r40415.toInt ≠ 0 := ti_ne h40419
      replace hi40418 := hi40418.resolve_left (by omega)
      refine g_aload_n C dX12_book_26 rfl 0 rfl ?_
      obtain ⟨b40420, e40421, h40422⟩ := Iy40404.fld (h40409) 10 13 2 rfl
      refine g_getR C fi_X12_45 rfl e40421 (h40409).1 (h40409).2 dX12_book_27 ?_
      refine g_iload_n C dX12_book_30 rfl 1 rfl ?_
      refine g_iload_n C dX12_book_31 rfl 2 rfl ?_
      refine g_iast (j := (a1.toInt.toNat)) C h40422.1 h40422.2.1 (ix_in h40422.2.2 (by omega)) dX12_book_32 ?_
      refine gqX (ks := [10]) (W := (fun Y9 => MX Y9 a0 (a1.toInt.toNat))) (Iy40404.setA e40421 h40422 (by decide) (arOk.of rfl (by omega))) (EM.setA Iy40404 e40421 rfl (by decide)) (W40407.set10 Iy40404 e40421 (by omega)) (fun Y40423 Iy40424 Xy40425 w40426 W40427 => ?_)
      have w40426 : (pI Y40423 b40420 (a1.toInt.toNat)).toInt = a2.toInt := w40426
      have q40428 := Xy40425.keepF 0 (by decide)
      have Xz40429 : EM [0, 10, 11, 12, 13, 14, 15, 17, 20, 21, 22, 23, 24, 25, 26] a0 P Y40423 := EM.tr ha0 Xz40408 (Xy40425.mono (by decide))
      have e40430 := Xy40425.ref h40409 (by decide) e40421
      have h40431 := Xy40425.at h40409
      have h40432 := Xy40425.ar h40422
      refine g_iconst (v := 0) C dX12_book_33 (by decide) ?_
      refine g_istore_n (lv' := [(3, .int 0), (0, .ref a0), (1, .int a1), (2, .int a2)]) C dX12_book_34 rfl (by decide) rfl ?_
      refine g_lv (lv' := [(0, .ref a0), (1, .int a1), (3, .int 0)]) [1, 2, 0] rfl ?_
      exact J35 _ Y40423 0 (Nat.lt_succ_self _) Iy40424 Xz40429 W40427 (by omega) (by decide) (by omega) (fun b9 e9 => by rw [e40430] at e9; cases e9; omega)
    · have h40419 : r40415.toInt = 0 := congrArg Int32.toInt h40419
      clear hi40418
      refine g_lv (lv' := []) [] rfl ?_
      exact J24 Y40403 Iy40404 Xz40408 W40407 (by omega)
theorem dX12_chances_0 : decode cX12_chances 0 = .ok (.aload_n 0, 1) := by decide +kernel
theorem dX12_chances_1 : decode cX12_chances 1 = .ok (.iconst 0, 1) := by decide +kernel
theorem dX12_chances_2 : decode cX12_chances 2 = .ok (.putfield 1, 3) := by decide +kernel
theorem dX12_chances_5 : decode cX12_chances 5 = .ok (.aload_n 0, 1) := by decide +kernel
theorem dX12_chances_6 : decode cX12_chances 6 = .ok (.iload_n 1, 1) := by decide +kernel
theorem dX12_chances_7 : decode cX12_chances 7 = .ok (.iload_n 2, 1) := by decide +kernel
theorem dX12_chances_8 : decode cX12_chances 8 = .ok (.iload 4, 2) := by decide +kernel
theorem dX12_chances_10 : decode cX12_chances 10 = .ok (.invokevirtual 377, 3) := by decide +kernel
theorem dX12_chances_13 : decode cX12_chances 13 = .ok (.ifCond .eq 12, 3) := by decide +kernel
theorem dX12_chances_16 : decode cX12_chances 16 = .ok (.iload_n 3, 1) := by decide +kernel
theorem dX12_chances_17 : decode cX12_chances 17 = .ok (.iconst 0, 1) := by decide +kernel
theorem dX12_chances_18 : decode cX12_chances 18 = .ok (.iload_n 2, 1) := by decide +kernel
theorem dX12_chances_19 : decode cX12_chances 19 = .ok (.invokestatic 178, 3) := by decide +kernel
theorem dX12_chances_22 : decode cX12_chances 22 = .ok (.ifCond .ne 5, 3) := by decide +kernel
theorem dX12_chances_25 : decode cX12_chances 25 = .ok (.iconst (-1), 1) := by decide +kernel
theorem dX12_chances_26 : decode cX12_chances 26 = .ok (.ireturn, 1) := by decide +kernel
theorem dX12_chances_27 : decode cX12_chances 27 = .ok (.aload_n 0, 1) := by decide +kernel
theorem dX12_chances_28 : decode cX12_chances 28 = .ok (.iload_n 1, 1) := by decide +kernel
theorem dX12_chances_29 : decode cX12_chances 29 = .ok (.iload_n 2, 1) := by decide +kernel
theorem dX12_chances_30 : decode cX12_chances 30 = .ok (.invokevirtual 380, 3) := by decide +kernel
theorem dX12_chances_33 : decode cX12_chances 33 = .ok (.aload_n 0, 1) := by decide +kernel
theorem dX12_chances_34 : decode cX12_chances 34 = .ok (.iload_n 1, 1) := by decide +kernel
theorem dX12_chances_35 : decode cX12_chances 35 = .ok (.iload_n 2, 1) := by decide +kernel
theorem dX12_chances_36 : decode cX12_chances 36 = .ok (.iload_n 3, 1) := by decide +kernel
theorem dX12_chances_37 : decode cX12_chances 37 = .ok (.iload 4, 2) := by decide +kernel
theorem dX12_chances_39 : decode cX12_chances 39 = .ok (.invokevirtual 383, 3) := by decide +kernel
theorem dX12_chances_42 : decode cX12_chances 42 = .ok (.ireturn, 1) := by decide +kernel
set_option maxHeartbeats 4000000 in
set_option maxRecDepth 100000 in
theorem s_X12_chances {P : PP} {a0 : Nat} {a1 : Int32} {a2 : Int32} {a3 : Int32} {a4 : Int32} (I : IM P a0) (hW : MW P a0) : CtrI yX12_chances cX12_chances 5 (some Jvm.ClassFile.FieldType.int) ({ frames := 5, cells := 0, slots := 0, locals := 320 } : Room) 0 0 P [.ref a0, .int a1, .int a2, .int a3, .int a4] (fun r P2 => IM P2 a0 ∧ EM [0, 28, 29, 30, 31, 33, 34, 35, 36, 37, 38, 43] a0 P P2 ∧ MW P2 a0 ∧ (True)) := by
  refine enI (lv := [(0, .ref a0), (1, .int a1), (2, .int a2), (3, .int a3), (4, .int a4)]) (by decide) (Nat.le_of_ble_eq_true rfl) rfl (fun E D cy C Ci0 ret => ?_)
  have ha0 := I.2.1
  have J25 : ∀ (P25 : PP), (IM P25 a0) → (EM [0, 28, 29, 30, 31, 33, 34, 35, 36, 37, 38, 43] a0 P P25) → (MW P25 a0) → (0 ≤ (pI P25 a0 0).toInt ∧ (pI P25 a0 0).toInt ≤ 0) → G E ({ frames := 5, cells := 0, slots := 0, locals := 320 } : Room) D cy 5 P25 0 0 25 [] [] := by
    intro P25 I25 X25 W25 hq25_0
    have h40480 := X25.at ha0
    refine g_iconst (v := (-1)) C dX12_chances_25 (by decide) ?_
    exact ret _ _ _ _ _ _ dX12_chances_26 rfl (by decide) (by decide) ⟨I25, X25, W25, trivial⟩
  refine g_aload_n C dX12_chances_0 rfl 0 rfl ?_
  refine g_iconst (v := 0) C dX12_chances_1 (by decide) ?_
  refine g_putI C fi_X12_1 rfl (ha0).1 (ha0).2 dX12_chances_2 ?_
  refine gqW (ks := [0]) (I.setI (rgOk.of rfl (by decide))) (EM.setI I (by decide)) (fun Y40481 Iy40482 Xy40483 w40484  => ?_)
  have w40484 : (pI Y40481 a0 0).toInt = 0 := w40484
  have W40485 := hW.keep I Xy40483 (by decide) (by decide) (by decide) (by decide)
  have Xz40486 : EM [0, 28, 29, 30, 31, 33, 34, 35, 36, 37, 38, 43] a0 P Y40481 := Xy40483.mono (by decide)
  have h40487 := Xy40483.at ha0
  refine g_aload_n C dX12_chances_5 rfl 0 rfl ?_
  refine g_iload_n C dX12_chances_6 rfl 1 rfl ?_
  refine g_iload_n C dX12_chances_7 rfl 2 rfl ?_
  refine g_iload C dX12_chances_8 4 rfl ?_
  refine g_callVI (rest := []) C mv_X12_377 [.int a1, .int a2, .int a4] (s_X12_areChances Iy40482 W40485) (h40487).1 (h40487).2 rfl rfl (by decide) (Nat.le_of_ble_eq_true rfl) (by decide) dX12_chances_10 (fun r40488 Y40489 h40490 => ?_)
  obtain ⟨rfl, h40490⟩ := h40490
  obtain ⟨h40490, hi40491, hi40492⟩ := h40490
  have hi40491 : r40488.toInt = 0 ∨ (((0 : Int) ≤ a1.toInt ∧ a1.toInt ≤ (1 : Int)) ∧ ((1 : Int) ≤ a2.toInt ∧ a2.toInt ≤ (11 : Int)) ∧ ((0 : Int) ≤ a4.toInt ∧ a4.toInt ≤ (1 : Int))) := hi40491
  have h40490 : 0 ≤ r40488.toInt ∧ r40488.toInt ≤ 1 := h40490
  refine b_if_eq C 25 dX12_chances_13 (by decide) (fun h40493 => ?_) (fun h40493 => ?_)
  · have h40493 : r40488.toInt = 0 := congrArg Int32.toInt h40493
    clear hi40491
    refine g_lv (lv' := []) [] rfl ?_
    exact J25 Y40481 Iy40482 Xz40486 W40485 (by omega)
  · have h40493 : r40488.toInt ≠ 0 := ti_ne h40493
    replace hi40491 := hi40491.resolve_left (by omega)
    obtain ⟨b40494, e40495, h40496⟩ := Iy40482.fld (h40487) 10 13 2 rfl
    have hi40492 := (hi40492.resolve_left (by omega)) b40494 e40495
    have hi40492 : 0 < (pI Y40481 b40494 (a1.toInt.toNat)).toInt := hi40492
    have h40497 := Iy40482.arr e40495 rfl (a1.toInt.toNat)
    refine g_iload_n C dX12_chances_16 rfl 3 rfl ?_
    refine g_iconst (v := 0) C dX12_chances_17 (by decide) ?_
    refine g_iload_n C dX12_chances_18 rfl 2 rfl ?_
    refine g_callSI (b := 0) (ci := 0) (rest := []) C ms_X12_178 [.int a3, .int 0, .int a2] (s_X12_within Iy40482.1) rfl rfl (by decide) (Nat.le_of_ble_eq_true rfl) (by decide) dX12_chances_19 (fun r40498 Y40499 h40500 => ?_)
    obtain ⟨rfl, h40500⟩ := h40500
    obtain ⟨h40500, hi40501⟩ := h40500
    have hi40501 : r40498.toInt = 0 ∨ (0 ≤ a3.toInt ∧ a3.toInt ≤ a2.toInt) := hi40501
    have h40500 : 0 ≤ r40498.toInt ∧ r40498.toInt ≤ 1 := h40500
    refine b_if_ne C 27 dX12_chances_22 (by decide) (fun h40502 => ?_) (fun h40502 => ?_)
    · have h40502 : r40498.toInt ≠ 0 := ti_ne h40502
      replace hi40501 := hi40501.resolve_left (by omega)
      refine g_aload_n C dX12_chances_27 rfl 0 rfl ?_
      refine g_iload_n C dX12_chances_28 rfl 1 rfl ?_
      refine g_iload_n C dX12_chances_29 rfl 2 rfl ?_
      refine g_callVV (rest := []) C mv_X12_380 [.int a1, .int a2] (s_X12_keepsSets Iy40482 (by omega) (by omega) (fun b9 e9 => by rw [e40495] at e9; cases e9; show 1 ≤ (pI Y40481 b40494 (a1.toInt.toNat)).toInt ∧ (pI Y40481 b40494 (a1.toInt.toNat)).toInt ≤ 16; omega) W40485) (h40487).1 (h40487).2 rfl rfl (by decide) (Nat.le_of_ble_eq_true rfl) (by decide) dX12_chances_30 (fun Y40504 h40505 => ?_)
      obtain ⟨Iy40506, Xy40507, W40508⟩ := h40505
      have q40509 := Xy40507.keepF 0 (by decide)
      have q40510 := Xy40507.keepA e40495 (by decide) rfl (a1.toInt.toNat)
      have Xz40511 : EM [0, 28, 29, 30, 31, 33, 34, 35, 36, 37, 38, 43] a0 P Y40504 := EM.tr ha0 Xz40486 (Xy40507.mono (by decide))
      have e40512 := Xy40507.ref h40487 (by decide) e40495
      have h40513 := Xy40507.at h40487
      have h40514 := Xy40507.ar h40496
      refine g_aload_n C dX12_chances_33 rfl 0 rfl ?_
      refine g_iload_n C dX12_chances_34 rfl 1 rfl ?_
      refine g_iload_n C dX12_chances_35 rfl 2 rfl ?_
      refine g_iload_n C dX12_chances_36 rfl 3 rfl ?_
      refine g_iload C dX12_chances_37 4 rfl ?_
      refine g_callVI (rest := []) C mv_X12_383 [.int a1, .int a2, .int a3, .int a4] (s_X12_chancesOf Iy40506 (by omega) (by omega) (fun b9 e9 => by rw [e40512] at e9; cases e9; show 1 ≤ (pI Y40504 b40494 (a1.toInt.toNat)).toInt ∧ (pI Y40504 b40494 (a1.toInt.toNat)).toInt ≤ 16; omega) W40508) (h40513).1 (h40513).2 rfl rfl (by decide) (Nat.le_of_ble_eq_true rfl) (by decide) dX12_chances_39 (fun r40515 Y40516 h40517 => ?_)
      obtain ⟨Iy40518, Xy40519, W40520, h40517⟩ := h40517
      have q40521 := Xy40519.keepF 0 (by decide)
      have q40522 := Xy40519.keepA e40512 (by decide) rfl (a1.toInt.toNat)
      have Xz40523 : EM [0, 28, 29, 30, 31, 33, 34, 35, 36, 37, 38, 43] a0 P Y40516 := EM.tr ha0 Xz40511 (Xy40519.mono (by decide))
      have e40524 := Xy40519.ref h40513 (by decide) e40512
      have h40525 := Xy40519.at h40513
      have h40526 := Xy40519.ar h40514
      have h40517 : True := h40517
      exact ret _ _ _ _ _ _ dX12_chances_42 rfl (by decide) (by decide) ⟨Iy40518, Xz40523, W40520, trivial⟩
    · have h40502 : r40498.toInt = 0 := congrArg Int32.toInt h40502
      clear hi40501
      refine g_lv (lv' := []) [] rfl ?_
      exact J25 Y40481 Iy40482 Xz40486 W40485 (by omega)
theorem dX12_comes_0 : decode cX12_comes 0 = .ok (.aload_n 0, 1) := by decide +kernel
theorem dX12_comes_1 : decode cX12_comes 1 = .ok (.iconst 0, 1) := by decide +kernel
theorem dX12_comes_2 : decode cX12_comes 2 = .ok (.putfield 1, 3) := by decide +kernel
theorem dX12_comes_5 : decode cX12_comes 5 = .ok (.iload_n 1, 1) := by decide +kernel
theorem dX12_comes_6 : decode cX12_comes 6 = .ok (.invokestatic 278, 3) := by decide +kernel
theorem dX12_comes_9 : decode cX12_comes 9 = .ok (.ifCond .eq 39, 3) := by decide +kernel
theorem dX12_comes_12 : decode cX12_comes 12 = .ok (.aload_n 0, 1) := by decide +kernel
theorem dX12_comes_13 : decode cX12_comes 13 = .ok (.iload_n 2, 1) := by decide +kernel
theorem dX12_comes_14 : decode cX12_comes 14 = .ok (.invokevirtual 192, 3) := by decide +kernel
theorem dX12_comes_17 : decode cX12_comes 17 = .ok (.ifCond .eq 31, 3) := by decide +kernel
theorem dX12_comes_20 : decode cX12_comes 20 = .ok (.iload_n 3, 1) := by decide +kernel
theorem dX12_comes_21 : decode cX12_comes 21 = .ok (.invokestatic 258, 3) := by decide +kernel
theorem dX12_isNumber_0 : decode cX12_isNumber 0 = .ok (.iload_n 0, 1) := by decide +kernel
theorem dX12_isNumber_1 : decode cX12_isNumber 1 = .ok (.iconst 0, 1) := by decide +kernel
theorem dX12_isNumber_2 : decode cX12_isNumber 2 = .ok (.sipush 9999, 3) := by decide +kernel
theorem dX12_isNumber_5 : decode cX12_isNumber 5 = .ok (.invokestatic 178, 3) := by decide +kernel
theorem dX12_isNumber_8 : decode cX12_isNumber 8 = .ok (.ireturn, 1) := by decide +kernel
set_option maxHeartbeats 4000000 in
set_option maxRecDepth 100000 in
theorem s_X12_isNumber {P : PP} {a0 : Int32} (I : IV P) : CtrI yX12_isNumber cX12_isNumber 1 (some Jvm.ClassFile.FieldType.boolean) ({ frames := 2, cells := 0, slots := 0, locals := 128 } : Room) 0 0 P [.int a0] (fun r P2 => P = P2 ∧ (0 ≤ r.toInt ∧ r.toInt ≤ 1) ∧ (r.toInt = 0 ∨ (((0 : Int) ≤ a0.toInt ∧ a0.toInt ≤ (9999 : Int))))) := by
  refine enI (lv := [(0, .int a0)]) (by decide) (Nat.le_of_ble_eq_true rfl) rfl (fun E D cy C Ci0 ret => ?_)
  refine g_iload_n C dX12_isNumber_0 rfl 0 rfl ?_
  refine g_iconst (v := 0) C dX12_isNumber_1 (by decide) ?_
  refine g_sipush (v := 9999) C dX12_isNumber_2 (by decide) ?_
  refine g_callSI (b := 0) (ci := 0) (rest := []) C ms_X12_178 [.int a0, .int 0, .int 9999] (s_X12_within I) rfl rfl (by decide) (Nat.le_of_ble_eq_true rfl) (by decide) dX12_isNumber_5 (fun r40553 Y40554 h40555 => ?_)
  obtain ⟨rfl, h40555⟩ := h40555
  obtain ⟨h40555, hi40556⟩ := h40555
  have hi40556 : r40553.toInt = 0 ∨ (0 ≤ a0.toInt ∧ a0.toInt ≤ 9999) := hi40556
  have h40555 : 0 ≤ r40553.toInt ∧ r40553.toInt ≤ 1 := h40555
  exact ret _ _ _ _ _ _ dX12_isNumber_8 (nar_b (b01 (by omega))) (by decide) (by decide) ⟨rfl, (by omega), hi40556.imp id (fun h9 => by omega)⟩
theorem dX12_comes_24 : decode cX12_comes 24 = .ok (.ifCond .eq 24, 3) := by decide +kernel
theorem dX12_comes_27 : decode cX12_comes 27 = .ok (.iload 4, 2) := by decide +kernel
theorem dX12_comes_29 : decode cX12_comes 29 = .ok (.iconst 1, 1) := by decide +kernel
theorem dX12_comes_30 : decode cX12_comes 30 = .ok (.iconst 3, 1) := by decide +kernel
theorem dX12_comes_31 : decode cX12_comes 31 = .ok (.invokestatic 178, 3) := by decide +kernel
theorem dX12_comes_34 : decode cX12_comes 34 = .ok (.ifCond .eq 14, 3) := by decide +kernel
theorem dX12_comes_37 : decode cX12_comes 37 = .ok (.aload_n 0, 1) := by decide +kernel
theorem dX12_comes_38 : decode cX12_comes 38 = .ok (.getfield 69, 3) := by decide +kernel
theorem dX12_comes_41 : decode cX12_comes 41 = .ok (.iload_n 1, 1) := by decide +kernel
theorem dX12_comes_42 : decode cX12_comes 42 = .ok (.iaload, 1) := by decide +kernel
theorem dX12_comes_43 : decode cX12_comes 43 = .ok (.bipush 40, 2) := by decide +kernel
theorem dX12_comes_45 : decode cX12_comes 45 = .ok (.if_icmp .ne 5, 3) := by decide +kernel
theorem dX12_comes_50 : decode cX12_comes 50 = .ok (.aload_n 0, 1) := by decide +kernel
theorem dX12_comes_51 : decode cX12_comes 51 = .ok (.iload_n 2, 1) := by decide +kernel
theorem dX12_comes_52 : decode cX12_comes 52 = .ok (.aload_n 0, 1) := by decide +kernel
theorem dX12_comes_53 : decode cX12_comes 53 = .ok (.iload_n 2, 1) := by decide +kernel
theorem dX12_comes_54 : decode cX12_comes 54 = .ok (.iload_n 3, 1) := by decide +kernel
theorem dX12_comes_55 : decode cX12_comes 55 = .ok (.invokevirtual 261, 3) := by decide +kernel
theorem dX12_comes_58 : decode cX12_comes 58 = .ok (.invokevirtual 223, 3) := by decide +kernel
theorem dX12_sumOf_0 : decode cX12_sumOf 0 = .ok (.iconst 0, 1) := by decide +kernel
theorem dX12_sumOf_1 : decode cX12_sumOf 1 = .ok (.istore_n 3, 1) := by decide +kernel
theorem dX12_sumOf_2 : decode cX12_sumOf 2 = .ok (.iconst 0, 1) := by decide +kernel
theorem dX12_sumOf_3 : decode cX12_sumOf 3 = .ok (.istore 4, 2) := by decide +kernel
theorem dX12_sumOf_5 : decode cX12_sumOf 5 = .ok (.iload 4, 2) := by decide +kernel
theorem dX12_sumOf_7 : decode cX12_sumOf 7 = .ok (.aload_n 0, 1) := by decide +kernel
theorem dX12_sumOf_8 : decode cX12_sumOf 8 = .ok (.getfield 45, 3) := by decide +kernel
theorem dX12_sumOf_11 : decode cX12_sumOf 11 = .ok (.iload_n 1, 1) := by decide +kernel
theorem dX12_sumOf_12 : decode cX12_sumOf 12 = .ok (.iaload, 1) := by decide +kernel
theorem dX12_sumOf_13 : decode cX12_sumOf 13 = .ok (.if_icmp .ge 38, 3) := by decide +kernel
theorem dX12_sumOf_16 : decode cX12_sumOf 16 = .ok (.iload_n 3, 1) := by decide +kernel
theorem dX12_sumOf_17 : decode cX12_sumOf 17 = .ok (.iload_n 2, 1) := by decide +kernel
theorem dX12_sumOf_18 : decode cX12_sumOf 18 = .ok (.iload 4, 2) := by decide +kernel
theorem dX12_sumOf_20 : decode cX12_sumOf 20 = .ok (.ishr, 1) := by decide +kernel
theorem dX12_sumOf_21 : decode cX12_sumOf 21 = .ok (.iconst 1, 1) := by decide +kernel
theorem dX12_sumOf_22 : decode cX12_sumOf 22 = .ok (.iand, 1) := by decide +kernel
theorem dX12_sumOf_23 : decode cX12_sumOf 23 = .ok (.iconst 1, 1) := by decide +kernel
theorem dX12_sumOf_24 : decode cX12_sumOf 24 = .ok (.if_icmp .ne 18, 3) := by decide +kernel
theorem dX12_sumOf_27 : decode cX12_sumOf 27 = .ok (.aload_n 0, 1) := by decide +kernel
theorem dX12_sumOf_28 : decode cX12_sumOf 28 = .ok (.getfield 48, 3) := by decide +kernel
theorem dX12_sumOf_31 : decode cX12_sumOf 31 = .ok (.bipush 16, 2) := by decide +kernel
theorem dX12_sumOf_33 : decode cX12_sumOf 33 = .ok (.iload_n 1, 1) := by decide +kernel
theorem dX12_sumOf_34 : decode cX12_sumOf 34 = .ok (.imul, 1) := by decide +kernel
theorem dX12_sumOf_35 : decode cX12_sumOf 35 = .ok (.iload 4, 2) := by decide +kernel
theorem dX12_sumOf_37 : decode cX12_sumOf 37 = .ok (.iadd, 1) := by decide +kernel
theorem dX12_sumOf_38 : decode cX12_sumOf 38 = .ok (.iaload, 1) := by decide +kernel
theorem dX12_sumOf_39 : decode cX12_sumOf 39 = .ok (.goto 4, 3) := by decide +kernel
theorem dX12_sumOf_42 : decode cX12_sumOf 42 = .ok (.iconst 0, 1) := by decide +kernel
theorem dX12_sumOf_43 : decode cX12_sumOf 43 = .ok (.ixor, 1) := by decide +kernel
theorem dX12_sumOf_44 : decode cX12_sumOf 44 = .ok (.istore_n 3, 1) := by decide +kernel
theorem dX12_sumOf_45 : decode cX12_sumOf 45 = .ok (.iinc 4 1, 3) := by decide +kernel
theorem dX12_sumOf_48 : decode cX12_sumOf 48 = .ok (.goto (-43), 3) := by decide +kernel
theorem dX12_sumOf_51 : decode cX12_sumOf 51 = .ok (.iconst 0, 1) := by decide +kernel
theorem dX12_sumOf_52 : decode cX12_sumOf 52 = .ok (.istore 4, 2) := by decide +kernel
theorem dX12_sumOf_54 : decode cX12_sumOf 54 = .ok (.iload 4, 2) := by decide +kernel
theorem dX12_sumOf_56 : decode cX12_sumOf 56 = .ok (.aload_n 0, 1) := by decide +kernel
theorem dX12_sumOf_57 : decode cX12_sumOf 57 = .ok (.getfield 60, 3) := by decide +kernel
theorem dX12_sumOf_60 : decode cX12_sumOf 60 = .ok (.iload_n 1, 1) := by decide +kernel
theorem dX12_sumOf_61 : decode cX12_sumOf 61 = .ok (.iaload, 1) := by decide +kernel
theorem dX12_sumOf_62 : decode cX12_sumOf 62 = .ok (.if_icmp .ge 85, 3) := by decide +kernel
theorem dX12_sumOf_65 : decode cX12_sumOf 65 = .ok (.iconst 0, 1) := by decide +kernel
theorem dX12_sumOf_66 : decode cX12_sumOf 66 = .ok (.istore 5, 2) := by decide +kernel
theorem dX12_sumOf_68 : decode cX12_sumOf 68 = .ok (.iload 5, 2) := by decide +kernel
theorem dX12_sumOf_70 : decode cX12_sumOf 70 = .ok (.aload_n 0, 1) := by decide +kernel
theorem dX12_sumOf_71 : decode cX12_sumOf 71 = .ok (.getfield 45, 3) := by decide +kernel
theorem dX12_sumOf_74 : decode cX12_sumOf 74 = .ok (.iload_n 1, 1) := by decide +kernel
theorem dX12_sumOf_75 : decode cX12_sumOf 75 = .ok (.iaload, 1) := by decide +kernel
theorem dX12_sumOf_76 : decode cX12_sumOf 76 = .ok (.if_icmp .ge 65, 3) := by decide +kernel
theorem dX12_sumOf_79 : decode cX12_sumOf 79 = .ok (.iload_n 2, 1) := by decide +kernel
theorem dX12_sumOf_80 : decode cX12_sumOf 80 = .ok (.aload_n 0, 1) := by decide +kernel
theorem dX12_sumOf_81 : decode cX12_sumOf 81 = .ok (.getfield 45, 3) := by decide +kernel
theorem dX12_sumOf_84 : decode cX12_sumOf 84 = .ok (.iload_n 1, 1) := by decide +kernel
theorem dX12_sumOf_85 : decode cX12_sumOf 85 = .ok (.iaload, 1) := by decide +kernel
theorem dX12_sumOf_86 : decode cX12_sumOf 86 = .ok (.iload 4, 2) := by decide +kernel
theorem dX12_sumOf_88 : decode cX12_sumOf 88 = .ok (.iadd, 1) := by decide +kernel
theorem dX12_sumOf_89 : decode cX12_sumOf 89 = .ok (.ishr, 1) := by decide +kernel
theorem dX12_sumOf_90 : decode cX12_sumOf 90 = .ok (.iconst 1, 1) := by decide +kernel
theorem dX12_sumOf_91 : decode cX12_sumOf 91 = .ok (.iand, 1) := by decide +kernel
theorem dX12_sumOf_92 : decode cX12_sumOf 92 = .ok (.iconst 1, 1) := by decide +kernel
theorem dX12_sumOf_93 : decode cX12_sumOf 93 = .ok (.if_icmp .ne 48, 3) := by decide +kernel
theorem dX12_sumOf_96 : decode cX12_sumOf 96 = .ok (.iload_n 3, 1) := by decide +kernel
theorem dX12_sumOf_97 : decode cX12_sumOf 97 = .ok (.aload_n 0, 1) := by decide +kernel
theorem dX12_sumOf_98 : decode cX12_sumOf 98 = .ok (.getfield 63, 3) := by decide +kernel
theorem dX12_sumOf_101 : decode cX12_sumOf 101 = .ok (.iconst 4, 1) := by decide +kernel
theorem dX12_sumOf_102 : decode cX12_sumOf 102 = .ok (.iload_n 1, 1) := by decide +kernel
theorem dX12_sumOf_103 : decode cX12_sumOf 103 = .ok (.imul, 1) := by decide +kernel
theorem dX12_sumOf_104 : decode cX12_sumOf 104 = .ok (.iload 4, 2) := by decide +kernel
theorem dX12_sumOf_106 : decode cX12_sumOf 106 = .ok (.iadd, 1) := by decide +kernel
theorem dX12_sumOf_107 : decode cX12_sumOf 107 = .ok (.iaload, 1) := by decide +kernel
theorem dX12_sumOf_108 : decode cX12_sumOf 108 = .ok (.iload 5, 2) := by decide +kernel
theorem dX12_sumOf_110 : decode cX12_sumOf 110 = .ok (.ishr, 1) := by decide +kernel
theorem dX12_sumOf_111 : decode cX12_sumOf 111 = .ok (.iconst 1, 1) := by decide +kernel
theorem dX12_sumOf_112 : decode cX12_sumOf 112 = .ok (.iand, 1) := by decide +kernel
theorem dX12_sumOf_113 : decode cX12_sumOf 113 = .ok (.iconst 1, 1) := by decide +kernel
theorem dX12_sumOf_114 : decode cX12_sumOf 114 = .ok (.if_icmp .ne 18, 3) := by decide +kernel
theorem dX12_sumOf_117 : decode cX12_sumOf 117 = .ok (.aload_n 0, 1) := by decide +kernel
theorem dX12_sumOf_118 : decode cX12_sumOf 118 = .ok (.getfield 48, 3) := by decide +kernel
theorem dX12_sumOf_121 : decode cX12_sumOf 121 = .ok (.bipush 16, 2) := by decide +kernel
theorem dX12_sumOf_123 : decode cX12_sumOf 123 = .ok (.iload_n 1, 1) := by decide +kernel
theorem dX12_sumOf_124 : decode cX12_sumOf 124 = .ok (.imul, 1) := by decide +kernel
theorem dX12_sumOf_125 : decode cX12_sumOf 125 = .ok (.iload 5, 2) := by decide +kernel
theorem dX12_sumOf_127 : decode cX12_sumOf 127 = .ok (.iadd, 1) := by decide +kernel
theorem dX12_sumOf_128 : decode cX12_sumOf 128 = .ok (.iaload, 1) := by decide +kernel
theorem dX12_sumOf_129 : decode cX12_sumOf 129 = .ok (.goto 4, 3) := by decide +kernel
theorem dX12_sumOf_132 : decode cX12_sumOf 132 = .ok (.iconst 0, 1) := by decide +kernel
theorem dX12_sumOf_133 : decode cX12_sumOf 133 = .ok (.ixor, 1) := by decide +kernel
theorem dX12_sumOf_134 : decode cX12_sumOf 134 = .ok (.istore_n 3, 1) := by decide +kernel
theorem dX12_sumOf_135 : decode cX12_sumOf 135 = .ok (.iinc 5 1, 3) := by decide +kernel
theorem dX12_sumOf_138 : decode cX12_sumOf 138 = .ok (.goto (-70), 3) := by decide +kernel
theorem dX12_sumOf_141 : decode cX12_sumOf 141 = .ok (.iinc 4 1, 3) := by decide +kernel
theorem dX12_sumOf_144 : decode cX12_sumOf 144 = .ok (.goto (-90), 3) := by decide +kernel
theorem dX12_sumOf_147 : decode cX12_sumOf 147 = .ok (.iload_n 3, 1) := by decide +kernel
theorem dX12_sumOf_148 : decode cX12_sumOf 148 = .ok (.ireturn, 1) := by decide +kernel
set_option maxHeartbeats 4000000 in
set_option maxRecDepth 100000 in
theorem s_X12_sumOf {P : PP} {a0 : Nat} {a1 : Int32} {a2 : Int32} (I : IM P a0) (ha1 : 0 ≤ a1.toInt ∧ a1.toInt ≤ 1) (hW : MW P a0) : CtrI yX12_sumOf cX12_sumOf 6 (some Jvm.ClassFile.FieldType.int) ({ frames := 1, cells := 0, slots := 0, locals := 64 } : Room) 0 0 P [.ref a0, .int a1, .int a2] (fun r P2 => P = P2 ∧ (True)) := by
  refine enI (lv := [(0, .ref a0), (1, .int a1), (2, .int a2)]) (by decide) (Nat.le_of_ble_eq_true rfl) rfl (fun E D cy C Ci0 ret => ?_)
  have ha0 := I.2.1
  have J54 : ∀ (n54 : Nat) (v54_3 : Int32) (v54_4 : Int32), (4 - v54_4.toInt).toNat < n54 → (0 ≤ v54_4.toInt ∧ v54_4.toInt ≤ 4) → G E ({ frames := 1, cells := 0, slots := 0, locals := 64 } : Room) D cy 6 P 0 0 54 [(0, .ref a0), (1, .int a1), (2, .int a2), (3, .int v54_3), (4, .int v54_4)] [] := by
    intro n54
    induction n54 with
    | zero => intro v54_3 v54_4 hm54 hv54_4; omega
    | succ n54 ih54 =>
      intro v54_3 v54_4 hm54 hv54_4
      have J141 : ∀ (v141_3 : Int32), (0 ≤ v54_4.toInt ∧ v54_4.toInt ≤ 3) → (∀ b, pR P a0 15 = some b → 1 ≤ (pI P b (a1.toInt.toNat)).toInt ∧ (pI P b (a1.toInt.toNat)).toInt ≤ 4) → G E ({ frames := 1, cells := 0, slots := 0, locals := 64 } : Room) D cy 6 P 0 0 141 [(0, .ref a0), (1, .int a1), (2, .int a2), (3, .int v141_3), (4, .int v54_4)] [] := by
        intro v141_3 hv141_4 hq141_0
        obtain ⟨b41533, e41534, h41535⟩ := I.fld (ha0) 15 13 3 rfl
        have hq141_0 := hq141_0 b41533 e41534
        refine s_iinc (lv0 := [(0, .ref a0), (1, .int a1), (2, .int a2), (3, .int v141_3)]) (m := 1) C dX12_sumOf_141 4 rfl (by decide) rfl (by decide) (by omega) (fun z41536 h41537 => ?_)
        have h41537 : z41536.toInt = v54_4.toInt + 1 := h41537
        refine g_goto C 54 dX12_sumOf_144 (by decide) ?_
        refine g_lv (lv' := [(0, .ref a0), (1, .int a1), (2, .int a2), (3, .int v141_3), (4, .int z41536)]) [1, 2, 3, 4, 0] rfl ?_
        exact ih54 v141_3 z41536 (by omega) (by omega)
      have J68 : ∀ (n68 : Nat) (v68_3 : Int32) (v68_5 : Int32), (16 - v68_5.toInt).toNat < n68 → (0 ≤ v54_4.toInt ∧ v54_4.toInt ≤ 3) → (0 ≤ v68_5.toInt ∧ v68_5.toInt ≤ 16) → (∀ b, pR P a0 15 = some b → 1 ≤ (pI P b (a1.toInt.toNat)).toInt ∧ (pI P b (a1.toInt.toNat)).toInt ≤ 4) → G E ({ frames := 1, cells := 0, slots := 0, locals := 64 } : Room) D cy 6 P 0 0 68 [(0, .ref a0), (1, .int a1), (2, .int a2), (3, .int v68_3), (4, .int v54_4), (5, .int v68_5)] [] := by
        intro n68
        induction n68 with
        | zero => intro v68_3 v68_5 hm68 hv68_4 hv68_5 hq68_0; omega
        | succ n68 ih68 =>
          intro v68_3 v68_5 hm68 hv68_4 hv68_5 hq68_0
          obtain ⟨b41538, e41539, h41540⟩ := I.fld (ha0) 15 13 3 rfl
          have hq68_0 := hq68_0 b41538 e41539
          have J133 : ∀ (v133_s0 : Int32), (0 ≤ v54_4.toInt ∧ v54_4.toInt ≤ 3) → (0 ≤ v68_5.toInt ∧ v68_5.toInt ≤ 15) → (∀ b, pR P a0 10 = some b → 1 ≤ (pI P b (a1.toInt.toNat)).toInt ∧ (pI P b (a1.toInt.toNat)).toInt ≤ 16) → (∀ b, pR P a0 15 = some b → 1 ≤ (pI P b (a1.toInt.toNat)).toInt ∧ (pI P b (a1.toInt.toNat)).toInt ≤ 4) → G E ({ frames := 1, cells := 0, slots := 0, locals := 64 } : Room) D cy 6 P 0 0 133 [(0, .ref a0), (1, .int a1), (2, .int a2), (4, .int v54_4), (5, .int v68_5)] [.int v133_s0, .int v68_3] := by
            intro v133_s0 hv133_4 hv133_5 hq133_0 hq133_1
            obtain ⟨b41541, e41542, h41543⟩ := I.fld (ha0) 10 13 2 rfl
            have hq133_0 := hq133_0 b41541 e41542
            obtain ⟨b41544, e41545, h41546⟩ := I.fld (ha0) 15 13 3 rfl
            have hq133_1 := hq133_1 b41544 e41545
            refine a_ixor C dX12_sumOf_133 (fun z41547 => ?_)
            refine g_istore_n (lv' := [(3, .int z41547), (0, .ref a0), (1, .int a1), (2, .int a2), (4, .int v54_4), (5, .int v68_5)]) C dX12_sumOf_134 rfl (by decide) rfl ?_
            refine s_iinc (lv0 := [(3, .int z41547), (0, .ref a0), (1, .int a1), (2, .int a2), (4, .int v54_4)]) (m := 1) C dX12_sumOf_135 5 rfl (by decide) rfl (by decide) (by omega) (fun z41549 h41550 => ?_)
            have h41550 : z41549.toInt = v68_5.toInt + 1 := h41550
            refine g_goto C 68 dX12_sumOf_138 (by decide) ?_
            refine g_lv (lv' := [(0, .ref a0), (1, .int a1), (2, .int a2), (3, .int z41547), (4, .int v54_4), (5, .int z41549)]) [2, 3, 4, 1, 5, 0] rfl ?_
            exact ih68 z41547 z41549 (by omega) (by omega) (by omega) (fun b9 e9 => by rw [e41545] at e9; cases e9; omega)
          refine g_iload C dX12_sumOf_68 5 rfl ?_
          refine g_aload_n C dX12_sumOf_70 rfl 0 rfl ?_
          obtain ⟨b41551, e41552, h41553⟩ := I.fld (ha0) 10 13 2 rfl
          refine g_getR C fi_X12_45 rfl e41552 (ha0).1 (ha0).2 dX12_sumOf_71 ?_
          refine g_iload_n C dX12_sumOf_74 rfl 1 rfl ?_
          refine g_iald (j := (a1.toInt.toNat)) C h41553.1 h41553.2.1 (ix_in h41553.2.2 (by omega)) dX12_sumOf_75 ?_
          have h41554 := I.arr e41552 rfl (a1.toInt.toNat)
          refine b_icmp_ge C 141 dX12_sumOf_76 (by decide) (fun h41555 => ?_) (fun h41555 => ?_)
          · have h41555 : (pI P b41551 (a1.toInt.toNat)).toInt ≤ v68_5.toInt := h41555
            refine g_lv (lv' := [(0, .ref a0), (1, .int a1), (2, .int a2), (3, .int v68_3), (4, .int v54_4)]) [0, 1, 2, 3, 4] rfl ?_
            exact J141 v68_3 (by omega) (fun b9 e9 => by rw [e41539] at e9; cases e9; omega)
          · have h41555 : v68_5.toInt < (pI P b41551 (a1.toInt.toNat)).toInt := h41555
            refine g_iload_n C dX12_sumOf_79 rfl 2 rfl ?_
            refine g_aload_n C dX12_sumOf_80 rfl 0 rfl ?_
            refine g_getR C fi_X12_45 rfl e41552 (ha0).1 (ha0).2 dX12_sumOf_81 ?_
            refine g_iload_n C dX12_sumOf_84 rfl 1 rfl ?_
            refine g_iald (j := (a1.toInt.toNat)) C h41553.1 h41553.2.1 (ix_in h41553.2.2 (by omega)) dX12_sumOf_85 ?_
            refine g_iload C dX12_sumOf_86 4 rfl ?_
            refine s_iadd C dX12_sumOf_88 (by show -2147483648 ≤ (pI P b41551 (a1.toInt.toNat)).toInt + v54_4.toInt ∧ (pI P b41551 (a1.toInt.toNat)).toInt + v54_4.toInt ≤ 2147483647; omega) (fun z41556 h41557 => ?_)
            have h41557 : z41556.toInt = (pI P b41551 (a1.toInt.toNat)).toInt + v54_4.toInt := h41557
            refine a_ishr C dX12_sumOf_89 (fun z41558 => ?_)
            refine g_iconst (v := 1) C dX12_sumOf_90 (by decide) ?_
            refine s_iand C dX12_sumOf_91 (by show 0 ≤ 1; omega) (fun z41560 h41561 => ?_)
            have h41561 : 0 ≤ z41560.toInt ∧ z41560.toInt ≤ 1 := h41561
            refine g_iconst (v := 1) C dX12_sumOf_92 (by decide) ?_
            refine b_icmp_ne C 141 dX12_sumOf_93 (by decide) (fun h41562 => ?_) (fun h41562 => ?_)
            · have h41562 : z41560.toInt ≠ 1 := ti_ne h41562
              refine g_lv (lv' := [(0, .ref a0), (1, .int a1), (2, .int a2), (3, .int v68_3), (4, .int v54_4)]) [0, 1, 2, 3, 4] rfl ?_
              exact J141 v68_3 (by omega) (fun b9 e9 => by rw [e41539] at e9; cases e9; omega)
            · have h41562 : z41560.toInt = 1 := congrArg Int32.toInt h41562
              refine g_iload_n C dX12_sumOf_96 rfl 3 rfl ?_
              refine g_aload_n C dX12_sumOf_97 rfl 0 rfl ?_
              obtain ⟨b41563, e41564, h41565⟩ := I.fld (ha0) 16 13 12 rfl
              refine g_getR C fi_X12_63 rfl e41564 (ha0).1 (ha0).2 dX12_sumOf_98 ?_
              refine g_iconst (v := 4) C dX12_sumOf_101 (by decide) ?_
              refine g_iload_n C dX12_sumOf_102 rfl 1 rfl ?_
              refine s_imul C dX12_sumOf_103 (by show -2147483648 ≤ 4 * a1.toInt ∧ 4 * a1.toInt ≤ 2147483647; omega) (fun z41566 h41567 => ?_)
              have h41567 : z41566.toInt = 4 * a1.toInt := h41567
              refine g_iload C dX12_sumOf_104 4 rfl ?_
              refine s_iadd C dX12_sumOf_106 (by show -2147483648 ≤ z41566.toInt + v54_4.toInt ∧ z41566.toInt + v54_4.toInt ≤ 2147483647; omega) (fun z41568 h41569 => ?_)
              have h41569 : z41568.toInt = z41566.toInt + v54_4.toInt := h41569
              refine g_iald (j := (z41568.toInt.toNat)) C h41565.1 h41565.2.1 (ix_in h41565.2.2 (by omega)) dX12_sumOf_107 ?_
              refine g_iload C dX12_sumOf_108 5 rfl ?_
              refine a_ishr C dX12_sumOf_110 (fun z41570 => ?_)
              refine g_iconst (v := 1) C dX12_sumOf_111 (by decide) ?_
              refine s_iand C dX12_sumOf_112 (by show 0 ≤ 1; omega) (fun z41572 h41573 => ?_)
              have h41573 : 0 ≤ z41572.toInt ∧ z41572.toInt ≤ 1 := h41573
              refine g_iconst (v := 1) C dX12_sumOf_113 (by decide) ?_
              refine b_icmp_ne C 132 dX12_sumOf_114 (by decide) (fun h41574 => ?_) (fun h41574 => ?_)
              · have h41574 : z41572.toInt ≠ 1 := ti_ne h41574
                refine g_iconst (v := 0) C dX12_sumOf_132 (by decide) ?_
                refine g_lv (lv' := [(0, .ref a0), (1, .int a1), (2, .int a2), (4, .int v54_4), (5, .int v68_5)]) [0, 1, 2, 4, 5] rfl ?_
                exact J133 0 (by omega) (by omega) (fun b9 e9 => by rw [e41552] at e9; cases e9; omega) (fun b9 e9 => by rw [e41539] at e9; cases e9; omega)
              · have h41574 : z41572.toInt = 1 := congrArg Int32.toInt h41574
                refine g_aload_n C dX12_sumOf_117 rfl 0 rfl ?_
                obtain ⟨b41575, e41576, h41577⟩ := I.fld (ha0) 11 13 32 rfl
                refine g_getR C fi_X12_48 rfl e41576 (ha0).1 (ha0).2 dX12_sumOf_118 ?_
                refine g_bipush (v := 16) C dX12_sumOf_121 (by decide) ?_
                refine g_iload_n C dX12_sumOf_123 rfl 1 rfl ?_
                refine s_imul C dX12_sumOf_124 (by show -2147483648 ≤ 16 * a1.toInt ∧ 16 * a1.toInt ≤ 2147483647; omega) (fun z41578 h41579 => ?_)
                have h41579 : z41578.toInt = 16 * a1.toInt := h41579
                refine g_iload C dX12_sumOf_125 5 rfl ?_
                refine s_iadd C dX12_sumOf_127 (by show -2147483648 ≤ z41578.toInt + v68_5.toInt ∧ z41578.toInt + v68_5.toInt ≤ 2147483647; omega) (fun z41580 h41581 => ?_)
                have h41581 : z41580.toInt = z41578.toInt + v68_5.toInt := h41581
                refine g_iald (j := (z41580.toInt.toNat)) C h41577.1 h41577.2.1 (ix_in h41577.2.2 (by omega)) dX12_sumOf_128 ?_
                refine g_goto C 133 dX12_sumOf_129 (by decide) ?_
                refine g_lv (lv' := [(0, .ref a0), (1, .int a1), (2, .int a2), (4, .int v54_4), (5, .int v68_5)]) [0, 1, 2, 4, 5] rfl ?_
                exact J133 (pI P b41575 (z41580.toInt.toNat)) (by omega) (by omega) (fun b9 e9 => by rw [e41552] at e9; cases e9; omega) (fun b9 e9 => by rw [e41539] at e9; cases e9; omega)
      refine g_iload C dX12_sumOf_54 4 rfl ?_
      refine g_aload_n C dX12_sumOf_56 rfl 0 rfl ?_
      obtain ⟨b41582, e41583, h41584⟩ := I.fld (ha0) 15 13 3 rfl
      refine g_getR C fi_X12_60 rfl e41583 (ha0).1 (ha0).2 dX12_sumOf_57 ?_
      refine g_iload_n C dX12_sumOf_60 rfl 1 rfl ?_
      refine g_iald (j := (a1.toInt.toNat)) C h41584.1 h41584.2.1 (ix_in h41584.2.2 (by omega)) dX12_sumOf_61 ?_
      have h41585 := I.arr e41583 rfl (a1.toInt.toNat)
      refine b_icmp_ge C 147 dX12_sumOf_62 (by decide) (fun h41586 => ?_) (fun h41586 => ?_)
      · have h41586 : (pI P b41582 (a1.toInt.toNat)).toInt ≤ v54_4.toInt := h41586
        refine g_iload_n C dX12_sumOf_147 rfl 3 rfl ?_
        exact ret _ _ _ _ _ _ dX12_sumOf_148 rfl (by decide) (by decide) ⟨rfl, trivial⟩
      · have h41586 : v54_4.toInt < (pI P b41582 (a1.toInt.toNat)).toInt := h41586
        refine g_iconst (v := 0) C dX12_sumOf_65 (by decide) ?_
        refine g_istore (lv' := [(5, .int 0), (0, .ref a0), (1, .int a1), (2, .int a2), (3, .int v54_3), (4, .int v54_4)]) C dX12_sumOf_66 (by decide) rfl ?_
        refine g_lv (lv' := [(0, .ref a0), (1, .int a1), (2, .int a2), (3, .int v54_3), (4, .int v54_4), (5, .int 0)]) [1, 2, 3, 4, 5, 0] rfl ?_
        exact J68 _ v54_3 0 (Nat.lt_succ_self _) (by omega) (by decide) (fun b9 e9 => by rw [e41583] at e9; cases e9; omega)
  have J5 : ∀ (n5 : Nat) (v5_3 : Int32) (v5_4 : Int32), (16 - v5_4.toInt).toNat < n5 → (0 ≤ v5_4.toInt ∧ v5_4.toInt ≤ 16) → G E ({ frames := 1, cells := 0, slots := 0, locals := 64 } : Room) D cy 6 P 0 0 5 [(0, .ref a0), (1, .int a1), (2, .int a2), (3, .int v5_3), (4, .int v5_4)] [] := by
    intro n5
    induction n5 with
    | zero => intro v5_3 v5_4 hm5 hv5_4; omega
    | succ n5 ih5 =>
      intro v5_3 v5_4 hm5 hv5_4
      have J43 : ∀ (v43_s0 : Int32), (0 ≤ v5_4.toInt ∧ v5_4.toInt ≤ 15) → (∀ b, pR P a0 10 = some b → 1 ≤ (pI P b (a1.toInt.toNat)).toInt ∧ (pI P b (a1.toInt.toNat)).toInt ≤ 16) → G E ({ frames := 1, cells := 0, slots := 0, locals := 64 } : Room) D cy 6 P 0 0 43 [(0, .ref a0), (1, .int a1), (2, .int a2), (4, .int v5_4)] [.int v43_s0, .int v5_3] := by
        intro v43_s0 hv43_4 hq43_0
        obtain ⟨b41587, e41588, h41589⟩ := I.fld (ha0) 10 13 2 rfl
        have hq43_0 := hq43_0 b41587 e41588
        refine a_ixor C dX12_sumOf_43 (fun z41590 => ?_)
        refine g_istore_n (lv' := [(3, .int z41590), (0, .ref a0), (1, .int a1), (2, .int a2), (4, .int v5_4)]) C dX12_sumOf_44 rfl (by decide) rfl ?_
        refine s_iinc (lv0 := [(3, .int z41590), (0, .ref a0), (1, .int a1), (2, .int a2)]) (m := 1) C dX12_sumOf_45 4 rfl (by decide) rfl (by decide) (by omega) (fun z41592 h41593 => ?_)
        have h41593 : z41592.toInt = v5_4.toInt + 1 := h41593
        refine g_goto C 5 dX12_sumOf_48 (by decide) ?_
        refine g_lv (lv' := [(0, .ref a0), (1, .int a1), (2, .int a2), (3, .int z41590), (4, .int z41592)]) [2, 3, 4, 1, 0] rfl ?_
        exact ih5 z41590 z41592 (by omega) (by omega)
      refine g_iload C dX12_sumOf_5 4 rfl ?_
      refine g_aload_n C dX12_sumOf_7 rfl 0 rfl ?_
      obtain ⟨b41594, e41595, h41596⟩ := I.fld (ha0) 10 13 2 rfl
      refine g_getR C fi_X12_45 rfl e41595 (ha0).1 (ha0).2 dX12_sumOf_8 ?_
      refine g_iload_n C dX12_sumOf_11 rfl 1 rfl ?_
      refine g_iald (j := (a1.toInt.toNat)) C h41596.1 h41596.2.1 (ix_in h41596.2.2 (by omega)) dX12_sumOf_12 ?_
      have h41597 := I.arr e41595 rfl (a1.toInt.toNat)
      refine b_icmp_ge C 51 dX12_sumOf_13 (by decide) (fun h41598 => ?_) (fun h41598 => ?_)
      · have h41598 : (pI P b41594 (a1.toInt.toNat)).toInt ≤ v5_4.toInt := h41598
        refine g_iconst (v := 0) C dX12_sumOf_51 (by decide) ?_
        refine g_istore (lv' := [(4, .int 0), (0, .ref a0), (1, .int a1), (2, .int a2), (3, .int v5_3)]) C dX12_sumOf_52 (by decide) rfl ?_
        refine g_lv (lv' := [(0, .ref a0), (1, .int a1), (2, .int a2), (3, .int v5_3), (4, .int 0)]) [1, 2, 3, 4, 0] rfl ?_
        exact J54 _ v5_3 0 (Nat.lt_succ_self _) (by decide)
      · have h41598 : v5_4.toInt < (pI P b41594 (a1.toInt.toNat)).toInt := h41598
        refine g_iload_n C dX12_sumOf_16 rfl 3 rfl ?_
        refine g_iload_n C dX12_sumOf_17 rfl 2 rfl ?_
        refine g_iload C dX12_sumOf_18 4 rfl ?_
        refine a_ishr C dX12_sumOf_20 (fun z41599 => ?_)
        refine g_iconst (v := 1) C dX12_sumOf_21 (by decide) ?_
        refine s_iand C dX12_sumOf_22 (by show 0 ≤ 1; omega) (fun z41601 h41602 => ?_)
        have h41602 : 0 ≤ z41601.toInt ∧ z41601.toInt ≤ 1 := h41602
        refine g_iconst (v := 1) C dX12_sumOf_23 (by decide) ?_
        refine b_icmp_ne C 42 dX12_sumOf_24 (by decide) (fun h41603 => ?_) (fun h41603 => ?_)
        · have h41603 : z41601.toInt ≠ 1 := ti_ne h41603
          refine g_iconst (v := 0) C dX12_sumOf_42 (by decide) ?_
          refine g_lv (lv' := [(0, .ref a0), (1, .int a1), (2, .int a2), (4, .int v5_4)]) [0, 1, 2, 4] rfl ?_
          exact J43 0 (by omega) (fun b9 e9 => by rw [e41595] at e9; cases e9; omega)
        · have h41603 : z41601.toInt = 1 := congrArg Int32.toInt h41603
          refine g_aload_n C dX12_sumOf_27 rfl 0 rfl ?_
          obtain ⟨b41604, e41605, h41606⟩ := I.fld (ha0) 11 13 32 rfl
          refine g_getR C fi_X12_48 rfl e41605 (ha0).1 (ha0).2 dX12_sumOf_28 ?_
          refine g_bipush (v := 16) C dX12_sumOf_31 (by decide) ?_
          refine g_iload_n C dX12_sumOf_33 rfl 1 rfl ?_
          refine s_imul C dX12_sumOf_34 (by show -2147483648 ≤ 16 * a1.toInt ∧ 16 * a1.toInt ≤ 2147483647; omega) (fun z41607 h41608 => ?_)
          have h41608 : z41607.toInt = 16 * a1.toInt := h41608
          refine g_iload C dX12_sumOf_35 4 rfl ?_
          refine s_iadd C dX12_sumOf_37 (by show -2147483648 ≤ z41607.toInt + v5_4.toInt ∧ z41607.toInt + v5_4.toInt ≤ 2147483647; omega) (fun z41609 h41610 => ?_)
          have h41610 : z41609.toInt = z41607.toInt + v5_4.toInt := h41610
          refine g_iald (j := (z41609.toInt.toNat)) C h41606.1 h41606.2.1 (ix_in h41606.2.2 (by omega)) dX12_sumOf_38 ?_
          refine g_goto C 43 dX12_sumOf_39 (by decide) ?_
          refine g_lv (lv' := [(0, .ref a0), (1, .int a1), (2, .int a2), (4, .int v5_4)]) [0, 1, 2, 4] rfl ?_
          exact J43 (pI P b41604 (z41609.toInt.toNat)) (by omega) (fun b9 e9 => by rw [e41595] at e9; cases e9; omega)
  refine g_iconst (v := 0) C dX12_sumOf_0 (by decide) ?_
  refine g_istore_n (lv' := [(3, .int 0), (0, .ref a0), (1, .int a1), (2, .int a2)]) C dX12_sumOf_1 rfl (by decide) rfl ?_
  refine g_iconst (v := 0) C dX12_sumOf_2 (by decide) ?_
  refine g_istore (lv' := [(4, .int 0), (3, .int 0), (0, .ref a0), (1, .int a1), (2, .int a2)]) C dX12_sumOf_3 (by decide) rfl ?_
  refine g_lv (lv' := [(0, .ref a0), (1, .int a1), (2, .int a2), (3, .int 0), (4, .int 0)]) [2, 3, 4, 1, 0] rfl ?_
  exact J5 _ 0 0 (Nat.lt_succ_self _) (by decide)
theorem dX12_comes_61 : decode cX12_comes 61 = .ok (.istore 5, 2) := by decide +kernel
theorem dX12_comes_63 : decode cX12_comes 63 = .ok (.aload_n 0, 1) := by decide +kernel
theorem dX12_comes_64 : decode cX12_comes 64 = .ok (.iload_n 1, 1) := by decide +kernel
theorem dX12_comes_65 : decode cX12_comes 65 = .ok (.iload_n 2, 1) := by decide +kernel
theorem dX12_comes_66 : decode cX12_comes 66 = .ok (.iload_n 3, 1) := by decide +kernel
theorem dX12_comes_67 : decode cX12_comes 67 = .ok (.iload 5, 2) := by decide +kernel
theorem dX12_comes_69 : decode cX12_comes 69 = .ok (.iload 4, 2) := by decide +kernel
theorem dX12_comes_71 : decode cX12_comes 71 = .ok (.invokestatic 281, 3) := by decide +kernel
theorem dX12_cutTo_0 : decode cX12_cutTo 0 = .ok (.iload_n 0, 1) := by decide +kernel
theorem dX12_cutTo_1 : decode cX12_cutTo 1 = .ok (.iload_n 1, 1) := by decide +kernel
theorem dX12_cutTo_2 : decode cX12_cutTo 2 = .ok (.iconst 1, 1) := by decide +kernel
theorem dX12_cutTo_3 : decode cX12_cutTo 3 = .ok (.iand, 1) := by decide +kernel
theorem dX12_cutTo_4 : decode cX12_cutTo 4 = .ok (.iconst 1, 1) := by decide +kernel
theorem dX12_cutTo_5 : decode cX12_cutTo 5 = .ok (.if_icmp .ne 9, 3) := by decide +kernel
theorem dX12_cutTo_8 : decode cX12_cutTo 8 = .ok (.sipush 255, 3) := by decide +kernel
theorem dX12_cutTo_11 : decode cX12_cutTo 11 = .ok (.goto 4, 3) := by decide +kernel
theorem dX12_cutTo_14 : decode cX12_cutTo 14 = .ok (.iconst 0, 1) := by decide +kernel
theorem dX12_cutTo_15 : decode cX12_cutTo 15 = .ok (.iload_n 1, 1) := by decide +kernel
theorem dX12_cutTo_16 : decode cX12_cutTo 16 = .ok (.iconst 2, 1) := by decide +kernel
theorem dX12_cutTo_17 : decode cX12_cutTo 17 = .ok (.iand, 1) := by decide +kernel
theorem dX12_cutTo_18 : decode cX12_cutTo 18 = .ok (.iconst 2, 1) := by decide +kernel
theorem dX12_cutTo_19 : decode cX12_cutTo 19 = .ok (.if_icmp .ne 9, 3) := by decide +kernel
theorem dX12_cutTo_22 : decode cX12_cutTo 22 = .ok (.ldc_w 277, 3) := by decide +kernel
theorem dX12_cutTo_25 : decode cX12_cutTo 25 = .ok (.goto 4, 3) := by decide +kernel
theorem dX12_cutTo_28 : decode cX12_cutTo 28 = .ok (.iconst 0, 1) := by decide +kernel
theorem dX12_cutTo_29 : decode cX12_cutTo 29 = .ok (.iadd, 1) := by decide +kernel
theorem dX12_cutTo_30 : decode cX12_cutTo 30 = .ok (.iand, 1) := by decide +kernel
theorem dX12_cutTo_31 : decode cX12_cutTo 31 = .ok (.ireturn, 1) := by decide +kernel
set_option maxHeartbeats 4000000 in
set_option maxRecDepth 100000 in
theorem s_X12_cutTo {P : PP} {a0 : Int32} {a1 : Int32} (I : IV P) : CtrI yX12_cutTo cX12_cutTo 2 (some Jvm.ClassFile.FieldType.int) ({ frames := 1, cells := 0, slots := 0, locals := 64 } : Room) 0 0 P [.int a0, .int a1] (fun r P2 => P = P2 ∧ (0 ≤ r.toInt ∧ r.toInt ≤ 65535)) := by
  refine enI (lv := [(0, .int a0), (1, .int a1)]) (by decide) (Nat.le_of_ble_eq_true rfl) rfl (fun E D cy C Ci0 ret => ?_)
  have J29 : ∀ (v29_s0 : Int32) (v29_s1 : Int32), (0 ≤ v29_s0.toInt ∧ v29_s0.toInt ≤ 65280) → (0 ≤ v29_s1.toInt ∧ v29_s1.toInt ≤ 255) → G E ({ frames := 1, cells := 0, slots := 0, locals := 64 } : Room) D cy 2 P 0 0 29 [] [.int v29_s0, .int v29_s1, .int a0] := by
    intro v29_s0 v29_s1 hv29_s0 hv29_s1
    refine s_iadd C dX12_cutTo_29 (by show -2147483648 ≤ v29_s1.toInt + v29_s0.toInt ∧ v29_s1.toInt + v29_s0.toInt ≤ 2147483647; omega) (fun z41676 h41677 => ?_)
    have h41677 : z41676.toInt = v29_s1.toInt + v29_s0.toInt := h41677
    refine s_iand C dX12_cutTo_30 (by show 0 ≤ z41676.toInt; omega) (fun z41678 h41679 => ?_)
    have h41679 : 0 ≤ z41678.toInt ∧ z41678.toInt ≤ z41676.toInt := h41679
    exact ret _ _ _ _ _ _ dX12_cutTo_31 rfl (by decide) (by decide) ⟨rfl, (by omega)⟩
  have J15 : ∀ (v15_s0 : Int32), (0 ≤ v15_s0.toInt ∧ v15_s0.toInt ≤ 255) → G E ({ frames := 1, cells := 0, slots := 0, locals := 64 } : Room) D cy 2 P 0 0 15 [(1, .int a1)] [.int v15_s0, .int a0] := by
    intro v15_s0 hv15_s0
    refine g_iload_n C dX12_cutTo_15 rfl 0 rfl ?_
    refine g_iconst (v := 2) C dX12_cutTo_16 (by decide) ?_
    refine s_iand C dX12_cutTo_17 (by show 0 ≤ 2; omega) (fun z41680 h41681 => ?_)
    have h41681 : 0 ≤ z41680.toInt ∧ z41680.toInt ≤ 2 := h41681
    refine g_iconst (v := 2) C dX12_cutTo_18 (by decide) ?_
    refine b_icmp_ne C 28 dX12_cutTo_19 (by decide) (fun h41682 => ?_) (fun h41682 => ?_)
    · have h41682 : z41680.toInt ≠ 2 := ti_ne h41682
      refine g_iconst (v := 0) C dX12_cutTo_28 (by decide) ?_
      refine g_lv (lv' := []) [] rfl ?_
      exact J29 0 v15_s0 (by decide) (by omega)
    · have h41682 : z41680.toInt = 2 := congrArg Int32.toInt h41682
      refine g_ldcw (v := 65280) C kc_X12_277 dX12_cutTo_22 ?_
      refine g_goto C 29 dX12_cutTo_25 (by decide) ?_
      refine g_lv (lv' := []) [] rfl ?_
      exact J29 65280 v15_s0 (by decide) (by omega)
  refine g_iload_n C dX12_cutTo_0 rfl 0 rfl ?_
  refine g_iload_n C dX12_cutTo_1 rfl 1 rfl ?_
  refine g_iconst (v := 1) C dX12_cutTo_2 (by decide) ?_
  refine s_iand C dX12_cutTo_3 (by show 0 ≤ 1; omega) (fun z41683 h41684 => ?_)
  have h41684 : 0 ≤ z41683.toInt ∧ z41683.toInt ≤ 1 := h41684
  refine g_iconst (v := 1) C dX12_cutTo_4 (by decide) ?_
  refine b_icmp_ne C 14 dX12_cutTo_5 (by decide) (fun h41685 => ?_) (fun h41685 => ?_)
  · have h41685 : z41683.toInt ≠ 1 := ti_ne h41685
    refine g_iconst (v := 0) C dX12_cutTo_14 (by decide) ?_
    refine g_lv (lv' := [(1, .int a1)]) [1] rfl ?_
    exact J15 0 (by decide)
  · have h41685 : z41683.toInt = 1 := congrArg Int32.toInt h41685
    refine g_sipush (v := 255) C dX12_cutTo_8 (by decide) ?_
    refine g_goto C 15 dX12_cutTo_11 (by decide) ?_
    refine g_lv (lv' := [(1, .int a1)]) [1] rfl ?_
    exact J15 255 (by decide)
theorem dX12_comes_74 : decode cX12_comes 74 = .ok (.iload 4, 2) := by decide +kernel
theorem dX12_comes_76 : decode cX12_comes 76 = .ok (.aload_n 0, 1) := by decide +kernel
theorem dX12_comes_77 : decode cX12_comes 77 = .ok (.iload_n 2, 1) := by decide +kernel
theorem dX12_comes_78 : decode cX12_comes 78 = .ok (.iload_n 3, 1) := by decide +kernel
theorem dX12_comes_79 : decode cX12_comes 79 = .ok (.iload 5, 2) := by decide +kernel
theorem dX12_comes_81 : decode cX12_comes 81 = .ok (.invokevirtual 267, 3) := by decide +kernel
theorem dX12_sealOf_0 : decode cX12_sealOf 0 = .ok (.aload_n 0, 1) := by decide +kernel
theorem dX12_sealOf_1 : decode cX12_sealOf 1 = .ok (.getfield 66, 3) := by decide +kernel
theorem dX12_sealOf_4 : decode cX12_sealOf 4 = .ok (.iload_n 1, 1) := by decide +kernel
theorem dX12_sealOf_5 : decode cX12_sealOf 5 = .ok (.iaload, 1) := by decide +kernel
theorem dX12_sealOf_6 : decode cX12_sealOf 6 = .ok (.ifCond .ne 7, 3) := by decide +kernel
theorem dX12_sealOf_9 : decode cX12_sealOf 9 = .ok (.iconst 0, 1) := by decide +kernel
theorem dX12_sealOf_10 : decode cX12_sealOf 10 = .ok (.goto 22, 3) := by decide +kernel
theorem dX12_sealOf_13 : decode cX12_sealOf 13 = .ok (.iload_n 2, 1) := by decide +kernel
theorem dX12_sealOf_14 : decode cX12_sealOf 14 = .ok (.iconst 1, 1) := by decide +kernel
theorem dX12_sealOf_15 : decode cX12_sealOf 15 = .ok (.iadd, 1) := by decide +kernel
theorem dX12_sealOf_16 : decode cX12_sealOf 16 = .ok (.aload_n 0, 1) := by decide +kernel
theorem dX12_sealOf_17 : decode cX12_sealOf 17 = .ok (.getfield 66, 3) := by decide +kernel
theorem dX12_sealOf_20 : decode cX12_sealOf 20 = .ok (.iload_n 1, 1) := by decide +kernel
theorem dX12_sealOf_21 : decode cX12_sealOf 21 = .ok (.iaload, 1) := by decide +kernel
theorem dX12_sealOf_22 : decode cX12_sealOf 22 = .ok (.imul, 1) := by decide +kernel
theorem dX12_sealOf_23 : decode cX12_sealOf 23 = .ok (.bipush 31, 2) := by decide +kernel
theorem dX12_sealOf_25 : decode cX12_sealOf 25 = .ok (.iload_n 3, 1) := by decide +kernel
theorem dX12_sealOf_26 : decode cX12_sealOf 26 = .ok (.imul, 1) := by decide +kernel
theorem dX12_sealOf_27 : decode cX12_sealOf 27 = .ok (.iadd, 1) := by decide +kernel
theorem dX12_sealOf_28 : decode cX12_sealOf 28 = .ok (.sipush 997, 3) := by decide +kernel
theorem dX12_sealOf_31 : decode cX12_sealOf 31 = .ok (.irem, 1) := by decide +kernel
theorem dX12_sealOf_32 : decode cX12_sealOf 32 = .ok (.ireturn, 1) := by decide +kernel
set_option maxHeartbeats 4000000 in
set_option maxRecDepth 100000 in
theorem s_X12_sealOf {P : PP} {a0 : Nat} {a1 : Int32} {a2 : Int32} {a3 : Int32} (I : IM P a0) (ha1 : 0 ≤ a1.toInt ∧ a1.toInt ≤ 1) (hW : MW P a0) : CtrI yX12_sealOf cX12_sealOf 4 (some Jvm.ClassFile.FieldType.int) ({ frames := 1, cells := 0, slots := 0, locals := 64 } : Room) 0 0 P [.ref a0, .int a1, .int a2, .int a3] (fun r P2 => P = P2 ∧ (-996 ≤ r.toInt ∧ r.toInt ≤ 996)) := by
  refine enI (lv := [(0, .ref a0), (1, .int a1), (2, .int a2), (3, .int a3)]) (by decide) (Nat.le_of_ble_eq_true rfl) rfl (fun E D cy C Ci0 ret => ?_)
  have ha0 := I.2.1
  refine g_aload_n C dX12_sealOf_0 rfl 0 rfl ?_
  obtain ⟨b41759, e41760, h41761⟩ := I.fld (ha0) 17 13 3 rfl
  refine g_getR C fi_X12_66 rfl e41760 (ha0).1 (ha0).2 dX12_sealOf_1 ?_
  refine g_iload_n C dX12_sealOf_4 rfl 1 rfl ?_
  refine g_iald (j := (a1.toInt.toNat)) C h41761.1 h41761.2.1 (ix_in h41761.2.2 (by omega)) dX12_sealOf_5 ?_
  have u41763 := ti_rng (pI P b41759 (a1.toInt.toNat))
  refine b_if_ne C 13 dX12_sealOf_6 (by decide) (fun h41762 => ?_) (fun h41762 => ?_)
  · have h41762 : (pI P b41759 (a1.toInt.toNat)).toInt ≠ 0 := ti_ne h41762
    refine g_iload_n C dX12_sealOf_13 rfl 2 rfl ?_
    refine g_iconst (v := 1) C dX12_sealOf_14 (by decide) ?_
    refine a_iadd C dX12_sealOf_15 (fun z41764 => ?_)
    refine g_aload_n C dX12_sealOf_16 rfl 0 rfl ?_
    refine g_getR C fi_X12_66 rfl e41760 (ha0).1 (ha0).2 dX12_sealOf_17 ?_
    refine g_iload_n C dX12_sealOf_20 rfl 1 rfl ?_
    refine g_iald (j := (a1.toInt.toNat)) C h41761.1 h41761.2.1 (ix_in h41761.2.2 (by omega)) dX12_sealOf_21 ?_
    refine a_imul C dX12_sealOf_22 (fun z41766 => ?_)
    refine g_bipush (v := 31) C dX12_sealOf_23 (by decide) ?_
    refine g_iload_n C dX12_sealOf_25 rfl 3 rfl ?_
    refine a_imul C dX12_sealOf_26 (fun z41768 => ?_)
    refine a_iadd C dX12_sealOf_27 (fun z41770 => ?_)
    refine g_sipush (v := 997) C dX12_sealOf_28 (by decide) ?_
    refine s_irem C dX12_sealOf_31 (by show 0 < 997; omega) (fun z41772 h41773 => ?_)
    have h41773 : -997 < z41772.toInt ∧ z41772.toInt < 997 := h41773
    exact ret _ _ _ _ _ _ dX12_sealOf_32 rfl (by decide) (by decide) ⟨rfl, (by omega)⟩
  · have h41762 : (pI P b41759 (a1.toInt.toNat)).toInt = 0 := congrArg Int32.toInt h41762
    refine g_iconst (v := 0) C dX12_sealOf_9 (by decide) ?_
    refine g_goto C 32 dX12_sealOf_10 (by decide) ?_
    exact ret _ _ _ _ _ _ dX12_sealOf_32 rfl (by decide) (by decide) ⟨rfl, (by decide)⟩
theorem dX12_comes_84 : decode cX12_comes 84 = .ok (.invokevirtual 284, 3) := by decide +kernel
theorem dX12_lays_0 : decode cX12_lays 0 = .ok (.bipush 40, 2) := by decide +kernel
theorem dX12_lays_2 : decode cX12_lays 2 = .ok (.iload_n 1, 1) := by decide +kernel
theorem dX12_lays_3 : decode cX12_lays 3 = .ok (.imul, 1) := by decide +kernel
theorem dX12_lays_4 : decode cX12_lays 4 = .ok (.aload_n 0, 1) := by decide +kernel
theorem dX12_lays_5 : decode cX12_lays 5 = .ok (.getfield 69, 3) := by decide +kernel
theorem dX12_lays_8 : decode cX12_lays 8 = .ok (.iload_n 1, 1) := by decide +kernel
theorem dX12_lays_9 : decode cX12_lays 9 = .ok (.iaload, 1) := by decide +kernel
theorem dX12_lays_10 : decode cX12_lays 10 = .ok (.iadd, 1) := by decide +kernel
theorem dX12_lays_11 : decode cX12_lays 11 = .ok (.istore 7, 2) := by decide +kernel
theorem dX12_lays_13 : decode cX12_lays 13 = .ok (.aload_n 0, 1) := by decide +kernel
theorem dX12_lays_14 : decode cX12_lays 14 = .ok (.getfield 72, 3) := by decide +kernel
theorem dX12_lays_17 : decode cX12_lays 17 = .ok (.iload 7, 2) := by decide +kernel
theorem dX12_lays_19 : decode cX12_lays 19 = .ok (.iload_n 3, 1) := by decide +kernel
theorem dX12_lays_20 : decode cX12_lays 20 = .ok (.iastore, 1) := by decide +kernel
theorem dX12_lays_21 : decode cX12_lays 21 = .ok (.aload_n 0, 1) := by decide +kernel
theorem dX12_lays_22 : decode cX12_lays 22 = .ok (.getfield 75, 3) := by decide +kernel
theorem dX12_lays_25 : decode cX12_lays 25 = .ok (.iload 7, 2) := by decide +kernel
theorem dX12_lays_27 : decode cX12_lays 27 = .ok (.iload_n 2, 1) := by decide +kernel
theorem dX12_lays_28 : decode cX12_lays 28 = .ok (.iastore, 1) := by decide +kernel
theorem dX12_lays_29 : decode cX12_lays 29 = .ok (.aload_n 0, 1) := by decide +kernel
theorem dX12_lays_30 : decode cX12_lays 30 = .ok (.getfield 78, 3) := by decide +kernel
theorem dX12_lays_33 : decode cX12_lays 33 = .ok (.iload 7, 2) := by decide +kernel
theorem dX12_lays_35 : decode cX12_lays 35 = .ok (.iload 4, 2) := by decide +kernel
theorem dX12_lays_37 : decode cX12_lays 37 = .ok (.iastore, 1) := by decide +kernel
theorem dX12_lays_38 : decode cX12_lays 38 = .ok (.aload_n 0, 1) := by decide +kernel
theorem dX12_lays_39 : decode cX12_lays 39 = .ok (.getfield 81, 3) := by decide +kernel
theorem dX12_lays_42 : decode cX12_lays 42 = .ok (.iload 7, 2) := by decide +kernel
theorem dX12_lays_44 : decode cX12_lays 44 = .ok (.iload 5, 2) := by decide +kernel
theorem dX12_lays_46 : decode cX12_lays 46 = .ok (.iastore, 1) := by decide +kernel
theorem dX12_lays_47 : decode cX12_lays 47 = .ok (.aload_n 0, 1) := by decide +kernel
theorem dX12_lays_48 : decode cX12_lays 48 = .ok (.getfield 84, 3) := by decide +kernel
theorem dX12_lays_51 : decode cX12_lays 51 = .ok (.iload 7, 2) := by decide +kernel
theorem dX12_lays_53 : decode cX12_lays 53 = .ok (.iload 6, 2) := by decide +kernel
theorem dX12_lays_55 : decode cX12_lays 55 = .ok (.iastore, 1) := by decide +kernel
theorem dX12_lays_56 : decode cX12_lays 56 = .ok (.aload_n 0, 1) := by decide +kernel
theorem dX12_lays_57 : decode cX12_lays 57 = .ok (.getfield 69, 3) := by decide +kernel
theorem dX12_lays_60 : decode cX12_lays 60 = .ok (.iload_n 1, 1) := by decide +kernel
theorem dX12_lays_61 : decode cX12_lays 61 = .ok (.dup2, 1) := by decide +kernel
theorem dX12_lays_62 : decode cX12_lays 62 = .ok (.iaload, 1) := by decide +kernel
theorem dX12_lays_63 : decode cX12_lays 63 = .ok (.iconst 1, 1) := by decide +kernel
theorem dX12_lays_64 : decode cX12_lays 64 = .ok (.iadd, 1) := by decide +kernel
theorem dX12_lays_65 : decode cX12_lays 65 = .ok (.iastore, 1) := by decide +kernel
theorem dX12_lays_66 : decode cX12_lays 66 = .ok (.aload_n 0, 1) := by decide +kernel
theorem dX12_lays_67 : decode cX12_lays 67 = .ok (.getfield 69, 3) := by decide +kernel
theorem dX12_lays_70 : decode cX12_lays 70 = .ok (.iload_n 1, 1) := by decide +kernel
theorem dX12_lays_71 : decode cX12_lays 71 = .ok (.iaload, 1) := by decide +kernel
theorem dX12_lays_72 : decode cX12_lays 72 = .ok (.iconst 1, 1) := by decide +kernel
theorem dX12_lays_73 : decode cX12_lays 73 = .ok (.isub, 1) := by decide +kernel
theorem dX12_lays_74 : decode cX12_lays 74 = .ok (.ireturn, 1) := by decide +kernel
set_option maxHeartbeats 4000000 in
set_option maxRecDepth 100000 in
theorem s_X12_lays {P : PP} {a0 : Nat} {a1 : Int32} {a2 : Int32} {a3 : Int32} {a4 : Int32} {a5 : Int32} {a6 : Int32} (I : IM P a0) (ha1 : 0 ≤ a1.toInt ∧ a1.toInt ≤ 3) (ha2 : -1 ≤ a2.toInt ∧ a2.toInt ≤ 1) (hf0 : ∀ b, pR P a0 20 = some b → 0 ≤ (pI P b (a1.toInt.toNat)).toInt ∧ (pI P b (a1.toInt.toNat)).toInt ≤ 39) (hW : MW P a0) (hl : ∀ c, pR P a0 10 = some c → 0 ≤ a2.toInt → 0 < (pI P c (a2.toInt.toNat)).toInt) : CtrI yX12_lays cX12_lays 8 (some Jvm.ClassFile.FieldType.int) ({ frames := 1, cells := 0, slots := 0, locals := 64 } : Room) 0 0 P [.ref a0, .int a1, .int a2, .int a3, .int a4, .int a5, .int a6] (fun r P2 => IM P2 a0 ∧ EM [20, 21, 22, 23, 24, 25] a0 P P2 ∧ MW P2 a0 ∧ (∀ b, pR P a0 20 = some b → (pI P2 b (a1.toInt.toNat)).toInt = (pI P b (a1.toInt.toNat)).toInt + 1) ∧ (0 ≤ r.toInt ∧ r.toInt ≤ 39)) := by
  refine enI (lv := [(0, .ref a0), (1, .int a1), (2, .int a2), (3, .int a3), (4, .int a4), (5, .int a5), (6, .int a6)]) (by decide) (Nat.le_of_ble_eq_true rfl) rfl (fun E D cy C Ci0 ret => ?_)
  have ha0 := I.2.1
  obtain ⟨b41975, e41976, h41977⟩ := I.fld (ha0) 20 13 20 rfl
  have hf0 := hf0 b41975 e41976
  refine g_bipush (v := 40) C dX12_lays_0 (by decide) ?_
  refine g_iload_n C dX12_lays_2 rfl 1 rfl ?_
  refine s_imul C dX12_lays_3 (by show -2147483648 ≤ 40 * a1.toInt ∧ 40 * a1.toInt ≤ 2147483647; omega) (fun z41978 h41979 => ?_)
  have h41979 : z41978.toInt = 40 * a1.toInt := h41979
  refine g_aload_n C dX12_lays_4 rfl 0 rfl ?_
  refine g_getR C fi_X12_69 rfl e41976 (ha0).1 (ha0).2 dX12_lays_5 ?_
  refine g_iload_n C dX12_lays_8 rfl 1 rfl ?_
  refine g_iald (j := (a1.toInt.toNat)) C h41977.1 h41977.2.1 (ix_in h41977.2.2 (by omega)) dX12_lays_9 ?_
  refine s_iadd C dX12_lays_10 (by show -2147483648 ≤ z41978.toInt + (pI P b41975 (a1.toInt.toNat)).toInt ∧ z41978.toInt + (pI P b41975 (a1.toInt.toNat)).toInt ≤ 2147483647; omega) (fun z41980 h41981 => ?_)
  have h41981 : z41980.toInt = z41978.toInt + (pI P b41975 (a1.toInt.toNat)).toInt := h41981
  refine g_istore (lv' := [(7, .int z41980), (0, .ref a0), (1, .int a1), (2, .int a2), (3, .int a3), (4, .int a4), (5, .int a5), (6, .int a6)]) C dX12_lays_11 (by decide) rfl ?_
  refine g_aload_n C dX12_lays_13 rfl 1 rfl ?_
  obtain ⟨b41982, e41983, h41984⟩ := I.fld (ha0) 21 13 800 rfl
  refine g_getR C fi_X12_72 rfl e41983 (ha0).1 (ha0).2 dX12_lays_14 ?_
  refine g_iload C dX12_lays_17 0 rfl ?_
  refine g_iload_n C dX12_lays_19 rfl 4 rfl ?_
  refine g_iast (j := (z41980.toInt.toNat)) C h41984.1 h41984.2.1 (ix_in h41984.2.2 (by omega)) dX12_lays_20 ?_
  refine gqW (ks := [21]) (I.setA e41983 h41984 (by decide) (arOk.none rfl)) (EM.setA I e41983 rfl (by decide)) (fun Y41985 Iy41986 Xy41987 w41988  => ?_)
  have w41988 : (pI Y41985 b41982 (z41980.toInt.toNat)).toInt = a3.toInt := w41988
  have q41989 := Xy41987.keepA e41976 (by decide) rfl (a1.toInt.toNat)
  have W41990 := hW.keep I Xy41987 (by decide) (by decide) (by decide) (by decide)
  have Xz41991 : EM [20, 21, 22, 23, 24, 25] a0 P Y41985 := Xy41987.mono (by decide)
  have e41992 := Xy41987.ref ha0 (by decide) e41976
  have e41993 := Xy41987.ref ha0 (by decide) e41983
  have h41994 := Xy41987.at ha0
  have h41995 := Xy41987.ar h41977
  have h41996 := Xy41987.ar h41984
  refine g_aload_n C dX12_lays_21 rfl 1 rfl ?_
  obtain ⟨b41997, e41998, h41999⟩ := Iy41986.fld (h41994) 22 13 800 rfl
  refine g_getR C fi_X12_75 rfl e41998 (h41994).1 (h41994).2 dX12_lays_22 ?_
  refine g_iload C dX12_lays_25 0 rfl ?_
  refine g_iload_n C dX12_lays_27 rfl 3 rfl ?_
  refine g_iast (j := (z41980.toInt.toNat)) C h41999.1 h41999.2.1 (ix_in h41999.2.2 (by omega)) dX12_lays_28 ?_
  refine gqX (ks := [22]) (W := (fun Y9 => ML Y9 a0 (z41980.toInt.toNat))) (Iy41986.setA e41998 h41999 (by decide) (arOk.of rfl (by omega))) (EM.setA Iy41986 e41998 rfl (by decide)) (W41990.set22 Iy41986 e41998 (fun c9 f9 h9 => by have f8 := EM.refB Xz41991 ha0 f9; have q9 := Xz41991.keepA f8 (by decide) rfl (a2.toInt.toNat); have h8 := hl c9 f8 h9; omega)) (fun Y42000 Iy42001 Xy42002 w42003 W42004 => ?_)
  have w42003 : (pI Y42000 b41997 (z41980.toInt.toNat)).toInt = a2.toInt := w42003
  have q42005 := Xy42002.keepA e41992 (by decide) rfl (a1.toInt.toNat)
  have q42006 := Xy42002.keepA e41993 (by decide) rfl (z41980.toInt.toNat)
  have Xz42007 : EM [20, 21, 22, 23, 24, 25] a0 P Y42000 := EM.tr ha0 Xz41991 (Xy42002.mono (by decide))
  have e42008 := Xy42002.ref h41994 (by decide) e41992
  have e42009 := Xy42002.ref h41994 (by decide) e41993
  have e42010 := Xy42002.ref h41994 (by decide) e41998
  have h42011 := Xy42002.at h41994
  have h42012 := Xy42002.ar h41995
  have h42013 := Xy42002.ar h41996
  have h42014 := Xy42002.ar h41999
  refine g_aload_n C dX12_lays_29 rfl 1 rfl ?_
  obtain ⟨b42015, e42016, h42017⟩ := Iy42001.fld (h42011) 23 13 800 rfl
  refine g_getR C fi_X12_78 rfl e42016 (h42011).1 (h42011).2 dX12_lays_30 ?_
  refine g_iload C dX12_lays_33 0 rfl ?_
  refine g_iload C dX12_lays_35 5 rfl ?_
  refine g_iast (j := (z41980.toInt.toNat)) C h42017.1 h42017.2.1 (ix_in h42017.2.2 (by omega)) dX12_lays_37 ?_
  refine gqW (ks := [23]) (Iy42001.setA e42016 h42017 (by decide) (arOk.none rfl)) (EM.setA Iy42001 e42016 rfl (by decide)) (fun Y42018 Iy42019 Xy42020 w42021  => ?_)
  have w42021 : (pI Y42018 b42015 (z41980.toInt.toNat)).toInt = a4.toInt := w42021
  have q42022 := Xy42020.keepA e42008 (by decide) rfl (a1.toInt.toNat)
  have q42023 := Xy42020.keepA e42009 (by decide) rfl (z41980.toInt.toNat)
  have q42024 := Xy42020.keepA e42010 (by decide) rfl (z41980.toInt.toNat)
  have W42025 := W42004.keep Iy42001 Xy42020 (by decide) (by decide) (by decide) (by decide)
  have Xz42026 : EM [20, 21, 22, 23, 24, 25] a0 P Y42018 := EM.tr ha0 Xz42007 (Xy42020.mono (by decide))
  have e42027 := Xy42020.ref h42011 (by decide) e42008
  have e42028 := Xy42020.ref h42011 (by decide) e42009
  have e42029 := Xy42020.ref h42011 (by decide) e42010
  have e42030 := Xy42020.ref h42011 (by decide) e42016
  have h42031 := Xy42020.at h42011
  have h42032 := Xy42020.ar h42012
  have h42033 := Xy42020.ar h42013
  have h42034 := Xy42020.ar h42014
  have h42035 := Xy42020.ar h42017
  refine g_aload_n C dX12_lays_38 rfl 1 rfl ?_
  obtain ⟨b42036, e42037, h42038⟩ := Iy42019.fld (h42031) 24 13 800 rfl
  refine g_getR C fi_X12_81 rfl e42037 (h42031).1 (h42031).2 dX12_lays_39 ?_
  refine g_iload C dX12_lays_42 0 rfl ?_
  refine g_iload C dX12_lays_44 6 rfl ?_
  refine g_iast (j := (z41980.toInt.toNat)) C h42038.1 h42038.2.1 (ix_in h42038.2.2 (by omega)) dX12_lays_46 ?_
  refine gqW (ks := [24]) (Iy42019.setA e42037 h42038 (by decide) (arOk.none rfl)) (EM.setA Iy42019 e42037 rfl (by decide)) (fun Y42039 Iy42040 Xy42041 w42042  => ?_)
  have w42042 : (pI Y42039 b42036 (z41980.toInt.toNat)).toInt = a5.toInt := w42042
  have q42043 := Xy42041.keepA e42027 (by decide) rfl (a1.toInt.toNat)
  have q42044 := Xy42041.keepA e42028 (by decide) rfl (z41980.toInt.toNat)
  have q42045 := Xy42041.keepA e42029 (by decide) rfl (z41980.toInt.toNat)
  have q42046 := Xy42041.keepA e42030 (by decide) rfl (z41980.toInt.toNat)
  have W42047 := W42025.keep Iy42019 Xy42041 (by decide) (by decide) (by decide) (by decide)
  have Xz42048 : EM [20, 21, 22, 23, 24, 25] a0 P Y42039 := EM.tr ha0 Xz42026 (Xy42041.mono (by decide))
  have e42049 := Xy42041.ref h42031 (by decide) e42027
  have e42050 := Xy42041.ref h42031 (by decide) e42028
  have e42051 := Xy42041.ref h42031 (by decide) e42029
  have e42052 := Xy42041.ref h42031 (by decide) e42030
  have e42053 := Xy42041.ref h42031 (by decide) e42037
  have h42054 := Xy42041.at h42031
  have h42055 := Xy42041.ar h42032
  have h42056 := Xy42041.ar h42033
  have h42057 := Xy42041.ar h42034
  have h42058 := Xy42041.ar h42035
  have h42059 := Xy42041.ar h42038
  refine g_aload_n C dX12_lays_47 rfl 1 rfl ?_
  obtain ⟨b42060, e42061, h42062⟩ := Iy42040.fld (h42054) 25 13 800 rfl
  refine g_getR C fi_X12_84 rfl e42061 (h42054).1 (h42054).2 dX12_lays_48 ?_
  refine g_iload C dX12_lays_51 0 rfl ?_
  refine g_iload C dX12_lays_53 7 rfl ?_
  refine g_iast (j := (z41980.toInt.toNat)) C h42062.1 h42062.2.1 (ix_in h42062.2.2 (by omega)) dX12_lays_55 ?_
  refine gqW (ks := [25]) (Iy42040.setA e42061 h42062 (by decide) (arOk.none rfl)) (EM.setA Iy42040 e42061 rfl (by decide)) (fun Y42063 Iy42064 Xy42065 w42066  => ?_)
  have w42066 : (pI Y42063 b42060 (z41980.toInt.toNat)).toInt = a6.toInt := w42066
  have q42067 := Xy42065.keepA e42049 (by decide) rfl (a1.toInt.toNat)
  have q42068 := Xy42065.keepA e42050 (by decide) rfl (z41980.toInt.toNat)
  have q42069 := Xy42065.keepA e42051 (by decide) rfl (z41980.toInt.toNat)
  have q42070 := Xy42065.keepA e42052 (by decide) rfl (z41980.toInt.toNat)
  have q42071 := Xy42065.keepA e42053 (by decide) rfl (z41980.toInt.toNat)
  have W42072 := W42047.keep Iy42040 Xy42065 (by decide) (by decide) (by decide) (by decide)
  have Xz42073 : EM [20, 21, 22, 23, 24, 25] a0 P Y42063 := EM.tr ha0 Xz42048 (Xy42065.mono (by decide))
  have e42074 := Xy42065.ref h42054 (by decide) e42049
  have e42075 := Xy42065.ref h42054 (by decide) e42050
  have e42076 := Xy42065.ref h42054 (by decide) e42051
  have e42077 := Xy42065.ref h42054 (by decide) e42052
  have e42078 := Xy42065.ref h42054 (by decide) e42053
  have e42079 := Xy42065.ref h42054 (by decide) e42061
  have h42080 := Xy42065.at h42054
  have h42081 := Xy42065.ar h42055
  have h42082 := Xy42065.ar h42056
  have h42083 := Xy42065.ar h42057
  have h42084 := Xy42065.ar h42058
  have h42085 := Xy42065.ar h42059
  have h42086 := Xy42065.ar h42062
  refine g_aload_n C dX12_lays_56 rfl 1 rfl ?_
  refine g_getR C fi_X12_69 rfl e42074 (h42080).1 (h42080).2 dX12_lays_57 ?_
  refine g_iload_n C dX12_lays_60 rfl 2 rfl ?_
  refine g_dup2_11 C dX12_lays_61 rfl rfl ?_
  refine g_iald (j := (a1.toInt.toNat)) C h42081.1 h42081.2.1 (ix_in h42081.2.2 (by omega)) dX12_lays_62 ?_
  refine g_iconst (v := 1) C dX12_lays_63 (by decide) ?_
  refine s_iadd C dX12_lays_64 (by show -2147483648 ≤ (pI Y42063 b41975 (a1.toInt.toNat)).toInt + 1 ∧ (pI Y42063 b41975 (a1.toInt.toNat)).toInt + 1 ≤ 2147483647; omega) (fun z42087 h42088 => ?_)
  have h42088 : z42087.toInt = (pI Y42063 b41975 (a1.toInt.toNat)).toInt + 1 := h42088
  refine g_iast (j := (a1.toInt.toNat)) C h42081.1 h42081.2.1 (ix_in h42081.2.2 (by omega)) dX12_lays_65 ?_
  refine gqX (ks := [20]) (W := (fun Y9 => MW Y9 a0)) (Iy42064.setA e42074 h42081 (by decide) (arOk.of rfl (by omega))) (EM.setA Iy42064 e42074 rfl (by decide)) (W42072.grow Iy42064 e42074 (by omega) (by omega)) (fun Y42089 Iy42090 Xy42091 w42092 W42093 => ?_)
  have w42092 : (pI Y42089 b41975 (a1.toInt.toNat)).toInt = z42087.toInt := w42092
  have q42094 := Xy42091.keepA e42075 (by decide) rfl (z41980.toInt.toNat)
  have q42095 := Xy42091.keepA e42076 (by decide) rfl (z41980.toInt.toNat)
  have q42096 := Xy42091.keepA e42077 (by decide) rfl (z41980.toInt.toNat)
  have q42097 := Xy42091.keepA e42078 (by decide) rfl (z41980.toInt.toNat)
  have q42098 := Xy42091.keepA e42079 (by decide) rfl (z41980.toInt.toNat)
  have Xz42099 : EM [20, 21, 22, 23, 24, 25] a0 P Y42089 := EM.tr ha0 Xz42073 (Xy42091.mono (by decide))
  have e42100 := Xy42091.ref h42080 (by decide) e42074
  have e42101 := Xy42091.ref h42080 (by decide) e42075
  have e42102 := Xy42091.ref h42080 (by decide) e42076
  have e42103 := Xy42091.ref h42080 (by decide) e42077
  have e42104 := Xy42091.ref h42080 (by decide) e42078
  have e42105 := Xy42091.ref h42080 (by decide) e42079
  have h42106 := Xy42091.at h42080
  have h42107 := Xy42091.ar h42081
  have h42108 := Xy42091.ar h42082
  have h42109 := Xy42091.ar h42083
  have h42110 := Xy42091.ar h42084
  have h42111 := Xy42091.ar h42085
  have h42112 := Xy42091.ar h42086
  refine g_aload_n C dX12_lays_66 rfl 1 rfl ?_
  refine g_getR C fi_X12_69 rfl e42100 (h42106).1 (h42106).2 dX12_lays_67 ?_
  refine g_iload_n C dX12_lays_70 rfl 2 rfl ?_
  refine g_iald (j := (a1.toInt.toNat)) C h42107.1 h42107.2.1 (ix_in h42107.2.2 (by omega)) dX12_lays_71 ?_
  refine g_iconst (v := 1) C dX12_lays_72 (by decide) ?_
  refine s_isub C dX12_lays_73 (by show -2147483648 ≤ (pI Y42089 b41975 (a1.toInt.toNat)).toInt - 1 ∧ (pI Y42089 b41975 (a1.toInt.toNat)).toInt - 1 ≤ 2147483647; omega) (fun z42113 h42114 => ?_)
  have h42114 : z42113.toInt = (pI Y42089 b41975 (a1.toInt.toNat)).toInt - 1 := h42114
  exact ret _ _ _ _ _ _ dX12_lays_74 rfl (by decide) (by decide) ⟨Iy42090, Xz42099, W42093, (fun b9 e9 => by have e8 := EM.ref Xz42099 ha0 (by decide) e9; rw [e42100] at e8; cases e8; show (pI Y42089 b41975 (a1.toInt.toNat)).toInt = (pI P b41975 (a1.toInt.toNat)).toInt + 1; omega), (by omega)⟩
theorem dX12_comes_48 : decode cX12_comes 48 = .ok (.iconst (-1), 1) := by decide +kernel
theorem dX12_comes_49 : decode cX12_comes 49 = .ok (.ireturn, 1) := by decide +kernel
theorem dX12_comes_87 : decode cX12_comes 87 = .ok (.ireturn, 1) := by decide +kernel
set_option maxHeartbeats 4000000 in
set_option maxRecDepth 100000 in
theorem s_X12_comes {P : PP} {a0 : Nat} {a1 : Int32} {a2 : Int32} {a3 : Int32} {a4 : Int32} (I : IM P a0) (hW : MW P a0) : CtrI yX12_comes cX12_comes 6 (some Jvm.ClassFile.FieldType.int) ({ frames := 4, cells := 0, slots := 0, locals := 256 } : Room) 0 0 P [.ref a0, .int a1, .int a2, .int a3, .int a4] (fun r P2 => IM P2 a0 ∧ EM [0, 20, 21, 22, 23, 24, 25] a0 P P2 ∧ MW P2 a0 ∧ (-1 ≤ r.toInt ∧ r.toInt ≤ 39)) := by
  refine enI (lv := [(0, .ref a0), (1, .int a1), (2, .int a2), (3, .int a3), (4, .int a4)]) (by decide) (Nat.le_of_ble_eq_true rfl) rfl (fun E D cy C Ci0 ret => ?_)
  have ha0 := I.2.1
  have J48 : ∀ (P48 : PP), (IM P48 a0) → (EM [0, 20, 21, 22, 23, 24, 25] a0 P P48) → (MW P48 a0) → (0 ≤ (pI P48 a0 0).toInt ∧ (pI P48 a0 0).toInt ≤ 0) → G E ({ frames := 4, cells := 0, slots := 0, locals := 256 } : Room) D cy 6 P48 0 0 48 [] [] := by
    intro P48 I48 X48 W48 hq48_0
    have h42192 := X48.at ha0
    refine g_iconst (v := (-1)) C dX12_comes_48 (by decide) ?_
    exact ret _ _ _ _ _ _ dX12_comes_49 rfl (by decide) (by decide) ⟨I48, X48, W48, (by decide)⟩
  refine g_aload_n C dX12_comes_0 rfl 0 rfl ?_
  refine g_iconst (v := 0) C dX12_comes_1 (by decide) ?_
  refine g_putI C fi_X12_1 rfl (ha0).1 (ha0).2 dX12_comes_2 ?_
  refine gqW (ks := [0]) (I.setI (rgOk.of rfl (by decide))) (EM.setI I (by decide)) (fun Y42193 Iy42194 Xy42195 w42196  => ?_)
  have w42196 : (pI Y42193 a0 0).toInt = 0 := w42196
  have W42197 := hW.keep I Xy42195 (by decide) (by decide) (by decide) (by decide)
  have Xz42198 : EM [0, 20, 21, 22, 23, 24, 25] a0 P Y42193 := Xy42195.mono (by decide)
  have h42199 := Xy42195.at ha0
  refine g_iload_n C dX12_comes_5 rfl 1 rfl ?_
  refine g_callSI (b := 0) (ci := 0) (rest := []) C ms_X12_278 [.int a1] (s_X12_isQuarter Iy42194.1) rfl rfl (by decide) (Nat.le_of_ble_eq_true rfl) (by decide) dX12_comes_6 (fun r42200 Y42201 h42202 => ?_)
  obtain ⟨rfl, h42202⟩ := h42202
  obtain ⟨h42202, hi42203⟩ := h42202
  have hi42203 : r42200.toInt = 0 ∨ (((0 : Int) ≤ a1.toInt ∧ a1.toInt ≤ (3 : Int))) := hi42203
  have h42202 : 0 ≤ r42200.toInt ∧ r42200.toInt ≤ 1 := h42202
  refine b_if_eq C 48 dX12_comes_9 (by decide) (fun h42204 => ?_) (fun h42204 => ?_)
  · have h42204 : r42200.toInt = 0 := congrArg Int32.toInt h42204
    clear hi42203
    refine g_lv (lv' := []) [] rfl ?_
    exact J48 Y42193 Iy42194 Xz42198 W42197 (by omega)
  · have h42204 : r42200.toInt ≠ 0 := ti_ne h42204
    replace hi42203 := hi42203.resolve_left (by omega)
    refine g_aload_n C dX12_comes_12 rfl 0 rfl ?_
    refine g_iload_n C dX12_comes_13 rfl 2 rfl ?_
    refine g_callVI (rest := []) C mv_X12_192 [.int a2] (s_X12_isBook Iy42194 W42197) (h42199).1 (h42199).2 rfl rfl (by decide) (Nat.le_of_ble_eq_true rfl) (by decide) dX12_comes_14 (fun r42205 Y42206 h42207 => ?_)
    obtain ⟨rfl, h42207⟩ := h42207
    obtain ⟨h42207, hi42208, hi42209⟩ := h42207
    have hi42208 : r42205.toInt = 0 ∨ (((0 : Int) ≤ a2.toInt ∧ a2.toInt ≤ (1 : Int))) := hi42208
    have h42207 : 0 ≤ r42205.toInt ∧ r42205.toInt ≤ 1 := h42207
    refine b_if_eq C 48 dX12_comes_17 (by decide) (fun h42210 => ?_) (fun h42210 => ?_)
    · have h42210 : r42205.toInt = 0 := congrArg Int32.toInt h42210
      clear hi42208
      refine g_lv (lv' := []) [] rfl ?_
      exact J48 Y42193 Iy42194 Xz42198 W42197 (by omega)
    · have h42210 : r42205.toInt ≠ 0 := ti_ne h42210
      replace hi42208 := hi42208.resolve_left (by omega)
      obtain ⟨b42211, e42212, h42213⟩ := Iy42194.fld (h42199) 10 13 2 rfl
      have hi42209 := (hi42209.resolve_left (by omega)) b42211 e42212
      have hi42209 : 0 < (pI Y42193 b42211 (a2.toInt.toNat)).toInt := hi42209
      have h42214 := Iy42194.arr e42212 rfl (a2.toInt.toNat)
      refine g_iload_n C dX12_comes_20 rfl 3 rfl ?_
      refine g_callSI (b := 0) (ci := 0) (rest := []) C ms_X12_258 [.int a3] (s_X12_isNumber Iy42194.1) rfl rfl (by decide) (Nat.le_of_ble_eq_true rfl) (by decide) dX12_comes_21 (fun r42215 Y42216 h42217 => ?_)
      obtain ⟨rfl, h42217⟩ := h42217
      obtain ⟨h42217, hi42218⟩ := h42217
      have hi42218 : r42215.toInt = 0 ∨ (((0 : Int) ≤ a3.toInt ∧ a3.toInt ≤ (9999 : Int))) := hi42218
      have h42217 : 0 ≤ r42215.toInt ∧ r42215.toInt ≤ 1 := h42217
      refine b_if_eq C 48 dX12_comes_24 (by decide) (fun h42219 => ?_) (fun h42219 => ?_)
      · have h42219 : r42215.toInt = 0 := congrArg Int32.toInt h42219
        clear hi42218
        refine g_lv (lv' := []) [] rfl ?_
        exact J48 Y42193 Iy42194 Xz42198 W42197 (by omega)
      · have h42219 : r42215.toInt ≠ 0 := ti_ne h42219
        replace hi42218 := hi42218.resolve_left (by omega)
        refine g_iload C dX12_comes_27 4 rfl ?_
        refine g_iconst (v := 1) C dX12_comes_29 (by decide) ?_
        refine g_iconst (v := 3) C dX12_comes_30 (by decide) ?_
        refine g_callSI (b := 0) (ci := 0) (rest := []) C ms_X12_178 [.int a4, .int 1, .int 3] (s_X12_within Iy42194.1) rfl rfl (by decide) (Nat.le_of_ble_eq_true rfl) (by decide) dX12_comes_31 (fun r42220 Y42221 h42222 => ?_)
        obtain ⟨rfl, h42222⟩ := h42222
        obtain ⟨h42222, hi42223⟩ := h42222
        have hi42223 : r42220.toInt = 0 ∨ (1 ≤ a4.toInt ∧ a4.toInt ≤ 3) := hi42223
        have h42222 : 0 ≤ r42220.toInt ∧ r42220.toInt ≤ 1 := h42222
        refine b_if_eq C 48 dX12_comes_34 (by decide) (fun h42224 => ?_) (fun h42224 => ?_)
        · have h42224 : r42220.toInt = 0 := congrArg Int32.toInt h42224
          clear hi42223
          refine g_lv (lv' := []) [] rfl ?_
          exact J48 Y42193 Iy42194 Xz42198 W42197 (by omega)
        · have h42224 : r42220.toInt ≠ 0 := ti_ne h42224
          replace hi42223 := hi42223.resolve_left (by omega)
          refine g_aload_n C dX12_comes_37 rfl 0 rfl ?_
          obtain ⟨b42225, e42226, h42227⟩ := Iy42194.fld (h42199) 20 13 20 rfl
          refine g_getR C fi_X12_69 rfl e42226 (h42199).1 (h42199).2 dX12_comes_38 ?_
          refine g_iload_n C dX12_comes_41 rfl 1 rfl ?_
          refine g_iald (j := (a1.toInt.toNat)) C h42227.1 h42227.2.1 (ix_in h42227.2.2 (by omega)) dX12_comes_42 ?_
          have h42228 := Iy42194.arr e42226 rfl (a1.toInt.toNat)
          refine g_bipush (v := 40) C dX12_comes_43 (by decide) ?_
          refine b_icmp_ne C 50 dX12_comes_45 (by decide) (fun h42229 => ?_) (fun h42229 => ?_)
          · have h42229 : (pI Y42193 b42225 (a1.toInt.toNat)).toInt ≠ 40 := ti_ne h42229
            refine g_aload_n C dX12_comes_50 rfl 0 rfl ?_
            refine g_iload_n C dX12_comes_51 rfl 2 rfl ?_
            refine g_aload_n C dX12_comes_52 rfl 0 rfl ?_
            refine g_iload_n C dX12_comes_53 rfl 2 rfl ?_
            refine g_iload_n C dX12_comes_54 rfl 3 rfl ?_
            refine g_callVI (rest := [.int a2, .ref a0]) C mv_X12_261 [.int a2, .int a3] (s_X12_setOf Iy42194 (by omega) (fun b9 e9 => by rw [e42212] at e9; cases e9; show 1 ≤ (pI Y42193 b42211 (a2.toInt.toNat)).toInt ∧ (pI Y42193 b42211 (a2.toInt.toNat)).toInt ≤ 16; omega) W42197) (h42199).1 (h42199).2 rfl rfl (by decide) (Nat.le_of_ble_eq_true rfl) (by decide) dX12_comes_55 (fun r42230 Y42231 h42232 => ?_)
            obtain ⟨Iy42233, Xy42234, W42235, h42232⟩ := h42232
            have q42236 := Xy42234.keepF 0 (by decide)
            have q42237 := Xy42234.keepA e42212 (by decide) rfl (a2.toInt.toNat)
            have q42238 := Xy42234.keepA e42226 (by decide) rfl (a1.toInt.toNat)
            have Xz42239 : EM [0, 20, 21, 22, 23, 24, 25] a0 P Y42231 := EM.tr ha0 Xz42198 (Xy42234.mono (by decide))
            have e42240 := Xy42234.ref h42199 (by decide) e42212
            have e42241 := Xy42234.ref h42199 (by decide) e42226
            have h42242 := Xy42234.at h42199
            have h42243 := Xy42234.ar h42213
            have h42244 := Xy42234.ar h42227
            have h42232 : True := h42232
            refine g_callVI (rest := []) C mv_X12_223 [.int a2, .int r42230] (s_X12_sumOf Iy42233 (by omega) W42235) (h42242).1 (h42242).2 rfl rfl (by decide) (Nat.le_of_ble_eq_true rfl) (by decide) dX12_comes_58 (fun r42245 Y42246 h42247 => ?_)
            obtain ⟨rfl, h42247⟩ := h42247
            have h42247 : True := h42247
            refine g_istore (lv' := [(5, .int r42245), (0, .ref a0), (1, .int a1), (2, .int a2), (3, .int a3), (4, .int a4)]) C dX12_comes_61 (by decide) rfl ?_
            refine g_aload_n C dX12_comes_63 rfl 1 rfl ?_
            refine g_iload_n C dX12_comes_64 rfl 2 rfl ?_
            refine g_iload_n C dX12_comes_65 rfl 3 rfl ?_
            refine g_iload_n C dX12_comes_66 rfl 4 rfl ?_
            refine g_iload C dX12_comes_67 0 rfl ?_
            refine g_iload C dX12_comes_69 5 rfl ?_
            refine g_callSI (b := 0) (ci := 0) (rest := [.int a3, .int a2, .int a1, .ref a0]) C ms_X12_281 [.int r42245, .int a4] (s_X12_cutTo Iy42233.1) rfl rfl (by decide) (Nat.le_of_ble_eq_true rfl) (by decide) dX12_comes_71 (fun r42248 Y42249 h42250 => ?_)
            obtain ⟨rfl, h42250⟩ := h42250
            have h42250 : 0 ≤ r42248.toInt ∧ r42248.toInt ≤ 65535 := h42250
            refine g_iload C dX12_comes_74 5 rfl ?_
            refine g_aload_n C dX12_comes_76 rfl 1 rfl ?_
            refine g_iload_n C dX12_comes_77 rfl 3 rfl ?_
            refine g_iload_n C dX12_comes_78 rfl 4 rfl ?_
            refine g_iload C dX12_comes_79 0 rfl ?_
            refine g_callVI (rest := [.int a4, .int r42248, .int a3, .int a2, .int a1, .ref a0]) C mv_X12_267 [.int a2, .int a3, .int r42245] (s_X12_sealOf Iy42233 (by omega) W42235) (h42242).1 (h42242).2 rfl rfl (by decide) (Nat.le_of_ble_eq_true rfl) (by decide) dX12_comes_81 (fun r42251 Y42252 h42253 => ?_)
            obtain ⟨rfl, h42253⟩ := h42253
            have h42253 : -996 ≤ r42251.toInt ∧ r42251.toInt ≤ 996 := h42253
            refine g_callVI (rest := []) C mv_X12_284 [.int a1, .int a2, .int a3, .int r42248, .int a4, .int r42251] (s_X12_lays Iy42233 (by omega) (by omega) (fun b9 e9 => by rw [e42241] at e9; cases e9; show 0 ≤ (pI Y42231 b42225 (a1.toInt.toNat)).toInt ∧ (pI Y42231 b42225 (a1.toInt.toNat)).toInt ≤ 39; omega) W42235 (fun c9 f9 _ => by rw [e42240] at f9; cases f9; show 0 < (pI Y42231 b42211 (a2.toInt.toNat)).toInt; omega)) (h42242).1 (h42242).2 rfl rfl (by decide) (Nat.le_of_ble_eq_true rfl) (by decide) dX12_comes_84 (fun r42254 Y42255 h42256 => ?_)
            obtain ⟨Iy42257, Xy42258, W42259, p42260, h42256⟩ := h42256
            have p42260 := p42260 b42225 e42241
            have p42260 : (pI Y42255 b42225 (a1.toInt.toNat)).toInt = (pI Y42231 b42225 (a1.toInt.toNat)).toInt + 1 := p42260
            have q42261 := Xy42258.keepF 0 (by decide)
            have q42262 := Xy42258.keepA e42240 (by decide) rfl (a2.toInt.toNat)
            have Xz42263 : EM [0, 20, 21, 22, 23, 24, 25] a0 P Y42255 := EM.tr ha0 Xz42239 (Xy42258.mono (by decide))
            have e42264 := Xy42258.ref h42242 (by decide) e42240
            have e42265 := Xy42258.ref h42242 (by decide) e42241
            have h42266 := Xy42258.at h42242
            have h42267 := Xy42258.ar h42243
            have h42268 := Xy42258.ar h42244
            have h42256 : 0 ≤ r42254.toInt ∧ r42254.toInt ≤ 39 := h42256
            exact ret _ _ _ _ _ _ dX12_comes_87 rfl (by decide) (by decide) ⟨Iy42257, Xz42263, W42259, (by omega)⟩
          · have h42229 : (pI Y42193 b42225 (a1.toInt.toNat)).toInt = 40 := congrArg Int32.toInt h42229
            refine g_lv (lv' := []) [] rfl ?_
            exact J48 Y42193 Iy42194 Xz42198 W42197 (by omega)
theorem dX12_copies_0 : decode cX12_copies 0 = .ok (.aload_n 0, 1) := by decide +kernel
theorem dX12_copies_1 : decode cX12_copies 1 = .ok (.getfield 69, 3) := by decide +kernel
theorem dX12_copies_4 : decode cX12_copies 4 = .ok (.iload_n 2, 1) := by decide +kernel
theorem dX12_copies_5 : decode cX12_copies 5 = .ok (.aload_n 0, 1) := by decide +kernel
theorem dX12_copies_6 : decode cX12_copies 6 = .ok (.getfield 69, 3) := by decide +kernel
theorem dX12_copies_9 : decode cX12_copies 9 = .ok (.iload_n 1, 1) := by decide +kernel
theorem dX12_copies_10 : decode cX12_copies 10 = .ok (.iaload, 1) := by decide +kernel
theorem dX12_copies_11 : decode cX12_copies 11 = .ok (.iastore, 1) := by decide +kernel
theorem dX12_copies_12 : decode cX12_copies 12 = .ok (.iconst 0, 1) := by decide +kernel
theorem dX12_copies_13 : decode cX12_copies 13 = .ok (.istore_n 3, 1) := by decide +kernel
theorem dX12_copies_14 : decode cX12_copies 14 = .ok (.iload_n 3, 1) := by decide +kernel
theorem dX12_copies_15 : decode cX12_copies 15 = .ok (.aload_n 0, 1) := by decide +kernel
theorem dX12_copies_16 : decode cX12_copies 16 = .ok (.getfield 69, 3) := by decide +kernel
theorem dX12_copies_19 : decode cX12_copies 19 = .ok (.iload_n 1, 1) := by decide +kernel
theorem dX12_copies_20 : decode cX12_copies 20 = .ok (.iaload, 1) := by decide +kernel
theorem dX12_copies_21 : decode cX12_copies 21 = .ok (.if_icmp .ge 25, 3) := by decide +kernel
theorem dX12_copies_24 : decode cX12_copies 24 = .ok (.aload_n 0, 1) := by decide +kernel
theorem dX12_copies_25 : decode cX12_copies 25 = .ok (.bipush 40, 2) := by decide +kernel
theorem dX12_copies_27 : decode cX12_copies 27 = .ok (.iload_n 1, 1) := by decide +kernel
theorem dX12_copies_28 : decode cX12_copies 28 = .ok (.imul, 1) := by decide +kernel
theorem dX12_copies_29 : decode cX12_copies 29 = .ok (.iload_n 3, 1) := by decide +kernel
theorem dX12_copies_30 : decode cX12_copies 30 = .ok (.iadd, 1) := by decide +kernel
theorem dX12_copies_31 : decode cX12_copies 31 = .ok (.bipush 40, 2) := by decide +kernel
theorem dX12_copies_33 : decode cX12_copies 33 = .ok (.iload_n 2, 1) := by decide +kernel
theorem dX12_copies_34 : decode cX12_copies 34 = .ok (.imul, 1) := by decide +kernel
theorem dX12_copies_35 : decode cX12_copies 35 = .ok (.iload_n 3, 1) := by decide +kernel
theorem dX12_copies_36 : decode cX12_copies 36 = .ok (.iadd, 1) := by decide +kernel
theorem dX12_copies_37 : decode cX12_copies 37 = .ok (.invokevirtual 274, 3) := by decide +kernel
theorem dX12_copies_40 : decode cX12_copies 40 = .ok (.iinc 3 1, 3) := by decide +kernel
theorem dX12_copies_43 : decode cX12_copies 43 = .ok (.goto (-29), 3) := by decide +kernel
theorem dX12_copies_46 : decode cX12_copies 46 = .ok (.return_, 1) := by decide +kernel
set_option maxHeartbeats 4000000 in
set_option maxRecDepth 100000 in
theorem s_X12_copies {P : PP} {a0 : Nat} {a1 : Int32} {a2 : Int32} (I : IM P a0) (ha1 : 0 ≤ a1.toInt ∧ a1.toInt ≤ 19) (ha2 : 0 ≤ a2.toInt ∧ a2.toInt ≤ 19) (hW : MW P a0) (hft : a1.toInt ≠ a2.toInt) : CtrV yX12_copies cX12_copies 4 none ({ frames := 2, cells := 0, slots := 0, locals := 128 } : Room) 0 0 P [.ref a0, .int a1, .int a2] (fun P2 => IM P2 a0 ∧ EM [20, 21, 22, 23, 24, 25] a0 P P2 ∧ MW P2 a0) := by
  refine enV (lv := [(0, .ref a0), (1, .int a1), (2, .int a2)]) (by decide) (Nat.le_of_ble_eq_true rfl) rfl (fun E D cy C Ci0 ret => ?_)
  have ha0 := I.2.1
  have J14 : ∀ (n14 : Nat) (P14 : PP) (v14_3 : Int32), (40 - v14_3.toInt).toNat < n14 → (IM P14 a0) → (EM [20, 21, 22, 23, 24, 25] a0 P P14) → (MQy P14 a0 (szf P a0) (a2.toInt.toNat) (a1.toInt.toNat)) → (0 ≤ v14_3.toInt ∧ v14_3.toInt ≤ 40) → (TK P14 a0 (a2.toInt.toNat) v14_3.toInt) → G E ({ frames := 2, cells := 0, slots := 0, locals := 128 } : Room) D cy 4 P14 0 0 14 [(0, .ref a0), (1, .int a1), (2, .int a2), (3, .int v14_3)] [] := by
    intro n14
    induction n14 with
    | zero => intro P14 v14_3 hm14 I14 X14 W14 hv14_3 rel14_0; omega
    | succ n14 ih14 =>
      intro P14 v14_3 hm14 I14 X14 W14 hv14_3 rel14_0
      have h42732 := X14.at ha0
      refine g_iload_n C dX12_copies_14 rfl 3 rfl ?_
      refine g_aload_n C dX12_copies_15 rfl 0 rfl ?_
      obtain ⟨b42733, e42734, h42735⟩ := I14.fld (h42732) 20 13 20 rfl
      refine g_getR C fi_X12_69 rfl e42734 (h42732).1 (h42732).2 dX12_copies_16 ?_
      refine g_iload_n C dX12_copies_19 rfl 1 rfl ?_
      refine g_iald (j := (a1.toInt.toNat)) C h42735.1 h42735.2.1 (ix_in h42735.2.2 (by omega)) dX12_copies_20 ?_
      have h42736 := I14.arr e42734 rfl (a1.toInt.toNat)
      refine b_icmp_ge C 46 dX12_copies_21 (by decide) (fun h42737 => ?_) (fun h42737 => ?_)
      · have h42737 : (pI P14 b42733 (a1.toInt.toNat)).toInt ≤ v14_3.toInt := h42737
        have W42738 := W14.fill rel14_0 e42734 (by omega)
        exact ret _ _ _ _ _ dX12_copies_46 (by decide) (by decide) ⟨I14, X14, W42738⟩
      · have h42737 : v14_3.toInt < (pI P14 b42733 (a1.toInt.toNat)).toInt := h42737
        refine g_aload_n C dX12_copies_24 rfl 0 rfl ?_
        refine g_bipush (v := 40) C dX12_copies_25 (by decide) ?_
        refine g_iload_n C dX12_copies_27 rfl 1 rfl ?_
        refine s_imul C dX12_copies_28 (by show -2147483648 ≤ 40 * a1.toInt ∧ 40 * a1.toInt ≤ 2147483647; omega) (fun z42739 h42740 => ?_)
        have h42740 : z42739.toInt = 40 * a1.toInt := h42740
        refine g_iload_n C dX12_copies_29 rfl 3 rfl ?_
        refine s_iadd C dX12_copies_30 (by show -2147483648 ≤ z42739.toInt + v14_3.toInt ∧ z42739.toInt + v14_3.toInt ≤ 2147483647; omega) (fun z42741 h42742 => ?_)
        have h42742 : z42741.toInt = z42739.toInt + v14_3.toInt := h42742
        refine g_bipush (v := 40) C dX12_copies_31 (by decide) ?_
        refine g_iload_n C dX12_copies_33 rfl 2 rfl ?_
        refine s_imul C dX12_copies_34 (by show -2147483648 ≤ 40 * a2.toInt ∧ 40 * a2.toInt ≤ 2147483647; omega) (fun z42743 h42744 => ?_)
        have h42744 : z42743.toInt = 40 * a2.toInt := h42744
        refine g_iload_n C dX12_copies_35 rfl 3 rfl ?_
        refine s_iadd C dX12_copies_36 (by show -2147483648 ≤ z42743.toInt + v14_3.toInt ∧ z42743.toInt + v14_3.toInt ≤ 2147483647; omega) (fun z42745 h42746 => ?_)
        have h42746 : z42745.toInt = z42743.toInt + v14_3.toInt := h42746
        refine g_callVV (rest := []) C mv_X12_274 [.int z42741, .int z42745] (s_X12_moves I14 (by omega) (by omega) (by have q9 := W14.1.2.2 (a1.toInt.toNat) (by omega) (by omega); rw [szf_at e42734] at q9; have q8 := W14.1.2.1 (a1.toInt.toNat) (v14_3.toInt.toNat) (by omega) (by omega) (by omega); rw [show z42741.toInt.toNat = 40 * a1.toInt.toNat + (v14_3.toInt.toNat) by omega]; exact q8)) (h42732).1 (h42732).2 rfl rfl (by decide) (Nat.le_of_ble_eq_true rfl) (by decide) dX12_copies_37 (fun Y42748 h42749 => ?_)
        obtain ⟨Iy42750, Xy42751, W42752⟩ := h42749
        have q42753 := Xy42751.keepA e42734 (by decide) rfl (a1.toInt.toNat)
        have Xz42754 : EM [20, 21, 22, 23, 24, 25] a0 P Y42748 := EM.tr ha0 X14 (Xy42751.mono (by decide))
        have e42755 := Xy42751.ref h42732 (by decide) e42734
        have h42756 := Xy42751.at h42732
        have h42757 := Xy42751.ar h42735
        have W42758 := W14.mv I14 Xy42751 (by decide) (by decide) (by decide) W42752
        have tk42759 : TK Y42748 a0 (a2.toInt.toNat) (v14_3.toInt + 1) := TK.mv rel14_0 W42752 rfl (by omega) (by omega)
        refine s_iinc (lv0 := [(0, .ref a0), (1, .int a1), (2, .int a2)]) (m := 1) C dX12_copies_40 3 rfl (by decide) rfl (by decide) (by omega) (fun z42760 h42761 => ?_)
        have h42761 : z42760.toInt = v14_3.toInt + 1 := h42761
        refine g_goto C 14 dX12_copies_43 (by decide) ?_
        refine g_lv (lv' := [(0, .ref a0), (1, .int a1), (2, .int a2), (3, .int z42760)]) [1, 2, 3, 0] rfl ?_
        exact ih14 Y42748 z42760 (by omega) Iy42750 Xz42754 W42758 (by omega) (by show TK Y42748 a0 (a2.toInt.toNat) z42760.toInt; exact TK.mono tk42759 (by omega))
  refine g_aload_n C dX12_copies_0 rfl 0 rfl ?_
  obtain ⟨b42762, e42763, h42764⟩ := I.fld (ha0) 20 13 20 rfl
  refine g_getR C fi_X12_69 rfl e42763 (ha0).1 (ha0).2 dX12_copies_1 ?_
  refine g_iload_n C dX12_copies_4 rfl 2 rfl ?_
  refine g_aload_n C dX12_copies_5 rfl 0 rfl ?_
  refine g_getR C fi_X12_69 rfl e42763 (ha0).1 (ha0).2 dX12_copies_6 ?_
  refine g_iload_n C dX12_copies_9 rfl 1 rfl ?_
  refine g_iald (j := (a1.toInt.toNat)) C h42764.1 h42764.2.1 (ix_in h42764.2.2 (by omega)) dX12_copies_10 ?_
  have h42765 := I.arr e42763 rfl (a1.toInt.toNat)
  refine g_iast (j := (a2.toInt.toNat)) C h42764.1 h42764.2.1 (ix_in h42764.2.2 (by omega)) dX12_copies_11 ?_
  refine gqX (ks := [20]) (W := (fun Y9 => MQy Y9 a0 (szf P a0) (a2.toInt.toNat) (a1.toInt.toNat))) (I.setA e42763 h42764 (by decide) (arOk.of rfl (by omega))) (EM.setA I e42763 rfl (by decide)) (hW.exmy (fr := (a1.toInt.toNat)) I e42763 (by omega) (by omega)) (fun Y42766 Iy42767 Xy42768 w42769 W42770 => ?_)
  have w42769 : (pI Y42766 b42762 (a2.toInt.toNat)).toInt = (pI P b42762 (a1.toInt.toNat)).toInt := w42769
  have Xz42771 : EM [20, 21, 22, 23, 24, 25] a0 P Y42766 := Xy42768.mono (by decide)
  have e42772 := Xy42768.ref ha0 (by decide) e42763
  have h42773 := Xy42768.at ha0
  have h42774 := Xy42768.ar h42764
  refine g_iconst (v := 0) C dX12_copies_12 (by decide) ?_
  refine g_istore_n (lv' := [(3, .int 0), (0, .ref a0), (1, .int a1), (2, .int a2)]) C dX12_copies_13 rfl (by decide) rfl ?_
  refine g_lv (lv' := [(0, .ref a0), (1, .int a1), (2, .int a2), (3, .int 0)]) [1, 2, 3, 0] rfl ?_
  exact J14 _ Y42766 0 (Nat.lt_succ_self _) Iy42767 Xz42771 W42770 (by decide) (by show TK Y42766 a0 (a2.toInt.toNat) 0; exact TK.zero (by decide))
theorem dX12_count_0 : decode cX12_count 0 = .ok (.aload_n 0, 1) := by decide +kernel
theorem dX12_count_1 : decode cX12_count 1 = .ok (.iconst 0, 1) := by decide +kernel
theorem dX12_count_2 : decode cX12_count 2 = .ok (.putfield 1, 3) := by decide +kernel
theorem dX12_count_5 : decode cX12_count 5 = .ok (.iload_n 1, 1) := by decide +kernel
theorem dX12_count_6 : decode cX12_count 6 = .ok (.iconst 0, 1) := by decide +kernel
theorem dX12_count_7 : decode cX12_count 7 = .ok (.iconst 3, 1) := by decide +kernel
theorem dX12_count_8 : decode cX12_count 8 = .ok (.invokestatic 178, 3) := by decide +kernel
theorem dX12_count_11 : decode cX12_count 11 = .ok (.ifCond .eq 10, 3) := by decide +kernel
theorem dX12_count_14 : decode cX12_count 14 = .ok (.aload_n 0, 1) := by decide +kernel
theorem dX12_count_15 : decode cX12_count 15 = .ok (.getfield 69, 3) := by decide +kernel
theorem dX12_count_18 : decode cX12_count 18 = .ok (.iload_n 1, 1) := by decide +kernel
theorem dX12_count_19 : decode cX12_count 19 = .ok (.iaload, 1) := by decide +kernel
theorem dX12_count_20 : decode cX12_count 20 = .ok (.ireturn, 1) := by decide +kernel
theorem dX12_count_21 : decode cX12_count 21 = .ok (.iload_n 1, 1) := by decide +kernel
theorem dX12_count_22 : decode cX12_count 22 = .ok (.tableswitch 61 4 8 #[34, 40, 46, 51, 56], 34) := by decide +kernel
theorem dX12_count_56 : decode cX12_count 56 = .ok (.aload_n 0, 1) := by decide +kernel
theorem dX12_count_57 : decode cX12_count 57 = .ok (.iconst 0, 1) := by decide +kernel
theorem dX12_count_58 : decode cX12_count 58 = .ok (.invokevirtual 238, 3) := by decide +kernel
theorem dX12_count_61 : decode cX12_count 61 = .ok (.ireturn, 1) := by decide +kernel
theorem dX12_count_62 : decode cX12_count 62 = .ok (.aload_n 0, 1) := by decide +kernel
theorem dX12_count_63 : decode cX12_count 63 = .ok (.iconst 1, 1) := by decide +kernel
theorem dX12_count_64 : decode cX12_count 64 = .ok (.invokevirtual 238, 3) := by decide +kernel
theorem dX12_count_67 : decode cX12_count 67 = .ok (.ireturn, 1) := by decide +kernel
theorem dX12_count_68 : decode cX12_count 68 = .ok (.aload_n 0, 1) := by decide +kernel
theorem dX12_count_69 : decode cX12_count 69 = .ok (.getfield 11, 3) := by decide +kernel
theorem dX12_count_72 : decode cX12_count 72 = .ok (.ireturn, 1) := by decide +kernel
theorem dX12_count_73 : decode cX12_count 73 = .ok (.aload_n 0, 1) := by decide +kernel
theorem dX12_count_74 : decode cX12_count 74 = .ok (.getfield 288, 3) := by decide +kernel
theorem dX12_count_77 : decode cX12_count 77 = .ok (.ireturn, 1) := by decide +kernel
theorem dX12_count_78 : decode cX12_count 78 = .ok (.aload_n 0, 1) := by decide +kernel
theorem dX12_count_79 : decode cX12_count 79 = .ok (.invokevirtual 411, 3) := by decide +kernel
theorem dX12_count_82 : decode cX12_count 82 = .ok (.ireturn, 1) := by decide +kernel
theorem dX12_count_83 : decode cX12_count 83 = .ok (.iconst (-1), 1) := by decide +kernel
theorem dX12_count_84 : decode cX12_count 84 = .ok (.ireturn, 1) := by decide +kernel
set_option maxHeartbeats 4000000 in
set_option maxRecDepth 100000 in
theorem s_X12_count {P : PP} {a0 : Nat} {a1 : Int32} (I : IM P a0) (hW : MW P a0) : CtrI yX12_count cX12_count 2 (some Jvm.ClassFile.FieldType.int) ({ frames := 2, cells := 0, slots := 0, locals := 128 } : Room) 0 0 P [.ref a0, .int a1] (fun r P2 => IM P2 a0 ∧ EM [0] a0 P P2 ∧ MW P2 a0 ∧ (True)) := by
  refine enI (lv := [(0, .ref a0), (1, .int a1)]) (by decide) (Nat.le_of_ble_eq_true rfl) rfl (fun E D cy C Ci0 ret => ?_)
  have ha0 := I.2.1
  refine g_aload_n C dX12_count_0 rfl 0 rfl ?_
  refine g_iconst (v := 0) C dX12_count_1 (by decide) ?_
  refine g_putI C fi_X12_1 rfl (ha0).1 (ha0).2 dX12_count_2 ?_
  refine gqW (ks := [0]) (I.setI (rgOk.of rfl (by decide))) (EM.setI I (by decide)) (fun Y42821 Iy42822 Xy42823 w42824  => ?_)
  have w42824 : (pI Y42821 a0 0).toInt = 0 := w42824
  have W42825 := hW.keep I Xy42823 (by decide) (by decide) (by decide) (by decide)
  have Xz42826 : EM [0] a0 P Y42821 := Xy42823.mono (by decide)
  have h42827 := Xy42823.at ha0
  refine g_iload_n C dX12_count_5 rfl 1 rfl ?_
  refine g_iconst (v := 0) C dX12_count_6 (by decide) ?_
  refine g_iconst (v := 3) C dX12_count_7 (by decide) ?_
  refine g_callSI (b := 0) (ci := 0) (rest := []) C ms_X12_178 [.int a1, .int 0, .int 3] (s_X12_within Iy42822.1) rfl rfl (by decide) (Nat.le_of_ble_eq_true rfl) (by decide) dX12_count_8 (fun r42828 Y42829 h42830 => ?_)
  obtain ⟨rfl, h42830⟩ := h42830
  obtain ⟨h42830, hi42831⟩ := h42830
  have hi42831 : r42828.toInt = 0 ∨ (0 ≤ a1.toInt ∧ a1.toInt ≤ 3) := hi42831
  have h42830 : 0 ≤ r42828.toInt ∧ r42828.toInt ≤ 1 := h42830
  refine b_if_eq C 21 dX12_count_11 (by decide) (fun h42832 => ?_) (fun h42832 => ?_)
  · have h42832 : r42828.toInt = 0 := congrArg Int32.toInt h42832
    clear hi42831
    refine g_iload_n C dX12_count_21 rfl 1 rfl ?_
    by_cases h42833 : a1.toInt < 4 ∨ 8 < a1.toInt
    · refine g_tableOut C 83 dX12_count_22 h42833 (by decide) ?_
      refine g_iconst (v := (-1)) C dX12_count_83 (by decide) ?_
      exact ret _ _ _ _ _ _ dX12_count_84 rfl (by decide) (by decide) ⟨Iy42822, Xz42826, W42825, trivial⟩
    · rcases (show a1.toInt = 4 ∨ a1.toInt = 5 ∨ a1.toInt = 6 ∨ a1.toInt = 7 ∨ a1.toInt = 8 by omega) with h42834 | h42834 | h42834 | h42834 | h42834
      · refine g_tableIn C 56 dX12_count_22 (by omega) (by omega) (by rw [h42834]; rfl) (by decide) ?_
        refine g_aload_n C dX12_count_56 rfl 0 rfl ?_
        refine g_iconst (v := 0) C dX12_count_57 (by decide) ?_
        refine g_callVI (rest := []) C mv_X12_238 [.int 0] (s_X12_allOf Iy42822 (by decide) W42825) (h42827).1 (h42827).2 rfl rfl (by decide) (Nat.le_of_ble_eq_true rfl) (by decide) dX12_count_58 (fun r42835 Y42836 h42837 => ?_)
        obtain ⟨rfl, h42837⟩ := h42837
        obtain ⟨h42837, hi42838⟩ := h42837
        obtain ⟨b42839, e42840, h42841⟩ := Iy42822.fld (h42827) 10 13 2 rfl
        obtain ⟨b42842, e42843, h42844⟩ := Iy42822.fld (h42827) 15 13 3 rfl
        have hi42838 : (r42835.toInt = 0 ∧ (pI Y42821 b42839 0).toInt = 0) ∨ r42835.toInt = (pI Y42821 b42839 0).toInt + (pI Y42821 b42842 0).toInt := hi42838 b42839 b42842 e42840 e42843
        have h42845 := Iy42822.arr e42840 rfl 0
        have h42846 := Iy42822.arr e42843 rfl 0
        have h42837 : 0 ≤ r42835.toInt ∧ r42835.toInt ≤ 20 := h42837
        exact ret _ _ _ _ _ _ dX12_count_61 rfl (by decide) (by decide) ⟨Iy42822, Xz42826, W42825, trivial⟩
      · refine g_tableIn C 62 dX12_count_22 (by omega) (by omega) (by rw [h42834]; rfl) (by decide) ?_
        refine g_aload_n C dX12_count_62 rfl 0 rfl ?_
        refine g_iconst (v := 1) C dX12_count_63 (by decide) ?_
        refine g_callVI (rest := []) C mv_X12_238 [.int 1] (s_X12_allOf Iy42822 (by decide) W42825) (h42827).1 (h42827).2 rfl rfl (by decide) (Nat.le_of_ble_eq_true rfl) (by decide) dX12_count_64 (fun r42847 Y42848 h42849 => ?_)
        obtain ⟨rfl, h42849⟩ := h42849
        obtain ⟨h42849, hi42850⟩ := h42849
        obtain ⟨b42851, e42852, h42853⟩ := Iy42822.fld (h42827) 10 13 2 rfl
        obtain ⟨b42854, e42855, h42856⟩ := Iy42822.fld (h42827) 15 13 3 rfl
        have hi42850 : (r42847.toInt = 0 ∧ (pI Y42821 b42851 1).toInt = 0) ∨ r42847.toInt = (pI Y42821 b42851 1).toInt + (pI Y42821 b42854 1).toInt := hi42850 b42851 b42854 e42852 e42855
        have h42857 := Iy42822.arr e42852 rfl 1
        have h42858 := Iy42822.arr e42855 rfl 1
        have h42849 : 0 ≤ r42847.toInt ∧ r42847.toInt ≤ 20 := h42849
        exact ret _ _ _ _ _ _ dX12_count_67 rfl (by decide) (by decide) ⟨Iy42822, Xz42826, W42825, trivial⟩
      · refine g_tableIn C 68 dX12_count_22 (by omega) (by omega) (by rw [h42834]; rfl) (by decide) ?_
        refine g_aload_n C dX12_count_68 rfl 0 rfl ?_
        refine g_getI C fi_X12_11 (by decide) (h42827).1 (h42827).2 dX12_count_69 ?_
        have h42859 := Iy42822.rg (h42827) 2 rfl
        exact ret _ _ _ _ _ _ dX12_count_72 rfl (by decide) (by decide) ⟨Iy42822, Xz42826, W42825, trivial⟩
      · refine g_tableIn C 73 dX12_count_22 (by omega) (by omega) (by rw [h42834]; rfl) (by decide) ?_
        refine g_aload_n C dX12_count_73 rfl 0 rfl ?_
        refine g_getI C fi_X12_288 (by decide) (h42827).1 (h42827).2 dX12_count_74 ?_
        exact ret _ _ _ _ _ _ dX12_count_77 rfl (by decide) (by decide) ⟨Iy42822, Xz42826, W42825, trivial⟩
      · refine g_tableIn C 78 dX12_count_22 (by omega) (by omega) (by rw [h42834]; rfl) (by decide) ?_
        refine g_aload_n C dX12_count_78 rfl 0 rfl ?_
        refine g_callVI (rest := []) C mv_X12_411 [] (s_X12_allHouses Iy42822 W42825) (h42827).1 (h42827).2 rfl rfl (by decide) (Nat.le_of_ble_eq_true rfl) (by decide) dX12_count_79 (fun r42860 Y42861 h42862 => ?_)
        obtain ⟨rfl, h42862⟩ := h42862
        have h42862 : True := h42862
        exact ret _ _ _ _ _ _ dX12_count_82 rfl (by decide) (by decide) ⟨Iy42822, Xz42826, W42825, trivial⟩
  · have h42832 : r42828.toInt ≠ 0 := ti_ne h42832
    replace hi42831 := hi42831.resolve_left (by omega)
    refine g_aload_n C dX12_count_14 rfl 0 rfl ?_
    obtain ⟨b42863, e42864, h42865⟩ := Iy42822.fld (h42827) 20 13 20 rfl
    refine g_getR C fi_X12_69 rfl e42864 (h42827).1 (h42827).2 dX12_count_15 ?_
    refine g_iload_n C dX12_count_18 rfl 1 rfl ?_
    refine g_iald (j := (a1.toInt.toNat)) C h42865.1 h42865.2.1 (ix_in h42865.2.2 (by omega)) dX12_count_19 ?_
    have h42866 := Iy42822.arr e42864 rfl (a1.toInt.toNat)
    exact ret _ _ _ _ _ _ dX12_count_20 rfl (by decide) (by decide) ⟨Iy42822, Xz42826, W42825, trivial⟩
theorem dX12_cutAll_0 : decode cX12_cutAll 0 = .ok (.aload_n 0, 1) := by decide +kernel
theorem dX12_cutAll_1 : decode cX12_cutAll 1 = .ok (.aload_n 0, 1) := by decide +kernel
theorem dX12_cutAll_2 : decode cX12_cutAll 2 = .ok (.getfield 11, 3) := by decide +kernel
theorem dX12_cutAll_5 : decode cX12_cutAll 5 = .ok (.putfield 140, 3) := by decide +kernel
theorem dX12_cutAll_8 : decode cX12_cutAll 8 = .ok (.aload_n 0, 1) := by decide +kernel
theorem dX12_cutAll_9 : decode cX12_cutAll 9 = .ok (.iconst 0, 1) := by decide +kernel
theorem dX12_cutAll_10 : decode cX12_cutAll 10 = .ok (.putfield 11, 3) := by decide +kernel
theorem dX12_cutAll_13 : decode cX12_cutAll 13 = .ok (.iconst 0, 1) := by decide +kernel
theorem dX12_cutAll_14 : decode cX12_cutAll 14 = .ok (.istore_n 1, 1) := by decide +kernel
theorem dX12_cutAll_15 : decode cX12_cutAll 15 = .ok (.iconst 0, 1) := by decide +kernel
theorem dX12_cutAll_16 : decode cX12_cutAll 16 = .ok (.istore_n 2, 1) := by decide +kernel
theorem dX12_cutAll_17 : decode cX12_cutAll 17 = .ok (.iload_n 2, 1) := by decide +kernel
theorem dX12_cutAll_18 : decode cX12_cutAll 18 = .ok (.aload_n 0, 1) := by decide +kernel
theorem dX12_cutAll_19 : decode cX12_cutAll 19 = .ok (.getfield 140, 3) := by decide +kernel
theorem dX12_cutAll_22 : decode cX12_cutAll 22 = .ok (.if_icmp .ge 257, 3) := by decide +kernel
theorem dX12_cutAll_25 : decode cX12_cutAll 25 = .ok (.aload_n 0, 1) := by decide +kernel
theorem dX12_cutAll_26 : decode cX12_cutAll 26 = .ok (.getfield 14, 3) := by decide +kernel
theorem dX12_cutAll_29 : decode cX12_cutAll 29 = .ok (.iload_n 2, 1) := by decide +kernel
theorem dX12_cutAll_30 : decode cX12_cutAll 30 = .ok (.iaload, 1) := by decide +kernel
theorem dX12_cutAll_31 : decode cX12_cutAll 31 = .ok (.istore_n 3, 1) := by decide +kernel
theorem dX12_cutAll_32 : decode cX12_cutAll 32 = .ok (.iload_n 3, 1) := by decide +kernel
theorem dX12_cutAll_33 : decode cX12_cutAll 33 = .ok (.bipush 10, 2) := by decide +kernel
theorem dX12_cutAll_35 : decode cX12_cutAll 35 = .ok (.if_icmp .eq 9, 3) := by decide +kernel
theorem dX12_cutAll_38 : decode cX12_cutAll 38 = .ok (.iload_n 3, 1) := by decide +kernel
theorem dX12_cutAll_39 : decode cX12_cutAll 39 = .ok (.bipush 32, 2) := by decide +kernel
theorem dX12_cutAll_41 : decode cX12_cutAll 41 = .ok (.if_icmp .ne 9, 3) := by decide +kernel
theorem dX12_cutAll_50 : decode cX12_cutAll 50 = .ok (.iload_n 2, 1) := by decide +kernel
theorem dX12_cutAll_51 : decode cX12_cutAll 51 = .ok (.istore 4, 2) := by decide +kernel
theorem dX12_cutAll_53 : decode cX12_cutAll 53 = .ok (.lconst 0, 1) := by decide +kernel
theorem dX12_cutAll_54 : decode cX12_cutAll 54 = .ok (.lstore 5, 2) := by decide +kernel
theorem dX12_cutAll_56 : decode cX12_cutAll 56 = .ok (.aload_n 0, 1) := by decide +kernel
theorem dX12_cutAll_57 : decode cX12_cutAll 57 = .ok (.getfield 27, 3) := by decide +kernel
theorem dX12_cutAll_60 : decode cX12_cutAll 60 = .ok (.iload_n 1, 1) := by decide +kernel
theorem dX12_cutAll_61 : decode cX12_cutAll 61 = .ok (.iload_n 2, 1) := by decide +kernel
theorem dX12_cutAll_62 : decode cX12_cutAll 62 = .ok (.iastore, 1) := by decide +kernel
theorem dX12_cutAll_63 : decode cX12_cutAll 63 = .ok (.iload_n 3, 1) := by decide +kernel
theorem dX12_cutAll_64 : decode cX12_cutAll 64 = .ok (.invokestatic 136, 3) := by decide +kernel
theorem dX12_cutAll_279 : decode cX12_cutAll 279 = .ok (.aload_n 0, 1) := by decide +kernel
theorem dX12_cutAll_280 : decode cX12_cutAll 280 = .ok (.getfield 24, 3) := by decide +kernel
theorem dX12_cutAll_283 : decode cX12_cutAll 283 = .ok (.iload_n 1, 1) := by decide +kernel
theorem dX12_cutAll_284 : decode cX12_cutAll 284 = .ok (.iconst 0, 1) := by decide +kernel
theorem dX12_cutAll_285 : decode cX12_cutAll 285 = .ok (.iastore, 1) := by decide +kernel
theorem dX12_cutAll_286 : decode cX12_cutAll 286 = .ok (.aload_n 0, 1) := by decide +kernel
theorem dX12_cutAll_287 : decode cX12_cutAll 287 = .ok (.getfield 27, 3) := by decide +kernel
theorem dX12_cutAll_290 : decode cX12_cutAll 290 = .ok (.iload_n 1, 1) := by decide +kernel
theorem dX12_cutAll_291 : decode cX12_cutAll 291 = .ok (.aload_n 0, 1) := by decide +kernel
theorem dX12_cutAll_292 : decode cX12_cutAll 292 = .ok (.getfield 140, 3) := by decide +kernel
theorem dX12_cutAll_295 : decode cX12_cutAll 295 = .ok (.iastore, 1) := by decide +kernel
theorem dX12_cutAll_296 : decode cX12_cutAll 296 = .ok (.aload_n 0, 1) := by decide +kernel
theorem dX12_cutAll_297 : decode cX12_cutAll 297 = .ok (.iconst 0, 1) := by decide +kernel
theorem dX12_cutAll_298 : decode cX12_cutAll 298 = .ok (.putfield 159, 3) := by decide +kernel
theorem dX12_cutAll_301 : decode cX12_cutAll 301 = .ok (.aload_n 0, 1) := by decide +kernel
theorem dX12_cutAll_302 : decode cX12_cutAll 302 = .ok (.iconst 0, 1) := by decide +kernel
theorem dX12_cutAll_303 : decode cX12_cutAll 303 = .ok (.putfield 162, 3) := by decide +kernel
theorem dX12_cutAll_306 : decode cX12_cutAll 306 = .ok (.return_, 1) := by decide +kernel
theorem dX12_isLetter_0 : decode cX12_isLetter 0 = .ok (.iload_n 0, 1) := by decide +kernel
theorem dX12_isLetter_1 : decode cX12_isLetter 1 = .ok (.bipush 97, 2) := by decide +kernel
theorem dX12_isLetter_3 : decode cX12_isLetter 3 = .ok (.if_icmp .lt 13, 3) := by decide +kernel
theorem dX12_isLetter_6 : decode cX12_isLetter 6 = .ok (.iload_n 0, 1) := by decide +kernel
theorem dX12_isLetter_7 : decode cX12_isLetter 7 = .ok (.bipush 122, 2) := by decide +kernel
theorem dX12_isLetter_9 : decode cX12_isLetter 9 = .ok (.if_icmp .gt 7, 3) := by decide +kernel
theorem dX12_isLetter_12 : decode cX12_isLetter 12 = .ok (.iconst 1, 1) := by decide +kernel
theorem dX12_isLetter_13 : decode cX12_isLetter 13 = .ok (.goto 4, 3) := by decide +kernel
theorem dX12_isLetter_16 : decode cX12_isLetter 16 = .ok (.iconst 0, 1) := by decide +kernel
theorem dX12_isLetter_17 : decode cX12_isLetter 17 = .ok (.ireturn, 1) := by decide +kernel
set_option maxHeartbeats 4000000 in
set_option maxRecDepth 100000 in
theorem s_X12_isLetter {P : PP} {a0 : Int32} (I : IV P) : CtrI yX12_isLetter cX12_isLetter 1 (some Jvm.ClassFile.FieldType.boolean) ({ frames := 1, cells := 0, slots := 0, locals := 64 } : Room) 0 0 P [.int a0] (fun r P2 => P = P2 ∧ (0 ≤ r.toInt ∧ r.toInt ≤ 1) ∧ (r.toInt = 0 ∨ (((97 : Int) ≤ a0.toInt ∧ a0.toInt ≤ (122 : Int)))) ∧ (r.toInt ≠ 0 ∨ a0.toInt < 97 ∨ 122 < a0.toInt)) := by
  refine enI (lv := [(0, .int a0)]) (by decide) (Nat.le_of_ble_eq_true rfl) rfl (fun E D cy C Ci0 ret => ?_)
  have J16 : (a0.toInt < 97 ∨ 122 < a0.toInt) → G E ({ frames := 1, cells := 0, slots := 0, locals := 64 } : Room) D cy 1 P 0 0 16 [] [] := by
    intro rel16_0
    refine g_iconst (v := 0) C dX12_isLetter_16 (by decide) ?_
    exact ret _ _ _ _ _ _ dX12_isLetter_17 rfl (by decide) (by decide) ⟨rfl, (by decide), Or.inl rfl, (by show (0 : Int) ≠ 0 ∨ a0.toInt < 97 ∨ 122 < a0.toInt; omega)⟩
  refine g_iload_n C dX12_isLetter_0 rfl 0 rfl ?_
  refine g_bipush (v := 97) C dX12_isLetter_1 (by decide) ?_
  have u42980 := ti_rng a0
  refine b_icmp_lt C 16 dX12_isLetter_3 (by decide) (fun h42979 => ?_) (fun h42979 => ?_)
  · have h42979 : a0.toInt < 97 := h42979
    refine g_lv (lv' := []) [] rfl ?_
    exact J16 (by show a0.toInt < 97 ∨ 122 < a0.toInt; omega)
  · have h42979 : 97 ≤ a0.toInt := h42979
    refine g_iload_n C dX12_isLetter_6 rfl 0 rfl ?_
    refine g_bipush (v := 122) C dX12_isLetter_7 (by decide) ?_
    have u42982 := ti_rng a0
    refine b_icmp_gt C 16 dX12_isLetter_9 (by decide) (fun h42981 => ?_) (fun h42981 => ?_)
    · have h42981 : 122 < a0.toInt := h42981
      refine g_lv (lv' := []) [] rfl ?_
      exact J16 (by show a0.toInt < 97 ∨ 122 < a0.toInt; omega)
    · have h42981 : a0.toInt ≤ 122 := h42981
      refine g_iconst (v := 1) C dX12_isLetter_12 (by decide) ?_
      refine g_goto C 17 dX12_isLetter_13 (by decide) ?_
      exact ret _ _ _ _ _ _ dX12_isLetter_17 rfl (by decide) (by decide) ⟨rfl, (by decide), Or.inr (by omega), (by show (1 : Int) ≠ 0 ∨ a0.toInt < 97 ∨ 122 < a0.toInt; omega)⟩
theorem dX12_cutAll_67 : decode cX12_cutAll 67 = .ok (.ifCond .eq 85, 3) := by decide +kernel
theorem dX12_cutAll_152 : decode cX12_cutAll 152 = .ok (.iload_n 3, 1) := by decide +kernel
theorem dX12_cutAll_153 : decode cX12_cutAll 153 = .ok (.invokestatic 149, 3) := by decide +kernel
theorem dX12_isDigit_0 : decode cX12_isDigit 0 = .ok (.iload_n 0, 1) := by decide +kernel
theorem dX12_isDigit_1 : decode cX12_isDigit 1 = .ok (.bipush 48, 2) := by decide +kernel
theorem dX12_isDigit_3 : decode cX12_isDigit 3 = .ok (.if_icmp .lt 13, 3) := by decide +kernel
theorem dX12_isDigit_6 : decode cX12_isDigit 6 = .ok (.iload_n 0, 1) := by decide +kernel
theorem dX12_isDigit_7 : decode cX12_isDigit 7 = .ok (.bipush 57, 2) := by decide +kernel
theorem dX12_isDigit_9 : decode cX12_isDigit 9 = .ok (.if_icmp .gt 7, 3) := by decide +kernel
theorem dX12_isDigit_12 : decode cX12_isDigit 12 = .ok (.iconst 1, 1) := by decide +kernel
theorem dX12_isDigit_13 : decode cX12_isDigit 13 = .ok (.goto 4, 3) := by decide +kernel
theorem dX12_isDigit_16 : decode cX12_isDigit 16 = .ok (.iconst 0, 1) := by decide +kernel
theorem dX12_isDigit_17 : decode cX12_isDigit 17 = .ok (.ireturn, 1) := by decide +kernel
set_option maxHeartbeats 4000000 in
set_option maxRecDepth 100000 in
theorem s_X12_isDigit {P : PP} {a0 : Int32} (I : IV P) : CtrI yX12_isDigit cX12_isDigit 1 (some Jvm.ClassFile.FieldType.boolean) ({ frames := 1, cells := 0, slots := 0, locals := 64 } : Room) 0 0 P [.int a0] (fun r P2 => P = P2 ∧ (0 ≤ r.toInt ∧ r.toInt ≤ 1) ∧ (r.toInt = 0 ∨ (((48 : Int) ≤ a0.toInt ∧ a0.toInt ≤ (57 : Int)))) ∧ (r.toInt ≠ 0 ∨ a0.toInt < 48 ∨ 57 < a0.toInt)) := by
  refine enI (lv := [(0, .int a0)]) (by decide) (Nat.le_of_ble_eq_true rfl) rfl (fun E D cy C Ci0 ret => ?_)
  have J16 : (a0.toInt < 48 ∨ 57 < a0.toInt) → G E ({ frames := 1, cells := 0, slots := 0, locals := 64 } : Room) D cy 1 P 0 0 16 [] [] := by
    intro rel16_0
    refine g_iconst (v := 0) C dX12_isDigit_16 (by decide) ?_
    exact ret _ _ _ _ _ _ dX12_isDigit_17 rfl (by decide) (by decide) ⟨rfl, (by decide), Or.inl rfl, (by show (0 : Int) ≠ 0 ∨ a0.toInt < 48 ∨ 57 < a0.toInt; omega)⟩
  refine g_iload_n C dX12_isDigit_0 rfl 0 rfl ?_
  refine g_bipush (v := 48) C dX12_isDigit_1 (by decide) ?_
  have u43102 := ti_rng a0
  refine b_icmp_lt C 16 dX12_isDigit_3 (by decide) (fun h43101 => ?_) (fun h43101 => ?_)
  · have h43101 : a0.toInt < 48 := h43101
    refine g_lv (lv' := []) [] rfl ?_
    exact J16 (by show a0.toInt < 48 ∨ 57 < a0.toInt; omega)
  · have h43101 : 48 ≤ a0.toInt := h43101
    refine g_iload_n C dX12_isDigit_6 rfl 0 rfl ?_
    refine g_bipush (v := 57) C dX12_isDigit_7 (by decide) ?_
    have u43104 := ti_rng a0
    refine b_icmp_gt C 16 dX12_isDigit_9 (by decide) (fun h43103 => ?_) (fun h43103 => ?_)
    · have h43103 : 57 < a0.toInt := h43103
      refine g_lv (lv' := []) [] rfl ?_
      exact J16 (by show a0.toInt < 48 ∨ 57 < a0.toInt; omega)
    · have h43103 : a0.toInt ≤ 57 := h43103
      refine g_iconst (v := 1) C dX12_isDigit_12 (by decide) ?_
      refine g_goto C 17 dX12_isDigit_13 (by decide) ?_
      exact ret _ _ _ _ _ _ dX12_isDigit_17 rfl (by decide) (by decide) ⟨rfl, (by decide), Or.inr (by omega), (by show (1 : Int) ≠ 0 ∨ a0.toInt < 48 ∨ 57 < a0.toInt; omega)⟩
theorem dX12_cutAll_156 : decode cX12_cutAll 156 = .ok (.ifCond .eq 84, 3) := by decide +kernel
theorem dX12_cutAll_240 : decode cX12_cutAll 240 = .ok (.iload_n 3, 1) := by decide +kernel
theorem dX12_cutAll_241 : decode cX12_cutAll 241 = .ok (.i2l, 1) := by decide +kernel
theorem dX12_cutAll_242 : decode cX12_cutAll 242 = .ok (.lstore 5, 2) := by decide +kernel
theorem dX12_cutAll_244 : decode cX12_cutAll 244 = .ok (.aload_n 0, 1) := by decide +kernel
theorem dX12_cutAll_245 : decode cX12_cutAll 245 = .ok (.getfield 24, 3) := by decide +kernel
theorem dX12_cutAll_248 : decode cX12_cutAll 248 = .ok (.iload_n 1, 1) := by decide +kernel
theorem dX12_cutAll_249 : decode cX12_cutAll 249 = .ok (.iload_n 3, 1) := by decide +kernel
theorem dX12_cutAll_250 : decode cX12_cutAll 250 = .ok (.invokestatic 156, 3) := by decide +kernel
theorem dX12_isSignOf_0 : decode cX12_isSignOf 0 = .ok (.iload_n 0, 1) := by decide +kernel
theorem dX12_isSignOf_1 : decode cX12_isSignOf 1 = .ok (.bipush 59, 2) := by decide +kernel
theorem dX12_isSignOf_3 : decode cX12_isSignOf 3 = .ok (.if_icmp .ne 7, 3) := by decide +kernel
theorem dX12_isSignOf_6 : decode cX12_isSignOf 6 = .ok (.iconst 1, 1) := by decide +kernel
theorem dX12_isSignOf_7 : decode cX12_isSignOf 7 = .ok (.goto 4, 3) := by decide +kernel
theorem dX12_isSignOf_10 : decode cX12_isSignOf 10 = .ok (.iconst 0, 1) := by decide +kernel
theorem dX12_isSignOf_11 : decode cX12_isSignOf 11 = .ok (.ireturn, 1) := by decide +kernel
set_option maxHeartbeats 4000000 in
set_option maxRecDepth 100000 in
theorem s_X12_isSignOf {P : PP} {a0 : Int32} (I : IV P) : CtrI yX12_isSignOf cX12_isSignOf 1 (some Jvm.ClassFile.FieldType.boolean) ({ frames := 1, cells := 0, slots := 0, locals := 64 } : Room) 0 0 P [.int a0] (fun r P2 => P = P2 ∧ (0 ≤ r.toInt ∧ r.toInt ≤ 1) ∧ (r.toInt = 0 ∨ (((59 : Int) ≤ a0.toInt ∧ a0.toInt ≤ (59 : Int))))) := by
  refine enI (lv := [(0, .int a0)]) (by decide) (Nat.le_of_ble_eq_true rfl) rfl (fun E D cy C Ci0 ret => ?_)
  refine g_iload_n C dX12_isSignOf_0 rfl 0 rfl ?_
  refine g_bipush (v := 59) C dX12_isSignOf_1 (by decide) ?_
  have u43232 := ti_rng a0
  refine b_icmp_ne C 10 dX12_isSignOf_3 (by decide) (fun h43231 => ?_) (fun h43231 => ?_)
  · have h43231 : a0.toInt ≠ 59 := ti_ne h43231
    refine g_iconst (v := 0) C dX12_isSignOf_10 (by decide) ?_
    exact ret _ _ _ _ _ _ dX12_isSignOf_11 rfl (by decide) (by decide) ⟨rfl, (by decide), Or.inl rfl⟩
  · have h43231 : a0.toInt = 59 := congrArg Int32.toInt h43231
    refine g_iconst (v := 1) C dX12_isSignOf_6 (by decide) ?_
    refine g_goto C 11 dX12_isSignOf_7 (by decide) ?_
    exact ret _ _ _ _ _ _ dX12_isSignOf_11 rfl (by decide) (by decide) ⟨rfl, (by decide), Or.inr (by omega)⟩
theorem dX12_cutAll_44 : decode cX12_cutAll 44 = .ok (.iinc 2 1, 3) := by decide +kernel
theorem dX12_cutAll_47 : decode cX12_cutAll 47 = .ok (.goto (-30), 3) := by decide +kernel
theorem dX12_cutAll_70 : decode cX12_cutAll 70 = .ok (.iload_n 2, 1) := by decide +kernel
theorem dX12_cutAll_71 : decode cX12_cutAll 71 = .ok (.aload_n 0, 1) := by decide +kernel
theorem dX12_cutAll_72 : decode cX12_cutAll 72 = .ok (.getfield 140, 3) := by decide +kernel
theorem dX12_cutAll_75 : decode cX12_cutAll 75 = .ok (.if_icmp .ge 54, 3) := by decide +kernel
theorem dX12_cutAll_78 : decode cX12_cutAll 78 = .ok (.aload_n 0, 1) := by decide +kernel
theorem dX12_cutAll_79 : decode cX12_cutAll 79 = .ok (.getfield 14, 3) := by decide +kernel
theorem dX12_cutAll_82 : decode cX12_cutAll 82 = .ok (.iload_n 2, 1) := by decide +kernel
theorem dX12_cutAll_83 : decode cX12_cutAll 83 = .ok (.iaload, 1) := by decide +kernel
theorem dX12_cutAll_84 : decode cX12_cutAll 84 = .ok (.invokestatic 136, 3) := by decide +kernel
theorem dX12_cutAll_87 : decode cX12_cutAll 87 = .ok (.ifCond .eq 42, 3) := by decide +kernel
theorem dX12_cutAll_90 : decode cX12_cutAll 90 = .ok (.iload_n 2, 1) := by decide +kernel
theorem dX12_cutAll_91 : decode cX12_cutAll 91 = .ok (.iload 4, 2) := by decide +kernel
theorem dX12_cutAll_93 : decode cX12_cutAll 93 = .ok (.isub, 1) := by decide +kernel
theorem dX12_cutAll_94 : decode cX12_cutAll 94 = .ok (.bipush 8, 2) := by decide +kernel
theorem dX12_cutAll_96 : decode cX12_cutAll 96 = .ok (.if_icmp .ge 23, 3) := by decide +kernel
theorem dX12_cutAll_99 : decode cX12_cutAll 99 = .ok (.ldc2_w 143, 3) := by decide +kernel
theorem dX12_cutAll_102 : decode cX12_cutAll 102 = .ok (.lload 5, 2) := by decide +kernel
theorem dX12_cutAll_104 : decode cX12_cutAll 104 = .ok (.lmul, 1) := by decide +kernel
theorem dX12_cutAll_105 : decode cX12_cutAll 105 = .ok (.aload_n 0, 1) := by decide +kernel
theorem dX12_cutAll_106 : decode cX12_cutAll 106 = .ok (.getfield 14, 3) := by decide +kernel
theorem dX12_cutAll_109 : decode cX12_cutAll 109 = .ok (.iload_n 2, 1) := by decide +kernel
theorem dX12_cutAll_110 : decode cX12_cutAll 110 = .ok (.iaload, 1) := by decide +kernel
theorem dX12_cutAll_111 : decode cX12_cutAll 111 = .ok (.invokestatic 145, 3) := by decide +kernel
theorem dX12_cutAll_159 : decode cX12_cutAll 159 = .ok (.iload_n 2, 1) := by decide +kernel
theorem dX12_cutAll_160 : decode cX12_cutAll 160 = .ok (.aload_n 0, 1) := by decide +kernel
theorem dX12_cutAll_161 : decode cX12_cutAll 161 = .ok (.getfield 140, 3) := by decide +kernel
theorem dX12_cutAll_164 : decode cX12_cutAll 164 = .ok (.if_icmp .ge 54, 3) := by decide +kernel
theorem dX12_cutAll_167 : decode cX12_cutAll 167 = .ok (.aload_n 0, 1) := by decide +kernel
theorem dX12_cutAll_168 : decode cX12_cutAll 168 = .ok (.getfield 14, 3) := by decide +kernel
theorem dX12_cutAll_171 : decode cX12_cutAll 171 = .ok (.iload_n 2, 1) := by decide +kernel
theorem dX12_cutAll_172 : decode cX12_cutAll 172 = .ok (.iaload, 1) := by decide +kernel
theorem dX12_cutAll_173 : decode cX12_cutAll 173 = .ok (.invokestatic 149, 3) := by decide +kernel
theorem dX12_cutAll_176 : decode cX12_cutAll 176 = .ok (.ifCond .eq 42, 3) := by decide +kernel
theorem dX12_cutAll_179 : decode cX12_cutAll 179 = .ok (.iload_n 2, 1) := by decide +kernel
theorem dX12_cutAll_180 : decode cX12_cutAll 180 = .ok (.iload 4, 2) := by decide +kernel
theorem dX12_cutAll_182 : decode cX12_cutAll 182 = .ok (.isub, 1) := by decide +kernel
theorem dX12_cutAll_183 : decode cX12_cutAll 183 = .ok (.iconst 4, 1) := by decide +kernel
theorem dX12_cutAll_184 : decode cX12_cutAll 184 = .ok (.if_icmp .ge 24, 3) := by decide +kernel
theorem dX12_cutAll_187 : decode cX12_cutAll 187 = .ok (.ldc2_w 152, 3) := by decide +kernel
theorem dX12_cutAll_190 : decode cX12_cutAll 190 = .ok (.lload 5, 2) := by decide +kernel
theorem dX12_cutAll_192 : decode cX12_cutAll 192 = .ok (.lmul, 1) := by decide +kernel
theorem dX12_cutAll_193 : decode cX12_cutAll 193 = .ok (.aload_n 0, 1) := by decide +kernel
theorem dX12_cutAll_194 : decode cX12_cutAll 194 = .ok (.getfield 14, 3) := by decide +kernel
theorem dX12_cutAll_197 : decode cX12_cutAll 197 = .ok (.iload_n 2, 1) := by decide +kernel
theorem dX12_cutAll_198 : decode cX12_cutAll 198 = .ok (.iaload, 1) := by decide +kernel
theorem dX12_cutAll_199 : decode cX12_cutAll 199 = .ok (.i2l, 1) := by decide +kernel
theorem dX12_cutAll_200 : decode cX12_cutAll 200 = .ok (.ladd, 1) := by decide +kernel
theorem dX12_cutAll_201 : decode cX12_cutAll 201 = .ok (.ldc2_w 154, 3) := by decide +kernel
theorem dX12_cutAll_204 : decode cX12_cutAll 204 = .ok (.lsub, 1) := by decide +kernel
theorem dX12_cutAll_205 : decode cX12_cutAll 205 = .ok (.goto 5, 3) := by decide +kernel
theorem dX12_cutAll_253 : decode cX12_cutAll 253 = .ok (.ifCond .eq 7, 3) := by decide +kernel
theorem dX12_cutAll_256 : decode cX12_cutAll 256 = .ok (.iconst 3, 1) := by decide +kernel
theorem dX12_cutAll_257 : decode cX12_cutAll 257 = .ok (.goto 4, 3) := by decide +kernel
theorem dX12_cutAll_260 : decode cX12_cutAll 260 = .ok (.iconst 4, 1) := by decide +kernel
theorem dX12_cutAll_261 : decode cX12_cutAll 261 = .ok (.iastore, 1) := by decide +kernel
theorem dX12_cutAll_262 : decode cX12_cutAll 262 = .ok (.iinc 2 1, 3) := by decide +kernel
theorem dX12_rank_0 : decode cX12_rank 0 = .ok (.iload_n 0, 1) := by decide +kernel
theorem dX12_rank_1 : decode cX12_rank 1 = .ok (.invokestatic 136, 3) := by decide +kernel
theorem dX12_rank_4 : decode cX12_rank 4 = .ok (.ifCond .eq 10, 3) := by decide +kernel
theorem dX12_rank_7 : decode cX12_rank 7 = .ok (.iload_n 0, 1) := by decide +kernel
theorem dX12_rank_8 : decode cX12_rank 8 = .ok (.bipush 96, 2) := by decide +kernel
theorem dX12_rank_10 : decode cX12_rank 10 = .ok (.isub, 1) := by decide +kernel
theorem dX12_rank_11 : decode cX12_rank 11 = .ok (.goto 7, 3) := by decide +kernel
theorem dX12_rank_14 : decode cX12_rank 14 = .ok (.iload_n 0, 1) := by decide +kernel
theorem dX12_rank_15 : decode cX12_rank 15 = .ok (.bipush 21, 2) := by decide +kernel
theorem dX12_rank_17 : decode cX12_rank 17 = .ok (.isub, 1) := by decide +kernel
theorem dX12_rank_18 : decode cX12_rank 18 = .ok (.ireturn, 1) := by decide +kernel
set_option maxHeartbeats 4000000 in
set_option maxRecDepth 100000 in
theorem s_X12_rank {P : PP} {a0 : Int32} (I : IV P) : CtrI yX12_rank cX12_rank 1 (some Jvm.ClassFile.FieldType.int) ({ frames := 2, cells := 0, slots := 0, locals := 128 } : Room) 0 0 P [.int a0] (fun r P2 => P = P2 ∧ (True)) := by
  refine enI (lv := [(0, .int a0)]) (by decide) (Nat.le_of_ble_eq_true rfl) rfl (fun E D cy C Ci0 ret => ?_)
  refine g_iload_n C dX12_rank_0 rfl 0 rfl ?_
  refine g_callSI (b := 0) (ci := 0) (rest := []) C ms_X12_136 [.int a0] (s_X12_isLetter I) rfl rfl (by decide) (Nat.le_of_ble_eq_true rfl) (by decide) dX12_rank_1 (fun r43437 Y43438 h43439 => ?_)
  obtain ⟨rfl, h43439⟩ := h43439
  obtain ⟨h43439, hi43440, hi43441⟩ := h43439
  have hi43440 : r43437.toInt = 0 ∨ (((97 : Int) ≤ a0.toInt ∧ a0.toInt ≤ (122 : Int))) := hi43440
  have hi43441 : r43437.toInt ≠ 0 ∨ a0.toInt < 97 ∨ 122 < a0.toInt := hi43441
  have h43439 : 0 ≤ r43437.toInt ∧ r43437.toInt ≤ 1 := h43439
  refine b_if_eq C 14 dX12_rank_4 (by decide) (fun h43442 => ?_) (fun h43442 => ?_)
  · have h43442 : r43437.toInt = 0 := congrArg Int32.toInt h43442
    clear hi43440
    refine g_iload_n C dX12_rank_14 rfl 0 rfl ?_
    refine g_bipush (v := 21) C dX12_rank_15 (by decide) ?_
    refine a_isub C dX12_rank_17 (fun z43443 => ?_)
    exact ret _ _ _ _ _ _ dX12_rank_18 rfl (by decide) (by decide) ⟨rfl, trivial⟩
  · have h43442 : r43437.toInt ≠ 0 := ti_ne h43442
    replace hi43440 := hi43440.resolve_left (by omega)
    refine g_iload_n C dX12_rank_7 rfl 0 rfl ?_
    refine g_bipush (v := 96) C dX12_rank_8 (by decide) ?_
    refine s_isub C dX12_rank_10 (by show -2147483648 ≤ a0.toInt - 96 ∧ a0.toInt - 96 ≤ 2147483647; omega) (fun z43445 h43446 => ?_)
    have h43446 : z43445.toInt = a0.toInt - 96 := h43446
    refine g_goto C 18 dX12_rank_11 (by decide) ?_
    exact ret _ _ _ _ _ _ dX12_rank_18 rfl (by decide) (by decide) ⟨rfl, trivial⟩
theorem dX12_cutAll_114 : decode cX12_cutAll 114 = .ok (.i2l, 1) := by decide +kernel
theorem dX12_cutAll_115 : decode cX12_cutAll 115 = .ok (.ladd, 1) := by decide +kernel
theorem dX12_cutAll_116 : decode cX12_cutAll 116 = .ok (.goto 5, 3) := by decide +kernel
theorem dX12_cutAll_119 : decode cX12_cutAll 119 = .ok (.lload 5, 2) := by decide +kernel
theorem dX12_cutAll_121 : decode cX12_cutAll 121 = .ok (.lstore 5, 2) := by decide +kernel
theorem dX12_cutAll_123 : decode cX12_cutAll 123 = .ok (.iinc 2 1, 3) := by decide +kernel
theorem dX12_cutAll_126 : decode cX12_cutAll 126 = .ok (.goto (-56), 3) := by decide +kernel
theorem dX12_cutAll_129 : decode cX12_cutAll 129 = .ok (.aload_n 0, 1) := by decide +kernel
theorem dX12_cutAll_130 : decode cX12_cutAll 130 = .ok (.getfield 24, 3) := by decide +kernel
theorem dX12_cutAll_133 : decode cX12_cutAll 133 = .ok (.iload_n 1, 1) := by decide +kernel
theorem dX12_cutAll_134 : decode cX12_cutAll 134 = .ok (.iload_n 2, 1) := by decide +kernel
theorem dX12_cutAll_135 : decode cX12_cutAll 135 = .ok (.iload 4, 2) := by decide +kernel
theorem dX12_cutAll_137 : decode cX12_cutAll 137 = .ok (.isub, 1) := by decide +kernel
theorem dX12_cutAll_138 : decode cX12_cutAll 138 = .ok (.bipush 8, 2) := by decide +kernel
theorem dX12_cutAll_140 : decode cX12_cutAll 140 = .ok (.if_icmp .le 7, 3) := by decide +kernel
theorem dX12_cutAll_143 : decode cX12_cutAll 143 = .ok (.iconst 4, 1) := by decide +kernel
theorem dX12_cutAll_144 : decode cX12_cutAll 144 = .ok (.goto 4, 3) := by decide +kernel
theorem dX12_cutAll_147 : decode cX12_cutAll 147 = .ok (.iconst 1, 1) := by decide +kernel
theorem dX12_cutAll_148 : decode cX12_cutAll 148 = .ok (.iastore, 1) := by decide +kernel
theorem dX12_cutAll_149 : decode cX12_cutAll 149 = .ok (.goto 116, 3) := by decide +kernel
theorem dX12_cutAll_208 : decode cX12_cutAll 208 = .ok (.lload 5, 2) := by decide +kernel
theorem dX12_cutAll_210 : decode cX12_cutAll 210 = .ok (.lstore 5, 2) := by decide +kernel
theorem dX12_cutAll_212 : decode cX12_cutAll 212 = .ok (.iinc 2 1, 3) := by decide +kernel
theorem dX12_cutAll_215 : decode cX12_cutAll 215 = .ok (.goto (-56), 3) := by decide +kernel
theorem dX12_cutAll_218 : decode cX12_cutAll 218 = .ok (.aload_n 0, 1) := by decide +kernel
theorem dX12_cutAll_219 : decode cX12_cutAll 219 = .ok (.getfield 24, 3) := by decide +kernel
theorem dX12_cutAll_222 : decode cX12_cutAll 222 = .ok (.iload_n 1, 1) := by decide +kernel
theorem dX12_cutAll_223 : decode cX12_cutAll 223 = .ok (.iload_n 2, 1) := by decide +kernel
theorem dX12_cutAll_224 : decode cX12_cutAll 224 = .ok (.iload 4, 2) := by decide +kernel
theorem dX12_cutAll_226 : decode cX12_cutAll 226 = .ok (.isub, 1) := by decide +kernel
theorem dX12_cutAll_227 : decode cX12_cutAll 227 = .ok (.iconst 4, 1) := by decide +kernel
theorem dX12_cutAll_228 : decode cX12_cutAll 228 = .ok (.if_icmp .le 7, 3) := by decide +kernel
theorem dX12_cutAll_231 : decode cX12_cutAll 231 = .ok (.iconst 4, 1) := by decide +kernel
theorem dX12_cutAll_232 : decode cX12_cutAll 232 = .ok (.goto 4, 3) := by decide +kernel
theorem dX12_cutAll_235 : decode cX12_cutAll 235 = .ok (.iconst 2, 1) := by decide +kernel
theorem dX12_cutAll_236 : decode cX12_cutAll 236 = .ok (.iastore, 1) := by decide +kernel
theorem dX12_cutAll_237 : decode cX12_cutAll 237 = .ok (.goto 28, 3) := by decide +kernel
theorem dX12_cutAll_265 : decode cX12_cutAll 265 = .ok (.aload_n 0, 1) := by decide +kernel
theorem dX12_cutAll_266 : decode cX12_cutAll 266 = .ok (.getfield 30, 3) := by decide +kernel
theorem dX12_cutAll_269 : decode cX12_cutAll 269 = .ok (.iload_n 1, 1) := by decide +kernel
theorem dX12_cutAll_270 : decode cX12_cutAll 270 = .ok (.lload 5, 2) := by decide +kernel
theorem dX12_cutAll_272 : decode cX12_cutAll 272 = .ok (.lastore, 1) := by decide +kernel
theorem dX12_cutAll_273 : decode cX12_cutAll 273 = .ok (.iinc 1 1, 3) := by decide +kernel
theorem dX12_cutAll_276 : decode cX12_cutAll 276 = .ok (.goto (-259), 3) := by decide +kernel
set_option maxHeartbeats 4000000 in
set_option maxRecDepth 100000 in
theorem s_X12_cutAll {P : PP} {a0 : Nat} (I : IM P a0) (hW : MW P a0) : CtrV yX12_cutAll cX12_cutAll 7 none ({ frames := 3, cells := 0, slots := 0, locals := 192 } : Room) 0 0 P [.ref a0] (fun P2 => IM P2 a0 ∧ EM [2, 3, 4, 5, 7, 8] a0 P P2 ∧ MW P2 a0) := by
  refine enV (lv := [(0, .ref a0)]) (by decide) (Nat.le_of_ble_eq_true rfl) rfl (fun E D cy C Ci0 ret => ?_)
  have ha0 := I.2.1
  have J17 : ∀ (n17 : Nat) (P17 : PP) (v17_1 : Int32) (v17_2 : Int32), (1000 - v17_2.toInt).toNat < n17 → (IM P17 a0) → (EM [2, 3, 4, 5, 7, 8] a0 P P17) → (MW P17 a0) → (0 ≤ v17_1.toInt ∧ v17_1.toInt ≤ 1000) → (0 ≤ v17_2.toInt ∧ v17_2.toInt ≤ 1000) → (0 ≤ (pI P17 a0 2).toInt ∧ (pI P17 a0 2).toInt ≤ 0) → (v17_1.toInt ≤ v17_2.toInt) → G E ({ frames := 3, cells := 0, slots := 0, locals := 192 } : Room) D cy 7 P17 0 0 17 [(0, .ref a0), (1, .int v17_1), (2, .int v17_2)] [] := by
    intro n17
    induction n17 with
    | zero => intro P17 v17_1 v17_2 hm17 I17 X17 W17 hv17_1 hv17_2 hq17_0 rel17_0; omega
    | succ n17 ih17 =>
      intro P17 v17_1 v17_2 hm17 I17 X17 W17 hv17_1 hv17_2 hq17_0 rel17_0
      have h54744 := X17.at ha0
      have J265 : ∀ (P265 : PP) (v265_2 : Int32) (l265_5 : Int64), (IM P265 a0) → (EM [2, 3, 4, 5, 7, 8] a0 P P265) → (MW P265 a0) → (0 ≤ v265_2.toInt ∧ v265_2.toInt ≤ 1000) → (0 ≤ (pI P265 a0 2).toInt ∧ (pI P265 a0 2).toInt ≤ 0) → (1 ≤ (pI P265 a0 3).toInt ∧ (pI P265 a0 3).toInt ≤ 1000) → (∀ b, pR P265 a0 4 = some b → 1 ≤ (pI P265 b (v17_1.toInt.toNat)).toInt ∧ (pI P265 b (v17_1.toInt.toNat)).toInt ≤ 4) → (∀ b, pR P265 a0 5 = some b → 0 ≤ (pI P265 b (v17_1.toInt.toNat)).toInt ∧ (pI P265 b (v17_1.toInt.toNat)).toInt ≤ 999) → (v17_1.toInt < v265_2.toInt) → (v17_2.toInt < v265_2.toInt) → G E ({ frames := 3, cells := 0, slots := 0, locals := 192 } : Room) D cy 7 P265 0 0 265 [(0, .ref a0), (1, .int v17_1), (2, .int v265_2), (5, .long l265_5)] [] := by
        intro P265 v265_2 l265_5 I265 X265 W265 hv265_2 hq265_0 hq265_1 hq265_2 hq265_3 rel265_0 rel265_1
        have h54745 := X265.at ha0
        obtain ⟨b54746, e54747, h54748⟩ := I265.fld (h54745) 4 13 1002 rfl
        have hq265_2 := hq265_2 b54746 e54747
        obtain ⟨b54749, e54750, h54751⟩ := I265.fld (h54745) 5 13 1002 rfl
        have hq265_3 := hq265_3 b54749 e54750
        refine g_aload_n C dX12_cutAll_265 rfl 0 rfl ?_
        obtain ⟨b54752, e54753, h54754⟩ := I265.fld (h54745) 6 14 1002 rfl
        refine g_getR C fi_X12_30 rfl e54753 (h54745).1 (h54745).2 dX12_cutAll_266 ?_
        refine g_iload_n C dX12_cutAll_269 rfl 1 rfl ?_
        refine g_lload C dX12_cutAll_270 3 rfl ?_
        refine g_last (j := (v17_1.toInt.toNat)) C h54754.1 h54754.2.1 (ix_in h54754.2.2 (by omega)) dX12_cutAll_272 ?_
        refine gq (ks := []) (I265.setJ) (EM.setJ) (fun Y54755 Iy54756 Xy54757 => ?_)
        have q54758 := Xy54757.keepF 2 (by decide)
        have q54759 := Xy54757.keepF 3 (by decide)
        have q54760 := Xy54757.keepA e54747 (by decide) rfl (v17_1.toInt.toNat)
        have q54761 := Xy54757.keepA e54750 (by decide) rfl (v17_1.toInt.toNat)
        have W54762 := W265.keep I265 Xy54757 (by decide) (by decide) (by decide) (by decide)
        have Xz54763 : EM [2, 3, 4, 5, 7, 8] a0 P Y54755 := EM.tr ha0 X265 (Xy54757.mono (by decide))
        have e54764 := Xy54757.ref h54745 (by decide) e54747
        have e54765 := Xy54757.ref h54745 (by decide) e54750
        have h54766 := Xy54757.at h54745
        have h54767 := Xy54757.ar h54748
        have h54768 := Xy54757.ar h54751
        refine s_iinc (lv0 := [(0, .ref a0), (2, .int v265_2), (5, .long l265_5)]) (m := 1) C dX12_cutAll_273 1 rfl (by decide) rfl (by decide) (by omega) (fun z54769 h54770 => ?_)
        have h54770 : z54769.toInt = v17_1.toInt + 1 := h54770
        refine g_goto C 17 dX12_cutAll_276 (by decide) ?_
        refine g_lv (lv' := [(0, .ref a0), (1, .int z54769), (2, .int v265_2)]) [1, 0, 2] rfl ?_
        exact ih17 Y54755 z54769 v265_2 (by omega) Iy54756 Xz54763 W54762 (by omega) (by omega) (by omega) (by show z54769.toInt ≤ v265_2.toInt; omega)
      have J261 : ∀ (P261 : PP) (l261_5 : Int64) (v261_s0 : Int32) (b261_s2 : Nat), (IM P261 a0) → (EM [2, 3, 4, 5, 7, 8] a0 P P261) → (MW P261 a0) → (0 ≤ v17_2.toInt ∧ v17_2.toInt ≤ 999) → (3 ≤ v261_s0.toInt ∧ v261_s0.toInt ≤ 4) → (Ar P261 b261_s2 13 1002) → (pR P261 a0 4 = some b261_s2) → (0 ≤ (pI P261 a0 2).toInt ∧ (pI P261 a0 2).toInt ≤ 0) → (1 ≤ (pI P261 a0 3).toInt ∧ (pI P261 a0 3).toInt ≤ 1000) → (∀ b, pR P261 a0 5 = some b → 0 ≤ (pI P261 b (v17_1.toInt.toNat)).toInt ∧ (pI P261 b (v17_1.toInt.toNat)).toInt ≤ 999) → (v17_1.toInt ≤ v17_2.toInt) → (v17_2.toInt = v17_2.toInt) → G E ({ frames := 3, cells := 0, slots := 0, locals := 192 } : Room) D cy 7 P261 0 0 261 [(0, .ref a0), (1, .int v17_1), (2, .int v17_2), (5, .long l261_5)] [.int v261_s0, .int v17_1, .ref b261_s2] := by
        intro P261 l261_5 v261_s0 b261_s2 I261 X261 W261 hv261_2 hv261_s0 hb261_s2 eb261_s2 hq261_0 hq261_1 hq261_2 rel261_0 rel261_1
        have h54771 := X261.at ha0
        obtain ⟨b54772, e54773, h54774⟩ := I261.fld (h54771) 5 13 1002 rfl
        have hq261_2 := hq261_2 b54772 e54773
        refine g_iast (j := (v17_1.toInt.toNat)) C hb261_s2.1 hb261_s2.2.1 (ix_in hb261_s2.2.2 (by omega)) dX12_cutAll_261 ?_
        refine gqW (ks := [4]) (I261.setA eb261_s2 hb261_s2 (by decide) (arOk.of rfl (by omega))) (EM.setA I261 eb261_s2 rfl (by decide)) (fun Y54775 Iy54776 Xy54777 w54778  => ?_)
        have w54778 : (pI Y54775 b261_s2 (v17_1.toInt.toNat)).toInt = v261_s0.toInt := w54778
        have q54779 := Xy54777.keepF 2 (by decide)
        have q54780 := Xy54777.keepF 3 (by decide)
        have q54781 := Xy54777.keepA e54773 (by decide) rfl (v17_1.toInt.toNat)
        have W54782 := W261.keep I261 Xy54777 (by decide) (by decide) (by decide) (by decide)
        have Xz54783 : EM [2, 3, 4, 5, 7, 8] a0 P Y54775 := EM.tr ha0 X261 (Xy54777.mono (by decide))
        have e54784 := Xy54777.ref h54771 (by decide) eb261_s2
        have e54785 := Xy54777.ref h54771 (by decide) e54773
        have h54786 := Xy54777.at h54771
        have h54787 := Xy54777.ar hb261_s2
        have h54788 := Xy54777.ar h54774
        refine s_iinc (lv0 := [(0, .ref a0), (1, .int v17_1), (5, .long l261_5)]) (m := 1) C dX12_cutAll_262 2 rfl (by decide) rfl (by decide) (by omega) (fun z54789 h54790 => ?_)
        have h54790 : z54789.toInt = v17_2.toInt + 1 := h54790
        refine g_lv (lv' := [(0, .ref a0), (1, .int v17_1), (2, .int z54789), (5, .long l261_5)]) [1, 2, 0, 3] rfl ?_
        exact J265 Y54775 z54789 l261_5 Iy54776 Xz54783 W54782 (by omega) (by omega) (by omega) (fun b9 e9 => by rw [e54784] at e9; cases e9; omega) (fun b9 e9 => by rw [e54785] at e9; cases e9; omega) (by show v17_1.toInt < z54789.toInt; omega) (by show v17_2.toInt < z54789.toInt; omega)
      have J236 : ∀ (P236 : PP) (v236_2 : Int32) (l236_5 : Int64) (v236_s0 : Int32) (b236_s2 : Nat), (IM P236 a0) → (EM [2, 3, 4, 5, 7, 8] a0 P P236) → (MW P236 a0) → (0 ≤ v236_2.toInt ∧ v236_2.toInt ≤ 1000) → (2 ≤ v236_s0.toInt ∧ v236_s0.toInt ≤ 4) → (Ar P236 b236_s2 13 1002) → (pR P236 a0 4 = some b236_s2) → (0 ≤ (pI P236 a0 2).toInt ∧ (pI P236 a0 2).toInt ≤ 0) → (1 ≤ (pI P236 a0 3).toInt ∧ (pI P236 a0 3).toInt ≤ 1000) → (∀ b, pR P236 a0 5 = some b → 0 ≤ (pI P236 b (v17_1.toInt.toNat)).toInt ∧ (pI P236 b (v17_1.toInt.toNat)).toInt ≤ 999) → (v17_1.toInt < v236_2.toInt) → (v17_2.toInt < v236_2.toInt) → G E ({ frames := 3, cells := 0, slots := 0, locals := 192 } : Room) D cy 7 P236 0 0 236 [(0, .ref a0), (1, .int v17_1), (2, .int v236_2), (5, .long l236_5)] [.int v236_s0, .int v17_1, .ref b236_s2] := by
        intro P236 v236_2 l236_5 v236_s0 b236_s2 I236 X236 W236 hv236_2 hv236_s0 hb236_s2 eb236_s2 hq236_0 hq236_1 hq236_2 rel236_0 rel236_1
        have h54791 := X236.at ha0
        obtain ⟨b54792, e54793, h54794⟩ := I236.fld (h54791) 5 13 1002 rfl
        have hq236_2 := hq236_2 b54792 e54793
        refine g_iast (j := (v17_1.toInt.toNat)) C hb236_s2.1 hb236_s2.2.1 (ix_in hb236_s2.2.2 (by omega)) dX12_cutAll_236 ?_
        refine gqW (ks := [4]) (I236.setA eb236_s2 hb236_s2 (by decide) (arOk.of rfl (by omega))) (EM.setA I236 eb236_s2 rfl (by decide)) (fun Y54795 Iy54796 Xy54797 w54798  => ?_)
        have w54798 : (pI Y54795 b236_s2 (v17_1.toInt.toNat)).toInt = v236_s0.toInt := w54798
        have q54799 := Xy54797.keepF 2 (by decide)
        have q54800 := Xy54797.keepF 3 (by decide)
        have q54801 := Xy54797.keepA e54793 (by decide) rfl (v17_1.toInt.toNat)
        have W54802 := W236.keep I236 Xy54797 (by decide) (by decide) (by decide) (by decide)
        have Xz54803 : EM [2, 3, 4, 5, 7, 8] a0 P Y54795 := EM.tr ha0 X236 (Xy54797.mono (by decide))
        have e54804 := Xy54797.ref h54791 (by decide) eb236_s2
        have e54805 := Xy54797.ref h54791 (by decide) e54793
        have h54806 := Xy54797.at h54791
        have h54807 := Xy54797.ar hb236_s2
        have h54808 := Xy54797.ar h54794
        refine g_goto C 265 dX12_cutAll_237 (by decide) ?_
        exact J265 Y54795 v236_2 l236_5 Iy54796 Xz54803 W54802 (by omega) (by omega) (by omega) (fun b9 e9 => by rw [e54804] at e9; cases e9; omega) (fun b9 e9 => by rw [e54805] at e9; cases e9; omega) (by show v17_1.toInt < v236_2.toInt; omega) (by show v17_2.toInt < v236_2.toInt; omega)
      have J218 : ∀ (P218 : PP) (v218_2 : Int32) (l218_5 : Int64), (IM P218 a0) → (EM [2, 3, 4, 5, 7, 8] a0 P P218) → (MW P218 a0) → (0 ≤ v218_2.toInt ∧ v218_2.toInt ≤ 1000) → (0 ≤ v17_2.toInt ∧ v17_2.toInt ≤ 999) → (0 ≤ (pI P218 a0 2).toInt ∧ (pI P218 a0 2).toInt ≤ 0) → (1 ≤ (pI P218 a0 3).toInt ∧ (pI P218 a0 3).toInt ≤ 1000) → (∀ b, pR P218 a0 5 = some b → 0 ≤ (pI P218 b (v17_1.toInt.toNat)).toInt ∧ (pI P218 b (v17_1.toInt.toNat)).toInt ≤ 999) → (v17_1.toInt ≤ v17_2.toInt) → (v17_2.toInt < v218_2.toInt) → (v17_2.toInt < v218_2.toInt) → G E ({ frames := 3, cells := 0, slots := 0, locals := 192 } : Room) D cy 7 P218 0 0 218 [(0, .ref a0), (1, .int v17_1), (2, .int v218_2), (4, .int v17_2), (5, .long l218_5)] [] := by
        intro P218 v218_2 l218_5 I218 X218 W218 hv218_2 hv218_4 hq218_0 hq218_1 hq218_2 rel218_0 rel218_1 rel218_2
        have h54809 := X218.at ha0
        obtain ⟨b54810, e54811, h54812⟩ := I218.fld (h54809) 5 13 1002 rfl
        have hq218_2 := hq218_2 b54810 e54811
        refine g_aload_n C dX12_cutAll_218 rfl 0 rfl ?_
        obtain ⟨b54813, e54814, h54815⟩ := I218.fld (h54809) 4 13 1002 rfl
        refine g_getR C fi_X12_24 rfl e54814 (h54809).1 (h54809).2 dX12_cutAll_219 ?_
        refine g_iload_n C dX12_cutAll_222 rfl 1 rfl ?_
        refine g_iload_n C dX12_cutAll_223 rfl 2 rfl ?_
        refine g_iload C dX12_cutAll_224 3 rfl ?_
        refine s_isub C dX12_cutAll_226 (by show -2147483648 ≤ v218_2.toInt - v17_2.toInt ∧ v218_2.toInt - v17_2.toInt ≤ 2147483647; omega) (fun z54816 h54817 => ?_)
        have h54817 : z54816.toInt = v218_2.toInt - v17_2.toInt := h54817
        refine g_iconst (v := 4) C dX12_cutAll_227 (by decide) ?_
        refine b_icmp_le C 235 dX12_cutAll_228 (by decide) (fun h54818 => ?_) (fun h54818 => ?_)
        · have h54818 : z54816.toInt ≤ 4 := h54818
          refine g_iconst (v := 2) C dX12_cutAll_235 (by decide) ?_
          refine g_lv (lv' := [(0, .ref a0), (1, .int v17_1), (2, .int v218_2), (5, .long l218_5)]) [0, 1, 2, 4] rfl ?_
          exact J236 P218 v218_2 l218_5 2 b54813 I218 X218 W218 (by omega) (by decide) h54815 e54814 (by omega) (by omega) (fun b9 e9 => by rw [e54811] at e9; cases e9; omega) (by show v17_1.toInt < v218_2.toInt; omega) (by show v17_2.toInt < v218_2.toInt; omega)
        · have h54818 : 4 < z54816.toInt := h54818
          refine g_iconst (v := 4) C dX12_cutAll_231 (by decide) ?_
          refine g_goto C 236 dX12_cutAll_232 (by decide) ?_
          refine g_lv (lv' := [(0, .ref a0), (1, .int v17_1), (2, .int v218_2), (5, .long l218_5)]) [0, 1, 2, 4] rfl ?_
          exact J236 P218 v218_2 l218_5 4 b54813 I218 X218 W218 (by omega) (by decide) h54815 e54814 (by omega) (by omega) (fun b9 e9 => by rw [e54811] at e9; cases e9; omega) (by show v17_1.toInt < v218_2.toInt; omega) (by show v17_2.toInt < v218_2.toInt; omega)
      have J159 : ∀ (n159 : Nat) (P159 : PP) (v159_2 : Int32) (l159_5 : Int64), (1000 - v159_2.toInt).toNat < n159 → (IM P159 a0) → (EM [2, 3, 4, 5, 7, 8] a0 P P159) → (MW P159 a0) → (0 ≤ v159_2.toInt ∧ v159_2.toInt ≤ 1000) → (0 ≤ v17_2.toInt ∧ v17_2.toInt ≤ 999) → (0 ≤ (pI P159 a0 2).toInt ∧ (pI P159 a0 2).toInt ≤ 0) → (1 ≤ (pI P159 a0 3).toInt ∧ (pI P159 a0 3).toInt ≤ 1000) → (∀ b, pR P159 a0 5 = some b → 0 ≤ (pI P159 b (v17_1.toInt.toNat)).toInt ∧ (pI P159 b (v17_1.toInt.toNat)).toInt ≤ 999) → (v17_1.toInt ≤ v17_2.toInt) → (∀ b91, pR P159 a0 1 = some b91 → v17_2.toInt < v159_2.toInt ∨ (v17_2.toInt = v159_2.toInt ∧ v159_2.toInt < (pI P159 a0 3).toInt ∧ 48 ≤ (pI P159 b91 (v159_2.toInt.toNat)).toInt ∧ (pI P159 b91 (v159_2.toInt.toNat)).toInt ≤ 57)) → (v17_2.toInt = v17_2.toInt) → G E ({ frames := 3, cells := 0, slots := 0, locals := 192 } : Room) D cy 7 P159 0 0 159 [(0, .ref a0), (1, .int v17_1), (2, .int v159_2), (4, .int v17_2), (5, .long l159_5)] [] := by
        intro n159
        induction n159 with
        | zero => intro P159 v159_2 l159_5 hm159 I159 X159 W159 hv159_2 hv159_4 hq159_0 hq159_1 hq159_2 rel159_0 rel159_1 rel159_2; omega
        | succ n159 ih159 =>
          intro P159 v159_2 l159_5 hm159 I159 X159 W159 hv159_2 hv159_4 hq159_0 hq159_1 hq159_2 rel159_0 rel159_1 rel159_2
          have h54819 := X159.at ha0
          obtain ⟨b54820, e54821, h54822⟩ := I159.fld (h54819) 5 13 1002 rfl
          have hq159_2 := hq159_2 b54820 e54821
          obtain ⟨b54823, e54824, h54825⟩ := I159.fld (h54819) 1 13 1000 rfl
          have rel159_1 := rel159_1 b54823 e54824
          have J210 : ∀ (l210_s0 : Int64), (0 ≤ v159_2.toInt ∧ v159_2.toInt ≤ 999) → (0 ≤ v17_2.toInt ∧ v17_2.toInt ≤ 999) → (0 ≤ (pI P159 a0 2).toInt ∧ (pI P159 a0 2).toInt ≤ 0) → (1 ≤ (pI P159 a0 3).toInt ∧ (pI P159 a0 3).toInt ≤ 1000) → (∀ b, pR P159 a0 1 = some b → 48 ≤ (pI P159 b (v159_2.toInt.toNat)).toInt ∧ (pI P159 b (v159_2.toInt.toNat)).toInt ≤ 57) → (∀ b, pR P159 a0 5 = some b → 0 ≤ (pI P159 b (v17_1.toInt.toNat)).toInt ∧ (pI P159 b (v17_1.toInt.toNat)).toInt ≤ 999) → (v17_1.toInt ≤ v17_2.toInt) → (v17_2.toInt ≤ v159_2.toInt) → (v17_2.toInt = v17_2.toInt) → G E ({ frames := 3, cells := 0, slots := 0, locals := 192 } : Room) D cy 7 P159 0 0 210 [(0, .ref a0), (1, .int v17_1), (2, .int v159_2), (4, .int v17_2)] [.long l210_s0] := by
            intro l210_s0 hv210_2 hv210_4 hq210_0 hq210_1 hq210_2 hq210_3 rel210_0 rel210_1 rel210_2
            have h54826 := X159.at ha0
            obtain ⟨b54827, e54828, h54829⟩ := I159.fld (h54826) 1 13 1000 rfl
            have hq210_2 := hq210_2 b54827 e54828
            obtain ⟨b54830, e54831, h54832⟩ := I159.fld (h54826) 5 13 1002 rfl
            have hq210_3 := hq210_3 b54830 e54831
            refine g_lstore (lv' := [(5, .long l210_s0), (0, .ref a0), (1, .int v17_1), (2, .int v159_2), (4, .int v17_2)]) C dX12_cutAll_210 (by decide) rfl ?_
            refine s_iinc (lv0 := [(5, .long l210_s0), (0, .ref a0), (1, .int v17_1), (4, .int v17_2)]) (m := 1) C dX12_cutAll_212 3 rfl (by decide) rfl (by decide) (by omega) (fun z54833 h54834 => ?_)
            have h54834 : z54833.toInt = v159_2.toInt + 1 := h54834
            refine g_goto C 159 dX12_cutAll_215 (by decide) ?_
            refine g_lv (lv' := [(0, .ref a0), (1, .int v17_1), (2, .int z54833), (4, .int v17_2), (5, .long l210_s0)]) [2, 3, 0, 4, 1] rfl ?_
            exact ih159 P159 z54833 l210_s0 (by omega) I159 X159 W159 (by omega) (by omega) (by omega) (by omega) (fun b9 e9 => by rw [e54831] at e9; cases e9; omega) (by show v17_1.toInt ≤ v17_2.toInt; omega) (by intro b91 e91; rw [e54828] at e91; cases e91; show v17_2.toInt < z54833.toInt ∨ (v17_2.toInt = z54833.toInt ∧ z54833.toInt < (pI P159 a0 3).toInt ∧ 48 ≤ (pI P159 b54827 (z54833.toInt.toNat)).toInt ∧ (pI P159 b54827 (z54833.toInt.toNat)).toInt ≤ 57); omega) (by show v17_2.toInt = v17_2.toInt; omega)
          refine g_iload_n C dX12_cutAll_159 rfl 2 rfl ?_
          refine g_aload_n C dX12_cutAll_160 rfl 0 rfl ?_
          refine g_getI C fi_X12_140 (by decide) (h54819).1 (h54819).2 dX12_cutAll_161 ?_
          refine b_icmp_ge C 218 dX12_cutAll_164 (by decide) (fun h54835 => ?_) (fun h54835 => ?_)
          · have h54835 : (pI P159 a0 3).toInt ≤ v159_2.toInt := h54835
            exact J218 P159 v159_2 l159_5 I159 X159 W159 (by omega) (by omega) (by omega) (by omega) (fun b9 e9 => by rw [e54821] at e9; cases e9; omega) (by show v17_1.toInt ≤ v17_2.toInt; omega) (by show v17_2.toInt < v159_2.toInt; omega) (by show v17_2.toInt < v159_2.toInt; omega)
          · have h54835 : v159_2.toInt < (pI P159 a0 3).toInt := h54835
            refine g_aload_n C dX12_cutAll_167 rfl 0 rfl ?_
            refine g_getR C fi_X12_14 rfl e54824 (h54819).1 (h54819).2 dX12_cutAll_168 ?_
            refine g_iload_n C dX12_cutAll_171 rfl 2 rfl ?_
            refine g_iald (j := (v159_2.toInt.toNat)) C h54825.1 h54825.2.1 (ix_in h54825.2.2 (by omega)) dX12_cutAll_172 ?_
            refine g_callSI (b := 0) (ci := 0) (rest := []) C ms_X12_149 [.int (pI P159 b54823 (v159_2.toInt.toNat))] (s_X12_isDigit I159.1) rfl rfl (by decide) (Nat.le_of_ble_eq_true rfl) (by decide) dX12_cutAll_173 (fun r54836 Y54837 h54838 => ?_)
            obtain ⟨rfl, h54838⟩ := h54838
            obtain ⟨h54838, hi54839, hi54840⟩ := h54838
            have hi54839 : r54836.toInt = 0 ∨ (((48 : Int) ≤ (pI P159 b54823 (v159_2.toInt.toNat)).toInt ∧ (pI P159 b54823 (v159_2.toInt.toNat)).toInt ≤ (57 : Int))) := hi54839
            have hi54840 : r54836.toInt ≠ 0 ∨ (pI P159 b54823 (v159_2.toInt.toNat)).toInt < 48 ∨ 57 < (pI P159 b54823 (v159_2.toInt.toNat)).toInt := hi54840
            have h54838 : 0 ≤ r54836.toInt ∧ r54836.toInt ≤ 1 := h54838
            refine b_if_eq C 218 dX12_cutAll_176 (by decide) (fun h54841 => ?_) (fun h54841 => ?_)
            · have h54841 : r54836.toInt = 0 := congrArg Int32.toInt h54841
              clear hi54839
              exact J218 P159 v159_2 l159_5 I159 X159 W159 (by omega) (by omega) (by omega) (by omega) (fun b9 e9 => by rw [e54821] at e9; cases e9; omega) (by show v17_1.toInt ≤ v17_2.toInt; omega) (by show v17_2.toInt < v159_2.toInt; omega) (by show v17_2.toInt < v159_2.toInt; omega)
            · have h54841 : r54836.toInt ≠ 0 := ti_ne h54841
              replace hi54839 := hi54839.resolve_left (by omega)
              refine g_iload_n C dX12_cutAll_179 rfl 2 rfl ?_
              refine g_iload C dX12_cutAll_180 3 rfl ?_
              refine s_isub C dX12_cutAll_182 (by show -2147483648 ≤ v159_2.toInt - v17_2.toInt ∧ v159_2.toInt - v17_2.toInt ≤ 2147483647; omega) (fun z54842 h54843 => ?_)
              have h54843 : z54842.toInt = v159_2.toInt - v17_2.toInt := h54843
              refine g_iconst (v := 4) C dX12_cutAll_183 (by decide) ?_
              refine b_icmp_ge C 208 dX12_cutAll_184 (by decide) (fun h54844 => ?_) (fun h54844 => ?_)
              · have h54844 : 4 ≤ z54842.toInt := h54844
                refine g_lload C dX12_cutAll_208 4 rfl ?_
                refine g_lv (lv' := [(0, .ref a0), (1, .int v17_1), (2, .int v159_2), (4, .int v17_2)]) [0, 1, 2, 3] rfl ?_
                exact J210 l159_5 (by omega) (by omega) (by omega) (by omega) (fun b9 e9 => by rw [e54824] at e9; cases e9; omega) (fun b9 e9 => by rw [e54821] at e9; cases e9; omega) (by show v17_1.toInt ≤ v17_2.toInt; omega) (by show v17_2.toInt ≤ v159_2.toInt; omega) (by show v17_2.toInt = v17_2.toInt; omega)
              · have h54844 : z54842.toInt < 4 := h54844
                refine g_ldc2 (v := 10) C kl_X12_152 dX12_cutAll_187 ?_
                refine g_topl (fun l54845 el54845 => ?_)
                have hz_l54845 : ¬ l54845 = 0 := by rw [el54845]; decide
                refine g_lload C dX12_cutAll_190 4 rfl ?_
                refine a_lmul C dX12_cutAll_192 (fun l54846 => ?_)
                refine g_aload_n C dX12_cutAll_193 rfl 0 rfl ?_
                refine g_getR C fi_X12_14 rfl e54824 (h54819).1 (h54819).2 dX12_cutAll_194 ?_
                refine g_iload_n C dX12_cutAll_197 rfl 2 rfl ?_
                refine g_iald (j := (v159_2.toInt.toNat)) C h54825.1 h54825.2.1 (ix_in h54825.2.2 (by omega)) dX12_cutAll_198 ?_
                refine a_i2l C dX12_cutAll_199 (fun l54847 => ?_)
                refine a_ladd C dX12_cutAll_200 (fun l54848 => ?_)
                refine g_ldc2 (v := 48) C kl_X12_154 dX12_cutAll_201 ?_
                refine g_topl (fun l54849 el54849 => ?_)
                have hz_l54849 : ¬ l54849 = 0 := by rw [el54849]; decide
                refine a_lsub C dX12_cutAll_204 (fun l54850 => ?_)
                refine g_goto C 210 dX12_cutAll_205 (by decide) ?_
                refine g_lv (lv' := [(0, .ref a0), (1, .int v17_1), (2, .int v159_2), (4, .int v17_2)]) [0, 1, 2, 3] rfl ?_
                exact J210 l54850 (by omega) (by omega) (by omega) (by omega) (fun b9 e9 => by rw [e54824] at e9; cases e9; omega) (fun b9 e9 => by rw [e54821] at e9; cases e9; omega) (by show v17_1.toInt ≤ v17_2.toInt; omega) (by show v17_2.toInt ≤ v159_2.toInt; omega) (by show v17_2.toInt = v17_2.toInt; omega)
      have J148 : ∀ (P148 : PP) (v148_2 : Int32) (l148_5 : Int64) (v148_s0 : Int32) (b148_s2 : Nat), (IM P148 a0) → (EM [2, 3, 4, 5, 7, 8] a0 P P148) → (MW P148 a0) → (0 ≤ v148_2.toInt ∧ v148_2.toInt ≤ 1000) → (1 ≤ v148_s0.toInt ∧ v148_s0.toInt ≤ 4) → (Ar P148 b148_s2 13 1002) → (pR P148 a0 4 = some b148_s2) → (0 ≤ (pI P148 a0 2).toInt ∧ (pI P148 a0 2).toInt ≤ 0) → (1 ≤ (pI P148 a0 3).toInt ∧ (pI P148 a0 3).toInt ≤ 1000) → (∀ b, pR P148 a0 5 = some b → 0 ≤ (pI P148 b (v17_1.toInt.toNat)).toInt ∧ (pI P148 b (v17_1.toInt.toNat)).toInt ≤ 999) → (v17_1.toInt < v148_2.toInt) → (v17_2.toInt < v148_2.toInt) → G E ({ frames := 3, cells := 0, slots := 0, locals := 192 } : Room) D cy 7 P148 0 0 148 [(0, .ref a0), (1, .int v17_1), (2, .int v148_2), (5, .long l148_5)] [.int v148_s0, .int v17_1, .ref b148_s2] := by
        intro P148 v148_2 l148_5 v148_s0 b148_s2 I148 X148 W148 hv148_2 hv148_s0 hb148_s2 eb148_s2 hq148_0 hq148_1 hq148_2 rel148_0 rel148_1
        have h54851 := X148.at ha0
        obtain ⟨b54852, e54853, h54854⟩ := I148.fld (h54851) 5 13 1002 rfl
        have hq148_2 := hq148_2 b54852 e54853
        refine g_iast (j := (v17_1.toInt.toNat)) C hb148_s2.1 hb148_s2.2.1 (ix_in hb148_s2.2.2 (by omega)) dX12_cutAll_148 ?_
        refine gqW (ks := [4]) (I148.setA eb148_s2 hb148_s2 (by decide) (arOk.of rfl (by omega))) (EM.setA I148 eb148_s2 rfl (by decide)) (fun Y54855 Iy54856 Xy54857 w54858  => ?_)
        have w54858 : (pI Y54855 b148_s2 (v17_1.toInt.toNat)).toInt = v148_s0.toInt := w54858
        have q54859 := Xy54857.keepF 2 (by decide)
        have q54860 := Xy54857.keepF 3 (by decide)
        have q54861 := Xy54857.keepA e54853 (by decide) rfl (v17_1.toInt.toNat)
        have W54862 := W148.keep I148 Xy54857 (by decide) (by decide) (by decide) (by decide)
        have Xz54863 : EM [2, 3, 4, 5, 7, 8] a0 P Y54855 := EM.tr ha0 X148 (Xy54857.mono (by decide))
        have e54864 := Xy54857.ref h54851 (by decide) eb148_s2
        have e54865 := Xy54857.ref h54851 (by decide) e54853
        have h54866 := Xy54857.at h54851
        have h54867 := Xy54857.ar hb148_s2
        have h54868 := Xy54857.ar h54854
        refine g_goto C 265 dX12_cutAll_149 (by decide) ?_
        exact J265 Y54855 v148_2 l148_5 Iy54856 Xz54863 W54862 (by omega) (by omega) (by omega) (fun b9 e9 => by rw [e54864] at e9; cases e9; omega) (fun b9 e9 => by rw [e54865] at e9; cases e9; omega) (by show v17_1.toInt < v148_2.toInt; omega) (by show v17_2.toInt < v148_2.toInt; omega)
      have J129 : ∀ (P129 : PP) (v129_2 : Int32) (l129_5 : Int64), (IM P129 a0) → (EM [2, 3, 4, 5, 7, 8] a0 P P129) → (MW P129 a0) → (0 ≤ v129_2.toInt ∧ v129_2.toInt ≤ 1000) → (0 ≤ v17_2.toInt ∧ v17_2.toInt ≤ 999) → (0 ≤ (pI P129 a0 2).toInt ∧ (pI P129 a0 2).toInt ≤ 0) → (1 ≤ (pI P129 a0 3).toInt ∧ (pI P129 a0 3).toInt ≤ 1000) → (∀ b, pR P129 a0 5 = some b → 0 ≤ (pI P129 b (v17_1.toInt.toNat)).toInt ∧ (pI P129 b (v17_1.toInt.toNat)).toInt ≤ 999) → (v17_1.toInt ≤ v17_2.toInt) → (v17_2.toInt < v129_2.toInt) → (v17_2.toInt < v129_2.toInt) → G E ({ frames := 3, cells := 0, slots := 0, locals := 192 } : Room) D cy 7 P129 0 0 129 [(0, .ref a0), (1, .int v17_1), (2, .int v129_2), (4, .int v17_2), (5, .long l129_5)] [] := by
        intro P129 v129_2 l129_5 I129 X129 W129 hv129_2 hv129_4 hq129_0 hq129_1 hq129_2 rel129_0 rel129_1 rel129_2
        have h54869 := X129.at ha0
        obtain ⟨b54870, e54871, h54872⟩ := I129.fld (h54869) 5 13 1002 rfl
        have hq129_2 := hq129_2 b54870 e54871
        refine g_aload_n C dX12_cutAll_129 rfl 0 rfl ?_
        obtain ⟨b54873, e54874, h54875⟩ := I129.fld (h54869) 4 13 1002 rfl
        refine g_getR C fi_X12_24 rfl e54874 (h54869).1 (h54869).2 dX12_cutAll_130 ?_
        refine g_iload_n C dX12_cutAll_133 rfl 1 rfl ?_
        refine g_iload_n C dX12_cutAll_134 rfl 2 rfl ?_
        refine g_iload C dX12_cutAll_135 3 rfl ?_
        refine s_isub C dX12_cutAll_137 (by show -2147483648 ≤ v129_2.toInt - v17_2.toInt ∧ v129_2.toInt - v17_2.toInt ≤ 2147483647; omega) (fun z54876 h54877 => ?_)
        have h54877 : z54876.toInt = v129_2.toInt - v17_2.toInt := h54877
        refine g_bipush (v := 8) C dX12_cutAll_138 (by decide) ?_
        refine b_icmp_le C 147 dX12_cutAll_140 (by decide) (fun h54878 => ?_) (fun h54878 => ?_)
        · have h54878 : z54876.toInt ≤ 8 := h54878
          refine g_iconst (v := 1) C dX12_cutAll_147 (by decide) ?_
          refine g_lv (lv' := [(0, .ref a0), (1, .int v17_1), (2, .int v129_2), (5, .long l129_5)]) [0, 1, 2, 4] rfl ?_
          exact J148 P129 v129_2 l129_5 1 b54873 I129 X129 W129 (by omega) (by decide) h54875 e54874 (by omega) (by omega) (fun b9 e9 => by rw [e54871] at e9; cases e9; omega) (by show v17_1.toInt < v129_2.toInt; omega) (by show v17_2.toInt < v129_2.toInt; omega)
        · have h54878 : 8 < z54876.toInt := h54878
          refine g_iconst (v := 4) C dX12_cutAll_143 (by decide) ?_
          refine g_goto C 148 dX12_cutAll_144 (by decide) ?_
          refine g_lv (lv' := [(0, .ref a0), (1, .int v17_1), (2, .int v129_2), (5, .long l129_5)]) [0, 1, 2, 4] rfl ?_
          exact J148 P129 v129_2 l129_5 4 b54873 I129 X129 W129 (by omega) (by decide) h54875 e54874 (by omega) (by omega) (fun b9 e9 => by rw [e54871] at e9; cases e9; omega) (by show v17_1.toInt < v129_2.toInt; omega) (by show v17_2.toInt < v129_2.toInt; omega)
      have J70 : ∀ (n70 : Nat) (P70 : PP) (v70_2 : Int32) (l70_5 : Int64), (1000 - v70_2.toInt).toNat < n70 → (IM P70 a0) → (EM [2, 3, 4, 5, 7, 8] a0 P P70) → (MW P70 a0) → (0 ≤ v70_2.toInt ∧ v70_2.toInt ≤ 1000) → (0 ≤ v17_2.toInt ∧ v17_2.toInt ≤ 999) → (0 ≤ (pI P70 a0 2).toInt ∧ (pI P70 a0 2).toInt ≤ 0) → (1 ≤ (pI P70 a0 3).toInt ∧ (pI P70 a0 3).toInt ≤ 1000) → (∀ b, pR P70 a0 5 = some b → 0 ≤ (pI P70 b (v17_1.toInt.toNat)).toInt ∧ (pI P70 b (v17_1.toInt.toNat)).toInt ≤ 999) → (v17_1.toInt ≤ v17_2.toInt) → (∀ b91, pR P70 a0 1 = some b91 → v17_2.toInt < v70_2.toInt ∨ (v17_2.toInt = v70_2.toInt ∧ v70_2.toInt < (pI P70 a0 3).toInt ∧ 97 ≤ (pI P70 b91 (v70_2.toInt.toNat)).toInt ∧ (pI P70 b91 (v70_2.toInt.toNat)).toInt ≤ 122)) → (v17_2.toInt = v17_2.toInt) → G E ({ frames := 3, cells := 0, slots := 0, locals := 192 } : Room) D cy 7 P70 0 0 70 [(0, .ref a0), (1, .int v17_1), (2, .int v70_2), (4, .int v17_2), (5, .long l70_5)] [] := by
        intro n70
        induction n70 with
        | zero => intro P70 v70_2 l70_5 hm70 I70 X70 W70 hv70_2 hv70_4 hq70_0 hq70_1 hq70_2 rel70_0 rel70_1 rel70_2; omega
        | succ n70 ih70 =>
          intro P70 v70_2 l70_5 hm70 I70 X70 W70 hv70_2 hv70_4 hq70_0 hq70_1 hq70_2 rel70_0 rel70_1 rel70_2
          have h54879 := X70.at ha0
          obtain ⟨b54880, e54881, h54882⟩ := I70.fld (h54879) 5 13 1002 rfl
          have hq70_2 := hq70_2 b54880 e54881
          obtain ⟨b54883, e54884, h54885⟩ := I70.fld (h54879) 1 13 1000 rfl
          have rel70_1 := rel70_1 b54883 e54884
          have J121 : ∀ (l121_s0 : Int64), (0 ≤ v70_2.toInt ∧ v70_2.toInt ≤ 999) → (0 ≤ v17_2.toInt ∧ v17_2.toInt ≤ 999) → (0 ≤ (pI P70 a0 2).toInt ∧ (pI P70 a0 2).toInt ≤ 0) → (1 ≤ (pI P70 a0 3).toInt ∧ (pI P70 a0 3).toInt ≤ 1000) → (∀ b, pR P70 a0 1 = some b → 97 ≤ (pI P70 b (v70_2.toInt.toNat)).toInt ∧ (pI P70 b (v70_2.toInt.toNat)).toInt ≤ 122) → (∀ b, pR P70 a0 5 = some b → 0 ≤ (pI P70 b (v17_1.toInt.toNat)).toInt ∧ (pI P70 b (v17_1.toInt.toNat)).toInt ≤ 999) → (v17_1.toInt ≤ v17_2.toInt) → (v17_2.toInt ≤ v70_2.toInt) → (v17_2.toInt = v17_2.toInt) → G E ({ frames := 3, cells := 0, slots := 0, locals := 192 } : Room) D cy 7 P70 0 0 121 [(0, .ref a0), (1, .int v17_1), (2, .int v70_2), (4, .int v17_2)] [.long l121_s0] := by
            intro l121_s0 hv121_2 hv121_4 hq121_0 hq121_1 hq121_2 hq121_3 rel121_0 rel121_1 rel121_2
            have h54886 := X70.at ha0
            obtain ⟨b54887, e54888, h54889⟩ := I70.fld (h54886) 1 13 1000 rfl
            have hq121_2 := hq121_2 b54887 e54888
            obtain ⟨b54890, e54891, h54892⟩ := I70.fld (h54886) 5 13 1002 rfl
            have hq121_3 := hq121_3 b54890 e54891
            refine g_lstore (lv' := [(5, .long l121_s0), (0, .ref a0), (1, .int v17_1), (2, .int v70_2), (4, .int v17_2)]) C dX12_cutAll_121 (by decide) rfl ?_
            refine s_iinc (lv0 := [(5, .long l121_s0), (0, .ref a0), (1, .int v17_1), (4, .int v17_2)]) (m := 1) C dX12_cutAll_123 3 rfl (by decide) rfl (by decide) (by omega) (fun z54893 h54894 => ?_)
            have h54894 : z54893.toInt = v70_2.toInt + 1 := h54894
            refine g_goto C 70 dX12_cutAll_126 (by decide) ?_
            refine g_lv (lv' := [(0, .ref a0), (1, .int v17_1), (2, .int z54893), (4, .int v17_2), (5, .long l121_s0)]) [2, 3, 0, 4, 1] rfl ?_
            exact ih70 P70 z54893 l121_s0 (by omega) I70 X70 W70 (by omega) (by omega) (by omega) (by omega) (fun b9 e9 => by rw [e54891] at e9; cases e9; omega) (by show v17_1.toInt ≤ v17_2.toInt; omega) (by intro b91 e91; rw [e54888] at e91; cases e91; show v17_2.toInt < z54893.toInt ∨ (v17_2.toInt = z54893.toInt ∧ z54893.toInt < (pI P70 a0 3).toInt ∧ 97 ≤ (pI P70 b54887 (z54893.toInt.toNat)).toInt ∧ (pI P70 b54887 (z54893.toInt.toNat)).toInt ≤ 122); omega) (by show v17_2.toInt = v17_2.toInt; omega)
          refine g_iload_n C dX12_cutAll_70 rfl 2 rfl ?_
          refine g_aload_n C dX12_cutAll_71 rfl 0 rfl ?_
          refine g_getI C fi_X12_140 (by decide) (h54879).1 (h54879).2 dX12_cutAll_72 ?_
          refine b_icmp_ge C 129 dX12_cutAll_75 (by decide) (fun h54895 => ?_) (fun h54895 => ?_)
          · have h54895 : (pI P70 a0 3).toInt ≤ v70_2.toInt := h54895
            exact J129 P70 v70_2 l70_5 I70 X70 W70 (by omega) (by omega) (by omega) (by omega) (fun b9 e9 => by rw [e54881] at e9; cases e9; omega) (by show v17_1.toInt ≤ v17_2.toInt; omega) (by show v17_2.toInt < v70_2.toInt; omega) (by show v17_2.toInt < v70_2.toInt; omega)
          · have h54895 : v70_2.toInt < (pI P70 a0 3).toInt := h54895
            refine g_aload_n C dX12_cutAll_78 rfl 0 rfl ?_
            refine g_getR C fi_X12_14 rfl e54884 (h54879).1 (h54879).2 dX12_cutAll_79 ?_
            refine g_iload_n C dX12_cutAll_82 rfl 2 rfl ?_
            refine g_iald (j := (v70_2.toInt.toNat)) C h54885.1 h54885.2.1 (ix_in h54885.2.2 (by omega)) dX12_cutAll_83 ?_
            refine g_callSI (b := 0) (ci := 0) (rest := []) C ms_X12_136 [.int (pI P70 b54883 (v70_2.toInt.toNat))] (s_X12_isLetter I70.1) rfl rfl (by decide) (Nat.le_of_ble_eq_true rfl) (by decide) dX12_cutAll_84 (fun r54896 Y54897 h54898 => ?_)
            obtain ⟨rfl, h54898⟩ := h54898
            obtain ⟨h54898, hi54899, hi54900⟩ := h54898
            have hi54899 : r54896.toInt = 0 ∨ (((97 : Int) ≤ (pI P70 b54883 (v70_2.toInt.toNat)).toInt ∧ (pI P70 b54883 (v70_2.toInt.toNat)).toInt ≤ (122 : Int))) := hi54899
            have hi54900 : r54896.toInt ≠ 0 ∨ (pI P70 b54883 (v70_2.toInt.toNat)).toInt < 97 ∨ 122 < (pI P70 b54883 (v70_2.toInt.toNat)).toInt := hi54900
            have h54898 : 0 ≤ r54896.toInt ∧ r54896.toInt ≤ 1 := h54898
            refine b_if_eq C 129 dX12_cutAll_87 (by decide) (fun h54901 => ?_) (fun h54901 => ?_)
            · have h54901 : r54896.toInt = 0 := congrArg Int32.toInt h54901
              clear hi54899
              exact J129 P70 v70_2 l70_5 I70 X70 W70 (by omega) (by omega) (by omega) (by omega) (fun b9 e9 => by rw [e54881] at e9; cases e9; omega) (by show v17_1.toInt ≤ v17_2.toInt; omega) (by show v17_2.toInt < v70_2.toInt; omega) (by show v17_2.toInt < v70_2.toInt; omega)
            · have h54901 : r54896.toInt ≠ 0 := ti_ne h54901
              replace hi54899 := hi54899.resolve_left (by omega)
              refine g_iload_n C dX12_cutAll_90 rfl 2 rfl ?_
              refine g_iload C dX12_cutAll_91 3 rfl ?_
              refine s_isub C dX12_cutAll_93 (by show -2147483648 ≤ v70_2.toInt - v17_2.toInt ∧ v70_2.toInt - v17_2.toInt ≤ 2147483647; omega) (fun z54902 h54903 => ?_)
              have h54903 : z54902.toInt = v70_2.toInt - v17_2.toInt := h54903
              refine g_bipush (v := 8) C dX12_cutAll_94 (by decide) ?_
              refine b_icmp_ge C 119 dX12_cutAll_96 (by decide) (fun h54904 => ?_) (fun h54904 => ?_)
              · have h54904 : 8 ≤ z54902.toInt := h54904
                refine g_lload C dX12_cutAll_119 4 rfl ?_
                refine g_lv (lv' := [(0, .ref a0), (1, .int v17_1), (2, .int v70_2), (4, .int v17_2)]) [0, 1, 2, 3] rfl ?_
                exact J121 l70_5 (by omega) (by omega) (by omega) (by omega) (fun b9 e9 => by rw [e54884] at e9; cases e9; omega) (fun b9 e9 => by rw [e54881] at e9; cases e9; omega) (by show v17_1.toInt ≤ v17_2.toInt; omega) (by show v17_2.toInt ≤ v70_2.toInt; omega) (by show v17_2.toInt = v17_2.toInt; omega)
              · have h54904 : z54902.toInt < 8 := h54904
                refine g_ldc2 (v := 37) C kl_X12_143 dX12_cutAll_99 ?_
                refine g_topl (fun l54905 el54905 => ?_)
                have hz_l54905 : ¬ l54905 = 0 := by rw [el54905]; decide
                refine g_lload C dX12_cutAll_102 4 rfl ?_
                refine a_lmul C dX12_cutAll_104 (fun l54906 => ?_)
                refine g_aload_n C dX12_cutAll_105 rfl 0 rfl ?_
                refine g_getR C fi_X12_14 rfl e54884 (h54879).1 (h54879).2 dX12_cutAll_106 ?_
                refine g_iload_n C dX12_cutAll_109 rfl 2 rfl ?_
                refine g_iald (j := (v70_2.toInt.toNat)) C h54885.1 h54885.2.1 (ix_in h54885.2.2 (by omega)) dX12_cutAll_110 ?_
                refine g_callSI (b := 0) (ci := 0) (rest := [.long l54906]) C ms_X12_145 [.int (pI P70 b54883 (v70_2.toInt.toNat))] (s_X12_rank I70.1) rfl rfl (by decide) (Nat.le_of_ble_eq_true rfl) (by decide) dX12_cutAll_111 (fun r54907 Y54908 h54909 => ?_)
                obtain ⟨rfl, h54909⟩ := h54909
                have h54909 : True := h54909
                refine a_i2l C dX12_cutAll_114 (fun l54910 => ?_)
                refine a_ladd C dX12_cutAll_115 (fun l54911 => ?_)
                refine g_goto C 121 dX12_cutAll_116 (by decide) ?_
                refine g_lv (lv' := [(0, .ref a0), (1, .int v17_1), (2, .int v70_2), (4, .int v17_2)]) [0, 1, 2, 3] rfl ?_
                exact J121 l54911 (by omega) (by omega) (by omega) (by omega) (fun b9 e9 => by rw [e54884] at e9; cases e9; omega) (fun b9 e9 => by rw [e54881] at e9; cases e9; omega) (by show v17_1.toInt ≤ v17_2.toInt; omega) (by show v17_2.toInt ≤ v70_2.toInt; omega) (by show v17_2.toInt = v17_2.toInt; omega)
      have J44 : (0 ≤ v17_2.toInt ∧ v17_2.toInt ≤ 999) → (0 ≤ (pI P17 a0 2).toInt ∧ (pI P17 a0 2).toInt ≤ 0) → (1 ≤ (pI P17 a0 3).toInt ∧ (pI P17 a0 3).toInt ≤ 1000) → G E ({ frames := 3, cells := 0, slots := 0, locals := 192 } : Room) D cy 7 P17 0 0 44 [(0, .ref a0), (1, .int v17_1), (2, .int v17_2)] [] := by
        intro hv44_2 hq44_0 hq44_1
        have h54912 := X17.at ha0
        refine s_iinc (lv0 := [(0, .ref a0), (1, .int v17_1)]) (m := 1) C dX12_cutAll_44 2 rfl (by decide) rfl (by decide) (by omega) (fun z54913 h54914 => ?_)
        have h54914 : z54913.toInt = v17_2.toInt + 1 := h54914
        refine g_goto C 17 dX12_cutAll_47 (by decide) ?_
        refine g_lv (lv' := [(0, .ref a0), (1, .int v17_1), (2, .int z54913)]) [1, 2, 0] rfl ?_
        exact ih17 P17 v17_1 z54913 (by omega) I17 X17 W17 (by omega) (by omega) (by omega) (by show v17_1.toInt ≤ z54913.toInt; omega)
      refine g_iload_n C dX12_cutAll_17 rfl 2 rfl ?_
      refine g_aload_n C dX12_cutAll_18 rfl 0 rfl ?_
      refine g_getI C fi_X12_140 (by decide) (h54744).1 (h54744).2 dX12_cutAll_19 ?_
      have h54915 := I17.rg (h54744) 3 rfl
      refine b_icmp_ge C 279 dX12_cutAll_22 (by decide) (fun h54916 => ?_) (fun h54916 => ?_)
      · have h54916 : (pI P17 a0 3).toInt ≤ v17_2.toInt := h54916
        refine g_aload_n C dX12_cutAll_279 rfl 0 rfl ?_
        obtain ⟨b54917, e54918, h54919⟩ := I17.fld (h54744) 4 13 1002 rfl
        refine g_getR C fi_X12_24 rfl e54918 (h54744).1 (h54744).2 dX12_cutAll_280 ?_
        refine g_iload_n C dX12_cutAll_283 rfl 1 rfl ?_
        refine g_iconst (v := 0) C dX12_cutAll_284 (by decide) ?_
        refine g_iast (j := (v17_1.toInt.toNat)) C h54919.1 h54919.2.1 (ix_in h54919.2.2 (by omega)) dX12_cutAll_285 ?_
        refine gqW (ks := [4]) (I17.setA e54918 h54919 (by decide) (arOk.of rfl (by decide))) (EM.setA I17 e54918 rfl (by decide)) (fun Y54920 Iy54921 Xy54922 w54923  => ?_)
        have w54923 : (pI Y54920 b54917 (v17_1.toInt.toNat)).toInt = 0 := w54923
        have q54924 := Xy54922.keepF 2 (by decide)
        have q54925 := Xy54922.keepF 3 (by decide)
        have W54926 := W17.keep I17 Xy54922 (by decide) (by decide) (by decide) (by decide)
        have Xz54927 : EM [2, 3, 4, 5, 7, 8] a0 P Y54920 := EM.tr ha0 X17 (Xy54922.mono (by decide))
        have e54928 := Xy54922.ref h54744 (by decide) e54918
        have h54929 := Xy54922.at h54744
        have h54930 := Xy54922.ar h54919
        refine g_aload_n C dX12_cutAll_286 rfl 0 rfl ?_
        obtain ⟨b54931, e54932, h54933⟩ := Iy54921.fld (h54929) 5 13 1002 rfl
        refine g_getR C fi_X12_27 rfl e54932 (h54929).1 (h54929).2 dX12_cutAll_287 ?_
        refine g_iload_n C dX12_cutAll_290 rfl 1 rfl ?_
        refine g_aload_n C dX12_cutAll_291 rfl 0 rfl ?_
        refine g_getI C fi_X12_140 (by decide) (h54929).1 (h54929).2 dX12_cutAll_292 ?_
        refine g_iast (j := (v17_1.toInt.toNat)) C h54933.1 h54933.2.1 (ix_in h54933.2.2 (by omega)) dX12_cutAll_295 ?_
        refine gqW (ks := [5]) (Iy54921.setA e54932 h54933 (by decide) (arOk.of rfl (by omega))) (EM.setA Iy54921 e54932 rfl (by decide)) (fun Y54934 Iy54935 Xy54936 w54937  => ?_)
        have w54937 : (pI Y54934 b54931 (v17_1.toInt.toNat)).toInt = (pI Y54920 a0 3).toInt := w54937
        have q54938 := Xy54936.keepF 2 (by decide)
        have q54939 := Xy54936.keepF 3 (by decide)
        have q54940 := Xy54936.keepA e54928 (by decide) rfl (v17_1.toInt.toNat)
        have W54941 := W54926.keep Iy54921 Xy54936 (by decide) (by decide) (by decide) (by decide)
        have Xz54942 : EM [2, 3, 4, 5, 7, 8] a0 P Y54934 := EM.tr ha0 Xz54927 (Xy54936.mono (by decide))
        have e54943 := Xy54936.ref h54929 (by decide) e54928
        have e54944 := Xy54936.ref h54929 (by decide) e54932
        have h54945 := Xy54936.at h54929
        have h54946 := Xy54936.ar h54930
        have h54947 := Xy54936.ar h54933
        refine g_aload_n C dX12_cutAll_296 rfl 0 rfl ?_
        refine g_iconst (v := 0) C dX12_cutAll_297 (by decide) ?_
        refine g_putI C fi_X12_159 rfl (h54945).1 (h54945).2 dX12_cutAll_298 ?_
        refine gqW (ks := [7]) (Iy54935.setI (rgOk.of rfl (by decide))) (EM.setI Iy54935 (by decide)) (fun Y54948 Iy54949 Xy54950 w54951  => ?_)
        have w54951 : (pI Y54948 a0 7).toInt = 0 := w54951
        have q54952 := Xy54950.keepF 2 (by decide)
        have q54953 := Xy54950.keepF 3 (by decide)
        have q54954 := Xy54950.keepA e54943 (by decide) rfl (v17_1.toInt.toNat)
        have q54955 := Xy54950.keepA e54944 (by decide) rfl (v17_1.toInt.toNat)
        have W54956 := W54941.keep Iy54935 Xy54950 (by decide) (by decide) (by decide) (by decide)
        have Xz54957 : EM [2, 3, 4, 5, 7, 8] a0 P Y54948 := EM.tr ha0 Xz54942 (Xy54950.mono (by decide))
        have e54958 := Xy54950.ref h54945 (by decide) e54943
        have e54959 := Xy54950.ref h54945 (by decide) e54944
        have h54960 := Xy54950.at h54945
        have h54961 := Xy54950.ar h54946
        have h54962 := Xy54950.ar h54947
        refine g_aload_n C dX12_cutAll_301 rfl 0 rfl ?_
        refine g_iconst (v := 0) C dX12_cutAll_302 (by decide) ?_
        refine g_putI C fi_X12_162 rfl (h54960).1 (h54960).2 dX12_cutAll_303 ?_
        refine gqW (ks := [8]) (Iy54949.setI (rgOk.of rfl (by decide))) (EM.setI Iy54949 (by decide)) (fun Y54963 Iy54964 Xy54965 w54966  => ?_)
        have w54966 : (pI Y54963 a0 8).toInt = 0 := w54966
        have q54967 := Xy54965.keepF 2 (by decide)
        have q54968 := Xy54965.keepF 3 (by decide)
        have q54969 := Xy54965.keepA e54958 (by decide) rfl (v17_1.toInt.toNat)
        have q54970 := Xy54965.keepA e54959 (by decide) rfl (v17_1.toInt.toNat)
        have q54971 := Xy54965.keepF 7 (by decide)
        have W54972 := W54956.keep Iy54949 Xy54965 (by decide) (by decide) (by decide) (by decide)
        have Xz54973 : EM [2, 3, 4, 5, 7, 8] a0 P Y54963 := EM.tr ha0 Xz54957 (Xy54965.mono (by decide))
        have e54974 := Xy54965.ref h54960 (by decide) e54958
        have e54975 := Xy54965.ref h54960 (by decide) e54959
        have h54976 := Xy54965.at h54960
        have h54977 := Xy54965.ar h54961
        have h54978 := Xy54965.ar h54962
        exact ret _ _ _ _ _ dX12_cutAll_306 (by decide) (by decide) ⟨Iy54964, Xz54973, W54972⟩
      · have h54916 : v17_2.toInt < (pI P17 a0 3).toInt := h54916
        refine g_aload_n C dX12_cutAll_25 rfl 0 rfl ?_
        obtain ⟨b54979, e54980, h54981⟩ := I17.fld (h54744) 1 13 1000 rfl
        refine g_getR C fi_X12_14 rfl e54980 (h54744).1 (h54744).2 dX12_cutAll_26 ?_
        refine g_iload_n C dX12_cutAll_29 rfl 2 rfl ?_
        refine g_iald (j := (v17_2.toInt.toNat)) C h54981.1 h54981.2.1 (ix_in h54981.2.2 (by omega)) dX12_cutAll_30 ?_
        refine g_topi (fun z54982 h54983 => ?_)
        have h54983 : z54982.toInt = (pI P17 b54979 (v17_2.toInt.toNat)).toInt := congrArg Int32.toInt h54983
        refine g_istore_n (lv' := [(3, .int z54982), (0, .ref a0), (1, .int v17_1), (2, .int v17_2)]) C dX12_cutAll_31 rfl (by decide) rfl ?_
        refine g_iload_n C dX12_cutAll_32 rfl 0 rfl ?_
        refine g_bipush (v := 10) C dX12_cutAll_33 (by decide) ?_
        have u54985 := ti_rng z54982
        refine b_icmp_eq C 44 dX12_cutAll_35 (by decide) (fun h54984 => ?_) (fun h54984 => ?_)
        · have h54984 : z54982.toInt = 10 := congrArg Int32.toInt h54984
          refine g_lv (lv' := [(0, .ref a0), (1, .int v17_1), (2, .int v17_2)]) [1, 2, 3] rfl ?_
          exact J44 (by omega) (by omega) (by omega)
        · have h54984 : z54982.toInt ≠ 10 := ti_ne h54984
          refine g_iload_n C dX12_cutAll_38 rfl 0 rfl ?_
          refine g_bipush (v := 32) C dX12_cutAll_39 (by decide) ?_
          have u54987 := ti_rng z54982
          refine b_icmp_ne C 50 dX12_cutAll_41 (by decide) (fun h54986 => ?_) (fun h54986 => ?_)
          · have h54986 : z54982.toInt ≠ 32 := ti_ne h54986
            refine g_iload_n C dX12_cutAll_50 rfl 3 rfl ?_
            refine g_istore (lv' := [(4, .int v17_2), (3, .int z54982), (0, .ref a0), (1, .int v17_1), (2, .int v17_2)]) C dX12_cutAll_51 (by decide) rfl ?_
            refine g_lconst (v := 0) C dX12_cutAll_53 (by decide) ?_
            refine g_lstore (lv' := [(5, .long 0), (4, .int v17_2), (3, .int z54982), (0, .ref a0), (1, .int v17_1), (2, .int v17_2)]) C dX12_cutAll_54 (by decide) rfl ?_
            refine g_aload_n C dX12_cutAll_56 rfl 3 rfl ?_
            obtain ⟨b54988, e54989, h54990⟩ := I17.fld (h54744) 5 13 1002 rfl
            refine g_getR C fi_X12_27 rfl e54989 (h54744).1 (h54744).2 dX12_cutAll_57 ?_
            refine g_iload_n C dX12_cutAll_60 rfl 4 rfl ?_
            refine g_iload_n C dX12_cutAll_61 rfl 5 rfl ?_
            refine g_iast (j := (v17_1.toInt.toNat)) C h54990.1 h54990.2.1 (ix_in h54990.2.2 (by omega)) dX12_cutAll_62 ?_
            refine gqW (ks := [5]) (I17.setA e54989 h54990 (by decide) (arOk.of rfl (by omega))) (EM.setA I17 e54989 rfl (by decide)) (fun Y54991 Iy54992 Xy54993 w54994  => ?_)
            have w54994 : (pI Y54991 b54988 (v17_1.toInt.toNat)).toInt = v17_2.toInt := w54994
            have q54995 := Xy54993.keepF 2 (by decide)
            have q54996 := Xy54993.keepF 3 (by decide)
            have q54997 := Xy54993.keepA e54980 (by decide) rfl (v17_2.toInt.toNat)
            have W54998 := W17.keep I17 Xy54993 (by decide) (by decide) (by decide) (by decide)
            have Xz54999 : EM [2, 3, 4, 5, 7, 8] a0 P Y54991 := EM.tr ha0 X17 (Xy54993.mono (by decide))
            have e55000 := Xy54993.ref h54744 (by decide) e54980
            have e55001 := Xy54993.ref h54744 (by decide) e54989
            have h55002 := Xy54993.at h54744
            have h55003 := Xy54993.ar h54981
            have h55004 := Xy54993.ar h54990
            refine g_iload_n C dX12_cutAll_63 rfl 2 rfl ?_
            refine g_callSI (b := 0) (ci := 0) (rest := []) C ms_X12_136 [.int z54982] (s_X12_isLetter Iy54992.1) rfl rfl (by decide) (Nat.le_of_ble_eq_true rfl) (by decide) dX12_cutAll_64 (fun r55005 Y55006 h55007 => ?_)
            obtain ⟨rfl, h55007⟩ := h55007
            obtain ⟨h55007, hi55008, hi55009⟩ := h55007
            have hi55008 : r55005.toInt = 0 ∨ (((97 : Int) ≤ z54982.toInt ∧ z54982.toInt ≤ (122 : Int))) := hi55008
            have hi55009 : r55005.toInt ≠ 0 ∨ z54982.toInt < 97 ∨ 122 < z54982.toInt := hi55009
            have h55007 : 0 ≤ r55005.toInt ∧ r55005.toInt ≤ 1 := h55007
            refine b_if_eq C 152 dX12_cutAll_67 (by decide) (fun h55010 => ?_) (fun h55010 => ?_)
            · have h55010 : r55005.toInt = 0 := congrArg Int32.toInt h55010
              clear hi55008
              refine g_iload_n C dX12_cutAll_152 rfl 2 rfl ?_
              refine g_callSI (b := 0) (ci := 0) (rest := []) C ms_X12_149 [.int z54982] (s_X12_isDigit Iy54992.1) rfl rfl (by decide) (Nat.le_of_ble_eq_true rfl) (by decide) dX12_cutAll_153 (fun r55011 Y55012 h55013 => ?_)
              obtain ⟨rfl, h55013⟩ := h55013
              obtain ⟨h55013, hi55014, hi55015⟩ := h55013
              have hi55014 : r55011.toInt = 0 ∨ (((48 : Int) ≤ z54982.toInt ∧ z54982.toInt ≤ (57 : Int))) := hi55014
              have hi55015 : r55011.toInt ≠ 0 ∨ z54982.toInt < 48 ∨ 57 < z54982.toInt := hi55015
              have h55013 : 0 ≤ r55011.toInt ∧ r55011.toInt ≤ 1 := h55013
              refine b_if_eq C 240 dX12_cutAll_156 (by decide) (fun h55016 => ?_) (fun h55016 => ?_)
              · have h55016 : r55011.toInt = 0 := congrArg Int32.toInt h55016
                clear hi55014
                refine g_iload_n C dX12_cutAll_240 rfl 2 rfl ?_
                refine a_i2l C dX12_cutAll_241 (fun l55017 => ?_)
                refine g_lstore (lv' := [(5, .long l55017), (4, .int v17_2), (3, .int z54982), (0, .ref a0), (1, .int v17_1), (2, .int v17_2)]) C dX12_cutAll_242 (by decide) rfl ?_
                refine g_aload_n C dX12_cutAll_244 rfl 3 rfl ?_
                obtain ⟨b55018, e55019, h55020⟩ := Iy54992.fld (h55002) 4 13 1002 rfl
                refine g_getR C fi_X12_24 rfl e55019 (h55002).1 (h55002).2 dX12_cutAll_245 ?_
                refine g_iload_n C dX12_cutAll_248 rfl 4 rfl ?_
                refine g_iload_n C dX12_cutAll_249 rfl 2 rfl ?_
                refine g_callSI (b := 0) (ci := 0) (rest := [.int v17_1, .ref b55018]) C ms_X12_156 [.int z54982] (s_X12_isSignOf Iy54992.1) rfl rfl (by decide) (Nat.le_of_ble_eq_true rfl) (by decide) dX12_cutAll_250 (fun r55021 Y55022 h55023 => ?_)
                obtain ⟨rfl, h55023⟩ := h55023
                obtain ⟨h55023, hi55024⟩ := h55023
                have hi55024 : r55021.toInt = 0 ∨ (((59 : Int) ≤ z54982.toInt ∧ z54982.toInt ≤ (59 : Int))) := hi55024
                have h55023 : 0 ≤ r55021.toInt ∧ r55021.toInt ≤ 1 := h55023
                refine b_if_eq C 260 dX12_cutAll_253 (by decide) (fun h55025 => ?_) (fun h55025 => ?_)
                · have h55025 : r55021.toInt = 0 := congrArg Int32.toInt h55025
                  clear hi55024
                  refine g_iconst (v := 4) C dX12_cutAll_260 (by decide) ?_
                  refine g_lv (lv' := [(0, .ref a0), (1, .int v17_1), (2, .int v17_2), (5, .long l55017)]) [3, 4, 5, 0] rfl ?_
                  exact J261 Y54991 l55017 4 b55018 Iy54992 Xz54999 W54998 (by omega) (by decide) h55020 e55019 (by omega) (by omega) (fun b9 e9 => by rw [e55001] at e9; cases e9; omega) (by show v17_1.toInt ≤ v17_2.toInt; omega) (by show v17_2.toInt = v17_2.toInt; omega)
                · have h55025 : r55021.toInt ≠ 0 := ti_ne h55025
                  replace hi55024 := hi55024.resolve_left (by omega)
                  refine g_iconst (v := 3) C dX12_cutAll_256 (by decide) ?_
                  refine g_goto C 261 dX12_cutAll_257 (by decide) ?_
                  refine g_lv (lv' := [(0, .ref a0), (1, .int v17_1), (2, .int v17_2), (5, .long l55017)]) [3, 4, 5, 0] rfl ?_
                  exact J261 Y54991 l55017 3 b55018 Iy54992 Xz54999 W54998 (by omega) (by decide) h55020 e55019 (by omega) (by omega) (fun b9 e9 => by rw [e55001] at e9; cases e9; omega) (by show v17_1.toInt ≤ v17_2.toInt; omega) (by show v17_2.toInt = v17_2.toInt; omega)
              · have h55016 : r55011.toInt ≠ 0 := ti_ne h55016
                replace hi55014 := hi55014.resolve_left (by omega)
                refine g_lv (lv' := [(0, .ref a0), (1, .int v17_1), (2, .int v17_2), (4, .int v17_2), (5, .long 0)]) [3, 4, 5, 1, 0] rfl ?_
                exact J159 _ Y54991 v17_2 0 (Nat.lt_succ_self _) Iy54992 Xz54999 W54998 (by omega) (by omega) (by omega) (by omega) (fun b9 e9 => by rw [e55001] at e9; cases e9; omega) (by show v17_1.toInt ≤ v17_2.toInt; omega) (by intro b91 e91; rw [e55000] at e91; cases e91; show v17_2.toInt < v17_2.toInt ∨ (v17_2.toInt = v17_2.toInt ∧ v17_2.toInt < (pI Y54991 a0 3).toInt ∧ 48 ≤ (pI Y54991 b54979 (v17_2.toInt.toNat)).toInt ∧ (pI Y54991 b54979 (v17_2.toInt.toNat)).toInt ≤ 57); omega) (by show v17_2.toInt = v17_2.toInt; omega)
            · have h55010 : r55005.toInt ≠ 0 := ti_ne h55010
              replace hi55008 := hi55008.resolve_left (by omega)
              refine g_lv (lv' := [(0, .ref a0), (1, .int v17_1), (2, .int v17_2), (4, .int v17_2), (5, .long 0)]) [3, 4, 5, 1, 0] rfl ?_
              exact J70 _ Y54991 v17_2 0 (Nat.lt_succ_self _) Iy54992 Xz54999 W54998 (by omega) (by omega) (by omega) (by omega) (fun b9 e9 => by rw [e55001] at e9; cases e9; omega) (by show v17_1.toInt ≤ v17_2.toInt; omega) (by intro b91 e91; rw [e55000] at e91; cases e91; show v17_2.toInt < v17_2.toInt ∨ (v17_2.toInt = v17_2.toInt ∧ v17_2.toInt < (pI Y54991 a0 3).toInt ∧ 97 ≤ (pI Y54991 b54979 (v17_2.toInt.toNat)).toInt ∧ (pI Y54991 b54979 (v17_2.toInt.toNat)).toInt ≤ 122); omega) (by show v17_2.toInt = v17_2.toInt; omega)
          · have h54986 : z54982.toInt = 32 := congrArg Int32.toInt h54986
            refine g_lv (lv' := [(0, .ref a0), (1, .int v17_1), (2, .int v17_2)]) [1, 2, 3] rfl ?_
            exact J44 (by omega) (by omega) (by omega)
  refine g_aload_n C dX12_cutAll_0 rfl 0 rfl ?_
  refine g_aload_n C dX12_cutAll_1 rfl 0 rfl ?_
  refine g_getI C fi_X12_11 (by decide) (ha0).1 (ha0).2 dX12_cutAll_2 ?_
  have h55026 := I.rg (ha0) 2 rfl
  refine g_putI C fi_X12_140 rfl (ha0).1 (ha0).2 dX12_cutAll_5 ?_
  refine gqW (ks := [3]) (I.setI (rgOk.of rfl (by omega))) (EM.setI I (by decide)) (fun Y55027 Iy55028 Xy55029 w55030  => ?_)
  have w55030 : (pI Y55027 a0 3).toInt = (pI P a0 2).toInt := w55030
  have q55031 := Xy55029.keepF 2 (by decide)
  have W55032 := hW.keep I Xy55029 (by decide) (by decide) (by decide) (by decide)
  have Xz55033 : EM [2, 3, 4, 5, 7, 8] a0 P Y55027 := Xy55029.mono (by decide)
  have h55034 := Xy55029.at ha0
  refine g_aload_n C dX12_cutAll_8 rfl 0 rfl ?_
  refine g_iconst (v := 0) C dX12_cutAll_9 (by decide) ?_
  refine g_putI C fi_X12_11 rfl (h55034).1 (h55034).2 dX12_cutAll_10 ?_
  refine gqW (ks := [2]) (Iy55028.setI (rgOk.of rfl (by decide))) (EM.setI Iy55028 (by decide)) (fun Y55035 Iy55036 Xy55037 w55038  => ?_)
  have w55038 : (pI Y55035 a0 2).toInt = 0 := w55038
  have q55039 := Xy55037.keepF 3 (by decide)
  have W55040 := W55032.keep Iy55028 Xy55037 (by decide) (by decide) (by decide) (by decide)
  have Xz55041 : EM [2, 3, 4, 5, 7, 8] a0 P Y55035 := EM.tr ha0 Xz55033 (Xy55037.mono (by decide))
  have h55042 := Xy55037.at h55034
  refine g_iconst (v := 0) C dX12_cutAll_13 (by decide) ?_
  refine g_istore_n (lv' := [(1, .int 0), (0, .ref a0)]) C dX12_cutAll_14 rfl (by decide) rfl ?_
  refine g_iconst (v := 0) C dX12_cutAll_15 (by decide) ?_
  refine g_istore_n (lv' := [(2, .int 0), (1, .int 0), (0, .ref a0)]) C dX12_cutAll_16 rfl (by decide) rfl ?_
  refine g_lv (lv' := [(0, .ref a0), (1, .int 0), (2, .int 0)]) [2, 1, 0] rfl ?_
  exact J17 _ Y55035 0 0 (Nat.lt_succ_self _) Iy55036 Xz55041 W55040 (by decide) (by decide) (by omega) (by show 0 ≤ 0; omega)
