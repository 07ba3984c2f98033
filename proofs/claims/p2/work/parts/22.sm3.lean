theorem dX12_book_64 : decode cX12_book 64 = .ok (.iconst 0, 1) := by decide +kernel
theorem dX12_book_65 : decode cX12_book 65 = .ok (.istore_n 3, 1) := by decide +kernel
theorem dX12_book_66 : decode cX12_book 66 = .ok (.iload_n 3, 1) := by decide +kernel
theorem dX12_book_67 : decode cX12_book 67 = .ok (.iconst 4, 1) := by decide +kernel
theorem dX12_book_68 : decode cX12_book 68 = .ok (.if_icmp .ge 68, 3) := by decide +kernel
theorem dX12_book_71 : decode cX12_book 71 = .ok (.aload_n 0, 1) := by decide +kernel
theorem dX12_book_72 : decode cX12_book 72 = .ok (.getfield 69, 3) := by decide +kernel
theorem dX12_book_75 : decode cX12_book 75 = .ok (.iload_n 3, 1) := by decide +kernel
theorem dX12_book_76 : decode cX12_book 76 = .ok (.iaload, 1) := by decide +kernel
theorem dX12_book_77 : decode cX12_book 77 = .ok (.iconst 1, 1) := by decide +kernel
theorem dX12_book_78 : decode cX12_book 78 = .ok (.isub, 1) := by decide +kernel
theorem dX12_book_79 : decode cX12_book 79 = .ok (.istore 4, 2) := by decide +kernel
theorem dX12_book_81 : decode cX12_book 81 = .ok (.iload 4, 2) := by decide +kernel
theorem dX12_book_83 : decode cX12_book 83 = .ok (.ifCond .lt 47, 3) := by decide +kernel
theorem dX12_book_86 : decode cX12_book 86 = .ok (.aload_n 0, 1) := by decide +kernel
theorem dX12_book_87 : decode cX12_book 87 = .ok (.getfield 75, 3) := by decide +kernel
theorem dX12_book_90 : decode cX12_book 90 = .ok (.bipush 40, 2) := by decide +kernel
theorem dX12_book_92 : decode cX12_book 92 = .ok (.iload_n 3, 1) := by decide +kernel
theorem dX12_book_93 : decode cX12_book 93 = .ok (.imul, 1) := by decide +kernel
theorem dX12_book_94 : decode cX12_book 94 = .ok (.iload 4, 2) := by decide +kernel
theorem dX12_book_96 : decode cX12_book 96 = .ok (.iadd, 1) := by decide +kernel
theorem dX12_book_97 : decode cX12_book 97 = .ok (.iaload, 1) := by decide +kernel
theorem dX12_book_98 : decode cX12_book 98 = .ok (.iload_n 1, 1) := by decide +kernel
theorem dX12_book_99 : decode cX12_book 99 = .ok (.if_icmp .eq 18, 3) := by decide +kernel
theorem dX12_book_102 : decode cX12_book 102 = .ok (.aload_n 0, 1) := by decide +kernel
theorem dX12_book_103 : decode cX12_book 103 = .ok (.getfield 75, 3) := by decide +kernel
theorem dX12_book_106 : decode cX12_book 106 = .ok (.bipush 40, 2) := by decide +kernel
theorem dX12_book_108 : decode cX12_book 108 = .ok (.iload_n 3, 1) := by decide +kernel
theorem dX12_book_109 : decode cX12_book 109 = .ok (.imul, 1) := by decide +kernel
theorem dX12_book_110 : decode cX12_book 110 = .ok (.iload 4, 2) := by decide +kernel
theorem dX12_book_112 : decode cX12_book 112 = .ok (.iadd, 1) := by decide +kernel
theorem dX12_book_113 : decode cX12_book 113 = .ok (.iaload, 1) := by decide +kernel
theorem dX12_book_114 : decode cX12_book 114 = .ok (.ifCond .ge 10, 3) := by decide +kernel
theorem dX12_book_117 : decode cX12_book 117 = .ok (.aload_n 0, 1) := by decide +kernel
theorem dX12_book_118 : decode cX12_book 118 = .ok (.iload_n 3, 1) := by decide +kernel
theorem dX12_book_119 : decode cX12_book 119 = .ok (.iload 4, 2) := by decide +kernel
theorem dX12_book_121 : decode cX12_book 121 = .ok (.invokevirtual 185, 3) := by decide +kernel
theorem dX12_book_124 : decode cX12_book 124 = .ok (.iinc 4 (-1), 3) := by decide +kernel
theorem dX12_book_127 : decode cX12_book 127 = .ok (.goto (-46), 3) := by decide +kernel
theorem dX12_book_130 : decode cX12_book 130 = .ok (.iinc 3 1, 3) := by decide +kernel
theorem dX12_book_133 : decode cX12_book 133 = .ok (.goto (-67), 3) := by decide +kernel
theorem dX12_book_136 : decode cX12_book 136 = .ok (.aload_n 0, 1) := by decide +kernel
theorem dX12_book_137 : decode cX12_book 137 = .ok (.invokevirtual 189, 3) := by decide +kernel
theorem dX12_forgetsMarks_0 : decode cX12_forgetsMarks 0 = .ok (.iconst 0, 1) := by decide +kernel
theorem dX12_forgetsMarks_1 : decode cX12_forgetsMarks 1 = .ok (.istore_n 1, 1) := by decide +kernel
theorem dX12_forgetsMarks_2 : decode cX12_forgetsMarks 2 = .ok (.iload_n 1, 1) := by decide +kernel
theorem dX12_forgetsMarks_3 : decode cX12_forgetsMarks 3 = .ok (.iconst 4, 1) := by decide +kernel
theorem dX12_forgetsMarks_4 : decode cX12_forgetsMarks 4 = .ok (.if_icmp .ge 16, 3) := by decide +kernel
theorem dX12_forgetsMarks_7 : decode cX12_forgetsMarks 7 = .ok (.aload_n 0, 1) := by decide +kernel
theorem dX12_forgetsMarks_8 : decode cX12_forgetsMarks 8 = .ok (.getfield 87, 3) := by decide +kernel
theorem dX12_forgetsMarks_11 : decode cX12_forgetsMarks 11 = .ok (.iload_n 1, 1) := by decide +kernel
theorem dX12_forgetsMarks_12 : decode cX12_forgetsMarks 12 = .ok (.iconst 0, 1) := by decide +kernel
theorem dX12_forgetsMarks_13 : decode cX12_forgetsMarks 13 = .ok (.bastore, 1) := by decide +kernel
theorem dX12_forgetsMarks_14 : decode cX12_forgetsMarks 14 = .ok (.iinc 1 1, 3) := by decide +kernel
theorem dX12_forgetsMarks_17 : decode cX12_forgetsMarks 17 = .ok (.goto (-15), 3) := by decide +kernel
theorem dX12_forgetsMarks_20 : decode cX12_forgetsMarks 20 = .ok (.return_, 1) := by decide +kernel
set_option maxHeartbeats 4000000 in
set_option maxRecDepth 100000 in
theorem s_X12_forgetsMarks {P : PP} {a0 : Nat} (I : IM P a0) (hW : MW P a0) : CtrV yX12_forgetsMarks cX12_forgetsMarks 2 none ({ frames := 1, cells := 0, slots := 0, locals := 64 } : Room) 0 0 P [.ref a0] (fun P2 => IM P2 a0 ∧ EM [26] a0 P P2 ∧ MW P2 a0) := by
  refine enV (lv := [(0, .ref a0)]) (by decide) (Nat.le_of_ble_eq_true rfl) rfl (fun E D cy C Ci0 ret => ?_)
  have ha0 := I.2.1
  have J2 : ∀ (n2 : Nat) (P2 : PP) (v2_1 : Int32), (4 - v2_1.toInt).toNat < n2 → (IM P2 a0) → (EM [26] a0 P P2) → (MW P2 a0) → (0 ≤ v2_1.toInt ∧ v2_1.toInt ≤ 4) → G E ({ frames := 1, cells := 0, slots := 0, locals := 64 } : Room) D cy 2 P2 0 0 2 [(0, .ref a0), (1, .int v2_1)] [] := by
    intro n2
    induction n2 with
    | zero => intro P2 v2_1 hm2 I2 X2 W2 hv2_1; omega
    | succ n2 ih2 =>
      intro P2 v2_1 hm2 I2 X2 W2 hv2_1
      have h39601 := X2.at ha0
      refine g_iload_n C dX12_forgetsMarks_2 rfl 1 rfl ?_
      refine g_iconst (v := 4) C dX12_forgetsMarks_3 (by decide) ?_
      refine b_icmp_ge C 20 dX12_forgetsMarks_4 (by decide) (fun h39602 => ?_) (fun h39602 => ?_)
      · have h39602 : 4 ≤ v2_1.toInt := h39602
        exact ret _ _ _ _ _ dX12_forgetsMarks_20 (by decide) (by decide) ⟨I2, X2, W2⟩
      · have h39602 : v2_1.toInt < 4 := h39602
        refine g_aload_n C dX12_forgetsMarks_7 rfl 0 rfl ?_
        obtain ⟨b39603, e39604, h39605⟩ := I2.fld (h39601) 26 15 4 rfl
        refine g_getR C fi_X12_87 rfl e39604 (h39601).1 (h39601).2 dX12_forgetsMarks_8 ?_
        refine g_iload_n C dX12_forgetsMarks_11 rfl 1 rfl ?_
        refine g_iconst (v := 0) C dX12_forgetsMarks_12 (by decide) ?_
        refine g_zast (j := (v2_1.toInt.toNat)) C h39605.1 h39605.2.1 (ix_in h39605.2.2 (by omega)) (Or.inl rfl) dX12_forgetsMarks_13 ?_
        refine gqW (ks := [26]) (I2.setA e39604 h39605 (by decide) (arOk.none rfl)) (EM.setA I2 e39604 rfl (by decide)) (fun Y39606 Iy39607 Xy39608 w39609  => ?_)
        have w39609 : (pI Y39606 b39603 (v2_1.toInt.toNat)).toInt = 0 := w39609
        have W39610 := W2.keep I2 Xy39608 (by decide) (by decide) (by decide)
        have Xz39611 : EM [26] a0 P Y39606 := EM.tr ha0 X2 (Xy39608.mono (by decide))
        have e39612 := Xy39608.ref h39601 (by decide) e39604
        have h39613 := Xy39608.at h39601
        have h39614 := Xy39608.ar h39605
        refine s_iinc (lv0 := [(0, .ref a0)]) (m := 1) C dX12_forgetsMarks_14 1 rfl (by decide) rfl (by decide) (by omega) (fun z39615 h39616 => ?_)
        have h39616 : z39615.toInt = v2_1.toInt + 1 := h39616
        refine g_goto C 2 dX12_forgetsMarks_17 (by decide) ?_
        refine g_lv (lv' := [(0, .ref a0), (1, .int z39615)]) [1, 0] rfl ?_
        exact ih2 Y39606 z39615 (by omega) Iy39607 Xz39611 W39610 (by omega)
  refine g_iconst (v := 0) C dX12_forgetsMarks_0 (by decide) ?_
  refine g_istore_n (lv' := [(1, .int 0), (0, .ref a0)]) C dX12_forgetsMarks_1 rfl (by decide) rfl ?_
  refine g_lv (lv' := [(0, .ref a0), (1, .int 0)]) [1, 0] rfl ?_
  exact J2 _ P 0 (Nat.lt_succ_self _) I EM.rf hW (by decide)
theorem dX12_book_140 : decode cX12_book 140 = .ok (.iconst 1, 1) := by decide +kernel
theorem dX12_book_141 : decode cX12_book 141 = .ok (.ireturn, 1) := by decide +kernel
set_option maxHeartbeats 4000000 in
set_option maxRecDepth 100000 in
theorem s_X12_book {P : PP} {a0 : Nat} {a1 : Int32} {a2 : Int32} (I : IM P a0) (hW : MW P a0) : CtrI yX12_book cX12_book 5 (some Jvm.ClassFile.FieldType.boolean) ({ frames := 3, cells := 0, slots := 0, locals := 192 } : Room) 0 0 P [.ref a0, .int a1, .int a2] (fun r P2 => IM P2 a0 ∧ EM [0, 10, 11, 12, 13, 14, 15, 17, 20, 21, 22, 23, 24, 25, 26] a0 P P2 ∧ MW P2 a0 ∧ (0 ≤ r.toInt ∧ r.toInt ≤ 1) ∧ (r.toInt = 0 ∨ (((0 : Int) ≤ a1.toInt ∧ a1.toInt ≤ (1 : Int))))) := by
  refine enI (lv := [(0, .ref a0), (1, .int a1), (2, .int a2)]) (by decide) (Nat.le_of_ble_eq_true rfl) rfl (fun E D cy C Ci0 ret => ?_)
  have ha0 := I.2.1
  have J66 : ∀ (n66 : Nat) (P66 : PP) (v66_3 : Int32), (4 - v66_3.toInt).toNat < n66 → (IM P66 a0) → (EM [0, 10, 11, 12, 13, 14, 15, 17, 20, 21, 22, 23, 24, 25, 26] a0 P P66) → (MW P66 a0) → (0 ≤ a1.toInt ∧ a1.toInt ≤ 1) → (0 ≤ v66_3.toInt ∧ v66_3.toInt ≤ 4) → (0 ≤ (pI P66 a0 0).toInt ∧ (pI P66 a0 0).toInt ≤ 0) → (∀ b, pR P66 a0 10 = some b → 1 ≤ (pI P66 b (a1.toInt.toNat)).toInt ∧ (pI P66 b (a1.toInt.toNat)).toInt ≤ 16) → G E ({ frames := 3, cells := 0, slots := 0, locals := 192 } : Room) D cy 5 P66 0 0 66 [(0, .ref a0), (1, .int a1), (3, .int v66_3)] [] := by
    intro n66
    induction n66 with
    | zero => intro P66 v66_3 hm66 I66 X66 W66 hv66_1 hv66_3 hq66_0 hq66_1; omega
    | succ n66 ih66 =>
      intro P66 v66_3 hm66 I66 X66 W66 hv66_1 hv66_3 hq66_0 hq66_1
      have h40268 := X66.at ha0
      obtain ⟨b40269, e40270, h40271⟩ := I66.fld (h40268) 10 13 2 rfl
      have hq66_1 := hq66_1 b40269 e40270
      have J81 : ∀ (n81 : Nat) (P81 : PP) (v81_4 : Int32), (v81_4.toInt - (-1)).toNat < n81 → (IM P81 a0) → (EM [0, 10, 11, 12, 13, 14, 15, 17, 20, 21, 22, 23, 24, 25, 26] a0 P P81) → (MW P81 a0) → (0 ≤ a1.toInt ∧ a1.toInt ≤ 1) → (0 ≤ v66_3.toInt ∧ v66_3.toInt ≤ 3) → (-1 ≤ v81_4.toInt ∧ v81_4.toInt ≤ 39) → (0 ≤ (pI P81 a0 0).toInt ∧ (pI P81 a0 0).toInt ≤ 0) → (∀ b, pR P81 a0 10 = some b → 1 ≤ (pI P81 b (a1.toInt.toNat)).toInt ∧ (pI P81 b (a1.toInt.toNat)).toInt ≤ 16) → (∀ b920, pR P81 a0 20 = some b920 → v81_4.toInt < (pI P81 b920 (v66_3.toInt.toNat)).toInt) → G E ({ frames := 3, cells := 0, slots := 0, locals := 192 } : Room) D cy 5 P81 0 0 81 [(0, .ref a0), (1, .int a1), (3, .int v66_3), (4, .int v81_4)] [] := by
        intro n81
        induction n81 with
        | zero => intro P81 v81_4 hm81 I81 X81 W81 hv81_1 hv81_3 hv81_4 hq81_0 hq81_1 rel81_0; omega
        | succ n81 ih81 =>
          intro P81 v81_4 hm81 I81 X81 W81 hv81_1 hv81_3 hv81_4 hq81_0 hq81_1 rel81_0
          have h40272 := X81.at ha0
          obtain ⟨b40273, e40274, h40275⟩ := I81.fld (h40272) 10 13 2 rfl
          have hq81_1 := hq81_1 b40273 e40274
          obtain ⟨b40276, e40277, h40278⟩ := I81.fld (h40272) 20 13 20 rfl
          have rel81_0 := rel81_0 b40276 e40277
          have h40279 := I81.arr e40277 rfl (v66_3.toInt.toNat)
          have J124 : ∀ (P124 : PP), (IM P124 a0) → (EM [0, 10, 11, 12, 13, 14, 15, 17, 20, 21, 22, 23, 24, 25, 26] a0 P P124) → (MW P124 a0) → (0 ≤ a1.toInt ∧ a1.toInt ≤ 1) → (0 ≤ v66_3.toInt ∧ v66_3.toInt ≤ 3) → (0 ≤ v81_4.toInt ∧ v81_4.toInt ≤ 39) → (0 ≤ (pI P124 a0 0).toInt ∧ (pI P124 a0 0).toInt ≤ 0) → (∀ b, pR P124 a0 10 = some b → 1 ≤ (pI P124 b (a1.toInt.toNat)).toInt ∧ (pI P124 b (a1.toInt.toNat)).toInt ≤ 16) → (∀ b920, pR P124 a0 20 = some b920 → v81_4.toInt ≤ (pI P124 b920 (v66_3.toInt.toNat)).toInt) → G E ({ frames := 3, cells := 0, slots := 0, locals := 192 } : Room) D cy 5 P124 0 0 124 [(0, .ref a0), (1, .int a1), (3, .int v66_3), (4, .int v81_4)] [] := by
            intro P124 I124 X124 W124 hv124_1 hv124_3 hv124_4 hq124_0 hq124_1 rel124_0
            have h40280 := X124.at ha0
            obtain ⟨b40281, e40282, h40283⟩ := I124.fld (h40280) 10 13 2 rfl
            have hq124_1 := hq124_1 b40281 e40282
            obtain ⟨b40284, e40285, h40286⟩ := I124.fld (h40280) 20 13 20 rfl
            have rel124_0 := rel124_0 b40284 e40285
            have h40287 := I124.arr e40285 rfl (v66_3.toInt.toNat)
            refine s_iinc (lv0 := [(0, .ref a0), (1, .int a1), (3, .int v66_3)]) (m := -1) C dX12_book_124 3 rfl (by decide) rfl (by decide) (by omega) (fun z40288 h40289 => ?_)
            have h40289 : z40288.toInt = v81_4.toInt + (-1) := h40289
            refine g_goto C 81 dX12_book_127 (by decide) ?_
            refine g_lv (lv' := [(0, .ref a0), (1, .int a1), (3, .int v66_3), (4, .int z40288)]) [1, 2, 3, 0] rfl ?_
            exact ih81 P124 z40288 (by omega) I124 X124 W124 (by omega) (by omega) (by omega) (by omega) (fun b9 e9 => by rw [e40282] at e9; cases e9; omega) (by intro b920 e920; rw [e40285] at e920; cases e920; show z40288.toInt < (pI P124 b40284 (v66_3.toInt.toNat)).toInt; omega)
          have J117 : (0 ≤ a1.toInt ∧ a1.toInt ≤ 1) → (0 ≤ v66_3.toInt ∧ v66_3.toInt ≤ 3) → (0 ≤ v81_4.toInt ∧ v81_4.toInt ≤ 39) → (0 ≤ (pI P81 a0 0).toInt ∧ (pI P81 a0 0).toInt ≤ 0) → (∀ b, pR P81 a0 10 = some b → 1 ≤ (pI P81 b (a1.toInt.toNat)).toInt ∧ (pI P81 b (a1.toInt.toNat)).toInt ≤ 16) → (∀ b920, pR P81 a0 20 = some b920 → v81_4.toInt < (pI P81 b920 (v66_3.toInt.toNat)).toInt) → G E ({ frames := 3, cells := 0, slots := 0, locals := 192 } : Room) D cy 5 P81 0 0 117 [(0, .ref a0), (1, .int a1), (3, .int v66_3), (4, .int v81_4)] [] := by
            intro hv117_1 hv117_3 hv117_4 hq117_0 hq117_1 rel117_0
            have h40290 := X81.at ha0
            obtain ⟨b40291, e40292, h40293⟩ := I81.fld (h40290) 10 13 2 rfl
            have hq117_1 := hq117_1 b40291 e40292
            obtain ⟨b40294, e40295, h40296⟩ := I81.fld (h40290) 20 13 20 rfl
            have rel117_0 := rel117_0 b40294 e40295
            have h40297 := I81.arr e40295 rfl (v66_3.toInt.toNat)
            refine g_aload_n C dX12_book_117 rfl 0 rfl ?_
            refine g_iload_n C dX12_book_118 rfl 2 rfl ?_
            refine g_iload C dX12_book_119 3 rfl ?_
            refine g_callVV (rest := []) C mv_X12_185 [.int v66_3, .int v81_4] (s_X12_takesOut I81 (by omega) (by omega) (fun b9 e9 => by rw [e40295] at e9; cases e9; show 1 ≤ (pI P81 b40294 (v66_3.toInt.toNat)).toInt ∧ (pI P81 b40294 (v66_3.toInt.toNat)).toInt ≤ 40; omega) W81) (h40290).1 (h40290).2 rfl rfl (by decide) (Nat.le_of_ble_eq_true rfl) (by decide) dX12_book_121 (fun Y40299 h40300 => ?_)
            obtain ⟨Iy40301, Xy40302, W40303, p40304⟩ := h40300
            have p40304 := p40304 b40294 e40295
            have p40304 : (pI Y40299 b40294 (v66_3.toInt.toNat)).toInt = (pI P81 b40294 (v66_3.toInt.toNat)).toInt - 1 := p40304
            have q40305 := Xy40302.keepF 0 (by decide)
            have q40306 := Xy40302.keepA e40292 (by decide) rfl (a1.toInt.toNat)
            have Xz40307 : EM [0, 10, 11, 12, 13, 14, 15, 17, 20, 21, 22, 23, 24, 25, 26] a0 P Y40299 := EM.tr ha0 X81 (Xy40302.mono (by decide))
            have e40308 := Xy40302.ref h40290 (by decide) e40292
            have e40309 := Xy40302.ref h40290 (by decide) e40295
            have h40310 := Xy40302.at h40290
            have h40311 := Xy40302.ar h40293
            have h40312 := Xy40302.ar h40296
            exact J124 Y40299 Iy40301 Xz40307 W40303 (by omega) (by omega) (by omega) (by omega) (fun b9 e9 => by rw [e40308] at e9; cases e9; omega) (by intro b920 e920; rw [e40309] at e920; cases e920; show v81_4.toInt ≤ (pI Y40299 b40294 (v66_3.toInt.toNat)).toInt; omega)
          refine g_iload C dX12_book_81 3 rfl ?_
          refine b_if_lt C 130 dX12_book_83 (by decide) (fun h40313 => ?_) (fun h40313 => ?_)
          · have h40313 : v81_4.toInt < 0 := h40313
            refine s_iinc (lv0 := [(0, .ref a0), (1, .int a1), (4, .int v81_4)]) (m := 1) C dX12_book_130 2 rfl (by decide) rfl (by decide) (by omega) (fun z40314 h40315 => ?_)
            have h40315 : z40314.toInt = v66_3.toInt + 1 := h40315
            refine g_goto C 66 dX12_book_133 (by decide) ?_
            refine g_lv (lv' := [(0, .ref a0), (1, .int a1), (3, .int z40314)]) [1, 2, 0] rfl ?_
            exact ih66 P81 z40314 (by omega) I81 X81 W81 (by omega) (by omega) (by omega) (fun b9 e9 => by rw [e40274] at e9; cases e9; omega)
          · have h40313 : 0 ≤ v81_4.toInt := h40313
            refine g_aload_n C dX12_book_86 rfl 0 rfl ?_
            obtain ⟨b40316, e40317, h40318⟩ := I81.fld (h40272) 22 13 800 rfl
            refine g_getR C fi_X12_75 rfl e40317 (h40272).1 (h40272).2 dX12_book_87 ?_
            refine g_bipush (v := 40) C dX12_book_90 (by decide) ?_
            refine g_iload_n C dX12_book_92 rfl 2 rfl ?_
            refine s_imul C dX12_book_93 (by show -2147483648 ≤ 40 * v66_3.toInt ∧ 40 * v66_3.toInt ≤ 2147483647; omega) (fun z40319 h40320 => ?_)
            have h40320 : z40319.toInt = 40 * v66_3.toInt := h40320
            refine g_iload C dX12_book_94 3 rfl ?_
            refine s_iadd C dX12_book_96 (by show -2147483648 ≤ z40319.toInt + v81_4.toInt ∧ z40319.toInt + v81_4.toInt ≤ 2147483647; omega) (fun z40321 h40322 => ?_)
            have h40322 : z40321.toInt = z40319.toInt + v81_4.toInt := h40322
            refine g_iald (j := (z40321.toInt.toNat)) C h40318.1 h40318.2.1 (ix_in h40318.2.2 (by omega)) dX12_book_97 ?_
            have h40323 := I81.arr e40317 rfl (z40321.toInt.toNat)
            refine g_iload_n C dX12_book_98 rfl 1 rfl ?_
            refine b_icmp_eq C 117 dX12_book_99 (by decide) (fun h40324 => ?_) (fun h40324 => ?_)
            · have h40324 : (pI P81 b40316 (z40321.toInt.toNat)).toInt = a1.toInt := congrArg Int32.toInt h40324
              exact J117 (by omega) (by omega) (by omega) (by omega) (fun b9 e9 => by rw [e40274] at e9; cases e9; omega) (by intro b920 e920; rw [e40277] at e920; cases e920; show v81_4.toInt < (pI P81 b40276 (v66_3.toInt.toNat)).toInt; omega)
            · have h40324 : (pI P81 b40316 (z40321.toInt.toNat)).toInt ≠ a1.toInt := ti_ne h40324
              refine g_aload_n C dX12_book_102 rfl 0 rfl ?_
              refine g_getR C fi_X12_75 rfl e40317 (h40272).1 (h40272).2 dX12_book_103 ?_
              refine g_bipush (v := 40) C dX12_book_106 (by decide) ?_
              refine g_iload_n C dX12_book_108 rfl 2 rfl ?_
              refine s_imul C dX12_book_109 (by show -2147483648 ≤ 40 * v66_3.toInt ∧ 40 * v66_3.toInt ≤ 2147483647; omega) (fun z40325 h40326 => ?_)
              have h40326 : z40325.toInt = 40 * v66_3.toInt := h40326
              refine g_iload C dX12_book_110 3 rfl ?_
              refine s_iadd C dX12_book_112 (by show -2147483648 ≤ z40325.toInt + v81_4.toInt ∧ z40325.toInt + v81_4.toInt ≤ 2147483647; omega) (fun z40327 h40328 => ?_)
              have h40328 : z40327.toInt = z40325.toInt + v81_4.toInt := h40328
              refine g_iald (j := (z40327.toInt.toNat)) C h40318.1 h40318.2.1 (ix_in h40318.2.2 (by omega)) dX12_book_113 ?_
              have h40329 := I81.arr e40317 rfl (z40327.toInt.toNat)
              refine b_if_ge C 124 dX12_book_114 (by decide) (fun h40330 => ?_) (fun h40330 => ?_)
              · have h40330 : 0 ≤ (pI P81 b40316 (z40327.toInt.toNat)).toInt := h40330
                exact J124 P81 I81 X81 W81 (by omega) (by omega) (by omega) (by omega) (fun b9 e9 => by rw [e40274] at e9; cases e9; omega) (by intro b920 e920; rw [e40277] at e920; cases e920; show v81_4.toInt ≤ (pI P81 b40276 (v66_3.toInt.toNat)).toInt; omega)
              · have h40330 : (pI P81 b40316 (z40327.toInt.toNat)).toInt < 0 := h40330
                exact J117 (by omega) (by omega) (by omega) (by omega) (fun b9 e9 => by rw [e40274] at e9; cases e9; omega) (by intro b920 e920; rw [e40277] at e920; cases e920; show v81_4.toInt < (pI P81 b40276 (v66_3.toInt.toNat)).toInt; omega)
      refine g_iload_n C dX12_book_66 rfl 2 rfl ?_
      refine g_iconst (v := 4) C dX12_book_67 (by decide) ?_
      refine b_icmp_ge C 136 dX12_book_68 (by decide) (fun h40331 => ?_) (fun h40331 => ?_)
      · have h40331 : 4 ≤ v66_3.toInt := h40331
        refine g_aload_n C dX12_book_136 rfl 0 rfl ?_
        refine g_callVV (rest := []) C mv_X12_189 [] (s_X12_forgetsMarks I66 W66) (h40268).1 (h40268).2 rfl rfl (by decide) (Nat.le_of_ble_eq_true rfl) (by decide) dX12_book_137 (fun Y40333 h40334 => ?_)
        obtain ⟨Iy40335, Xy40336, W40337⟩ := h40334
        have q40338 := Xy40336.keepF 0 (by decide)
        have q40339 := Xy40336.keepA e40270 (by decide) rfl (a1.toInt.toNat)
        have Xz40340 : EM [0, 10, 11, 12, 13, 14, 15, 17, 20, 21, 22, 23, 24, 25, 26] a0 P Y40333 := EM.tr ha0 X66 (Xy40336.mono (by decide))
        have e40341 := Xy40336.ref h40268 (by decide) e40270
        have h40342 := Xy40336.at h40268
        have h40343 := Xy40336.ar h40271
        refine g_iconst (v := 1) C dX12_book_140 (by decide) ?_
        exact ret _ _ _ _ _ _ dX12_book_141 rfl (by decide) (by decide) ⟨Iy40335, Xz40340, W40337, (by decide), Or.inr (by omega)⟩
      · have h40331 : v66_3.toInt < 4 := h40331
        refine g_aload_n C dX12_book_71 rfl 0 rfl ?_
        obtain ⟨b40344, e40345, h40346⟩ := I66.fld (h40268) 20 13 20 rfl
        refine g_getR C fi_X12_69 rfl e40345 (h40268).1 (h40268).2 dX12_book_72 ?_
        refine g_iload_n C dX12_book_75 rfl 2 rfl ?_
        refine g_iald (j := (v66_3.toInt.toNat)) C h40346.1 h40346.2.1 (ix_in h40346.2.2 (by omega)) dX12_book_76 ?_
        have h40347 := I66.arr e40345 rfl (v66_3.toInt.toNat)
        refine g_iconst (v := 1) C dX12_book_77 (by decide) ?_
        refine s_isub C dX12_book_78 (by show -2147483648 ≤ (pI P66 b40344 (v66_3.toInt.toNat)).toInt - 1 ∧ (pI P66 b40344 (v66_3.toInt.toNat)).toInt - 1 ≤ 2147483647; omega) (fun z40348 h40349 => ?_)
        have h40349 : z40348.toInt = (pI P66 b40344 (v66_3.toInt.toNat)).toInt - 1 := h40349
        refine g_istore (lv' := [(4, .int z40348), (0, .ref a0), (1, .int a1), (3, .int v66_3)]) C dX12_book_79 (by decide) rfl ?_
        refine g_lv (lv' := [(0, .ref a0), (1, .int a1), (3, .int v66_3), (4, .int z40348)]) [1, 2, 3, 0] rfl ?_
        exact J81 _ P66 z40348 (Nat.lt_succ_self _) I66 X66 W66 (by omega) (by omega) (by omega) (by omega) (fun b9 e9 => by rw [e40270] at e9; cases e9; omega) (by intro b920 e920; rw [e40345] at e920; cases e920; show z40348.toInt < (pI P66 b40344 (v66_3.toInt.toNat)).toInt; omega)
  have J35 : ∀ (n35 : Nat) (P35 : PP) (v35_3 : Int32), (16 - v35_3.toInt).toNat < n35 → (IM P35 a0) → (EM [0, 10, 11, 12, 13, 14, 15, 17, 20, 21, 22, 23, 24, 25, 26] a0 P P35) → (MX P35 a0 (a1.toInt.toNat)) → (0 ≤ a1.toInt ∧ a1.toInt ≤ 1) → (0 ≤ v35_3.toInt ∧ v35_3.toInt ≤ 16) → (0 ≤ (pI P35 a0 0).toInt ∧ (pI P35 a0 0).toInt ≤ 0) → (∀ b, pR P35 a0 10 = some b → 1 ≤ (pI P35 b (a1.toInt.toNat)).toInt ∧ (pI P35 b (a1.toInt.toNat)).toInt ≤ 16) → G E ({ frames := 3, cells := 0, slots := 0, locals := 192 } : Room) D cy 5 P35 0 0 35 [(0, .ref a0), (1, .int a1), (3, .int v35_3)] [] := by
    intro n35
    induction n35 with
    | zero => intro P35 v35_3 hm35 I35 X35 W35 hv35_1 hv35_3 hq35_0 hq35_1; omega
    | succ n35 ih35 =>
      intro P35 v35_3 hm35 I35 X35 W35 hv35_1 hv35_3 hq35_0 hq35_1
      have h40350 := X35.at ha0
      obtain ⟨b40351, e40352, h40353⟩ := I35.fld (h40350) 10 13 2 rfl
      have hq35_1 := hq35_1 b40351 e40352
      refine g_iload_n C dX12_book_35 rfl 2 rfl ?_
      refine g_bipush (v := 16) C dX12_book_36 (by decide) ?_
      refine b_icmp_ge C 59 dX12_book_38 (by decide) (fun h40354 => ?_) (fun h40354 => ?_)
      · have h40354 : 16 ≤ v35_3.toInt := h40354
        refine g_aload_n C dX12_book_59 rfl 0 rfl ?_
        refine g_iload_n C dX12_book_60 rfl 1 rfl ?_
        refine g_callVV (rest := []) C mv_X12_182 [.int a1] (s_X12_forgetsDrawx I35 (by omega) W35) (h40350).1 (h40350).2 rfl rfl (by decide) (Nat.le_of_ble_eq_true rfl) (by decide) dX12_book_61 (fun Y40356 h40357 => ?_)
        obtain ⟨Iy40358, Xy40359, W40360, p40361⟩ := h40357
        obtain ⟨b40362, e40363, h40364⟩ := I35.fld (h40350) 14 13 3 rfl
        have p40361 := p40361 b40362 e40363
        have p40361 : (pI Y40356 b40362 (a1.toInt.toNat)).toInt = 1 := p40361
        have h40365 := I35.arr e40363 rfl (a1.toInt.toNat)
        have q40366 := Xy40359.keepF 0 (by decide)
        have q40367 := Xy40359.keepA e40352 (by decide) rfl (a1.toInt.toNat)
        have Xz40368 : EM [0, 10, 11, 12, 13, 14, 15, 17, 20, 21, 22, 23, 24, 25, 26] a0 P Y40356 := EM.tr ha0 X35 (Xy40359.mono (by decide))
        have e40369 := Xy40359.ref h40350 (by decide) e40352
        have e40370 := Xy40359.ref h40350 (by decide) e40363
        have h40371 := Xy40359.at h40350
        have h40372 := Xy40359.ar h40353
        have h40373 := Xy40359.ar h40364
        have W40374 := W40360.back (fun c9 f9 => by rw [e40370] at f9; cases f9; omega)
        refine g_iconst (v := 0) C dX12_book_64 (by decide) ?_
        refine g_istore_n (lv' := [(3, .int 0), (0, .ref a0), (1, .int a1)]) C dX12_book_65 rfl (by decide) rfl ?_
        refine g_lv (lv' := [(0, .ref a0), (1, .int a1), (3, .int 0)]) [1, 2, 0] rfl ?_
        exact J66 _ Y40356 0 (Nat.lt_succ_self _) Iy40358 Xz40368 W40374 (by omega) (by decide) (by omega) (fun b9 e9 => by rw [e40369] at e9; cases e9; omega)
      · have h40354 : v35_3.toInt < 16 := h40354
        refine g_aload_n C dX12_book_41 rfl 0 rfl ?_
        obtain ⟨b40375, e40376, h40377⟩ := I35.fld (h40350) 11 13 32 rfl
        refine g_getR C fi_X12_48 rfl e40376 (h40350).1 (h40350).2 dX12_book_42 ?_
        refine g_bipush (v := 16) C dX12_book_45 (by decide) ?_
        refine g_iload_n C dX12_book_47 rfl 1 rfl ?_
        refine s_imul C dX12_book_48 (by show -2147483648 ≤ 16 * a1.toInt ∧ 16 * a1.toInt ≤ 2147483647; omega) (fun z40378 h40379 => ?_)
        have h40379 : z40378.toInt = 16 * a1.toInt := h40379
        refine g_iload_n C dX12_book_49 rfl 2 rfl ?_
        refine s_iadd C dX12_book_50 (by show -2147483648 ≤ z40378.toInt + v35_3.toInt ∧ z40378.toInt + v35_3.toInt ≤ 2147483647; omega) (fun z40380 h40381 => ?_)
        have h40381 : z40380.toInt = z40378.toInt + v35_3.toInt := h40381
        refine g_iconst (v := 0) C dX12_book_51 (by decide) ?_
        refine g_iast (j := (z40380.toInt.toNat)) C h40377.1 h40377.2.1 (ix_in h40377.2.2 (by omega)) dX12_book_52 ?_
        refine gqW (ks := [11]) (I35.setA e40376 h40377 (by decide) (arOk.none rfl)) (EM.setA I35 e40376 rfl (by decide)) (fun Y40382 Iy40383 Xy40384 w40385  => ?_)
        have w40385 : (pI Y40382 b40375 (z40380.toInt.toNat)).toInt = 0 := w40385
        have q40386 := Xy40384.keepF 0 (by decide)
        have q40387 := Xy40384.keepA e40352 (by decide) rfl (a1.toInt.toNat)
        have W40388 := W35.keep I35 Xy40384 (by decide) (by decide) (by decide)
        have Xz40389 : EM [0, 10, 11, 12, 13, 14, 15, 17, 20, 21, 22, 23, 24, 25, 26] a0 P Y40382 := EM.tr ha0 X35 (Xy40384.mono (by decide))
        have e40390 := Xy40384.ref h40350 (by decide) e40352
        have e40391 := Xy40384.ref h40350 (by decide) e40376
        have h40392 := Xy40384.at h40350
        have h40393 := Xy40384.ar h40353
        have h40394 := Xy40384.ar h40377
        refine s_iinc (lv0 := [(0, .ref a0), (1, .int a1)]) (m := 1) C dX12_book_53 2 rfl (by decide) rfl (by decide) (by omega) (fun z40395 h40396 => ?_)
        have h40396 : z40395.toInt = v35_3.toInt + 1 := h40396
        refine g_goto C 35 dX12_book_56 (by decide) ?_
        refine g_lv (lv' := [(0, .ref a0), (1, .int a1), (3, .int z40395)]) [1, 2, 0] rfl ?_
        exact ih35 Y40382 z40395 (by omega) Iy40383 Xz40389 W40388 (by omega) (by omega) (by omega) (fun b9 e9 => by rw [e40390] at e9; cases e9; omega)
  have J24 : ∀ (P24 : PP), (IM P24 a0) → (EM [0, 10, 11, 12, 13, 14, 15, 17, 20, 21, 22, 23, 24, 25, 26] a0 P P24) → (MW P24 a0) → (0 ≤ (pI P24 a0 0).toInt ∧ (pI P24 a0 0).toInt ≤ 0) → G E ({ frames := 3, cells := 0, slots := 0, locals := 192 } : Room) D cy 5 P24 0 0 24 [] [] := by
    intro P24 I24 X24 W24 hq24_0
    have h40397 := X24.at ha0
    refine g_iconst (v := 0) C dX12_book_24 (by decide) ?_
    exact ret _ _ _ _ _ _ dX12_book_25 rfl (by decide) (by decide) ⟨I24, X24, W24, (by decide), Or.inl rfl⟩
  refine g_aload_n C dX12_book_0 rfl 0 rfl ?_
  refine g_iconst (v := 0) C dX12_book_1 (by decide) ?_
  refine g_putI C fi_X12_1 rfl (ha0).1 (ha0).2 dX12_book_2 ?_
  refine gqW (ks := [0]) (I.setI (rgOk.of rfl (by decide))) (EM.setI I (by decide)) (fun Y40398 Iy40399 Xy40400 w40401  => ?_)
  have w40401 : (pI Y40398 a0 0).toInt = 0 := w40401
  have W40402 := hW.keep I Xy40400 (by decide) (by decide) (by decide)
  have Xz40403 : EM [0, 10, 11, 12, 13, 14, 15, 17, 20, 21, 22, 23, 24, 25, 26] a0 P Y40398 := Xy40400.mono (by decide)
  have h40404 := Xy40400.at ha0
  refine g_iload_n C dX12_book_5 rfl 1 rfl ?_
  refine g_iconst (v := 0) C dX12_book_6 (by decide) ?_
  refine g_iconst (v := 1) C dX12_book_7 (by decide) ?_
  refine g_callSI (b := 0) (ci := 0) (rest := []) C ms_X12_178 [.int a1, .int 0, .int 1] (s_X12_within Iy40399.1) rfl rfl (by decide) (Nat.le_of_ble_eq_true rfl) (by decide) dX12_book_8 (fun r40405 Y40406 h40407 => ?_)
  obtain ⟨rfl, h40407⟩ := h40407
  obtain ⟨h40407, hi40408⟩ := h40407
  have hi40408 : r40405.toInt = 0 ∨ (0 ≤ a1.toInt ∧ a1.toInt ≤ 1) := hi40408
  have h40407 : 0 ≤ r40405.toInt ∧ r40405.toInt ≤ 1 := h40407
  refine b_if_eq C 24 dX12_book_11 (by decide) (fun h40409 => ?_) (fun h40409 => ?_)
  · have h40409 : r40405.toInt = 0 := congrArg Int32.toInt h40409
    clear hi40408
    refine g_lv (lv' := []) [] rfl ?_
    exact J24 Y40398 Iy40399 Xz40403 W40402 (by omega)
  · have h40409 : r40405.toInt ≠ 0 := ti_ne h40409
    replace hi40408 := hi40408.resolve_left (by omega)
    refine g_iload_n C dX12_book_14 rfl 2 rfl ?_
    refine g_iconst (v := 1) C dX12_book_15 (by decide) ?_
    refine g_bipush (v := 16) C dX12_book_16 (by decide) ?_
    refine g_callSI (b := 0) (ci := 0) (rest := []) C ms_X12_178 [.int a2, .int 1, .int 16] (s_X12_within Iy40399.1) rfl rfl (by decide) (Nat.le_of_ble_eq_true rfl) (by decide) dX12_book_18 (fun r40410 Y40411 h40412 => ?_)
    obtain ⟨rfl, h40412⟩ := h40412
    obtain ⟨h40412, hi40413⟩ := h40412
    have hi40413 : r40410.toInt = 0 ∨ (1 ≤ a2.toInt ∧ a2.toInt ≤ 16) := hi40413
    have h40412 : 0 ≤ r40410.toInt ∧ r40410.toInt ≤ 1 := h40412
    refine b_if_ne C 26 dX12_book_21 (by decide) (fun h40414 => ?_) (fun h40414 => ?_)
    · have h40414 : r40410.toInt ≠ 0 := ti_ne h40414
      replace hi40413 := hi40413.resolve_left (by omega)
      refine g_aload_n C dX12_book_26 rfl 0 rfl ?_
      obtain ⟨b40415, e40416, h40417⟩ := Iy40399.fld (h40404) 10 13 2 rfl
      refine g_getR C fi_X12_45 rfl e40416 (h40404).1 (h40404).2 dX12_book_27 ?_
      refine g_iload_n C dX12_book_30 rfl 1 rfl ?_
      refine g_iload_n C dX12_book_31 rfl 2 rfl ?_
      refine g_iast (j := (a1.toInt.toNat)) C h40417.1 h40417.2.1 (ix_in h40417.2.2 (by omega)) dX12_book_32 ?_
      refine gqX (ks := [10]) (W := (fun P => MX P a0 (a1.toInt.toNat))) (Iy40399.setA e40416 h40417 (by decide) (arOk.of rfl (by omega))) (EM.setA Iy40399 e40416 rfl (by decide)) (W40402.set10 Iy40399 e40416 (by omega)) (fun Y40418 Iy40419 Xy40420 w40421 W40422 => ?_)
      have w40421 : (pI Y40418 b40415 (a1.toInt.toNat)).toInt = a2.toInt := w40421
      have q40423 := Xy40420.keepF 0 (by decide)
      have Xz40424 : EM [0, 10, 11, 12, 13, 14, 15, 17, 20, 21, 22, 23, 24, 25, 26] a0 P Y40418 := EM.tr ha0 Xz40403 (Xy40420.mono (by decide))
      have e40425 := Xy40420.ref h40404 (by decide) e40416
      have h40426 := Xy40420.at h40404
      have h40427 := Xy40420.ar h40417
      refine g_iconst (v := 0) C dX12_book_33 (by decide) ?_
      refine g_istore_n (lv' := [(3, .int 0), (0, .ref a0), (1, .int a1), (2, .int a2)]) C dX12_book_34 rfl (by decide) rfl ?_
      refine g_lv (lv' := [(0, .ref a0), (1, .int a1), (3, .int 0)]) [1, 2, 0] rfl ?_
      exact J35 _ Y40418 0 (Nat.lt_succ_self _) Iy40419 Xz40424 W40422 (by omega) (by decide) (by omega) (fun b9 e9 => by rw [e40425] at e9; cases e9; omega)
    · have h40414 : r40410.toInt = 0 := congrArg Int32.toInt h40414
      clear hi40413
      refine g_lv (lv' := []) [] rfl ?_
      exact J24 Y40398 Iy40399 Xz40403 W40402 (by omega)
theorem dX12_chances_0 : decode cX12_chances 0 = .ok (.aload_n 0, 1) := by decide +kernel
theorem dX12_chances_1 : decode cX12_chances 1 = .ok (.iconst 0, 1) := by decide +kernel
theorem dX12_chances_2 : decode cX12_chances 2 = .ok (.putfield 1, 3) := by decide +kernel
theorem dX12_chances_5 : decode cX12_chances 5 = .ok (.aload_n 0, 1) := by decide +kernel
theorem dX12_chances_6 : decode cX12_chances 6 = .ok (.iload_n 1, 1) := by decide +kernel
theorem dX12_chances_7 : decode cX12_chances 7 = .ok (.iload_n 2, 1) := by decide +kernel
theorem dX12_chances_8 : decode cX12_chances 8 = .ok (.iload 4, 2) := by decide +kernel
theorem dX12_chances_10 : decode cX12_chances 10 = .ok (.invokevirtual 377, 3) := by decide +kernel
theorem dX12_chances_13 : decode cX12_chances 13 = .ok (.ifCond .eq 12, 3) := by decide +kernel
theorem dX12_chances_16 : decode cX12_chances 16 = .ok (.iload_n 3, 1) := by decide +kernel
theorem dX12_chances_17 : decode cX12_chances 17 = .ok (.iconst 0, 1) := by decide +kernel
theorem dX12_chances_18 : decode cX12_chances 18 = .ok (.iload_n 2, 1) := by decide +kernel
theorem dX12_chances_19 : decode cX12_chances 19 = .ok (.invokestatic 178, 3) := by decide +kernel
theorem dX12_chances_22 : decode cX12_chances 22 = .ok (.ifCond .ne 5, 3) := by decide +kernel
theorem dX12_chances_25 : decode cX12_chances 25 = .ok (.iconst (-1), 1) := by decide +kernel
theorem dX12_chances_26 : decode cX12_chances 26 = .ok (.ireturn, 1) := by decide +kernel
theorem dX12_chances_27 : decode cX12_chances 27 = .ok (.aload_n 0, 1) := by decide +kernel
theorem dX12_chances_28 : decode cX12_chances 28 = .ok (.iload_n 1, 1) := by decide +kernel
theorem dX12_chances_29 : decode cX12_chances 29 = .ok (.iload_n 2, 1) := by decide +kernel
theorem dX12_chances_30 : decode cX12_chances 30 = .ok (.invokevirtual 380, 3) := by decide +kernel
theorem dX12_chances_33 : decode cX12_chances 33 = .ok (.aload_n 0, 1) := by decide +kernel
theorem dX12_chances_34 : decode cX12_chances 34 = .ok (.iload_n 1, 1) := by decide +kernel
theorem dX12_chances_35 : decode cX12_chances 35 = .ok (.iload_n 2, 1) := by decide +kernel
theorem dX12_chances_36 : decode cX12_chances 36 = .ok (.iload_n 3, 1) := by decide +kernel
theorem dX12_chances_37 : decode cX12_chances 37 = .ok (.iload 4, 2) := by decide +kernel
theorem dX12_chances_39 : decode cX12_chances 39 = .ok (.invokevirtual 383, 3) := by decide +kernel
theorem dX12_chances_42 : decode cX12_chances 42 = .ok (.ireturn, 1) := by decide +kernel
set_option maxHeartbeats 4000000 in
set_option maxRecDepth 100000 in
theorem s_X12_chances {P : PP} {a0 : Nat} {a1 : Int32} {a2 : Int32} {a3 : Int32} {a4 : Int32} (I : IM P a0) (hW : MW P a0) : CtrI yX12_chances cX12_chances 5 (some Jvm.ClassFile.FieldType.int) ({ frames := 5, cells := 0, slots := 0, locals := 320 } : Room) 0 0 P [.ref a0, .int a1, .int a2, .int a3, .int a4] (fun r P2 => IM P2 a0 ∧ EM [0, 28, 29, 30, 31, 33, 34, 35, 36, 37, 38, 43] a0 P P2 ∧ MW P2 a0 ∧ (True)) := by
  refine enI (lv := [(0, .ref a0), (1, .int a1), (2, .int a2), (3, .int a3), (4, .int a4)]) (by decide) (Nat.le_of_ble_eq_true rfl) rfl (fun E D cy C Ci0 ret => ?_)
  have ha0 := I.2.1
  have J25 : ∀ (P25 : PP), (IM P25 a0) → (EM [0, 28, 29, 30, 31, 33, 34, 35, 36, 37, 38, 43] a0 P P25) → (MW P25 a0) → (0 ≤ (pI P25 a0 0).toInt ∧ (pI P25 a0 0).toInt ≤ 0) → G E ({ frames := 5, cells := 0, slots := 0, locals := 320 } : Room) D cy 5 P25 0 0 25 [] [] := by
    intro P25 I25 X25 W25 hq25_0
    have h40475 := X25.at ha0
    refine g_iconst (v := (-1)) C dX12_chances_25 (by decide) ?_
    exact ret _ _ _ _ _ _ dX12_chances_26 rfl (by decide) (by decide) ⟨I25, X25, W25, trivial⟩
  refine g_aload_n C dX12_chances_0 rfl 0 rfl ?_
  refine g_iconst (v := 0) C dX12_chances_1 (by decide) ?_
  refine g_putI C fi_X12_1 rfl (ha0).1 (ha0).2 dX12_chances_2 ?_
  refine gqW (ks := [0]) (I.setI (rgOk.of rfl (by decide))) (EM.setI I (by decide)) (fun Y40476 Iy40477 Xy40478 w40479  => ?_)
  have w40479 : (pI Y40476 a0 0).toInt = 0 := w40479
  have W40480 := hW.keep I Xy40478 (by decide) (by decide) (by decide)
  have Xz40481 : EM [0, 28, 29, 30, 31, 33, 34, 35, 36, 37, 38, 43] a0 P Y40476 := Xy40478.mono (by decide)
  have h40482 := Xy40478.at ha0
  refine g_aload_n C dX12_chances_5 rfl 0 rfl ?_
  refine g_iload_n C dX12_chances_6 rfl 1 rfl ?_
  refine g_iload_n C dX12_chances_7 rfl 2 rfl ?_
  refine g_iload C dX12_chances_8 4 rfl ?_
  refine g_callVI (rest := []) C mv_X12_377 [.int a1, .int a2, .int a4] (s_X12_areChances Iy40477 W40480) (h40482).1 (h40482).2 rfl rfl (by decide) (Nat.le_of_ble_eq_true rfl) (by decide) dX12_chances_10 (fun r40483 Y40484 h40485 => ?_)
  obtain ⟨rfl, h40485⟩ := h40485
  obtain ⟨h40485, hi40486, hi40487⟩ := h40485
  have hi40486 : r40483.toInt = 0 ∨ (((0 : Int) ≤ a1.toInt ∧ a1.toInt ≤ (1 : Int)) ∧ ((1 : Int) ≤ a2.toInt ∧ a2.toInt ≤ (11 : Int)) ∧ ((0 : Int) ≤ a4.toInt ∧ a4.toInt ≤ (1 : Int))) := hi40486
  have h40485 : 0 ≤ r40483.toInt ∧ r40483.toInt ≤ 1 := h40485
  refine b_if_eq C 25 dX12_chances_13 (by decide) (fun h40488 => ?_) (fun h40488 => ?_)
  · have h40488 : r40483.toInt = 0 := congrArg Int32.toInt h40488
    clear hi40486
    refine g_lv (lv' := []) [] rfl ?_
    exact J25 Y40476 Iy40477 Xz40481 W40480 (by omega)
  · have h40488 : r40483.toInt ≠ 0 := ti_ne h40488
    replace hi40486 := hi40486.resolve_left (by omega)
    obtain ⟨b40489, e40490, h40491⟩ := Iy40477.fld (h40482) 10 13 2 rfl
    have hi40487 := (hi40487.resolve_left (by omega)) b40489 e40490
    have hi40487 : 0 < (pI Y40476 b40489 (a1.toInt.toNat)).toInt := hi40487
    have h40492 := Iy40477.arr e40490 rfl (a1.toInt.toNat)
    refine g_iload_n C dX12_chances_16 rfl 3 rfl ?_
    refine g_iconst (v := 0) C dX12_chances_17 (by decide) ?_
    refine g_iload_n C dX12_chances_18 rfl 2 rfl ?_
    refine g_callSI (b := 0) (ci := 0) (rest := []) C ms_X12_178 [.int a3, .int 0, .int a2] (s_X12_within Iy40477.1) rfl rfl (by decide) (Nat.le_of_ble_eq_true rfl) (by decide) dX12_chances_19 (fun r40493 Y40494 h40495 => ?_)
    obtain ⟨rfl, h40495⟩ := h40495
    obtain ⟨h40495, hi40496⟩ := h40495
    have hi40496 : r40493.toInt = 0 ∨ (0 ≤ a3.toInt ∧ a3.toInt ≤ a2.toInt) := hi40496
    have h40495 : 0 ≤ r40493.toInt ∧ r40493.toInt ≤ 1 := h40495
    refine b_if_ne C 27 dX12_chances_22 (by decide) (fun h40497 => ?_) (fun h40497 => ?_)
    · have h40497 : r40493.toInt ≠ 0 := ti_ne h40497
      replace hi40496 := hi40496.resolve_left (by omega)
      refine g_aload_n C dX12_chances_27 rfl 0 rfl ?_
      refine g_iload_n C dX12_chances_28 rfl 1 rfl ?_
      refine g_iload_n C dX12_chances_29 rfl 2 rfl ?_
      refine g_callVV (rest := []) C mv_X12_380 [.int a1, .int a2] (s_X12_keepsSets Iy40477 (by omega) (by omega) (fun b9 e9 => by rw [e40490] at e9; cases e9; show 1 ≤ (pI Y40476 b40489 (a1.toInt.toNat)).toInt ∧ (pI Y40476 b40489 (a1.toInt.toNat)).toInt ≤ 16; omega) W40480) (h40482).1 (h40482).2 rfl rfl (by decide) (Nat.le_of_ble_eq_true rfl) (by decide) dX12_chances_30 (fun Y40499 h40500 => ?_)
      obtain ⟨Iy40501, Xy40502, W40503⟩ := h40500
      have q40504 := Xy40502.keepF 0 (by decide)
      have q40505 := Xy40502.keepA e40490 (by decide) rfl (a1.toInt.toNat)
      have Xz40506 : EM [0, 28, 29, 30, 31, 33, 34, 35, 36, 37, 38, 43] a0 P Y40499 := EM.tr ha0 Xz40481 (Xy40502.mono (by decide))
      have e40507 := Xy40502.ref h40482 (by decide) e40490
      have h40508 := Xy40502.at h40482
      have h40509 := Xy40502.ar h40491
      refine g_aload_n C dX12_chances_33 rfl 0 rfl ?_
      refine g_iload_n C dX12_chances_34 rfl 1 rfl ?_
      refine g_iload_n C dX12_chances_35 rfl 2 rfl ?_
      refine g_iload_n C dX12_chances_36 rfl 3 rfl ?_
      refine g_iload C dX12_chances_37 4 rfl ?_
      refine g_callVI (rest := []) C mv_X12_383 [.int a1, .int a2, .int a3, .int a4] (s_X12_chancesOf Iy40501 (by omega) (by omega) (fun b9 e9 => by rw [e40507] at e9; cases e9; show 1 ≤ (pI Y40499 b40489 (a1.toInt.toNat)).toInt ∧ (pI Y40499 b40489 (a1.toInt.toNat)).toInt ≤ 16; omega) W40503) (h40508).1 (h40508).2 rfl rfl (by decide) (Nat.le_of_ble_eq_true rfl) (by decide) dX12_chances_39 (fun r40510 Y40511 h40512 => ?_)
      obtain ⟨Iy40513, Xy40514, W40515, h40512⟩ := h40512
      have q40516 := Xy40514.keepF 0 (by decide)
      have q40517 := Xy40514.keepA e40507 (by decide) rfl (a1.toInt.toNat)
      have Xz40518 : EM [0, 28, 29, 30, 31, 33, 34, 35, 36, 37, 38, 43] a0 P Y40511 := EM.tr ha0 Xz40506 (Xy40514.mono (by decide))
      have e40519 := Xy40514.ref h40508 (by decide) e40507
      have h40520 := Xy40514.at h40508
      have h40521 := Xy40514.ar h40509
      have h40512 : True := h40512
      exact ret _ _ _ _ _ _ dX12_chances_42 rfl (by decide) (by decide) ⟨Iy40513, Xz40518, W40515, trivial⟩
    · have h40497 : r40493.toInt = 0 := congrArg Int32.toInt h40497
      clear hi40496
      refine g_lv (lv' := []) [] rfl ?_
      exact J25 Y40476 Iy40477 Xz40481 W40480 (by omega)
theorem dX12_comes_0 : decode cX12_comes 0 = .ok (.aload_n 0, 1) := by decide +kernel
theorem dX12_comes_1 : decode cX12_comes 1 = .ok (.iconst 0, 1) := by decide +kernel
theorem dX12_comes_2 : decode cX12_comes 2 = .ok (.putfield 1, 3) := by decide +kernel
theorem dX12_comes_5 : decode cX12_comes 5 = .ok (.iload_n 1, 1) := by decide +kernel
theorem dX12_comes_6 : decode cX12_comes 6 = .ok (.invokestatic 278, 3) := by decide +kernel
theorem dX12_comes_9 : decode cX12_comes 9 = .ok (.ifCond .eq 39, 3) := by decide +kernel
theorem dX12_comes_12 : decode cX12_comes 12 = .ok (.aload_n 0, 1) := by decide +kernel
theorem dX12_comes_13 : decode cX12_comes 13 = .ok (.iload_n 2, 1) := by decide +kernel
theorem dX12_comes_14 : decode cX12_comes 14 = .ok (.invokevirtual 192, 3) := by decide +kernel
theorem dX12_comes_17 : decode cX12_comes 17 = .ok (.ifCond .eq 31, 3) := by decide +kernel
theorem dX12_comes_20 : decode cX12_comes 20 = .ok (.iload_n 3, 1) := by decide +kernel
theorem dX12_comes_21 : decode cX12_comes 21 = .ok (.invokestatic 258, 3) := by decide +kernel
theorem dX12_isNumber_0 : decode cX12_isNumber 0 = .ok (.iload_n 0, 1) := by decide +kernel
theorem dX12_isNumber_1 : decode cX12_isNumber 1 = .ok (.iconst 0, 1) := by decide +kernel
theorem dX12_isNumber_2 : decode cX12_isNumber 2 = .ok (.sipush 9999, 3) := by decide +kernel
theorem dX12_isNumber_5 : decode cX12_isNumber 5 = .ok (.invokestatic 178, 3) := by decide +kernel
theorem dX12_isNumber_8 : decode cX12_isNumber 8 = .ok (.ireturn, 1) := by decide +kernel
set_option maxHeartbeats 4000000 in
set_option maxRecDepth 100000 in
theorem s_X12_isNumber {P : PP} {a0 : Int32} (I : IV P) : CtrI yX12_isNumber cX12_isNumber 1 (some Jvm.ClassFile.FieldType.boolean) ({ frames := 2, cells := 0, slots := 0, locals := 128 } : Room) 0 0 P [.int a0] (fun r P2 => P = P2 ∧ (0 ≤ r.toInt ∧ r.toInt ≤ 1) ∧ (r.toInt = 0 ∨ (((0 : Int) ≤ a0.toInt ∧ a0.toInt ≤ (9999 : Int))))) := by
  refine enI (lv := [(0, .int a0)]) (by decide) (Nat.le_of_ble_eq_true rfl) rfl (fun E D cy C Ci0 ret => ?_)
  refine g_iload_n C dX12_isNumber_0 rfl 0 rfl ?_
  refine g_iconst (v := 0) C dX12_isNumber_1 (by decide) ?_
  refine g_sipush (v := 9999) C dX12_isNumber_2 (by decide) ?_
  refine g_callSI (b := 0) (ci := 0) (rest := []) C ms_X12_178 [.int a0, .int 0, .int 9999] (s_X12_within I) rfl rfl (by decide) (Nat.le_of_ble_eq_true rfl) (by decide) dX12_isNumber_5 (fun r40548 Y40549 h40550 => ?_)
  obtain ⟨rfl, h40550⟩ := h40550
  obtain ⟨h40550, hi40551⟩ := h40550
  have hi40551 : r40548.toInt = 0 ∨ (0 ≤ a0.toInt ∧ a0.toInt ≤ 9999) := hi40551
  have h40550 : 0 ≤ r40548.toInt ∧ r40548.toInt ≤ 1 := h40550
  exact ret _ _ _ _ _ _ dX12_isNumber_8 (nar_b (b01 (by omega))) (by decide) (by decide) ⟨rfl, (by omega), hi40551.imp id (fun h9 => by omega)⟩
theorem dX12_comes_24 : decode cX12_comes 24 = .ok (.ifCond .eq 24, 3) := by decide +kernel
theorem dX12_comes_27 : decode cX12_comes 27 = .ok (.iload 4, 2) := by decide +kernel
theorem dX12_comes_29 : decode cX12_comes 29 = .ok (.iconst 1, 1) := by decide +kernel
theorem dX12_comes_30 : decode cX12_comes 30 = .ok (.iconst 3, 1) := by decide +kernel
theorem dX12_comes_31 : decode cX12_comes 31 = .ok (.invokestatic 178, 3) := by decide +kernel
theorem dX12_comes_34 : decode cX12_comes 34 = .ok (.ifCond .eq 14, 3) := by decide +kernel
theorem dX12_comes_37 : decode cX12_comes 37 = .ok (.aload_n 0, 1) := by decide +kernel
theorem dX12_comes_38 : decode cX12_comes 38 = .ok (.getfield 69, 3) := by decide +kernel
theorem dX12_comes_41 : decode cX12_comes 41 = .ok (.iload_n 1, 1) := by decide +kernel
theorem dX12_comes_42 : decode cX12_comes 42 = .ok (.iaload, 1) := by decide +kernel
theorem dX12_comes_43 : decode cX12_comes 43 = .ok (.bipush 40, 2) := by decide +kernel
theorem dX12_comes_45 : decode cX12_comes 45 = .ok (.if_icmp .ne 5, 3) := by decide +kernel
theorem dX12_comes_50 : decode cX12_comes 50 = .ok (.aload_n 0, 1) := by decide +kernel
theorem dX12_comes_51 : decode cX12_comes 51 = .ok (.iload_n 2, 1) := by decide +kernel
theorem dX12_comes_52 : decode cX12_comes 52 = .ok (.aload_n 0, 1) := by decide +kernel
theorem dX12_comes_53 : decode cX12_comes 53 = .ok (.iload_n 2, 1) := by decide +kernel
theorem dX12_comes_54 : decode cX12_comes 54 = .ok (.iload_n 3, 1) := by decide +kernel
theorem dX12_comes_55 : decode cX12_comes 55 = .ok (.invokevirtual 261, 3) := by decide +kernel
theorem dX12_comes_58 : decode cX12_comes 58 = .ok (.invokevirtual 223, 3) := by decide +kernel
theorem dX12_sumOf_0 : decode cX12_sumOf 0 = .ok (.iconst 0, 1) := by decide +kernel
theorem dX12_sumOf_1 : decode cX12_sumOf 1 = .ok (.istore_n 3, 1) := by decide +kernel
theorem dX12_sumOf_2 : decode cX12_sumOf 2 = .ok (.iconst 0, 1) := by decide +kernel
theorem dX12_sumOf_3 : decode cX12_sumOf 3 = .ok (.istore 4, 2) := by decide +kernel
theorem dX12_sumOf_5 : decode cX12_sumOf 5 = .ok (.iload 4, 2) := by decide +kernel
theorem dX12_sumOf_7 : decode cX12_sumOf 7 = .ok (.aload_n 0, 1) := by decide +kernel
theorem dX12_sumOf_8 : decode cX12_sumOf 8 = .ok (.getfield 45, 3) := by decide +kernel
theorem dX12_sumOf_11 : decode cX12_sumOf 11 = .ok (.iload_n 1, 1) := by decide +kernel
theorem dX12_sumOf_12 : decode cX12_sumOf 12 = .ok (.iaload, 1) := by decide +kernel
theorem dX12_sumOf_13 : decode cX12_sumOf 13 = .ok (.if_icmp .ge 38, 3) := by decide +kernel
theorem dX12_sumOf_16 : decode cX12_sumOf 16 = .ok (.iload_n 3, 1) := by decide +kernel
theorem dX12_sumOf_17 : decode cX12_sumOf 17 = .ok (.iload_n 2, 1) := by decide +kernel
theorem dX12_sumOf_18 : decode cX12_sumOf 18 = .ok (.iload 4, 2) := by decide +kernel
theorem dX12_sumOf_20 : decode cX12_sumOf 20 = .ok (.ishr, 1) := by decide +kernel
theorem dX12_sumOf_21 : decode cX12_sumOf 21 = .ok (.iconst 1, 1) := by decide +kernel
theorem dX12_sumOf_22 : decode cX12_sumOf 22 = .ok (.iand, 1) := by decide +kernel
theorem dX12_sumOf_23 : decode cX12_sumOf 23 = .ok (.iconst 1, 1) := by decide +kernel
theorem dX12_sumOf_24 : decode cX12_sumOf 24 = .ok (.if_icmp .ne 18, 3) := by decide +kernel
theorem dX12_sumOf_27 : decode cX12_sumOf 27 = .ok (.aload_n 0, 1) := by decide +kernel
theorem dX12_sumOf_28 : decode cX12_sumOf 28 = .ok (.getfield 48, 3) := by decide +kernel
theorem dX12_sumOf_31 : decode cX12_sumOf 31 = .ok (.bipush 16, 2) := by decide +kernel
theorem dX12_sumOf_33 : decode cX12_sumOf 33 = .ok (.iload_n 1, 1) := by decide +kernel
theorem dX12_sumOf_34 : decode cX12_sumOf 34 = .ok (.imul, 1) := by decide +kernel
theorem dX12_sumOf_35 : decode cX12_sumOf 35 = .ok (.iload 4, 2) := by decide +kernel
theorem dX12_sumOf_37 : decode cX12_sumOf 37 = .ok (.iadd, 1) := by decide +kernel
theorem dX12_sumOf_38 : decode cX12_sumOf 38 = .ok (.iaload, 1) := by decide +kernel
theorem dX12_sumOf_39 : decode cX12_sumOf 39 = .ok (.goto 4, 3) := by decide +kernel
theorem dX12_sumOf_42 : decode cX12_sumOf 42 = .ok (.iconst 0, 1) := by decide +kernel
theorem dX12_sumOf_43 : decode cX12_sumOf 43 = .ok (.ixor, 1) := by decide +kernel
theorem dX12_sumOf_44 : decode cX12_sumOf 44 = .ok (.istore_n 3, 1) := by decide +kernel
theorem dX12_sumOf_45 : decode cX12_sumOf 45 = .ok (.iinc 4 1, 3) := by decide +kernel
theorem dX12_sumOf_48 : decode cX12_sumOf 48 = .ok (.goto (-43), 3) := by decide +kernel
theorem dX12_sumOf_51 : decode cX12_sumOf 51 = .ok (.iconst 0, 1) := by decide +kernel
theorem dX12_sumOf_52 : decode cX12_sumOf 52 = .ok (.istore 4, 2) := by decide +kernel
theorem dX12_sumOf_54 : decode cX12_sumOf 54 = .ok (.iload 4, 2) := by decide +kernel
theorem dX12_sumOf_56 : decode cX12_sumOf 56 = .ok (.aload_n 0, 1) := by decide +kernel
theorem dX12_sumOf_57 : decode cX12_sumOf 57 = .ok (.getfield 60, 3) := by decide +kernel
theorem dX12_sumOf_60 : decode cX12_sumOf 60 = .ok (.iload_n 1, 1) := by decide +kernel
theorem dX12_sumOf_61 : decode cX12_sumOf 61 = .ok (.iaload, 1) := by decide +kernel
theorem dX12_sumOf_62 : decode cX12_sumOf 62 = .ok (.if_icmp .ge 85, 3) := by decide +kernel
theorem dX12_sumOf_65 : decode cX12_sumOf 65 = .ok (.iconst 0, 1) := by decide +kernel
theorem dX12_sumOf_66 : decode cX12_sumOf 66 = .ok (.istore 5, 2) := by decide +kernel
theorem dX12_sumOf_68 : decode cX12_sumOf 68 = .ok (.iload 5, 2) := by decide +kernel
theorem dX12_sumOf_70 : decode cX12_sumOf 70 = .ok (.aload_n 0, 1) := by decide +kernel
theorem dX12_sumOf_71 : decode cX12_sumOf 71 = .ok (.getfield 45, 3) := by decide +kernel
theorem dX12_sumOf_74 : decode cX12_sumOf 74 = .ok (.iload_n 1, 1) := by decide +kernel
theorem dX12_sumOf_75 : decode cX12_sumOf 75 = .ok (.iaload, 1) := by decide +kernel
theorem dX12_sumOf_76 : decode cX12_sumOf 76 = .ok (.if_icmp .ge 65, 3) := by decide +kernel
theorem dX12_sumOf_79 : decode cX12_sumOf 79 = .ok (.iload_n 2, 1) := by decide +kernel
theorem dX12_sumOf_80 : decode cX12_sumOf 80 = .ok (.aload_n 0, 1) := by decide +kernel
theorem dX12_sumOf_81 : decode cX12_sumOf 81 = .ok (.getfield 45, 3) := by decide +kernel
theorem dX12_sumOf_84 : decode cX12_sumOf 84 = .ok (.iload_n 1, 1) := by decide +kernel
theorem dX12_sumOf_85 : decode cX12_sumOf 85 = .ok (.iaload, 1) := by decide +kernel
theorem dX12_sumOf_86 : decode cX12_sumOf 86 = .ok (.iload 4, 2) := by decide +kernel
theorem dX12_sumOf_88 : decode cX12_sumOf 88 = .ok (.iadd, 1) := by decide +kernel
theorem dX12_sumOf_89 : decode cX12_sumOf 89 = .ok (.ishr, 1) := by decide +kernel
theorem dX12_sumOf_90 : decode cX12_sumOf 90 = .ok (.iconst 1, 1) := by decide +kernel
theorem dX12_sumOf_91 : decode cX12_sumOf 91 = .ok (.iand, 1) := by decide +kernel
theorem dX12_sumOf_92 : decode cX12_sumOf 92 = .ok (.iconst 1, 1) := by decide +kernel
theorem dX12_sumOf_93 : decode cX12_sumOf 93 = .ok (.if_icmp .ne 48, 3) := by decide +kernel
theorem dX12_sumOf_96 : decode cX12_sumOf 96 = .ok (.iload_n 3, 1) := by decide +kernel
theorem dX12_sumOf_97 : decode cX12_sumOf 97 = .ok (.aload_n 0, 1) := by decide +kernel
theorem dX12_sumOf_98 : decode cX12_sumOf 98 = .ok (.getfield 63, 3) := by decide +kernel
theorem dX12_sumOf_101 : decode cX12_sumOf 101 = .ok (.iconst 4, 1) := by decide +kernel
theorem dX12_sumOf_102 : decode cX12_sumOf 102 = .ok (.iload_n 1, 1) := by decide +kernel
theorem dX12_sumOf_103 : decode cX12_sumOf 103 = .ok (.imul, 1) := by decide +kernel
theorem dX12_sumOf_104 : decode cX12_sumOf 104 = .ok (.iload 4, 2) := by decide +kernel
theorem dX12_sumOf_106 : decode cX12_sumOf 106 = .ok (.iadd, 1) := by decide +kernel
theorem dX12_sumOf_107 : decode cX12_sumOf 107 = .ok (.iaload, 1) := by decide +kernel
theorem dX12_sumOf_108 : decode cX12_sumOf 108 = .ok (.iload 5, 2) := by decide +kernel
theorem dX12_sumOf_110 : decode cX12_sumOf 110 = .ok (.ishr, 1) := by decide +kernel
theorem dX12_sumOf_111 : decode cX12_sumOf 111 = .ok (.iconst 1, 1) := by decide +kernel
theorem dX12_sumOf_112 : decode cX12_sumOf 112 = .ok (.iand, 1) := by decide +kernel
theorem dX12_sumOf_113 : decode cX12_sumOf 113 = .ok (.iconst 1, 1) := by decide +kernel
theorem dX12_sumOf_114 : decode cX12_sumOf 114 = .ok (.if_icmp .ne 18, 3) := by decide +kernel
theorem dX12_sumOf_117 : decode cX12_sumOf 117 = .ok (.aload_n 0, 1) := by decide +kernel
theorem dX12_sumOf_118 : decode cX12_sumOf 118 = .ok (.getfield 48, 3) := by decide +kernel
theorem dX12_sumOf_121 : decode cX12_sumOf 121 = .ok (.bipush 16, 2) := by decide +kernel
theorem dX12_sumOf_123 : decode cX12_sumOf 123 = .ok (.iload_n 1, 1) := by decide +kernel
theorem dX12_sumOf_124 : decode cX12_sumOf 124 = .ok (.imul, 1) := by decide +kernel
theorem dX12_sumOf_125 : decode cX12_sumOf 125 = .ok (.iload 5, 2) := by decide +kernel
theorem dX12_sumOf_127 : decode cX12_sumOf 127 = .ok (.iadd, 1) := by decide +kernel
theorem dX12_sumOf_128 : decode cX12_sumOf 128 = .ok (.iaload, 1) := by decide +kernel
theorem dX12_sumOf_129 : decode cX12_sumOf 129 = .ok (.goto 4, 3) := by decide +kernel
theorem dX12_sumOf_132 : decode cX12_sumOf 132 = .ok (.iconst 0, 1) := by decide +kernel
theorem dX12_sumOf_133 : decode cX12_sumOf 133 = .ok (.ixor, 1) := by decide +kernel
theorem dX12_sumOf_134 : decode cX12_sumOf 134 = .ok (.istore_n 3, 1) := by decide +kernel
theorem dX12_sumOf_135 : decode cX12_sumOf 135 = .ok (.iinc 5 1, 3) := by decide +kernel
theorem dX12_sumOf_138 : decode cX12_sumOf 138 = .ok (.goto (-70), 3) := by decide +kernel
theorem dX12_sumOf_141 : decode cX12_sumOf 141 = .ok (.iinc 4 1, 3) := by decide +kernel
theorem dX12_sumOf_144 : decode cX12_sumOf 144 = .ok (.goto (-90), 3) := by decide +kernel
theorem dX12_sumOf_147 : decode cX12_sumOf 147 = .ok (.iload_n 3, 1) := by decide +kernel
theorem dX12_sumOf_148 : decode cX12_sumOf 148 = .ok (.ireturn, 1) := by decide +kernel
set_option maxHeartbeats 4000000 in
set_option maxRecDepth 100000 in
theorem s_X12_sumOf {P : PP} {a0 : Nat} {a1 : Int32} {a2 : Int32} (I : IM P a0) (ha1 : 0 ≤ a1.toInt ∧ a1.toInt ≤ 1) (hW : MW P a0) : CtrI yX12_sumOf cX12_sumOf 6 (some Jvm.ClassFile.FieldType.int) ({ frames := 1, cells := 0, slots := 0, locals := 64 } : Room) 0 0 P [.ref a0, .int a1, .int a2] (fun r P2 => P = P2 ∧ (True)) := by
  refine enI (lv := [(0, .ref a0), (1, .int a1), (2, .int a2)]) (by decide) (Nat.le_of_ble_eq_true rfl) rfl (fun E D cy C Ci0 ret => ?_)
  have ha0 := I.2.1
  have J54 : ∀ (n54 : Nat) (v54_3 : Int32) (v54_4 : Int32), (4 - v54_4.toInt).toNat < n54 → (0 ≤ v54_4.toInt ∧ v54_4.toInt ≤ 4) → G E ({ frames := 1, cells := 0, slots := 0, locals := 64 } : Room) D cy 6 P 0 0 54 [(0, .ref a0), (1, .int a1), (2, .int a2), (3, .int v54_3), (4, .int v54_4)] [] := by
    intro n54
    induction n54 with
    | zero => intro v54_3 v54_4 hm54 hv54_4; omega
    | succ n54 ih54 =>
      intro v54_3 v54_4 hm54 hv54_4
      have J141 : ∀ (v141_3 : Int32), (0 ≤ v54_4.toInt ∧ v54_4.toInt ≤ 3) → (∀ b, pR P a0 15 = some b → 1 ≤ (pI P b (a1.toInt.toNat)).toInt ∧ (pI P b (a1.toInt.toNat)).toInt ≤ 4) → G E ({ frames := 1, cells := 0, slots := 0, locals := 64 } : Room) D cy 6 P 0 0 141 [(0, .ref a0), (1, .int a1), (2, .int a2), (3, .int v141_3), (4, .int v54_4)] [] := by
        intro v141_3 hv141_4 hq141_0
        obtain ⟨b41528, e41529, h41530⟩ := I.fld (ha0) 15 13 3 rfl
        have hq141_0 := hq141_0 b41528 e41529
        refine s_iinc (lv0 := [(0, .ref a0), (1, .int a1), (2, .int a2), (3, .int v141_3)]) (m := 1) C dX12_sumOf_141 4 rfl (by decide) rfl (by decide) (by omega) (fun z41531 h41532 => ?_)
        have h41532 : z41531.toInt = v54_4.toInt + 1 := h41532
        refine g_goto C 54 dX12_sumOf_144 (by decide) ?_
        refine g_lv (lv' := [(0, .ref a0), (1, .int a1), (2, .int a2), (3, .int v141_3), (4, .int z41531)]) [1, 2, 3, 4, 0] rfl ?_
        exact ih54 v141_3 z41531 (by omega) (by omega)
      have J68 : ∀ (n68 : Nat) (v68_3 : Int32) (v68_5 : Int32), (16 - v68_5.toInt).toNat < n68 → (0 ≤ v54_4.toInt ∧ v54_4.toInt ≤ 3) → (0 ≤ v68_5.toInt ∧ v68_5.toInt ≤ 16) → (∀ b, pR P a0 15 = some b → 1 ≤ (pI P b (a1.toInt.toNat)).toInt ∧ (pI P b (a1.toInt.toNat)).toInt ≤ 4) → G E ({ frames := 1, cells := 0, slots := 0, locals := 64 } : Room) D cy 6 P 0 0 68 [(0, .ref a0), (1, .int a1), (2, .int a2), (3, .int v68_3), (4, .int v54_4), (5, .int v68_5)] [] := by
        intro n68
        induction n68 with
        | zero => intro v68_3 v68_5 hm68 hv68_4 hv68_5 hq68_0; omega
        | succ n68 ih68 =>
          intro v68_3 v68_5 hm68 hv68_4 hv68_5 hq68_0
          obtain ⟨b41533, e41534, h41535⟩ := I.fld (ha0) 15 13 3 rfl
          have hq68_0 := hq68_0 b41533 e41534
          have J133 : ∀ (v133_s0 : Int32), (0 ≤ v54_4.toInt ∧ v54_4.toInt ≤ 3) → (0 ≤ v68_5.toInt ∧ v68_5.toInt ≤ 15) → (∀ b, pR P a0 10 = some b → 1 ≤ (pI P b (a1.toInt.toNat)).toInt ∧ (pI P b (a1.toInt.toNat)).toInt ≤ 16) → (∀ b, pR P a0 15 = some b → 1 ≤ (pI P b (a1.toInt.toNat)).toInt ∧ (pI P b (a1.toInt.toNat)).toInt ≤ 4) → G E ({ frames := 1, cells := 0, slots := 0, locals := 64 } : Room) D cy 6 P 0 0 133 [(0, .ref a0), (1, .int a1), (2, .int a2), (4, .int v54_4), (5, .int v68_5)] [.int v133_s0, .int v68_3] := by
            intro v133_s0 hv133_4 hv133_5 hq133_0 hq133_1
            obtain ⟨b41536, e41537, h41538⟩ := I.fld (ha0) 10 13 2 rfl
            have hq133_0 := hq133_0 b41536 e41537
            obtain ⟨b41539, e41540, h41541⟩ := I.fld (ha0) 15 13 3 rfl
            have hq133_1 := hq133_1 b41539 e41540
            refine a_ixor C dX12_sumOf_133 (fun z41542 => ?_)
            refine g_istore_n (lv' := [(3, .int z41542), (0, .ref a0), (1, .int a1), (2, .int a2), (4, .int v54_4), (5, .int v68_5)]) C dX12_sumOf_134 rfl (by decide) rfl ?_
            refine s_iinc (lv0 := [(3, .int z41542), (0, .ref a0), (1, .int a1), (2, .int a2), (4, .int v54_4)]) (m := 1) C dX12_sumOf_135 5 rfl (by decide) rfl (by decide) (by omega) (fun z41544 h41545 => ?_)
            have h41545 : z41544.toInt = v68_5.toInt + 1 := h41545
            refine g_goto C 68 dX12_sumOf_138 (by decide) ?_
            refine g_lv (lv' := [(0, .ref a0), (1, .int a1), (2, .int a2), (3, .int z41542), (4, .int v54_4), (5, .int z41544)]) [2, 3, 4, 1, 5, 0] rfl ?_
            exact ih68 z41542 z41544 (by omega) (by omega) (by omega) (fun b9 e9 => by rw [e41540] at e9; cases e9; omega)
          refine g_iload C dX12_sumOf_68 5 rfl ?_
          refine g_aload_n C dX12_sumOf_70 rfl 0 rfl ?_
          obtain ⟨b41546, e41547, h41548⟩ := I.fld (ha0) 10 13 2 rfl
          refine g_getR C fi_X12_45 rfl e41547 (ha0).1 (ha0).2 dX12_sumOf_71 ?_
          refine g_iload_n C dX12_sumOf_74 rfl 1 rfl ?_
          refine g_iald (j := (a1.toInt.toNat)) C h41548.1 h41548.2.1 (ix_in h41548.2.2 (by omega)) dX12_sumOf_75 ?_
          have h41549 := I.arr e41547 rfl (a1.toInt.toNat)
          refine b_icmp_ge C 141 dX12_sumOf_76 (by decide) (fun h41550 => ?_) (fun h41550 => ?_)
          · have h41550 : (pI P b41546 (a1.toInt.toNat)).toInt ≤ v68_5.toInt := h41550
            refine g_lv (lv' := [(0, .ref a0), (1, .int a1), (2, .int a2), (3, .int v68_3), (4, .int v54_4)]) [0, 1, 2, 3, 4] rfl ?_
            exact J141 v68_3 (by omega) (fun b9 e9 => by rw [e41534] at e9; cases e9; omega)
          · have h41550 : v68_5.toInt < (pI P b41546 (a1.toInt.toNat)).toInt := h41550
            refine g_iload_n C dX12_sumOf_79 rfl 2 rfl ?_
            refine g_aload_n C dX12_sumOf_80 rfl 0 rfl ?_
            refine g_getR C fi_X12_45 rfl e41547 (ha0).1 (ha0).2 dX12_sumOf_81 ?_
            refine g_iload_n C dX12_sumOf_84 rfl 1 rfl ?_
            refine g_iald (j := (a1.toInt.toNat)) C h41548.1 h41548.2.1 (ix_in h41548.2.2 (by omega)) dX12_sumOf_85 ?_
            refine g_iload C dX12_sumOf_86 4 rfl ?_
            refine s_iadd C dX12_sumOf_88 (by show -2147483648 ≤ (pI P b41546 (a1.toInt.toNat)).toInt + v54_4.toInt ∧ (pI P b41546 (a1.toInt.toNat)).toInt + v54_4.toInt ≤ 2147483647; omega) (fun z41551 h41552 => ?_)
            have h41552 : z41551.toInt = (pI P b41546 (a1.toInt.toNat)).toInt + v54_4.toInt := h41552
            refine a_ishr C dX12_sumOf_89 (fun z41553 => ?_)
            refine g_iconst (v := 1) C dX12_sumOf_90 (by decide) ?_
            refine s_iand C dX12_sumOf_91 (by show 0 ≤ 1; omega) (fun z41555 h41556 => ?_)
            have h41556 : 0 ≤ z41555.toInt ∧ z41555.toInt ≤ 1 := h41556
            refine g_iconst (v := 1) C dX12_sumOf_92 (by decide) ?_
            refine b_icmp_ne C 141 dX12_sumOf_93 (by decide) (fun h41557 => ?_) (fun h41557 => ?_)
            · have h41557 : z41555.toInt ≠ 1 := ti_ne h41557
              refine g_lv (lv' := [(0, .ref a0), (1, .int a1), (2, .int a2), (3, .int v68_3), (4, .int v54_4)]) [0, 1, 2, 3, 4] rfl ?_
              exact J141 v68_3 (by omega) (fun b9 e9 => by rw [e41534] at e9; cases e9; omega)
            · have h41557 : z41555.toInt = 1 := congrArg Int32.toInt h41557
              refine g_iload_n C dX12_sumOf_96 rfl 3 rfl ?_
              refine g_aload_n C dX12_sumOf_97 rfl 0 rfl ?_
              obtain ⟨b41558, e41559, h41560⟩ := I.fld (ha0) 16 13 12 rfl
              refine g_getR C fi_X12_63 rfl e41559 (ha0).1 (ha0).2 dX12_sumOf_98 ?_
              refine g_iconst (v := 4) C dX12_sumOf_101 (by decide) ?_
              refine g_iload_n C dX12_sumOf_102 rfl 1 rfl ?_
              refine s_imul C dX12_sumOf_103 (by show -2147483648 ≤ 4 * a1.toInt ∧ 4 * a1.toInt ≤ 2147483647; omega) (fun z41561 h41562 => ?_)
              have h41562 : z41561.toInt = 4 * a1.toInt := h41562
              refine g_iload C dX12_sumOf_104 4 rfl ?_
              refine s_iadd C dX12_sumOf_106 (by show -2147483648 ≤ z41561.toInt + v54_4.toInt ∧ z41561.toInt + v54_4.toInt ≤ 2147483647; omega) (fun z41563 h41564 => ?_)
              have h41564 : z41563.toInt = z41561.toInt + v54_4.toInt := h41564
              refine g_iald (j := (z41563.toInt.toNat)) C h41560.1 h41560.2.1 (ix_in h41560.2.2 (by omega)) dX12_sumOf_107 ?_
              refine g_iload C dX12_sumOf_108 5 rfl ?_
              refine a_ishr C dX12_sumOf_110 (fun z41565 => ?_)
              refine g_iconst (v := 1) C dX12_sumOf_111 (by decide) ?_
              refine s_iand C dX12_sumOf_112 (by show 0 ≤ 1; omega) (fun z41567 h41568 => ?_)
              have h41568 : 0 ≤ z41567.toInt ∧ z41567.toInt ≤ 1 := h41568
              refine g_iconst (v := 1) C dX12_sumOf_113 (by decide) ?_
              refine b_icmp_ne C 132 dX12_sumOf_114 (by decide) (fun h41569 => ?_) (fun h41569 => ?_)
              · have h41569 : z41567.toInt ≠ 1 := ti_ne h41569
                refine g_iconst (v := 0) C dX12_sumOf_132 (by decide) ?_
                refine g_lv (lv' := [(0, .ref a0), (1, .int a1), (2, .int a2), (4, .int v54_4), (5, .int v68_5)]) [0, 1, 2, 4, 5] rfl ?_
                exact J133 0 (by omega) (by omega) (fun b9 e9 => by rw [e41547] at e9; cases e9; omega) (fun b9 e9 => by rw [e41534] at e9; cases e9; omega)
              · have h41569 : z41567.toInt = 1 := congrArg Int32.toInt h41569
                refine g_aload_n C dX12_sumOf_117 rfl 0 rfl ?_
                obtain ⟨b41570, e41571, h41572⟩ := I.fld (ha0) 11 13 32 rfl
                refine g_getR C fi_X12_48 rfl e41571 (ha0).1 (ha0).2 dX12_sumOf_118 ?_
                refine g_bipush (v := 16) C dX12_sumOf_121 (by decide) ?_
                refine g_iload_n C dX12_sumOf_123 rfl 1 rfl ?_
                refine s_imul C dX12_sumOf_124 (by show -2147483648 ≤ 16 * a1.toInt ∧ 16 * a1.toInt ≤ 2147483647; omega) (fun z41573 h41574 => ?_)
                have h41574 : z41573.toInt = 16 * a1.toInt := h41574
                refine g_iload C dX12_sumOf_125 5 rfl ?_
                refine s_iadd C dX12_sumOf_127 (by show -2147483648 ≤ z41573.toInt + v68_5.toInt ∧ z41573.toInt + v68_5.toInt ≤ 2147483647; omega) (fun z41575 h41576 => ?_)
                have h41576 : z41575.toInt = z41573.toInt + v68_5.toInt := h41576
                refine g_iald (j := (z41575.toInt.toNat)) C h41572.1 h41572.2.1 (ix_in h41572.2.2 (by omega)) dX12_sumOf_128 ?_
                refine g_goto C 133 dX12_sumOf_129 (by decide) ?_
                refine g_lv (lv' := [(0, .ref a0), (1, .int a1), (2, .int a2), (4, .int v54_4), (5, .int v68_5)]) [0, 1, 2, 4, 5] rfl ?_
                exact J133 (pI P b41570 (z41575.toInt.toNat)) (by omega) (by omega) (fun b9 e9 => by rw [e41547] at e9; cases e9; omega) (fun b9 e9 => by rw [e41534] at e9; cases e9; omega)
      refine g_iload C dX12_sumOf_54 4 rfl ?_
      refine g_aload_n C dX12_sumOf_56 rfl 0 rfl ?_
      obtain ⟨b41577, e41578, h41579⟩ := I.fld (ha0) 15 13 3 rfl
      refine g_getR C fi_X12_60 rfl e41578 (ha0).1 (ha0).2 dX12_sumOf_57 ?_
      refine g_iload_n C dX12_sumOf_60 rfl 1 rfl ?_
      refine g_iald (j := (a1.toInt.toNat)) C h41579.1 h41579.2.1 (ix_in h41579.2.2 (by omega)) dX12_sumOf_61 ?_
      have h41580 := I.arr e41578 rfl (a1.toInt.toNat)
      refine b_icmp_ge C 147 dX12_sumOf_62 (by decide) (fun h41581 => ?_) (fun h41581 => ?_)
      · have h41581 : (pI P b41577 (a1.toInt.toNat)).toInt ≤ v54_4.toInt := h41581
        refine g_iload_n C dX12_sumOf_147 rfl 3 rfl ?_
        exact ret _ _ _ _ _ _ dX12_sumOf_148 rfl (by decide) (by decide) ⟨rfl, trivial⟩
      · have h41581 : v54_4.toInt < (pI P b41577 (a1.toInt.toNat)).toInt := h41581
        refine g_iconst (v := 0) C dX12_sumOf_65 (by decide) ?_
        refine g_istore (lv' := [(5, .int 0), (0, .ref a0), (1, .int a1), (2, .int a2), (3, .int v54_3), (4, .int v54_4)]) C dX12_sumOf_66 (by decide) rfl ?_
        refine g_lv (lv' := [(0, .ref a0), (1, .int a1), (2, .int a2), (3, .int v54_3), (4, .int v54_4), (5, .int 0)]) [1, 2, 3, 4, 5, 0] rfl ?_
        exact J68 _ v54_3 0 (Nat.lt_succ_self _) (by omega) (by decide) (fun b9 e9 => by rw [e41578] at e9; cases e9; omega)
  have J5 : ∀ (n5 : Nat) (v5_3 : Int32) (v5_4 : Int32), (16 - v5_4.toInt).toNat < n5 → (0 ≤ v5_4.toInt ∧ v5_4.toInt ≤ 16) → G E ({ frames := 1, cells := 0, slots := 0, locals := 64 } : Room) D cy 6 P 0 0 5 [(0, .ref a0), (1, .int a1), (2, .int a2), (3, .int v5_3), (4, .int v5_4)] [] := by
    intro n5
    induction n5 with
    | zero => intro v5_3 v5_4 hm5 hv5_4; omega
    | succ n5 ih5 =>
      intro v5_3 v5_4 hm5 hv5_4
      have J43 : ∀ (v43_s0 : Int32), (0 ≤ v5_4.toInt ∧ v5_4.toInt ≤ 15) → (∀ b, pR P a0 10 = some b → 1 ≤ (pI P b (a1.toInt.toNat)).toInt ∧ (pI P b (a1.toInt.toNat)).toInt ≤ 16) → G E ({ frames := 1, cells := 0, slots := 0, locals := 64 } : Room) D cy 6 P 0 0 43 [(0, .ref a0), (1, .int a1), (2, .int a2), (4, .int v5_4)] [.int v43_s0, .int v5_3] := by
        intro v43_s0 hv43_4 hq43_0
        obtain ⟨b41582, e41583, h41584⟩ := I.fld (ha0) 10 13 2 rfl
        have hq43_0 := hq43_0 b41582 e41583
        refine a_ixor C dX12_sumOf_43 (fun z41585 => ?_)
        refine g_istore_n (lv' := [(3, .int z41585), (0, .ref a0), (1, .int a1), (2, .int a2), (4, .int v5_4)]) C dX12_sumOf_44 rfl (by decide) rfl ?_
        refine s_iinc (lv0 := [(3, .int z41585), (0, .ref a0), (1, .int a1), (2, .int a2)]) (m := 1) C dX12_sumOf_45 4 rfl (by decide) rfl (by decide) (by omega) (fun z41587 h41588 => ?_)
        have h41588 : z41587.toInt = v5_4.toInt + 1 := h41588
        refine g_goto C 5 dX12_sumOf_48 (by decide) ?_
        refine g_lv (lv' := [(0, .ref a0), (1, .int a1), (2, .int a2), (3, .int z41585), (4, .int z41587)]) [2, 3, 4, 1, 0] rfl ?_
        exact ih5 z41585 z41587 (by omega) (by omega)
      refine g_iload C dX12_sumOf_5 4 rfl ?_
      refine g_aload_n C dX12_sumOf_7 rfl 0 rfl ?_
      obtain ⟨b41589, e41590, h41591⟩ := I.fld (ha0) 10 13 2 rfl
      refine g_getR C fi_X12_45 rfl e41590 (ha0).1 (ha0).2 dX12_sumOf_8 ?_
      refine g_iload_n C dX12_sumOf_11 rfl 1 rfl ?_
      refine g_iald (j := (a1.toInt.toNat)) C h41591.1 h41591.2.1 (ix_in h41591.2.2 (by omega)) dX12_sumOf_12 ?_
      have h41592 := I.arr e41590 rfl (a1.toInt.toNat)
      refine b_icmp_ge C 51 dX12_sumOf_13 (by decide) (fun h41593 => ?_) (fun h41593 => ?_)
      · have h41593 : (pI P b41589 (a1.toInt.toNat)).toInt ≤ v5_4.toInt := h41593
        refine g_iconst (v := 0) C dX12_sumOf_51 (by decide) ?_
        refine g_istore (lv' := [(4, .int 0), (0, .ref a0), (1, .int a1), (2, .int a2), (3, .int v5_3)]) C dX12_sumOf_52 (by decide) rfl ?_
        refine g_lv (lv' := [(0, .ref a0), (1, .int a1), (2, .int a2), (3, .int v5_3), (4, .int 0)]) [1, 2, 3, 4, 0] rfl ?_
        exact J54 _ v5_3 0 (Nat.lt_succ_self _) (by decide)
      · have h41593 : v5_4.toInt < (pI P b41589 (a1.toInt.toNat)).toInt := h41593
        refine g_iload_n C dX12_sumOf_16 rfl 3 rfl ?_
        refine g_iload_n C dX12_sumOf_17 rfl 2 rfl ?_
        refine g_iload C dX12_sumOf_18 4 rfl ?_
        refine a_ishr C dX12_sumOf_20 (fun z41594 => ?_)
        refine g_iconst (v := 1) C dX12_sumOf_21 (by decide) ?_
        refine s_iand C dX12_sumOf_22 (by show 0 ≤ 1; omega) (fun z41596 h41597 => ?_)
        have h41597 : 0 ≤ z41596.toInt ∧ z41596.toInt ≤ 1 := h41597
        refine g_iconst (v := 1) C dX12_sumOf_23 (by decide) ?_
        refine b_icmp_ne C 42 dX12_sumOf_24 (by decide) (fun h41598 => ?_) (fun h41598 => ?_)
        · have h41598 : z41596.toInt ≠ 1 := ti_ne h41598
          refine g_iconst (v := 0) C dX12_sumOf_42 (by decide) ?_
          refine g_lv (lv' := [(0, .ref a0), (1, .int a1), (2, .int a2), (4, .int v5_4)]) [0, 1, 2, 4] rfl ?_
          exact J43 0 (by omega) (fun b9 e9 => by rw [e41590] at e9; cases e9; omega)
        · have h41598 : z41596.toInt = 1 := congrArg Int32.toInt h41598
          refine g_aload_n C dX12_sumOf_27 rfl 0 rfl ?_
          obtain ⟨b41599, e41600, h41601⟩ := I.fld (ha0) 11 13 32 rfl
          refine g_getR C fi_X12_48 rfl e41600 (ha0).1 (ha0).2 dX12_sumOf_28 ?_
          refine g_bipush (v := 16) C dX12_sumOf_31 (by decide) ?_
          refine g_iload_n C dX12_sumOf_33 rfl 1 rfl ?_
          refine s_imul C dX12_sumOf_34 (by show -2147483648 ≤ 16 * a1.toInt ∧ 16 * a1.toInt ≤ 2147483647; omega) (fun z41602 h41603 => ?_)
          have h41603 : z41602.toInt = 16 * a1.toInt := h41603
          refine g_iload C dX12_sumOf_35 4 rfl ?_
          refine s_iadd C dX12_sumOf_37 (by show -2147483648 ≤ z41602.toInt + v5_4.toInt ∧ z41602.toInt + v5_4.toInt ≤ 2147483647; omega) (fun z41604 h41605 => ?_)
          have h41605 : z41604.toInt = z41602.toInt + v5_4.toInt := h41605
          refine g_iald (j := (z41604.toInt.toNat)) C h41601.1 h41601.2.1 (ix_in h41601.2.2 (by omega)) dX12_sumOf_38 ?_
          refine g_goto C 43 dX12_sumOf_39 (by decide) ?_
          refine g_lv (lv' := [(0, .ref a0), (1, .int a1), (2, .int a2), (4, .int v5_4)]) [0, 1, 2, 4] rfl ?_
          exact J43 (pI P b41599 (z41604.toInt.toNat)) (by omega) (fun b9 e9 => by rw [e41590] at e9; cases e9; omega)
  refine g_iconst (v := 0) C dX12_sumOf_0 (by decide) ?_
  refine g_istore_n (lv' := [(3, .int 0), (0, .ref a0), (1, .int a1), (2, .int a2)]) C dX12_sumOf_1 rfl (by decide) rfl ?_
  refine g_iconst (v := 0) C dX12_sumOf_2 (by decide) ?_
  refine g_istore (lv' := [(4, .int 0), (3, .int 0), (0, .ref a0), (1, .int a1), (2, .int a2)]) C dX12_sumOf_3 (by decide) rfl ?_
  refine g_lv (lv' := [(0, .ref a0), (1, .int a1), (2, .int a2), (3, .int 0), (4, .int 0)]) [2, 3, 4, 1, 0] rfl ?_
  exact J5 _ 0 0 (Nat.lt_succ_self _) (by decide)
theorem dX12_comes_61 : decode cX12_comes 61 = .ok (.istore 5, 2) := by decide +kernel
theorem dX12_comes_63 : decode cX12_comes 63 = .ok (.aload_n 0, 1) := by decide +kernel
theorem dX12_comes_64 : decode cX12_comes 64 = .ok (.iload_n 1, 1) := by decide +kernel
theorem dX12_comes_65 : decode cX12_comes 65 = .ok (.iload_n 2, 1) := by decide +kernel
theorem dX12_comes_66 : decode cX12_comes 66 = .ok (.iload_n 3, 1) := by decide +kernel
theorem dX12_comes_67 : decode cX12_comes 67 = .ok (.iload 5, 2) := by decide +kernel
theorem dX12_comes_69 : decode cX12_comes 69 = .ok (.iload 4, 2) := by decide +kernel
theorem dX12_comes_71 : decode cX12_comes 71 = .ok (.invokestatic 281, 3) := by decide +kernel
theorem dX12_cutTo_0 : decode cX12_cutTo 0 = .ok (.iload_n 0, 1) := by decide +kernel
theorem dX12_cutTo_1 : decode cX12_cutTo 1 = .ok (.iload_n 1, 1) := by decide +kernel
theorem dX12_cutTo_2 : decode cX12_cutTo 2 = .ok (.iconst 1, 1) := by decide +kernel
theorem dX12_cutTo_3 : decode cX12_cutTo 3 = .ok (.iand, 1) := by decide +kernel
theorem dX12_cutTo_4 : decode cX12_cutTo 4 = .ok (.iconst 1, 1) := by decide +kernel
theorem dX12_cutTo_5 : decode cX12_cutTo 5 = .ok (.if_icmp .ne 9, 3) := by decide +kernel
theorem dX12_cutTo_8 : decode cX12_cutTo 8 = .ok (.sipush 255, 3) := by decide +kernel
theorem dX12_cutTo_11 : decode cX12_cutTo 11 = .ok (.goto 4, 3) := by decide +kernel
theorem dX12_cutTo_14 : decode cX12_cutTo 14 = .ok (.iconst 0, 1) := by decide +kernel
theorem dX12_cutTo_15 : decode cX12_cutTo 15 = .ok (.iload_n 1, 1) := by decide +kernel
theorem dX12_cutTo_16 : decode cX12_cutTo 16 = .ok (.iconst 2, 1) := by decide +kernel
theorem dX12_cutTo_17 : decode cX12_cutTo 17 = .ok (.iand, 1) := by decide +kernel
theorem dX12_cutTo_18 : decode cX12_cutTo 18 = .ok (.iconst 2, 1) := by decide +kernel
theorem dX12_cutTo_19 : decode cX12_cutTo 19 = .ok (.if_icmp .ne 9, 3) := by decide +kernel
theorem dX12_cutTo_22 : decode cX12_cutTo 22 = .ok (.ldc_w 277, 3) := by decide +kernel
theorem dX12_cutTo_25 : decode cX12_cutTo 25 = .ok (.goto 4, 3) := by decide +kernel
theorem dX12_cutTo_28 : decode cX12_cutTo 28 = .ok (.iconst 0, 1) := by decide +kernel
theorem dX12_cutTo_29 : decode cX12_cutTo 29 = .ok (.iadd, 1) := by decide +kernel
theorem dX12_cutTo_30 : decode cX12_cutTo 30 = .ok (.iand, 1) := by decide +kernel
theorem dX12_cutTo_31 : decode cX12_cutTo 31 = .ok (.ireturn, 1) := by decide +kernel
set_option maxHeartbeats 4000000 in
set_option maxRecDepth 100000 in
theorem s_X12_cutTo {P : PP} {a0 : Int32} {a1 : Int32} (I : IV P) : CtrI yX12_cutTo cX12_cutTo 2 (some Jvm.ClassFile.FieldType.int) ({ frames := 1, cells := 0, slots := 0, locals := 64 } : Room) 0 0 P [.int a0, .int a1] (fun r P2 => P = P2 ∧ (0 ≤ r.toInt ∧ r.toInt ≤ 65535)) := by
  refine enI (lv := [(0, .int a0), (1, .int a1)]) (by decide) (Nat.le_of_ble_eq_true rfl) rfl (fun E D cy C Ci0 ret => ?_)
  have J29 : ∀ (v29_s0 : Int32) (v29_s1 : Int32), (0 ≤ v29_s0.toInt ∧ v29_s0.toInt ≤ 65280) → (0 ≤ v29_s1.toInt ∧ v29_s1.toInt ≤ 255) → G E ({ frames := 1, cells := 0, slots := 0, locals := 64 } : Room) D cy 2 P 0 0 29 [] [.int v29_s0, .int v29_s1, .int a0] := by
    intro v29_s0 v29_s1 hv29_s0 hv29_s1
    refine s_iadd C dX12_cutTo_29 (by show -2147483648 ≤ v29_s1.toInt + v29_s0.toInt ∧ v29_s1.toInt + v29_s0.toInt ≤ 2147483647; omega) (fun z41671 h41672 => ?_)
    have h41672 : z41671.toInt = v29_s1.toInt + v29_s0.toInt := h41672
    refine s_iand C dX12_cutTo_30 (by show 0 ≤ z41671.toInt; omega) (fun z41673 h41674 => ?_)
    have h41674 : 0 ≤ z41673.toInt ∧ z41673.toInt ≤ z41671.toInt := h41674
    exact ret _ _ _ _ _ _ dX12_cutTo_31 rfl (by decide) (by decide) ⟨rfl, (by omega)⟩
  have J15 : ∀ (v15_s0 : Int32), (0 ≤ v15_s0.toInt ∧ v15_s0.toInt ≤ 255) → G E ({ frames := 1, cells := 0, slots := 0, locals := 64 } : Room) D cy 2 P 0 0 15 [(1, .int a1)] [.int v15_s0, .int a0] := by
    intro v15_s0 hv15_s0
    refine g_iload_n C dX12_cutTo_15 rfl 0 rfl ?_
    refine g_iconst (v := 2) C dX12_cutTo_16 (by decide) ?_
    refine s_iand C dX12_cutTo_17 (by show 0 ≤ 2; omega) (fun z41675 h41676 => ?_)
    have h41676 : 0 ≤ z41675.toInt ∧ z41675.toInt ≤ 2 := h41676
    refine g_iconst (v := 2) C dX12_cutTo_18 (by decide) ?_
    refine b_icmp_ne C 28 dX12_cutTo_19 (by decide) (fun h41677 => ?_) (fun h41677 => ?_)
    · have h41677 : z41675.toInt ≠ 2 := ti_ne h41677
      refine g_iconst (v := 0) C dX12_cutTo_28 (by decide) ?_
      refine g_lv (lv' := []) [] rfl ?_
      exact J29 0 v15_s0 (by decide) (by omega)
    · have h41677 : z41675.toInt = 2 := congrArg Int32.toInt h41677
      refine g_ldcw (v := 65280) C kc_X12_277 dX12_cutTo_22 ?_
      refine g_goto C 29 dX12_cutTo_25 (by decide) ?_
      refine g_lv (lv' := []) [] rfl ?_
      exact J29 65280 v15_s0 (by decide) (by omega)
  refine g_iload_n C dX12_cutTo_0 rfl 0 rfl ?_
  refine g_iload_n C dX12_cutTo_1 rfl 1 rfl ?_
  refine g_iconst (v := 1) C dX12_cutTo_2 (by decide) ?_
  refine s_iand C dX12_cutTo_3 (by show 0 ≤ 1; omega) (fun z41678 h41679 => ?_)
  have h41679 : 0 ≤ z41678.toInt ∧ z41678.toInt ≤ 1 := h41679
  refine g_iconst (v := 1) C dX12_cutTo_4 (by decide) ?_
  refine b_icmp_ne C 14 dX12_cutTo_5 (by decide) (fun h41680 => ?_) (fun h41680 => ?_)
  · have h41680 : z41678.toInt ≠ 1 := ti_ne h41680
    refine g_iconst (v := 0) C dX12_cutTo_14 (by decide) ?_
    refine g_lv (lv' := [(1, .int a1)]) [1] rfl ?_
    exact J15 0 (by decide)
  · have h41680 : z41678.toInt = 1 := congrArg Int32.toInt h41680
    refine g_sipush (v := 255) C dX12_cutTo_8 (by decide) ?_
    refine g_goto C 15 dX12_cutTo_11 (by decide) ?_
    refine g_lv (lv' := [(1, .int a1)]) [1] rfl ?_
    exact J15 255 (by decide)
theorem dX12_comes_74 : decode cX12_comes 74 = .ok (.iload 4, 2) := by decide +kernel
theorem dX12_comes_76 : decode cX12_comes 76 = .ok (.aload_n 0, 1) := by decide +kernel
theorem dX12_comes_77 : decode cX12_comes 77 = .ok (.iload_n 2, 1) := by decide +kernel
theorem dX12_comes_78 : decode cX12_comes 78 = .ok (.iload_n 3, 1) := by decide +kernel
theorem dX12_comes_79 : decode cX12_comes 79 = .ok (.iload 5, 2) := by decide +kernel
theorem dX12_comes_81 : decode cX12_comes 81 = .ok (.invokevirtual 267, 3) := by decide +kernel
theorem dX12_sealOf_0 : decode cX12_sealOf 0 = .ok (.aload_n 0, 1) := by decide +kernel
theorem dX12_sealOf_1 : decode cX12_sealOf 1 = .ok (.getfield 66, 3) := by decide +kernel
theorem dX12_sealOf_4 : decode cX12_sealOf 4 = .ok (.iload_n 1, 1) := by decide +kernel
theorem dX12_sealOf_5 : decode cX12_sealOf 5 = .ok (.iaload, 1) := by decide +kernel
theorem dX12_sealOf_6 : decode cX12_sealOf 6 = .ok (.ifCond .ne 7, 3) := by decide +kernel
theorem dX12_sealOf_9 : decode cX12_sealOf 9 = .ok (.iconst 0, 1) := by decide +kernel
theorem dX12_sealOf_10 : decode cX12_sealOf 10 = .ok (.goto 22, 3) := by decide +kernel
theorem dX12_sealOf_13 : decode cX12_sealOf 13 = .ok (.iload_n 2, 1) := by decide +kernel
theorem dX12_sealOf_14 : decode cX12_sealOf 14 = .ok (.iconst 1, 1) := by decide +kernel
theorem dX12_sealOf_15 : decode cX12_sealOf 15 = .ok (.iadd, 1) := by decide +kernel
theorem dX12_sealOf_16 : decode cX12_sealOf 16 = .ok (.aload_n 0, 1) := by decide +kernel
theorem dX12_sealOf_17 : decode cX12_sealOf 17 = .ok (.getfield 66, 3) := by decide +kernel
theorem dX12_sealOf_20 : decode cX12_sealOf 20 = .ok (.iload_n 1, 1) := by decide +kernel
theorem dX12_sealOf_21 : decode cX12_sealOf 21 = .ok (.iaload, 1) := by decide +kernel
theorem dX12_sealOf_22 : decode cX12_sealOf 22 = .ok (.imul, 1) := by decide +kernel
theorem dX12_sealOf_23 : decode cX12_sealOf 23 = .ok (.bipush 31, 2) := by decide +kernel
theorem dX12_sealOf_25 : decode cX12_sealOf 25 = .ok (.iload_n 3, 1) := by decide +kernel
theorem dX12_sealOf_26 : decode cX12_sealOf 26 = .ok (.imul, 1) := by decide +kernel
theorem dX12_sealOf_27 : decode cX12_sealOf 27 = .ok (.iadd, 1) := by decide +kernel
theorem dX12_sealOf_28 : decode cX12_sealOf 28 = .ok (.sipush 997, 3) := by decide +kernel
theorem dX12_sealOf_31 : decode cX12_sealOf 31 = .ok (.irem, 1) := by decide +kernel
theorem dX12_sealOf_32 : decode cX12_sealOf 32 = .ok (.ireturn, 1) := by decide +kernel
set_option maxHeartbeats 4000000 in
set_option maxRecDepth 100000 in
theorem s_X12_sealOf {P : PP} {a0 : Nat} {a1 : Int32} {a2 : Int32} {a3 : Int32} (I : IM P a0) (ha1 : 0 ≤ a1.toInt ∧ a1.toInt ≤ 1) (hW : MW P a0) : CtrI yX12_sealOf cX12_sealOf 4 (some Jvm.ClassFile.FieldType.int) ({ frames := 1, cells := 0, slots := 0, locals := 64 } : Room) 0 0 P [.ref a0, .int a1, .int a2, .int a3] (fun r P2 => P = P2 ∧ (-996 ≤ r.toInt ∧ r.toInt ≤ 996)) := by
  refine enI (lv := [(0, .ref a0), (1, .int a1), (2, .int a2), (3, .int a3)]) (by decide) (Nat.le_of_ble_eq_true rfl) rfl (fun E D cy C Ci0 ret => ?_)
  have ha0 := I.2.1
  refine g_aload_n C dX12_sealOf_0 rfl 0 rfl ?_
  obtain ⟨b41754, e41755, h41756⟩ := I.fld (ha0) 17 13 3 rfl
  refine g_getR C fi_X12_66 rfl e41755 (ha0).1 (ha0).2 dX12_sealOf_1 ?_
  refine g_iload_n C dX12_sealOf_4 rfl 1 rfl ?_
  refine g_iald (j := (a1.toInt.toNat)) C h41756.1 h41756.2.1 (ix_in h41756.2.2 (by omega)) dX12_sealOf_5 ?_
  have u41758 := ti_rng (pI P b41754 (a1.toInt.toNat))
  refine b_if_ne C 13 dX12_sealOf_6 (by decide) (fun h41757 => ?_) (fun h41757 => ?_)
  · have h41757 : (pI P b41754 (a1.toInt.toNat)).toInt ≠ 0 := ti_ne h41757
    refine g_iload_n C dX12_sealOf_13 rfl 2 rfl ?_
    refine g_iconst (v := 1) C dX12_sealOf_14 (by decide) ?_
    refine a_iadd C dX12_sealOf_15 (fun z41759 => ?_)
    refine g_aload_n C dX12_sealOf_16 rfl 0 rfl ?_
    refine g_getR C fi_X12_66 rfl e41755 (ha0).1 (ha0).2 dX12_sealOf_17 ?_
    refine g_iload_n C dX12_sealOf_20 rfl 1 rfl ?_
    refine g_iald (j := (a1.toInt.toNat)) C h41756.1 h41756.2.1 (ix_in h41756.2.2 (by omega)) dX12_sealOf_21 ?_
    refine a_imul C dX12_sealOf_22 (fun z41761 => ?_)
    refine g_bipush (v := 31) C dX12_sealOf_23 (by decide) ?_
    refine g_iload_n C dX12_sealOf_25 rfl 3 rfl ?_
    refine a_imul C dX12_sealOf_26 (fun z41763 => ?_)
    refine a_iadd C dX12_sealOf_27 (fun z41765 => ?_)
    refine g_sipush (v := 997) C dX12_sealOf_28 (by decide) ?_
    refine s_irem C dX12_sealOf_31 (by show 0 < 997; omega) (fun z41767 h41768 => ?_)
    have h41768 : -997 < z41767.toInt ∧ z41767.toInt < 997 := h41768
    exact ret _ _ _ _ _ _ dX12_sealOf_32 rfl (by decide) (by decide) ⟨rfl, (by omega)⟩
  · have h41757 : (pI P b41754 (a1.toInt.toNat)).toInt = 0 := congrArg Int32.toInt h41757
    refine g_iconst (v := 0) C dX12_sealOf_9 (by decide) ?_
    refine g_goto C 32 dX12_sealOf_10 (by decide) ?_
    exact ret _ _ _ _ _ _ dX12_sealOf_32 rfl (by decide) (by decide) ⟨rfl, (by decide)⟩
theorem dX12_comes_84 : decode cX12_comes 84 = .ok (.invokevirtual 284, 3) := by decide +kernel
theorem dX12_lays_0 : decode cX12_lays 0 = .ok (.bipush 40, 2) := by decide +kernel
theorem dX12_lays_2 : decode cX12_lays 2 = .ok (.iload_n 1, 1) := by decide +kernel
theorem dX12_lays_3 : decode cX12_lays 3 = .ok (.imul, 1) := by decide +kernel
theorem dX12_lays_4 : decode cX12_lays 4 = .ok (.aload_n 0, 1) := by decide +kernel
theorem dX12_lays_5 : decode cX12_lays 5 = .ok (.getfield 69, 3) := by decide +kernel
theorem dX12_lays_8 : decode cX12_lays 8 = .ok (.iload_n 1, 1) := by decide +kernel
theorem dX12_lays_9 : decode cX12_lays 9 = .ok (.iaload, 1) := by decide +kernel
theorem dX12_lays_10 : decode cX12_lays 10 = .ok (.iadd, 1) := by decide +kernel
theorem dX12_lays_11 : decode cX12_lays 11 = .ok (.istore 7, 2) := by decide +kernel
theorem dX12_lays_13 : decode cX12_lays 13 = .ok (.aload_n 0, 1) := by decide +kernel
theorem dX12_lays_14 : decode cX12_lays 14 = .ok (.getfield 72, 3) := by decide +kernel
theorem dX12_lays_17 : decode cX12_lays 17 = .ok (.iload 7, 2) := by decide +kernel
theorem dX12_lays_19 : decode cX12_lays 19 = .ok (.iload_n 3, 1) := by decide +kernel
theorem dX12_lays_20 : decode cX12_lays 20 = .ok (.iastore, 1) := by decide +kernel
theorem dX12_lays_21 : decode cX12_lays 21 = .ok (.aload_n 0, 1) := by decide +kernel
theorem dX12_lays_22 : decode cX12_lays 22 = .ok (.getfield 75, 3) := by decide +kernel
theorem dX12_lays_25 : decode cX12_lays 25 = .ok (.iload 7, 2) := by decide +kernel
theorem dX12_lays_27 : decode cX12_lays 27 = .ok (.iload_n 2, 1) := by decide +kernel
theorem dX12_lays_28 : decode cX12_lays 28 = .ok (.iastore, 1) := by decide +kernel
theorem dX12_lays_29 : decode cX12_lays 29 = .ok (.aload_n 0, 1) := by decide +kernel
theorem dX12_lays_30 : decode cX12_lays 30 = .ok (.getfield 78, 3) := by decide +kernel
theorem dX12_lays_33 : decode cX12_lays 33 = .ok (.iload 7, 2) := by decide +kernel
theorem dX12_lays_35 : decode cX12_lays 35 = .ok (.iload 4, 2) := by decide +kernel
theorem dX12_lays_37 : decode cX12_lays 37 = .ok (.iastore, 1) := by decide +kernel
theorem dX12_lays_38 : decode cX12_lays 38 = .ok (.aload_n 0, 1) := by decide +kernel
theorem dX12_lays_39 : decode cX12_lays 39 = .ok (.getfield 81, 3) := by decide +kernel
theorem dX12_lays_42 : decode cX12_lays 42 = .ok (.iload 7, 2) := by decide +kernel
theorem dX12_lays_44 : decode cX12_lays 44 = .ok (.iload 5, 2) := by decide +kernel
theorem dX12_lays_46 : decode cX12_lays 46 = .ok (.iastore, 1) := by decide +kernel
theorem dX12_lays_47 : decode cX12_lays 47 = .ok (.aload_n 0, 1) := by decide +kernel
theorem dX12_lays_48 : decode cX12_lays 48 = .ok (.getfield 84, 3) := by decide +kernel
theorem dX12_lays_51 : decode cX12_lays 51 = .ok (.iload 7, 2) := by decide +kernel
theorem dX12_lays_53 : decode cX12_lays 53 = .ok (.iload 6, 2) := by decide +kernel
theorem dX12_lays_55 : decode cX12_lays 55 = .ok (.iastore, 1) := by decide +kernel
theorem dX12_lays_56 : decode cX12_lays 56 = .ok (.aload_n 0, 1) := by decide +kernel
theorem dX12_lays_57 : decode cX12_lays 57 = .ok (.getfield 69, 3) := by decide +kernel
theorem dX12_lays_60 : decode cX12_lays 60 = .ok (.iload_n 1, 1) := by decide +kernel
theorem dX12_lays_61 : decode cX12_lays 61 = .ok (.dup2, 1) := by decide +kernel
theorem dX12_lays_62 : decode cX12_lays 62 = .ok (.iaload, 1) := by decide +kernel
theorem dX12_lays_63 : decode cX12_lays 63 = .ok (.iconst 1, 1) := by decide +kernel
theorem dX12_lays_64 : decode cX12_lays 64 = .ok (.iadd, 1) := by decide +kernel
theorem dX12_lays_65 : decode cX12_lays 65 = .ok (.iastore, 1) := by decide +kernel
theorem dX12_lays_66 : decode cX12_lays 66 = .ok (.aload_n 0, 1) := by decide +kernel
theorem dX12_lays_67 : decode cX12_lays 67 = .ok (.getfield 69, 3) := by decide +kernel
theorem dX12_lays_70 : decode cX12_lays 70 = .ok (.iload_n 1, 1) := by decide +kernel
theorem dX12_lays_71 : decode cX12_lays 71 = .ok (.iaload, 1) := by decide +kernel
theorem dX12_lays_72 : decode cX12_lays 72 = .ok (.iconst 1, 1) := by decide +kernel
theorem dX12_lays_73 : decode cX12_lays 73 = .ok (.isub, 1) := by decide +kernel
theorem dX12_lays_74 : decode cX12_lays 74 = .ok (.ireturn, 1) := by decide +kernel
set_option maxHeartbeats 4000000 in
set_option maxRecDepth 100000 in
theorem s_X12_lays {P : PP} {a0 : Nat} {a1 : Int32} {a2 : Int32} {a3 : Int32} {a4 : Int32} {a5 : Int32} {a6 : Int32} (I : IM P a0) (ha1 : 0 ≤ a1.toInt ∧ a1.toInt ≤ 3) (ha2 : -1 ≤ a2.toInt ∧ a2.toInt ≤ 1) (hf0 : ∀ b, pR P a0 20 = some b → 0 ≤ (pI P b (a1.toInt.toNat)).toInt ∧ (pI P b (a1.toInt.toNat)).toInt ≤ 39) (hW : MW P a0) (hl : ∀ c, pR P a0 10 = some c → 0 ≤ a2.toInt → 0 < (pI P c (a2.toInt.toNat)).toInt) : CtrI yX12_lays cX12_lays 8 (some Jvm.ClassFile.FieldType.int) ({ frames := 1, cells := 0, slots := 0, locals := 64 } : Room) 0 0 P [.ref a0, .int a1, .int a2, .int a3, .int a4, .int a5, .int a6] (fun r P2 => IM P2 a0 ∧ EM [20, 21, 22, 23, 24, 25] a0 P P2 ∧ MW P2 a0 ∧ (∀ b, pR P a0 20 = some b → (pI P2 b (a1.toInt.toNat)).toInt = (pI P b (a1.toInt.toNat)).toInt + 1) ∧ (0 ≤ r.toInt ∧ r.toInt ≤ 39)) := by
  refine enI (lv := [(0, .ref a0), (1, .int a1), (2, .int a2), (3, .int a3), (4, .int a4), (5, .int a5), (6, .int a6)]) (by decide) (Nat.le_of_ble_eq_true rfl) rfl (fun E D cy C Ci0 ret => ?_)
  have ha0 := I.2.1
  obtain ⟨b41970, e41971, h41972⟩ := I.fld (ha0) 20 13 20 rfl
  have hf0 := hf0 b41970 e41971
  refine g_bipush (v := 40) C dX12_lays_0 (by decide) ?_
  refine g_iload_n C dX12_lays_2 rfl 1 rfl ?_
  refine s_imul C dX12_lays_3 (by show -2147483648 ≤ 40 * a1.toInt ∧ 40 * a1.toInt ≤ 2147483647; omega) (fun z41973 h41974 => ?_)
  have h41974 : z41973.toInt = 40 * a1.toInt := h41974
  refine g_aload_n C dX12_lays_4 rfl 0 rfl ?_
  refine g_getR C fi_X12_69 rfl e41971 (ha0).1 (ha0).2 dX12_lays_5 ?_
  refine g_iload_n C dX12_lays_8 rfl 1 rfl ?_
  refine g_iald (j := (a1.toInt.toNat)) C h41972.1 h41972.2.1 (ix_in h41972.2.2 (by omega)) dX12_lays_9 ?_
  refine s_iadd C dX12_lays_10 (by show -2147483648 ≤ z41973.toInt + (pI P b41970 (a1.toInt.toNat)).toInt ∧ z41973.toInt + (pI P b41970 (a1.toInt.toNat)).toInt ≤ 2147483647; omega) (fun z41975 h41976 => ?_)
  have h41976 : z41975.toInt = z41973.toInt + (pI P b41970 (a1.toInt.toNat)).toInt := h41976
  refine g_istore (lv' := [(7, .int z41975), (0, .ref a0), (1, .int a1), (2, .int a2), (3, .int a3), (4, .int a4), (5, .int a5), (6, .int a6)]) C dX12_lays_11 (by decide) rfl ?_
  refine g_aload_n C dX12_lays_13 rfl 1 rfl ?_
  obtain ⟨b41977, e41978, h41979⟩ := I.fld (ha0) 21 13 800 rfl
  refine g_getR C fi_X12_72 rfl e41978 (ha0).1 (ha0).2 dX12_lays_14 ?_
  refine g_iload C dX12_lays_17 0 rfl ?_
  refine g_iload_n C dX12_lays_19 rfl 4 rfl ?_
  refine g_iast (j := (z41975.toInt.toNat)) C h41979.1 h41979.2.1 (ix_in h41979.2.2 (by omega)) dX12_lays_20 ?_
  refine gqW (ks := [21]) (I.setA e41978 h41979 (by decide) (arOk.none rfl)) (EM.setA I e41978 rfl (by decide)) (fun Y41980 Iy41981 Xy41982 w41983  => ?_)
  have w41983 : (pI Y41980 b41977 (z41975.toInt.toNat)).toInt = a3.toInt := w41983
  have q41984 := Xy41982.keepA e41971 (by decide) rfl (a1.toInt.toNat)
  have W41985 := hW.keep I Xy41982 (by decide) (by decide) (by decide)
  have Xz41986 : EM [20, 21, 22, 23, 24, 25] a0 P Y41980 := Xy41982.mono (by decide)
  have e41987 := Xy41982.ref ha0 (by decide) e41971
  have e41988 := Xy41982.ref ha0 (by decide) e41978
  have h41989 := Xy41982.at ha0
  have h41990 := Xy41982.ar h41972
  have h41991 := Xy41982.ar h41979
  refine g_aload_n C dX12_lays_21 rfl 1 rfl ?_
  obtain ⟨b41992, e41993, h41994⟩ := Iy41981.fld (h41989) 22 13 800 rfl
  refine g_getR C fi_X12_75 rfl e41993 (h41989).1 (h41989).2 dX12_lays_22 ?_
  refine g_iload C dX12_lays_25 0 rfl ?_
  refine g_iload_n C dX12_lays_27 rfl 3 rfl ?_
  refine g_iast (j := (z41975.toInt.toNat)) C h41994.1 h41994.2.1 (ix_in h41994.2.2 (by omega)) dX12_lays_28 ?_
  refine gqX (ks := [22]) (W := (fun P => MW P a0)) (Iy41981.setA e41993 h41994 (by decide) (arOk.of rfl (by omega))) (EM.setA Iy41981 e41993 rfl (by decide)) (W41985.set22 Iy41981 e41993 (fun c9 f9 h9 => by have f8 := EM.refB Xz41986 ha0 f9; have q9 := Xz41986.keepA f8 (by decide) rfl (a2.toInt.toNat); have h8 := hl c9 f8 h9; omega)) (fun Y41995 Iy41996 Xy41997 w41998 W41999 => ?_)
  have w41998 : (pI Y41995 b41992 (z41975.toInt.toNat)).toInt = a2.toInt := w41998
  have q42000 := Xy41997.keepA e41987 (by decide) rfl (a1.toInt.toNat)
  have q42001 := Xy41997.keepA e41988 (by decide) rfl (z41975.toInt.toNat)
  have Xz42002 : EM [20, 21, 22, 23, 24, 25] a0 P Y41995 := EM.tr ha0 Xz41986 (Xy41997.mono (by decide))
  have e42003 := Xy41997.ref h41989 (by decide) e41987
  have e42004 := Xy41997.ref h41989 (by decide) e41988
  have e42005 := Xy41997.ref h41989 (by decide) e41993
  have h42006 := Xy41997.at h41989
  have h42007 := Xy41997.ar h41990
  have h42008 := Xy41997.ar h41991
  have h42009 := Xy41997.ar h41994
  refine g_aload_n C dX12_lays_29 rfl 1 rfl ?_
  obtain ⟨b42010, e42011, h42012⟩ := Iy41996.fld (h42006) 23 13 800 rfl
  refine g_getR C fi_X12_78 rfl e42011 (h42006).1 (h42006).2 dX12_lays_30 ?_
  refine g_iload C dX12_lays_33 0 rfl ?_
  refine g_iload C dX12_lays_35 5 rfl ?_
  refine g_iast (j := (z41975.toInt.toNat)) C h42012.1 h42012.2.1 (ix_in h42012.2.2 (by omega)) dX12_lays_37 ?_
  refine gqW (ks := [23]) (Iy41996.setA e42011 h42012 (by decide) (arOk.none rfl)) (EM.setA Iy41996 e42011 rfl (by decide)) (fun Y42013 Iy42014 Xy42015 w42016  => ?_)
  have w42016 : (pI Y42013 b42010 (z41975.toInt.toNat)).toInt = a4.toInt := w42016
  have q42017 := Xy42015.keepA e42003 (by decide) rfl (a1.toInt.toNat)
  have q42018 := Xy42015.keepA e42004 (by decide) rfl (z41975.toInt.toNat)
  have q42019 := Xy42015.keepA e42005 (by decide) rfl (z41975.toInt.toNat)
  have W42020 := W41999.keep Iy41996 Xy42015 (by decide) (by decide) (by decide)
  have Xz42021 : EM [20, 21, 22, 23, 24, 25] a0 P Y42013 := EM.tr ha0 Xz42002 (Xy42015.mono (by decide))
  have e42022 := Xy42015.ref h42006 (by decide) e42003
  have e42023 := Xy42015.ref h42006 (by decide) e42004
  have e42024 := Xy42015.ref h42006 (by decide) e42005
  have e42025 := Xy42015.ref h42006 (by decide) e42011
  have h42026 := Xy42015.at h42006
  have h42027 := Xy42015.ar h42007
  have h42028 := Xy42015.ar h42008
  have h42029 := Xy42015.ar h42009
  have h42030 := Xy42015.ar h42012
  refine g_aload_n C dX12_lays_38 rfl 1 rfl ?_
  obtain ⟨b42031, e42032, h42033⟩ := Iy42014.fld (h42026) 24 13 800 rfl
  refine g_getR C fi_X12_81 rfl e42032 (h42026).1 (h42026).2 dX12_lays_39 ?_
  refine g_iload C dX12_lays_42 0 rfl ?_
  refine g_iload C dX12_lays_44 6 rfl ?_
  refine g_iast (j := (z41975.toInt.toNat)) C h42033.1 h42033.2.1 (ix_in h42033.2.2 (by omega)) dX12_lays_46 ?_
  refine gqW (ks := [24]) (Iy42014.setA e42032 h42033 (by decide) (arOk.none rfl)) (EM.setA Iy42014 e42032 rfl (by decide)) (fun Y42034 Iy42035 Xy42036 w42037  => ?_)
  have w42037 : (pI Y42034 b42031 (z41975.toInt.toNat)).toInt = a5.toInt := w42037
  have q42038 := Xy42036.keepA e42022 (by decide) rfl (a1.toInt.toNat)
  have q42039 := Xy42036.keepA e42023 (by decide) rfl (z41975.toInt.toNat)
  have q42040 := Xy42036.keepA e42024 (by decide) rfl (z41975.toInt.toNat)
  have q42041 := Xy42036.keepA e42025 (by decide) rfl (z41975.toInt.toNat)
  have W42042 := W42020.keep Iy42014 Xy42036 (by decide) (by decide) (by decide)
  have Xz42043 : EM [20, 21, 22, 23, 24, 25] a0 P Y42034 := EM.tr ha0 Xz42021 (Xy42036.mono (by decide))
  have e42044 := Xy42036.ref h42026 (by decide) e42022
  have e42045 := Xy42036.ref h42026 (by decide) e42023
  have e42046 := Xy42036.ref h42026 (by decide) e42024
  have e42047 := Xy42036.ref h42026 (by decide) e42025
  have e42048 := Xy42036.ref h42026 (by decide) e42032
  have h42049 := Xy42036.at h42026
  have h42050 := Xy42036.ar h42027
  have h42051 := Xy42036.ar h42028
  have h42052 := Xy42036.ar h42029
  have h42053 := Xy42036.ar h42030
  have h42054 := Xy42036.ar h42033
  refine g_aload_n C dX12_lays_47 rfl 1 rfl ?_
  obtain ⟨b42055, e42056, h42057⟩ := Iy42035.fld (h42049) 25 13 800 rfl
  refine g_getR C fi_X12_84 rfl e42056 (h42049).1 (h42049).2 dX12_lays_48 ?_
  refine g_iload C dX12_lays_51 0 rfl ?_
  refine g_iload C dX12_lays_53 7 rfl ?_
  refine g_iast (j := (z41975.toInt.toNat)) C h42057.1 h42057.2.1 (ix_in h42057.2.2 (by omega)) dX12_lays_55 ?_
  refine gqW (ks := [25]) (Iy42035.setA e42056 h42057 (by decide) (arOk.none rfl)) (EM.setA Iy42035 e42056 rfl (by decide)) (fun Y42058 Iy42059 Xy42060 w42061  => ?_)
  have w42061 : (pI Y42058 b42055 (z41975.toInt.toNat)).toInt = a6.toInt := w42061
  have q42062 := Xy42060.keepA e42044 (by decide) rfl (a1.toInt.toNat)
  have q42063 := Xy42060.keepA e42045 (by decide) rfl (z41975.toInt.toNat)
  have q42064 := Xy42060.keepA e42046 (by decide) rfl (z41975.toInt.toNat)
  have q42065 := Xy42060.keepA e42047 (by decide) rfl (z41975.toInt.toNat)
  have q42066 := Xy42060.keepA e42048 (by decide) rfl (z41975.toInt.toNat)
  have W42067 := W42042.keep Iy42035 Xy42060 (by decide) (by decide) (by decide)
  have Xz42068 : EM [20, 21, 22, 23, 24, 25] a0 P Y42058 := EM.tr ha0 Xz42043 (Xy42060.mono (by decide))
  have e42069 := Xy42060.ref h42049 (by decide) e42044
  have e42070 := Xy42060.ref h42049 (by decide) e42045
  have e42071 := Xy42060.ref h42049 (by decide) e42046
  have e42072 := Xy42060.ref h42049 (by decide) e42047
  have e42073 := Xy42060.ref h42049 (by decide) e42048
  have e42074 := Xy42060.ref h42049 (by decide) e42056
  have h42075 := Xy42060.at h42049
  have h42076 := Xy42060.ar h42050
  have h42077 := Xy42060.ar h42051
  have h42078 := Xy42060.ar h42052
  have h42079 := Xy42060.ar h42053
  have h42080 := Xy42060.ar h42054
  have h42081 := Xy42060.ar h42057
  refine g_aload_n C dX12_lays_56 rfl 1 rfl ?_
  refine g_getR C fi_X12_69 rfl e42069 (h42075).1 (h42075).2 dX12_lays_57 ?_
  refine g_iload_n C dX12_lays_60 rfl 2 rfl ?_
  refine g_dup2_11 C dX12_lays_61 rfl rfl ?_
  refine g_iald (j := (a1.toInt.toNat)) C h42076.1 h42076.2.1 (ix_in h42076.2.2 (by omega)) dX12_lays_62 ?_
  refine g_iconst (v := 1) C dX12_lays_63 (by decide) ?_
  refine s_iadd C dX12_lays_64 (by show -2147483648 ≤ (pI Y42058 b41970 (a1.toInt.toNat)).toInt + 1 ∧ (pI Y42058 b41970 (a1.toInt.toNat)).toInt + 1 ≤ 2147483647; omega) (fun z42082 h42083 => ?_)
  have h42083 : z42082.toInt = (pI Y42058 b41970 (a1.toInt.toNat)).toInt + 1 := h42083
  refine g_iast (j := (a1.toInt.toNat)) C h42076.1 h42076.2.1 (ix_in h42076.2.2 (by omega)) dX12_lays_65 ?_
  refine gqW (ks := [20]) (Iy42059.setA e42069 h42076 (by decide) (arOk.of rfl (by omega))) (EM.setA Iy42059 e42069 rfl (by decide)) (fun Y42084 Iy42085 Xy42086 w42087  => ?_)
  have w42087 : (pI Y42084 b41970 (a1.toInt.toNat)).toInt = z42082.toInt := w42087
  have q42088 := Xy42086.keepA e42070 (by decide) rfl (z41975.toInt.toNat)
  have q42089 := Xy42086.keepA e42071 (by decide) rfl (z41975.toInt.toNat)
  have q42090 := Xy42086.keepA e42072 (by decide) rfl (z41975.toInt.toNat)
  have q42091 := Xy42086.keepA e42073 (by decide) rfl (z41975.toInt.toNat)
  have q42092 := Xy42086.keepA e42074 (by decide) rfl (z41975.toInt.toNat)
  have W42093 := W42067.keep Iy42059 Xy42086 (by decide) (by decide) (by decide)
  have Xz42094 : EM [20, 21, 22, 23, 24, 25] a0 P Y42084 := EM.tr ha0 Xz42068 (Xy42086.mono (by decide))
  have e42095 := Xy42086.ref h42075 (by decide) e42069
  have e42096 := Xy42086.ref h42075 (by decide) e42070
  have e42097 := Xy42086.ref h42075 (by decide) e42071
  have e42098 := Xy42086.ref h42075 (by decide) e42072
  have e42099 := Xy42086.ref h42075 (by decide) e42073
  have e42100 := Xy42086.ref h42075 (by decide) e42074
  have h42101 := Xy42086.at h42075
  have h42102 := Xy42086.ar h42076
  have h42103 := Xy42086.ar h42077
  have h42104 := Xy42086.ar h42078
  have h42105 := Xy42086.ar h42079
  have h42106 := Xy42086.ar h42080
  have h42107 := Xy42086.ar h42081
  refine g_aload_n C dX12_lays_66 rfl 1 rfl ?_
  refine g_getR C fi_X12_69 rfl e42095 (h42101).1 (h42101).2 dX12_lays_67 ?_
  refine g_iload_n C dX12_lays_70 rfl 2 rfl ?_
  refine g_iald (j := (a1.toInt.toNat)) C h42102.1 h42102.2.1 (ix_in h42102.2.2 (by omega)) dX12_lays_71 ?_
  refine g_iconst (v := 1) C dX12_lays_72 (by decide) ?_
  refine s_isub C dX12_lays_73 (by show -2147483648 ≤ (pI Y42084 b41970 (a1.toInt.toNat)).toInt - 1 ∧ (pI Y42084 b41970 (a1.toInt.toNat)).toInt - 1 ≤ 2147483647; omega) (fun z42108 h42109 => ?_)
  have h42109 : z42108.toInt = (pI Y42084 b41970 (a1.toInt.toNat)).toInt - 1 := h42109
  exact ret _ _ _ _ _ _ dX12_lays_74 rfl (by decide) (by decide) ⟨Iy42085, Xz42094, W42093, (fun b9 e9 => by have e8 := EM.ref Xz42094 ha0 (by decide) e9; rw [e42095] at e8; cases e8; show (pI Y42084 b41970 (a1.toInt.toNat)).toInt = (pI P b41970 (a1.toInt.toNat)).toInt + 1; omega), (by omega)⟩
theorem dX12_comes_48 : decode cX12_comes 48 = .ok (.iconst (-1), 1) := by decide +kernel
theorem dX12_comes_49 : decode cX12_comes 49 = .ok (.ireturn, 1) := by decide +kernel
theorem dX12_comes_87 : decode cX12_comes 87 = .ok (.ireturn, 1) := by decide +kernel
set_option maxHeartbeats 4000000 in
set_option maxRecDepth 100000 in
theorem s_X12_comes {P : PP} {a0 : Nat} {a1 : Int32} {a2 : Int32} {a3 : Int32} {a4 : Int32} (I : IM P a0) (hW : MW P a0) : CtrI yX12_comes cX12_comes 6 (some Jvm.ClassFile.FieldType.int) ({ frames := 4, cells := 0, slots := 0, locals := 256 } : Room) 0 0 P [.ref a0, .int a1, .int a2, .int a3, .int a4] (fun r P2 => IM P2 a0 ∧ EM [0, 20, 21, 22, 23, 24, 25] a0 P P2 ∧ MW P2 a0 ∧ (-1 ≤ r.toInt ∧ r.toInt ≤ 39)) := by
  refine enI (lv := [(0, .ref a0), (1, .int a1), (2, .int a2), (3, .int a3), (4, .int a4)]) (by decide) (Nat.le_of_ble_eq_true rfl) rfl (fun E D cy C Ci0 ret => ?_)
  have ha0 := I.2.1
  have J48 : ∀ (P48 : PP), (IM P48 a0) → (EM [0, 20, 21, 22, 23, 24, 25] a0 P P48) → (MW P48 a0) → (0 ≤ (pI P48 a0 0).toInt ∧ (pI P48 a0 0).toInt ≤ 0) → G E ({ frames := 4, cells := 0, slots := 0, locals := 256 } : Room) D cy 6 P48 0 0 48 [] [] := by
    intro P48 I48 X48 W48 hq48_0
    have h42187 := X48.at ha0
    refine g_iconst (v := (-1)) C dX12_comes_48 (by decide) ?_
    exact ret _ _ _ _ _ _ dX12_comes_49 rfl (by decide) (by decide) ⟨I48, X48, W48, (by decide)⟩
  refine g_aload_n C dX12_comes_0 rfl 0 rfl ?_
  refine g_iconst (v := 0) C dX12_comes_1 (by decide) ?_
  refine g_putI C fi_X12_1 rfl (ha0).1 (ha0).2 dX12_comes_2 ?_
  refine gqW (ks := [0]) (I.setI (rgOk.of rfl (by decide))) (EM.setI I (by decide)) (fun Y42188 Iy42189 Xy42190 w42191  => ?_)
  have w42191 : (pI Y42188 a0 0).toInt = 0 := w42191
  have W42192 := hW.keep I Xy42190 (by decide) (by decide) (by decide)
  have Xz42193 : EM [0, 20, 21, 22, 23, 24, 25] a0 P Y42188 := Xy42190.mono (by decide)
  have h42194 := Xy42190.at ha0
  refine g_iload_n C dX12_comes_5 rfl 1 rfl ?_
  refine g_callSI (b := 0) (ci := 0) (rest := []) C ms_X12_278 [.int a1] (s_X12_isQuarter Iy42189.1) rfl rfl (by decide) (Nat.le_of_ble_eq_true rfl) (by decide) dX12_comes_6 (fun r42195 Y42196 h42197 => ?_)
  obtain ⟨rfl, h42197⟩ := h42197
  obtain ⟨h42197, hi42198⟩ := h42197
  have hi42198 : r42195.toInt = 0 ∨ (((0 : Int) ≤ a1.toInt ∧ a1.toInt ≤ (3 : Int))) := hi42198
  have h42197 : 0 ≤ r42195.toInt ∧ r42195.toInt ≤ 1 := h42197
  refine b_if_eq C 48 dX12_comes_9 (by decide) (fun h42199 => ?_) (fun h42199 => ?_)
  · have h42199 : r42195.toInt = 0 := congrArg Int32.toInt h42199
    clear hi42198
    refine g_lv (lv' := []) [] rfl ?_
    exact J48 Y42188 Iy42189 Xz42193 W42192 (by omega)
  · have h42199 : r42195.toInt ≠ 0 := ti_ne h42199
    replace hi42198 := hi42198.resolve_left (by omega)
    refine g_aload_n C dX12_comes_12 rfl 0 rfl ?_
    refine g_iload_n C dX12_comes_13 rfl 2 rfl ?_
    refine g_callVI (rest := []) C mv_X12_192 [.int a2] (s_X12_isBook Iy42189 W42192) (h42194).1 (h42194).2 rfl rfl (by decide) (Nat.le_of_ble_eq_true rfl) (by decide) dX12_comes_14 (fun r42200 Y42201 h42202 => ?_)
    obtain ⟨rfl, h42202⟩ := h42202
    obtain ⟨h42202, hi42203, hi42204⟩ := h42202
    have hi42203 : r42200.toInt = 0 ∨ (((0 : Int) ≤ a2.toInt ∧ a2.toInt ≤ (1 : Int))) := hi42203
    have h42202 : 0 ≤ r42200.toInt ∧ r42200.toInt ≤ 1 := h42202
    refine b_if_eq C 48 dX12_comes_17 (by decide) (fun h42205 => ?_) (fun h42205 => ?_)
    · have h42205 : r42200.toInt = 0 := congrArg Int32.toInt h42205
      clear hi42203
      refine g_lv (lv' := []) [] rfl ?_
      exact J48 Y42188 Iy42189 Xz42193 W42192 (by omega)
    · have h42205 : r42200.toInt ≠ 0 := ti_ne h42205
      replace hi42203 := hi42203.resolve_left (by omega)
      obtain ⟨b42206, e42207, h42208⟩ := Iy42189.fld (h42194) 10 13 2 rfl
      have hi42204 := (hi42204.resolve_left (by omega)) b42206 e42207
      have hi42204 : 0 < (pI Y42188 b42206 (a2.toInt.toNat)).toInt := hi42204
      have h42209 := Iy42189.arr e42207 rfl (a2.toInt.toNat)
      refine g_iload_n C dX12_comes_20 rfl 3 rfl ?_
      refine g_callSI (b := 0) (ci := 0) (rest := []) C ms_X12_258 [.int a3] (s_X12_isNumber Iy42189.1) rfl rfl (by decide) (Nat.le_of_ble_eq_true rfl) (by decide) dX12_comes_21 (fun r42210 Y42211 h42212 => ?_)
      obtain ⟨rfl, h42212⟩ := h42212
      obtain ⟨h42212, hi42213⟩ := h42212
      have hi42213 : r42210.toInt = 0 ∨ (((0 : Int) ≤ a3.toInt ∧ a3.toInt ≤ (9999 : Int))) := hi42213
      have h42212 : 0 ≤ r42210.toInt ∧ r42210.toInt ≤ 1 := h42212
      refine b_if_eq C 48 dX12_comes_24 (by decide) (fun h42214 => ?_) (fun h42214 => ?_)
      · have h42214 : r42210.toInt = 0 := congrArg Int32.toInt h42214
        clear hi42213
        refine g_lv (lv' := []) [] rfl ?_
        exact J48 Y42188 Iy42189 Xz42193 W42192 (by omega)
      · have h42214 : r42210.toInt ≠ 0 := ti_ne h42214
        replace hi42213 := hi42213.resolve_left (by omega)
        refine g_iload C dX12_comes_27 4 rfl ?_
        refine g_iconst (v := 1) C dX12_comes_29 (by decide) ?_
        refine g_iconst (v := 3) C dX12_comes_30 (by decide) ?_
        refine g_callSI (b := 0) (ci := 0) (rest := []) C ms_X12_178 [.int a4, .int 1, .int 3] (s_X12_within Iy42189.1) rfl rfl (by decide) (Nat.le_of_ble_eq_true rfl) (by decide) dX12_comes_31 (fun r42215 Y42216 h42217 => ?_)
        obtain ⟨rfl, h42217⟩ := h42217
        obtain ⟨h42217, hi42218⟩ := h42217
        have hi42218 : r42215.toInt = 0 ∨ (1 ≤ a4.toInt ∧ a4.toInt ≤ 3) := hi42218
        have h42217 : 0 ≤ r42215.toInt ∧ r42215.toInt ≤ 1 := h42217
        refine b_if_eq C 48 dX12_comes_34 (by decide) (fun h42219 => ?_) (fun h42219 => ?_)
        · have h42219 : r42215.toInt = 0 := congrArg Int32.toInt h42219
          clear hi42218
          refine g_lv (lv' := []) [] rfl ?_
          exact J48 Y42188 Iy42189 Xz42193 W42192 (by omega)
        · have h42219 : r42215.toInt ≠ 0 := ti_ne h42219
          replace hi42218 := hi42218.resolve_left (by omega)
          refine g_aload_n C dX12_comes_37 rfl 0 rfl ?_
          obtain ⟨b42220, e42221, h42222⟩ := Iy42189.fld (h42194) 20 13 20 rfl
          refine g_getR C fi_X12_69 rfl e42221 (h42194).1 (h42194).2 dX12_comes_38 ?_
          refine g_iload_n C dX12_comes_41 rfl 1 rfl ?_
          refine g_iald (j := (a1.toInt.toNat)) C h42222.1 h42222.2.1 (ix_in h42222.2.2 (by omega)) dX12_comes_42 ?_
          have h42223 := Iy42189.arr e42221 rfl (a1.toInt.toNat)
          refine g_bipush (v := 40) C dX12_comes_43 (by decide) ?_
          refine b_icmp_ne C 50 dX12_comes_45 (by decide) (fun h42224 => ?_) (fun h42224 => ?_)
          · have h42224 : (pI Y42188 b42220 (a1.toInt.toNat)).toInt ≠ 40 := ti_ne h42224
            refine g_aload_n C dX12_comes_50 rfl 0 rfl ?_
            refine g_iload_n C dX12_comes_51 rfl 2 rfl ?_
            refine g_aload_n C dX12_comes_52 rfl 0 rfl ?_
            refine g_iload_n C dX12_comes_53 rfl 2 rfl ?_
            refine g_iload_n C dX12_comes_54 rfl 3 rfl ?_
            refine g_callVI (rest := [.int a2, .ref a0]) C mv_X12_261 [.int a2, .int a3] (s_X12_setOf Iy42189 (by omega) (fun b9 e9 => by rw [e42207] at e9; cases e9; show 1 ≤ (pI Y42188 b42206 (a2.toInt.toNat)).toInt ∧ (pI Y42188 b42206 (a2.toInt.toNat)).toInt ≤ 16; omega) W42192) (h42194).1 (h42194).2 rfl rfl (by decide) (Nat.le_of_ble_eq_true rfl) (by decide) dX12_comes_55 (fun r42225 Y42226 h42227 => ?_)
            obtain ⟨Iy42228, Xy42229, W42230, h42227⟩ := h42227
            have q42231 := Xy42229.keepF 0 (by decide)
            have q42232 := Xy42229.keepA e42207 (by decide) rfl (a2.toInt.toNat)
            have q42233 := Xy42229.keepA e42221 (by decide) rfl (a1.toInt.toNat)
            have Xz42234 : EM [0, 20, 21, 22, 23, 24, 25] a0 P Y42226 := EM.tr ha0 Xz42193 (Xy42229.mono (by decide))
            have e42235 := Xy42229.ref h42194 (by decide) e42207
            have e42236 := Xy42229.ref h42194 (by decide) e42221
            have h42237 := Xy42229.at h42194
            have h42238 := Xy42229.ar h42208
            have h42239 := Xy42229.ar h42222
            have h42227 : True := h42227
            refine g_callVI (rest := []) C mv_X12_223 [.int a2, .int r42225] (s_X12_sumOf Iy42228 (by omega) W42230) (h42237).1 (h42237).2 rfl rfl (by decide) (Nat.le_of_ble_eq_true rfl) (by decide) dX12_comes_58 (fun r42240 Y42241 h42242 => ?_)
            obtain ⟨rfl, h42242⟩ := h42242
            have h42242 : True := h42242
            refine g_istore (lv' := [(5, .int r42240), (0, .ref a0), (1, .int a1), (2, .int a2), (3, .int a3), (4, .int a4)]) C dX12_comes_61 (by decide) rfl ?_
            refine g_aload_n C dX12_comes_63 rfl 1 rfl ?_
            refine g_iload_n C dX12_comes_64 rfl 2 rfl ?_
            refine g_iload_n C dX12_comes_65 rfl 3 rfl ?_
            refine g_iload_n C dX12_comes_66 rfl 4 rfl ?_
            refine g_iload C dX12_comes_67 0 rfl ?_
            refine g_iload C dX12_comes_69 5 rfl ?_
            refine g_callSI (b := 0) (ci := 0) (rest := [.int a3, .int a2, .int a1, .ref a0]) C ms_X12_281 [.int r42240, .int a4] (s_X12_cutTo Iy42228.1) rfl rfl (by decide) (Nat.le_of_ble_eq_true rfl) (by decide) dX12_comes_71 (fun r42243 Y42244 h42245 => ?_)
            obtain ⟨rfl, h42245⟩ := h42245
            have h42245 : 0 ≤ r42243.toInt ∧ r42243.toInt ≤ 65535 := h42245
            refine g_iload C dX12_comes_74 5 rfl ?_
            refine g_aload_n C dX12_comes_76 rfl 1 rfl ?_
            refine g_iload_n C dX12_comes_77 rfl 3 rfl ?_
            refine g_iload_n C dX12_comes_78 rfl 4 rfl ?_
            refine g_iload C dX12_comes_79 0 rfl ?_
            refine g_callVI (rest := [.int a4, .int r42243, .int a3, .int a2, .int a1, .ref a0]) C mv_X12_267 [.int a2, .int a3, .int r42240] (s_X12_sealOf Iy42228 (by omega) W42230) (h42237).1 (h42237).2 rfl rfl (by decide) (Nat.le_of_ble_eq_true rfl) (by decide) dX12_comes_81 (fun r42246 Y42247 h42248 => ?_)
            obtain ⟨rfl, h42248⟩ := h42248
            have h42248 : -996 ≤ r42246.toInt ∧ r42246.toInt ≤ 996 := h42248
            refine g_callVI (rest := []) C mv_X12_284 [.int a1, .int a2, .int a3, .int r42243, .int a4, .int r42246] (s_X12_lays Iy42228 (by omega) (by omega) (fun b9 e9 => by rw [e42236] at e9; cases e9; show 0 ≤ (pI Y42226 b42220 (a1.toInt.toNat)).toInt ∧ (pI Y42226 b42220 (a1.toInt.toNat)).toInt ≤ 39; omega) W42230 (fun c9 f9 _ => by rw [e42235] at f9; cases f9; show 0 < (pI Y42226 b42206 (a2.toInt.toNat)).toInt; omega)) (h42237).1 (h42237).2 rfl rfl (by decide) (Nat.le_of_ble_eq_true rfl) (by decide) dX12_comes_84 (fun r42249 Y42250 h42251 => ?_)
            obtain ⟨Iy42252, Xy42253, W42254, p42255, h42251⟩ := h42251
            have p42255 := p42255 b42220 e42236
            have p42255 : (pI Y42250 b42220 (a1.toInt.toNat)).toInt = (pI Y42226 b42220 (a1.toInt.toNat)).toInt + 1 := p42255
            have q42256 := Xy42253.keepF 0 (by decide)
            have q42257 := Xy42253.keepA e42235 (by decide) rfl (a2.toInt.toNat)
            have Xz42258 : EM [0, 20, 21, 22, 23, 24, 25] a0 P Y42250 := EM.tr ha0 Xz42234 (Xy42253.mono (by decide))
            have e42259 := Xy42253.ref h42237 (by decide) e42235
            have e42260 := Xy42253.ref h42237 (by decide) e42236
            have h42261 := Xy42253.at h42237
            have h42262 := Xy42253.ar h42238
            have h42263 := Xy42253.ar h42239
            have h42251 : 0 ≤ r42249.toInt ∧ r42249.toInt ≤ 39 := h42251
            exact ret _ _ _ _ _ _ dX12_comes_87 rfl (by decide) (by decide) ⟨Iy42252, Xz42258, W42254, (by omega)⟩
          · have h42224 : (pI Y42188 b42220 (a1.toInt.toNat)).toInt = 40 := congrArg Int32.toInt h42224
            refine g_lv (lv' := []) [] rfl ?_
            exact J48 Y42188 Iy42189 Xz42193 W42192 (by omega)
theorem dX12_copies_0 : decode cX12_copies 0 = .ok (.aload_n 0, 1) := by decide +kernel
theorem dX12_copies_1 : decode cX12_copies 1 = .ok (.getfield 69, 3) := by decide +kernel
theorem dX12_copies_4 : decode cX12_copies 4 = .ok (.iload_n 2, 1) := by decide +kernel
theorem dX12_copies_5 : decode cX12_copies 5 = .ok (.aload_n 0, 1) := by decide +kernel
theorem dX12_copies_6 : decode cX12_copies 6 = .ok (.getfield 69, 3) := by decide +kernel
theorem dX12_copies_9 : decode cX12_copies 9 = .ok (.iload_n 1, 1) := by decide +kernel
theorem dX12_copies_10 : decode cX12_copies 10 = .ok (.iaload, 1) := by decide +kernel
theorem dX12_copies_11 : decode cX12_copies 11 = .ok (.iastore, 1) := by decide +kernel
theorem dX12_copies_12 : decode cX12_copies 12 = .ok (.iconst 0, 1) := by decide +kernel
theorem dX12_copies_13 : decode cX12_copies 13 = .ok (.istore_n 3, 1) := by decide +kernel
theorem dX12_copies_14 : decode cX12_copies 14 = .ok (.iload_n 3, 1) := by decide +kernel
theorem dX12_copies_15 : decode cX12_copies 15 = .ok (.aload_n 0, 1) := by decide +kernel
theorem dX12_copies_16 : decode cX12_copies 16 = .ok (.getfield 69, 3) := by decide +kernel
theorem dX12_copies_19 : decode cX12_copies 19 = .ok (.iload_n 1, 1) := by decide +kernel
theorem dX12_copies_20 : decode cX12_copies 20 = .ok (.iaload, 1) := by decide +kernel
theorem dX12_copies_21 : decode cX12_copies 21 = .ok (.if_icmp .ge 25, 3) := by decide +kernel
theorem dX12_copies_24 : decode cX12_copies 24 = .ok (.aload_n 0, 1) := by decide +kernel
theorem dX12_copies_25 : decode cX12_copies 25 = .ok (.bipush 40, 2) := by decide +kernel
theorem dX12_copies_27 : decode cX12_copies 27 = .ok (.iload_n 1, 1) := by decide +kernel
theorem dX12_copies_28 : decode cX12_copies 28 = .ok (.imul, 1) := by decide +kernel
theorem dX12_copies_29 : decode cX12_copies 29 = .ok (.iload_n 3, 1) := by decide +kernel
theorem dX12_copies_30 : decode cX12_copies 30 = .ok (.iadd, 1) := by decide +kernel
theorem dX12_copies_31 : decode cX12_copies 31 = .ok (.bipush 40, 2) := by decide +kernel
theorem dX12_copies_33 : decode cX12_copies 33 = .ok (.iload_n 2, 1) := by decide +kernel
theorem dX12_copies_34 : decode cX12_copies 34 = .ok (.imul, 1) := by decide +kernel
theorem dX12_copies_35 : decode cX12_copies 35 = .ok (.iload_n 3, 1) := by decide +kernel
theorem dX12_copies_36 : decode cX12_copies 36 = .ok (.iadd, 1) := by decide +kernel
theorem dX12_copies_37 : decode cX12_copies 37 = .ok (.invokevirtual 274, 3) := by decide +kernel
theorem dX12_copies_40 : decode cX12_copies 40 = .ok (.iinc 3 1, 3) := by decide +kernel
theorem dX12_copies_43 : decode cX12_copies 43 = .ok (.goto (-29), 3) := by decide +kernel
theorem dX12_copies_46 : decode cX12_copies 46 = .ok (.return_, 1) := by decide +kernel
set_option maxHeartbeats 4000000 in
set_option maxRecDepth 100000 in
theorem s_X12_copies {P : PP} {a0 : Nat} {a1 : Int32} {a2 : Int32} (I : IM P a0) (ha1 : 0 ≤ a1.toInt ∧ a1.toInt ≤ 19) (ha2 : 0 ≤ a2.toInt ∧ a2.toInt ≤ 19) (hW : MW P a0) : CtrV yX12_copies cX12_copies 4 none ({ frames := 2, cells := 0, slots := 0, locals := 128 } : Room) 0 0 P [.ref a0, .int a1, .int a2] (fun P2 => IM P2 a0 ∧ EM [20, 21, 22, 23, 24, 25] a0 P P2 ∧ MW P2 a0) := by
  refine enV (lv := [(0, .ref a0), (1, .int a1), (2, .int a2)]) (by decide) (Nat.le_of_ble_eq_true rfl) rfl (fun E D cy C Ci0 ret => ?_)
  have ha0 := I.2.1
  have J14 : ∀ (n14 : Nat) (P14 : PP) (v14_3 : Int32), (40 - v14_3.toInt).toNat < n14 → (IM P14 a0) → (EM [20, 21, 22, 23, 24, 25] a0 P P14) → (MW P14 a0) → (0 ≤ v14_3.toInt ∧ v14_3.toInt ≤ 40) → G E ({ frames := 2, cells := 0, slots := 0, locals := 128 } : Room) D cy 4 P14 0 0 14 [(0, .ref a0), (1, .int a1), (2, .int a2), (3, .int v14_3)] [] := by
    intro n14
    induction n14 with
    | zero => intro P14 v14_3 hm14 I14 X14 W14 hv14_3; omega
    | succ n14 ih14 =>
      intro P14 v14_3 hm14 I14 X14 W14 hv14_3
      have h42682 := X14.at ha0
      refine g_iload_n C dX12_copies_14 rfl 3 rfl ?_
      refine g_aload_n C dX12_copies_15 rfl 0 rfl ?_
      obtain ⟨b42683, e42684, h42685⟩ := I14.fld (h42682) 20 13 20 rfl
      refine g_getR C fi_X12_69 rfl e42684 (h42682).1 (h42682).2 dX12_copies_16 ?_
      refine g_iload_n C dX12_copies_19 rfl 1 rfl ?_
      refine g_iald (j := (a1.toInt.toNat)) C h42685.1 h42685.2.1 (ix_in h42685.2.2 (by omega)) dX12_copies_20 ?_
      have h42686 := I14.arr e42684 rfl (a1.toInt.toNat)
      refine b_icmp_ge C 46 dX12_copies_21 (by decide) (fun h42687 => ?_) (fun h42687 => ?_)
      · have h42687 : (pI P14 b42683 (a1.toInt.toNat)).toInt ≤ v14_3.toInt := h42687
        exact ret _ _ _ _ _ dX12_copies_46 (by decide) (by decide) ⟨I14, X14, W14⟩
      · have h42687 : v14_3.toInt < (pI P14 b42683 (a1.toInt.toNat)).toInt := h42687
        refine g_aload_n C dX12_copies_24 rfl 0 rfl ?_
        refine g_bipush (v := 40) C dX12_copies_25 (by decide) ?_
        refine g_iload_n C dX12_copies_27 rfl 1 rfl ?_
        refine s_imul C dX12_copies_28 (by show -2147483648 ≤ 40 * a1.toInt ∧ 40 * a1.toInt ≤ 2147483647; omega) (fun z42688 h42689 => ?_)
        have h42689 : z42688.toInt = 40 * a1.toInt := h42689
        refine g_iload_n C dX12_copies_29 rfl 3 rfl ?_
        refine s_iadd C dX12_copies_30 (by show -2147483648 ≤ z42688.toInt + v14_3.toInt ∧ z42688.toInt + v14_3.toInt ≤ 2147483647; omega) (fun z42690 h42691 => ?_)
        have h42691 : z42690.toInt = z42688.toInt + v14_3.toInt := h42691
        refine g_bipush (v := 40) C dX12_copies_31 (by decide) ?_
        refine g_iload_n C dX12_copies_33 rfl 2 rfl ?_
        refine s_imul C dX12_copies_34 (by show -2147483648 ≤ 40 * a2.toInt ∧ 40 * a2.toInt ≤ 2147483647; omega) (fun z42692 h42693 => ?_)
        have h42693 : z42692.toInt = 40 * a2.toInt := h42693
        refine g_iload_n C dX12_copies_35 rfl 3 rfl ?_
        refine s_iadd C dX12_copies_36 (by show -2147483648 ≤ z42692.toInt + v14_3.toInt ∧ z42692.toInt + v14_3.toInt ≤ 2147483647; omega) (fun z42694 h42695 => ?_)
        have h42695 : z42694.toInt = z42692.toInt + v14_3.toInt := h42695
        refine g_callVV (rest := []) C mv_X12_274 [.int z42690, .int z42694] (s_X12_moves I14 (by omega) (by omega) W14) (h42682).1 (h42682).2 rfl rfl (by decide) (Nat.le_of_ble_eq_true rfl) (by decide) dX12_copies_37 (fun Y42697 h42698 => ?_)
        obtain ⟨Iy42699, Xy42700, W42701⟩ := h42698
        have q42702 := Xy42700.keepA e42684 (by decide) rfl (a1.toInt.toNat)
        have Xz42703 : EM [20, 21, 22, 23, 24, 25] a0 P Y42697 := EM.tr ha0 X14 (Xy42700.mono (by decide))
        have e42704 := Xy42700.ref h42682 (by decide) e42684
        have h42705 := Xy42700.at h42682
        have h42706 := Xy42700.ar h42685
        refine s_iinc (lv0 := [(0, .ref a0), (1, .int a1), (2, .int a2)]) (m := 1) C dX12_copies_40 3 rfl (by decide) rfl (by decide) (by omega) (fun z42707 h42708 => ?_)
        have h42708 : z42707.toInt = v14_3.toInt + 1 := h42708
        refine g_goto C 14 dX12_copies_43 (by decide) ?_
        refine g_lv (lv' := [(0, .ref a0), (1, .int a1), (2, .int a2), (3, .int z42707)]) [1, 2, 3, 0] rfl ?_
        exact ih14 Y42697 z42707 (by omega) Iy42699 Xz42703 W42701 (by omega)
  refine g_aload_n C dX12_copies_0 rfl 0 rfl ?_
  obtain ⟨b42709, e42710, h42711⟩ := I.fld (ha0) 20 13 20 rfl
  refine g_getR C fi_X12_69 rfl e42710 (ha0).1 (ha0).2 dX12_copies_1 ?_
  refine g_iload_n C dX12_copies_4 rfl 2 rfl ?_
  refine g_aload_n C dX12_copies_5 rfl 0 rfl ?_
  refine g_getR C fi_X12_69 rfl e42710 (ha0).1 (ha0).2 dX12_copies_6 ?_
  refine g_iload_n C dX12_copies_9 rfl 1 rfl ?_
  refine g_iald (j := (a1.toInt.toNat)) C h42711.1 h42711.2.1 (ix_in h42711.2.2 (by omega)) dX12_copies_10 ?_
  have h42712 := I.arr e42710 rfl (a1.toInt.toNat)
  refine g_iast (j := (a2.toInt.toNat)) C h42711.1 h42711.2.1 (ix_in h42711.2.2 (by omega)) dX12_copies_11 ?_
  refine gqW (ks := [20]) (I.setA e42710 h42711 (by decide) (arOk.of rfl (by omega))) (EM.setA I e42710 rfl (by decide)) (fun Y42713 Iy42714 Xy42715 w42716  => ?_)
  have w42716 : (pI Y42713 b42709 (a2.toInt.toNat)).toInt = (pI P b42709 (a1.toInt.toNat)).toInt := w42716
  have W42717 := hW.keep I Xy42715 (by decide) (by decide) (by decide)
  have Xz42718 : EM [20, 21, 22, 23, 24, 25] a0 P Y42713 := Xy42715.mono (by decide)
  have e42719 := Xy42715.ref ha0 (by decide) e42710
  have h42720 := Xy42715.at ha0
  have h42721 := Xy42715.ar h42711
  refine g_iconst (v := 0) C dX12_copies_12 (by decide) ?_
  refine g_istore_n (lv' := [(3, .int 0), (0, .ref a0), (1, .int a1), (2, .int a2)]) C dX12_copies_13 rfl (by decide) rfl ?_
  refine g_lv (lv' := [(0, .ref a0), (1, .int a1), (2, .int a2), (3, .int 0)]) [1, 2, 3, 0] rfl ?_
  exact J14 _ Y42713 0 (Nat.lt_succ_self _) Iy42714 Xz42718 W42717 (by decide)
theorem dX12_count_0 : decode cX12_count 0 = .ok (.aload_n 0, 1) := by decide +kernel
theorem dX12_count_1 : decode cX12_count 1 = .ok (.iconst 0, 1) := by decide +kernel
theorem dX12_count_2 : decode cX12_count 2 = .ok (.putfield 1, 3) := by decide +kernel
theorem dX12_count_5 : decode cX12_count 5 = .ok (.iload_n 1, 1) := by decide +kernel
theorem dX12_count_6 : decode cX12_count 6 = .ok (.iconst 0, 1) := by decide +kernel
theorem dX12_count_7 : decode cX12_count 7 = .ok (.iconst 3, 1) := by decide +kernel
theorem dX12_count_8 : decode cX12_count 8 = .ok (.invokestatic 178, 3) := by decide +kernel
theorem dX12_count_11 : decode cX12_count 11 = .ok (.ifCond .eq 10, 3) := by decide +kernel
theorem dX12_count_14 : decode cX12_count 14 = .ok (.aload_n 0, 1) := by decide +kernel
theorem dX12_count_15 : decode cX12_count 15 = .ok (.getfield 69, 3) := by decide +kernel
theorem dX12_count_18 : decode cX12_count 18 = .ok (.iload_n 1, 1) := by decide +kernel
theorem dX12_count_19 : decode cX12_count 19 = .ok (.iaload, 1) := by decide +kernel
theorem dX12_count_20 : decode cX12_count 20 = .ok (.ireturn, 1) := by decide +kernel
theorem dX12_count_21 : decode cX12_count 21 = .ok (.iload_n 1, 1) := by decide +kernel
theorem dX12_count_22 : decode cX12_count 22 = .ok (.tableswitch 61 4 8 #[34, 40, 46, 51, 56], 34) := by decide +kernel
theorem dX12_count_56 : decode cX12_count 56 = .ok (.aload_n 0, 1) := by decide +kernel
theorem dX12_count_57 : decode cX12_count 57 = .ok (.iconst 0, 1) := by decide +kernel
theorem dX12_count_58 : decode cX12_count 58 = .ok (.invokevirtual 238, 3) := by decide +kernel
theorem dX12_count_61 : decode cX12_count 61 = .ok (.ireturn, 1) := by decide +kernel
theorem dX12_count_62 : decode cX12_count 62 = .ok (.aload_n 0, 1) := by decide +kernel
theorem dX12_count_63 : decode cX12_count 63 = .ok (.iconst 1, 1) := by decide +kernel
theorem dX12_count_64 : decode cX12_count 64 = .ok (.invokevirtual 238, 3) := by decide +kernel
theorem dX12_count_67 : decode cX12_count 67 = .ok (.ireturn, 1) := by decide +kernel
theorem dX12_count_68 : decode cX12_count 68 = .ok (.aload_n 0, 1) := by decide +kernel
theorem dX12_count_69 : decode cX12_count 69 = .ok (.getfield 11, 3) := by decide +kernel
theorem dX12_count_72 : decode cX12_count 72 = .ok (.ireturn, 1) := by decide +kernel
theorem dX12_count_73 : decode cX12_count 73 = .ok (.aload_n 0, 1) := by decide +kernel
theorem dX12_count_74 : decode cX12_count 74 = .ok (.getfield 288, 3) := by decide +kernel
theorem dX12_count_77 : decode cX12_count 77 = .ok (.ireturn, 1) := by decide +kernel
theorem dX12_count_78 : decode cX12_count 78 = .ok (.aload_n 0, 1) := by decide +kernel
theorem dX12_count_79 : decode cX12_count 79 = .ok (.invokevirtual 411, 3) := by decide +kernel
theorem dX12_count_82 : decode cX12_count 82 = .ok (.ireturn, 1) := by decide +kernel
theorem dX12_count_83 : decode cX12_count 83 = .ok (.iconst (-1), 1) := by decide +kernel
theorem dX12_count_84 : decode cX12_count 84 = .ok (.ireturn, 1) := by decide +kernel
set_option maxHeartbeats 4000000 in
set_option maxRecDepth 100000 in
theorem s_X12_count {P : PP} {a0 : Nat} {a1 : Int32} (I : IM P a0) (hW : MW P a0) : CtrI yX12_count cX12_count 2 (some Jvm.ClassFile.FieldType.int) ({ frames := 2, cells := 0, slots := 0, locals := 128 } : Room) 0 0 P [.ref a0, .int a1] (fun r P2 => IM P2 a0 ∧ EM [0] a0 P P2 ∧ MW P2 a0 ∧ (True)) := by
  refine enI (lv := [(0, .ref a0), (1, .int a1)]) (by decide) (Nat.le_of_ble_eq_true rfl) rfl (fun E D cy C Ci0 ret => ?_)
  have ha0 := I.2.1
  refine g_aload_n C dX12_count_0 rfl 0 rfl ?_
  refine g_iconst (v := 0) C dX12_count_1 (by decide) ?_
  refine g_putI C fi_X12_1 rfl (ha0).1 (ha0).2 dX12_count_2 ?_
  refine gqW (ks := [0]) (I.setI (rgOk.of rfl (by decide))) (EM.setI I (by decide)) (fun Y42768 Iy42769 Xy42770 w42771  => ?_)
  have w42771 : (pI Y42768 a0 0).toInt = 0 := w42771
  have W42772 := hW.keep I Xy42770 (by decide) (by decide) (by decide)
  have Xz42773 : EM [0] a0 P Y42768 := Xy42770.mono (by decide)
  have h42774 := Xy42770.at ha0
  refine g_iload_n C dX12_count_5 rfl 1 rfl ?_
  refine g_iconst (v := 0) C dX12_count_6 (by decide) ?_
  refine g_iconst (v := 3) C dX12_count_7 (by decide) ?_
  refine g_callSI (b := 0) (ci := 0) (rest := []) C ms_X12_178 [.int a1, .int 0, .int 3] (s_X12_within Iy42769.1) rfl rfl (by decide) (Nat.le_of_ble_eq_true rfl) (by decide) dX12_count_8 (fun r42775 Y42776 h42777 => ?_)
  obtain ⟨rfl, h42777⟩ := h42777
  obtain ⟨h42777, hi42778⟩ := h42777
  have hi42778 : r42775.toInt = 0 ∨ (0 ≤ a1.toInt ∧ a1.toInt ≤ 3) := hi42778
  have h42777 : 0 ≤ r42775.toInt ∧ r42775.toInt ≤ 1 := h42777
  refine b_if_eq C 21 dX12_count_11 (by decide) (fun h42779 => ?_) (fun h42779 => ?_)
  · have h42779 : r42775.toInt = 0 := congrArg Int32.toInt h42779
    clear hi42778
    refine g_iload_n C dX12_count_21 rfl 1 rfl ?_
    by_cases h42780 : a1.toInt < 4 ∨ 8 < a1.toInt
    · refine g_tableOut C 83 dX12_count_22 h42780 (by decide) ?_
      refine g_iconst (v := (-1)) C dX12_count_83 (by decide) ?_
      exact ret _ _ _ _ _ _ dX12_count_84 rfl (by decide) (by decide) ⟨Iy42769, Xz42773, W42772, trivial⟩
    · rcases (show a1.toInt = 4 ∨ a1.toInt = 5 ∨ a1.toInt = 6 ∨ a1.toInt = 7 ∨ a1.toInt = 8 by omega) with h42781 | h42781 | h42781 | h42781 | h42781
      · refine g_tableIn C 56 dX12_count_22 (by omega) (by omega) (by rw [h42781]; rfl) (by decide) ?_
        refine g_aload_n C dX12_count_56 rfl 0 rfl ?_
        refine g_iconst (v := 0) C dX12_count_57 (by decide) ?_
        refine g_callVI (rest := []) C mv_X12_238 [.int 0] (s_X12_allOf Iy42769 (by decide) W42772) (h42774).1 (h42774).2 rfl rfl (by decide) (Nat.le_of_ble_eq_true rfl) (by decide) dX12_count_58 (fun r42782 Y42783 h42784 => ?_)
        obtain ⟨rfl, h42784⟩ := h42784
        obtain ⟨h42784, hi42785⟩ := h42784
        obtain ⟨b42786, e42787, h42788⟩ := Iy42769.fld (h42774) 10 13 2 rfl
        obtain ⟨b42789, e42790, h42791⟩ := Iy42769.fld (h42774) 15 13 3 rfl
        have hi42785 : (r42782.toInt = 0 ∧ (pI Y42768 b42786 0).toInt = 0) ∨ r42782.toInt = (pI Y42768 b42786 0).toInt + (pI Y42768 b42789 0).toInt := hi42785 b42786 b42789 e42787 e42790
        have h42792 := Iy42769.arr e42787 rfl 0
        have h42793 := Iy42769.arr e42790 rfl 0
        have h42784 : 0 ≤ r42782.toInt ∧ r42782.toInt ≤ 20 := h42784
        exact ret _ _ _ _ _ _ dX12_count_61 rfl (by decide) (by decide) ⟨Iy42769, Xz42773, W42772, trivial⟩
      · refine g_tableIn C 62 dX12_count_22 (by omega) (by omega) (by rw [h42781]; rfl) (by decide) ?_
        refine g_aload_n C dX12_count_62 rfl 0 rfl ?_
        refine g_iconst (v := 1) C dX12_count_63 (by decide) ?_
        refine g_callVI (rest := []) C mv_X12_238 [.int 1] (s_X12_allOf Iy42769 (by decide) W42772) (h42774).1 (h42774).2 rfl rfl (by decide) (Nat.le_of_ble_eq_true rfl) (by decide) dX12_count_64 (fun r42794 Y42795 h42796 => ?_)
        obtain ⟨rfl, h42796⟩ := h42796
        obtain ⟨h42796, hi42797⟩ := h42796
        obtain ⟨b42798, e42799, h42800⟩ := Iy42769.fld (h42774) 10 13 2 rfl
        obtain ⟨b42801, e42802, h42803⟩ := Iy42769.fld (h42774) 15 13 3 rfl
        have hi42797 : (r42794.toInt = 0 ∧ (pI Y42768 b42798 1).toInt = 0) ∨ r42794.toInt = (pI Y42768 b42798 1).toInt + (pI Y42768 b42801 1).toInt := hi42797 b42798 b42801 e42799 e42802
        have h42804 := Iy42769.arr e42799 rfl 1
        have h42805 := Iy42769.arr e42802 rfl 1
        have h42796 : 0 ≤ r42794.toInt ∧ r42794.toInt ≤ 20 := h42796
        exact ret _ _ _ _ _ _ dX12_count_67 rfl (by decide) (by decide) ⟨Iy42769, Xz42773, W42772, trivial⟩
      · refine g_tableIn C 68 dX12_count_22 (by omega) (by omega) (by rw [h42781]; rfl) (by decide) ?_
        refine g_aload_n C dX12_count_68 rfl 0 rfl ?_
        refine g_getI C fi_X12_11 (by decide) (h42774).1 (h42774).2 dX12_count_69 ?_
        have h42806 := Iy42769.rg (h42774) 2 rfl
        exact ret _ _ _ _ _ _ dX12_count_72 rfl (by decide) (by decide) ⟨Iy42769, Xz42773, W42772, trivial⟩
      · refine g_tableIn C 73 dX12_count_22 (by omega) (by omega) (by rw [h42781]; rfl) (by decide) ?_
        refine g_aload_n C dX12_count_73 rfl 0 rfl ?_
        refine g_getI C fi_X12_288 (by decide) (h42774).1 (h42774).2 dX12_count_74 ?_
        exact ret _ _ _ _ _ _ dX12_count_77 rfl (by decide) (by decide) ⟨Iy42769, Xz42773, W42772, trivial⟩
      · refine g_tableIn C 78 dX12_count_22 (by omega) (by omega) (by rw [h42781]; rfl) (by decide) ?_
        refine g_aload_n C dX12_count_78 rfl 0 rfl ?_
        refine g_callVI (rest := []) C mv_X12_411 [] (s_X12_allHouses Iy42769 W42772) (h42774).1 (h42774).2 rfl rfl (by decide) (Nat.le_of_ble_eq_true rfl) (by decide) dX12_count_79 (fun r42807 Y42808 h42809 => ?_)
        obtain ⟨rfl, h42809⟩ := h42809
        have h42809 : True := h42809
        exact ret _ _ _ _ _ _ dX12_count_82 rfl (by decide) (by decide) ⟨Iy42769, Xz42773, W42772, trivial⟩
  · have h42779 : r42775.toInt ≠ 0 := ti_ne h42779
    replace hi42778 := hi42778.resolve_left (by omega)
    refine g_aload_n C dX12_count_14 rfl 0 rfl ?_
    obtain ⟨b42810, e42811, h42812⟩ := Iy42769.fld (h42774) 20 13 20 rfl
    refine g_getR C fi_X12_69 rfl e42811 (h42774).1 (h42774).2 dX12_count_15 ?_
    refine g_iload_n C dX12_count_18 rfl 1 rfl ?_
    refine g_iald (j := (a1.toInt.toNat)) C h42812.1 h42812.2.1 (ix_in h42812.2.2 (by omega)) dX12_count_19 ?_
    have h42813 := Iy42769.arr e42811 rfl (a1.toInt.toNat)
    exact ret _ _ _ _ _ _ dX12_count_20 rfl (by decide) (by decide) ⟨Iy42769, Xz42773, W42772, trivial⟩
theorem dX12_cutAll_0 : decode cX12_cutAll 0 = .ok (.aload_n 0, 1) := by decide +kernel
theorem dX12_cutAll_1 : decode cX12_cutAll 1 = .ok (.aload_n 0, 1) := by decide +kernel
theorem dX12_cutAll_2 : decode cX12_cutAll 2 = .ok (.getfield 11, 3) := by decide +kernel
theorem dX12_cutAll_5 : decode cX12_cutAll 5 = .ok (.putfield 140, 3) := by decide +kernel
theorem dX12_cutAll_8 : decode cX12_cutAll 8 = .ok (.aload_n 0, 1) := by decide +kernel
theorem dX12_cutAll_9 : decode cX12_cutAll 9 = .ok (.iconst 0, 1) := by decide +kernel
theorem dX12_cutAll_10 : decode cX12_cutAll 10 = .ok (.putfield 11, 3) := by decide +kernel
theorem dX12_cutAll_13 : decode cX12_cutAll 13 = .ok (.iconst 0, 1) := by decide +kernel
theorem dX12_cutAll_14 : decode cX12_cutAll 14 = .ok (.istore_n 1, 1) := by decide +kernel
theorem dX12_cutAll_15 : decode cX12_cutAll 15 = .ok (.iconst 0, 1) := by decide +kernel
theorem dX12_cutAll_16 : decode cX12_cutAll 16 = .ok (.istore_n 2, 1) := by decide +kernel
theorem dX12_cutAll_17 : decode cX12_cutAll 17 = .ok (.iload_n 2, 1) := by decide +kernel
theorem dX12_cutAll_18 : decode cX12_cutAll 18 = .ok (.aload_n 0, 1) := by decide +kernel
theorem dX12_cutAll_19 : decode cX12_cutAll 19 = .ok (.getfield 140, 3) := by decide +kernel
theorem dX12_cutAll_22 : decode cX12_cutAll 22 = .ok (.if_icmp .ge 257, 3) := by decide +kernel
theorem dX12_cutAll_25 : decode cX12_cutAll 25 = .ok (.aload_n 0, 1) := by decide +kernel
theorem dX12_cutAll_26 : decode cX12_cutAll 26 = .ok (.getfield 14, 3) := by decide +kernel
theorem dX12_cutAll_29 : decode cX12_cutAll 29 = .ok (.iload_n 2, 1) := by decide +kernel
theorem dX12_cutAll_30 : decode cX12_cutAll 30 = .ok (.iaload, 1) := by decide +kernel
theorem dX12_cutAll_31 : decode cX12_cutAll 31 = .ok (.istore_n 3, 1) := by decide +kernel
theorem dX12_cutAll_32 : decode cX12_cutAll 32 = .ok (.iload_n 3, 1) := by decide +kernel
theorem dX12_cutAll_33 : decode cX12_cutAll 33 = .ok (.bipush 10, 2) := by decide +kernel
theorem dX12_cutAll_35 : decode cX12_cutAll 35 = .ok (.if_icmp .eq 9, 3) := by decide +kernel
theorem dX12_cutAll_38 : decode cX12_cutAll 38 = .ok (.iload_n 3, 1) := by decide +kernel
theorem dX12_cutAll_39 : decode cX12_cutAll 39 = .ok (.bipush 32, 2) := by decide +kernel
theorem dX12_cutAll_41 : decode cX12_cutAll 41 = .ok (.if_icmp .ne 9, 3) := by decide +kernel
theorem dX12_cutAll_50 : decode cX12_cutAll 50 = .ok (.iload_n 2, 1) := by decide +kernel
theorem dX12_cutAll_51 : decode cX12_cutAll 51 = .ok (.istore 4, 2) := by decide +kernel
theorem dX12_cutAll_53 : decode cX12_cutAll 53 = .ok (.lconst 0, 1) := by decide +kernel
theorem dX12_cutAll_54 : decode cX12_cutAll 54 = .ok (.lstore 5, 2) := by decide +kernel
theorem dX12_cutAll_56 : decode cX12_cutAll 56 = .ok (.aload_n 0, 1) := by decide +kernel
theorem dX12_cutAll_57 : decode cX12_cutAll 57 = .ok (.getfield 27, 3) := by decide +kernel
theorem dX12_cutAll_60 : decode cX12_cutAll 60 = .ok (.iload_n 1, 1) := by decide +kernel
theorem dX12_cutAll_61 : decode cX12_cutAll 61 = .ok (.iload_n 2, 1) := by decide +kernel
theorem dX12_cutAll_62 : decode cX12_cutAll 62 = .ok (.iastore, 1) := by decide +kernel
theorem dX12_cutAll_63 : decode cX12_cutAll 63 = .ok (.iload_n 3, 1) := by decide +kernel
theorem dX12_cutAll_64 : decode cX12_cutAll 64 = .ok (.invokestatic 136, 3) := by decide +kernel
theorem dX12_cutAll_279 : decode cX12_cutAll 279 = .ok (.aload_n 0, 1) := by decide +kernel
theorem dX12_cutAll_280 : decode cX12_cutAll 280 = .ok (.getfield 24, 3) := by decide +kernel
theorem dX12_cutAll_283 : decode cX12_cutAll 283 = .ok (.iload_n 1, 1) := by decide +kernel
theorem dX12_cutAll_284 : decode cX12_cutAll 284 = .ok (.iconst 0, 1) := by decide +kernel
theorem dX12_cutAll_285 : decode cX12_cutAll 285 = .ok (.iastore, 1) := by decide +kernel
theorem dX12_cutAll_286 : decode cX12_cutAll 286 = .ok (.aload_n 0, 1) := by decide +kernel
theorem dX12_cutAll_287 : decode cX12_cutAll 287 = .ok (.getfield 27, 3) := by decide +kernel
theorem dX12_cutAll_290 : decode cX12_cutAll 290 = .ok (.iload_n 1, 1) := by decide +kernel
theorem dX12_cutAll_291 : decode cX12_cutAll 291 = .ok (.aload_n 0, 1) := by decide +kernel
theorem dX12_cutAll_292 : decode cX12_cutAll 292 = .ok (.getfield 140, 3) := by decide +kernel
theorem dX12_cutAll_295 : decode cX12_cutAll 295 = .ok (.iastore, 1) := by decide +kernel
theorem dX12_cutAll_296 : decode cX12_cutAll 296 = .ok (.aload_n 0, 1) := by decide +kernel
theorem dX12_cutAll_297 : decode cX12_cutAll 297 = .ok (.iconst 0, 1) := by decide +kernel
theorem dX12_cutAll_298 : decode cX12_cutAll 298 = .ok (.putfield 159, 3) := by decide +kernel
theorem dX12_cutAll_301 : decode cX12_cutAll 301 = .ok (.aload_n 0, 1) := by decide +kernel
theorem dX12_cutAll_302 : decode cX12_cutAll 302 = .ok (.iconst 0, 1) := by decide +kernel
theorem dX12_cutAll_303 : decode cX12_cutAll 303 = .ok (.putfield 162, 3) := by decide +kernel
theorem dX12_cutAll_306 : decode cX12_cutAll 306 = .ok (.return_, 1) := by decide +kernel
theorem dX12_isLetter_0 : decode cX12_isLetter 0 = .ok (.iload_n 0, 1) := by decide +kernel
theorem dX12_isLetter_1 : decode cX12_isLetter 1 = .ok (.bipush 97, 2) := by decide +kernel
theorem dX12_isLetter_3 : decode cX12_isLetter 3 = .ok (.if_icmp .lt 13, 3) := by decide +kernel
theorem dX12_isLetter_6 : decode cX12_isLetter 6 = .ok (.iload_n 0, 1) := by decide +kernel
theorem dX12_isLetter_7 : decode cX12_isLetter 7 = .ok (.bipush 122, 2) := by decide +kernel
theorem dX12_isLetter_9 : decode cX12_isLetter 9 = .ok (.if_icmp .gt 7, 3) := by decide +kernel
theorem dX12_isLetter_12 : decode cX12_isLetter 12 = .ok (.iconst 1, 1) := by decide +kernel
theorem dX12_isLetter_13 : decode cX12_isLetter 13 = .ok (.goto 4, 3) := by decide +kernel
theorem dX12_isLetter_16 : decode cX12_isLetter 16 = .ok (.iconst 0, 1) := by decide +kernel
theorem dX12_isLetter_17 : decode cX12_isLetter 17 = .ok (.ireturn, 1) := by decide +kernel
set_option maxHeartbeats 4000000 in
set_option maxRecDepth 100000 in
theorem s_X12_isLetter {P : PP} {a0 : Int32} (I : IV P) : CtrI yX12_isLetter cX12_isLetter 1 (some Jvm.ClassFile.FieldType.boolean) ({ frames := 1, cells := 0, slots := 0, locals := 64 } : Room) 0 0 P [.int a0] (fun r P2 => P = P2 ∧ (0 ≤ r.toInt ∧ r.toInt ≤ 1) ∧ (r.toInt = 0 ∨ (((97 : Int) ≤ a0.toInt ∧ a0.toInt ≤ (122 : Int)))) ∧ (r.toInt ≠ 0 ∨ a0.toInt < 97 ∨ 122 < a0.toInt)) := by
  refine enI (lv := [(0, .int a0)]) (by decide) (Nat.le_of_ble_eq_true rfl) rfl (fun E D cy C Ci0 ret => ?_)
  have J16 : (a0.toInt < 97 ∨ 122 < a0.toInt) → G E ({ frames := 1, cells := 0, slots := 0, locals := 64 } : Room) D cy 1 P 0 0 16 [] [] := by
    intro rel16_0
    refine g_iconst (v := 0) C dX12_isLetter_16 (by decide) ?_
    exact ret _ _ _ _ _ _ dX12_isLetter_17 rfl (by decide) (by decide) ⟨rfl, (by decide), Or.inl rfl, (by show (0 : Int) ≠ 0 ∨ a0.toInt < 97 ∨ 122 < a0.toInt; omega)⟩
  refine g_iload_n C dX12_isLetter_0 rfl 0 rfl ?_
  refine g_bipush (v := 97) C dX12_isLetter_1 (by decide) ?_
  have u42927 := ti_rng a0
  refine b_icmp_lt C 16 dX12_isLetter_3 (by decide) (fun h42926 => ?_) (fun h42926 => ?_)
  · have h42926 : a0.toInt < 97 := h42926
    refine g_lv (lv' := []) [] rfl ?_
    exact J16 (by show a0.toInt < 97 ∨ 122 < a0.toInt; omega)
  · have h42926 : 97 ≤ a0.toInt := h42926
    refine g_iload_n C dX12_isLetter_6 rfl 0 rfl ?_
    refine g_bipush (v := 122) C dX12_isLetter_7 (by decide) ?_
    have u42929 := ti_rng a0
    refine b_icmp_gt C 16 dX12_isLetter_9 (by decide) (fun h42928 => ?_) (fun h42928 => ?_)
    · have h42928 : 122 < a0.toInt := h42928
      refine g_lv (lv' := []) [] rfl ?_
      exact J16 (by show a0.toInt < 97 ∨ 122 < a0.toInt; omega)
    · have h42928 : a0.toInt ≤ 122 := h42928
      refine g_iconst (v := 1) C dX12_isLetter_12 (by decide) ?_
      refine g_goto C 17 dX12_isLetter_13 (by decide) ?_
      exact ret _ _ _ _ _ _ dX12_isLetter_17 rfl (by decide) (by decide) ⟨rfl, (by decide), Or.inr (by omega), (by show (1 : Int) ≠ 0 ∨ a0.toInt < 97 ∨ 122 < a0.toInt; omega)⟩
theorem dX12_cutAll_67 : decode cX12_cutAll 67 = .ok (.ifCond .eq 85, 3) := by decide +kernel
theorem dX12_cutAll_152 : decode cX12_cutAll 152 = .ok (.iload_n 3, 1) := by decide +kernel
theorem dX12_cutAll_153 : decode cX12_cutAll 153 = .ok (.invokestatic 149, 3) := by decide +kernel
theorem dX12_isDigit_0 : decode cX12_isDigit 0 = .ok (.iload_n 0, 1) := by decide +kernel
theorem dX12_isDigit_1 : decode cX12_isDigit 1 = .ok (.bipush 48, 2) := by decide +kernel
theorem dX12_isDigit_3 : decode cX12_isDigit 3 = .ok (.if_icmp .lt 13, 3) := by decide +kernel
theorem dX12_isDigit_6 : decode cX12_isDigit 6 = .ok (.iload_n 0, 1) := by decide +kernel
theorem dX12_isDigit_7 : decode cX12_isDigit 7 = .ok (.bipush 57, 2) := by decide +kernel
theorem dX12_isDigit_9 : decode cX12_isDigit 9 = .ok (.if_icmp .gt 7, 3) := by decide +kernel
theorem dX12_isDigit_12 : decode cX12_isDigit 12 = .ok (.iconst 1, 1) := by decide +kernel
theorem dX12_isDigit_13 : decode cX12_isDigit 13 = .ok (.goto 4, 3) := by decide +kernel
theorem dX12_isDigit_16 : decode cX12_isDigit 16 = .ok (.iconst 0, 1) := by decide +kernel
theorem dX12_isDigit_17 : decode cX12_isDigit 17 = .ok (.ireturn, 1) := by decide +kernel
set_option maxHeartbeats 4000000 in
set_option maxRecDepth 100000 in
theorem s_X12_isDigit {P : PP} {a0 : Int32} (I : IV P) : CtrI yX12_isDigit cX12_isDigit 1 (some Jvm.ClassFile.FieldType.boolean) ({ frames := 1, cells := 0, slots := 0, locals := 64 } : Room) 0 0 P [.int a0] (fun r P2 => P = P2 ∧ (0 ≤ r.toInt ∧ r.toInt ≤ 1) ∧ (r.toInt = 0 ∨ (((48 : Int) ≤ a0.toInt ∧ a0.toInt ≤ (57 : Int)))) ∧ (r.toInt ≠ 0 ∨ a0.toInt < 48 ∨ 57 < a0.toInt)) := by
  refine enI (lv := [(0, .int a0)]) (by decide) (Nat.le_of_ble_eq_true rfl) rfl (fun E D cy C Ci0 ret => ?_)
  have J16 : (a0.toInt < 48 ∨ 57 < a0.toInt) → G E ({ frames := 1, cells := 0, slots := 0, locals := 64 } : Room) D cy 1 P 0 0 16 [] [] := by
    intro rel16_0
    refine g_iconst (v := 0) C dX12_isDigit_16 (by decide) ?_
    exact ret _ _ _ _ _ _ dX12_isDigit_17 rfl (by decide) (by decide) ⟨rfl, (by decide), Or.inl rfl, (by show (0 : Int) ≠ 0 ∨ a0.toInt < 48 ∨ 57 < a0.toInt; omega)⟩
  refine g_iload_n C dX12_isDigit_0 rfl 0 rfl ?_
  refine g_bipush (v := 48) C dX12_isDigit_1 (by decide) ?_
  have u43049 := ti_rng a0
  refine b_icmp_lt C 16 dX12_isDigit_3 (by decide) (fun h43048 => ?_) (fun h43048 => ?_)
  · have h43048 : a0.toInt < 48 := h43048
    refine g_lv (lv' := []) [] rfl ?_
    exact J16 (by show a0.toInt < 48 ∨ 57 < a0.toInt; omega)
  · have h43048 : 48 ≤ a0.toInt := h43048
    refine g_iload_n C dX12_isDigit_6 rfl 0 rfl ?_
    refine g_bipush (v := 57) C dX12_isDigit_7 (by decide) ?_
    have u43051 := ti_rng a0
    refine b_icmp_gt C 16 dX12_isDigit_9 (by decide) (fun h43050 => ?_) (fun h43050 => ?_)
    · have h43050 : 57 < a0.toInt := h43050
      refine g_lv (lv' := []) [] rfl ?_
      exact J16 (by show a0.toInt < 48 ∨ 57 < a0.toInt; omega)
    · have h43050 : a0.toInt ≤ 57 := h43050
      refine g_iconst (v := 1) C dX12_isDigit_12 (by decide) ?_
      refine g_goto C 17 dX12_isDigit_13 (by decide) ?_
      exact ret _ _ _ _ _ _ dX12_isDigit_17 rfl (by decide) (by decide) ⟨rfl, (by decide), Or.inr (by omega), (by show (1 : Int) ≠ 0 ∨ a0.toInt < 48 ∨ 57 < a0.toInt; omega)⟩
theorem dX12_cutAll_156 : decode cX12_cutAll 156 = .ok (.ifCond .eq 84, 3) := by decide +kernel
theorem dX12_cutAll_240 : decode cX12_cutAll 240 = .ok (.iload_n 3, 1) := by decide +kernel
theorem dX12_cutAll_241 : decode cX12_cutAll 241 = .ok (.i2l, 1) := by decide +kernel
theorem dX12_cutAll_242 : decode cX12_cutAll 242 = .ok (.lstore 5, 2) := by decide +kernel
theorem dX12_cutAll_244 : decode cX12_cutAll 244 = .ok (.aload_n 0, 1) := by decide +kernel
theorem dX12_cutAll_245 : decode cX12_cutAll 245 = .ok (.getfield 24, 3) := by decide +kernel
theorem dX12_cutAll_248 : decode cX12_cutAll 248 = .ok (.iload_n 1, 1) := by decide +kernel
theorem dX12_cutAll_249 : decode cX12_cutAll 249 = .ok (.iload_n 3, 1) := by decide +kernel
theorem dX12_cutAll_250 : decode cX12_cutAll 250 = .ok (.invokestatic 156, 3) := by decide +kernel
theorem dX12_isSignOf_0 : decode cX12_isSignOf 0 = .ok (.iload_n 0, 1) := by decide +kernel
theorem dX12_isSignOf_1 : decode cX12_isSignOf 1 = .ok (.bipush 59, 2) := by decide +kernel
theorem dX12_isSignOf_3 : decode cX12_isSignOf 3 = .ok (.if_icmp .ne 7, 3) := by decide +kernel
theorem dX12_isSignOf_6 : decode cX12_isSignOf 6 = .ok (.iconst 1, 1) := by decide +kernel
theorem dX12_isSignOf_7 : decode cX12_isSignOf 7 = .ok (.goto 4, 3) := by decide +kernel
theorem dX12_isSignOf_10 : decode cX12_isSignOf 10 = .ok (.iconst 0, 1) := by decide +kernel
theorem dX12_isSignOf_11 : decode cX12_isSignOf 11 = .ok (.ireturn, 1) := by decide +kernel
set_option maxHeartbeats 4000000 in
set_option maxRecDepth 100000 in
theorem s_X12_isSignOf {P : PP} {a0 : Int32} (I : IV P) : CtrI yX12_isSignOf cX12_isSignOf 1 (some Jvm.ClassFile.FieldType.boolean) ({ frames := 1, cells := 0, slots := 0, locals := 64 } : Room) 0 0 P [.int a0] (fun r P2 => P = P2 ∧ (0 ≤ r.toInt ∧ r.toInt ≤ 1) ∧ (r.toInt = 0 ∨ (((59 : Int) ≤ a0.toInt ∧ a0.toInt ≤ (59 : Int))))) := by
  refine enI (lv := [(0, .int a0)]) (by decide) (Nat.le_of_ble_eq_true rfl) rfl (fun E D cy C Ci0 ret => ?_)
  refine g_iload_n C dX12_isSignOf_0 rfl 0 rfl ?_
  refine g_bipush (v := 59) C dX12_isSignOf_1 (by decide) ?_
  have u43179 := ti_rng a0
  refine b_icmp_ne C 10 dX12_isSignOf_3 (by decide) (fun h43178 => ?_) (fun h43178 => ?_)
  · have h43178 : a0.toInt ≠ 59 := ti_ne h43178
    refine g_iconst (v := 0) C dX12_isSignOf_10 (by decide) ?_
    exact ret _ _ _ _ _ _ dX12_isSignOf_11 rfl (by decide) (by decide) ⟨rfl, (by decide), Or.inl rfl⟩
  · have h43178 : a0.toInt = 59 := congrArg Int32.toInt h43178
    refine g_iconst (v := 1) C dX12_isSignOf_6 (by decide) ?_
    refine g_goto C 11 dX12_isSignOf_7 (by decide) ?_
    exact ret _ _ _ _ _ _ dX12_isSignOf_11 rfl (by decide) (by decide) ⟨rfl, (by decide), Or.inr (by omega)⟩
theorem dX12_cutAll_44 : decode cX12_cutAll 44 = .ok (.iinc 2 1, 3) := by decide +kernel
theorem dX12_cutAll_47 : decode cX12_cutAll 47 = .ok (.goto (-30), 3) := by decide +kernel
theorem dX12_cutAll_70 : decode cX12_cutAll 70 = .ok (.iload_n 2, 1) := by decide +kernel
theorem dX12_cutAll_71 : decode cX12_cutAll 71 = .ok (.aload_n 0, 1) := by decide +kernel
theorem dX12_cutAll_72 : decode cX12_cutAll 72 = .ok (.getfield 140, 3) := by decide +kernel
theorem dX12_cutAll_75 : decode cX12_cutAll 75 = .ok (.if_icmp .ge 54, 3) := by decide +kernel
theorem dX12_cutAll_78 : decode cX12_cutAll 78 = .ok (.aload_n 0, 1) := by decide +kernel
theorem dX12_cutAll_79 : decode cX12_cutAll 79 = .ok (.getfield 14, 3) := by decide +kernel
theorem dX12_cutAll_82 : decode cX12_cutAll 82 = .ok (.iload_n 2, 1) := by decide +kernel
theorem dX12_cutAll_83 : decode cX12_cutAll 83 = .ok (.iaload, 1) := by decide +kernel
theorem dX12_cutAll_84 : decode cX12_cutAll 84 = .ok (.invokestatic 136, 3) := by decide +kernel
theorem dX12_cutAll_87 : decode cX12_cutAll 87 = .ok (.ifCond .eq 42, 3) := by decide +kernel
theorem dX12_cutAll_90 : decode cX12_cutAll 90 = .ok (.iload_n 2, 1) := by decide +kernel
theorem dX12_cutAll_91 : decode cX12_cutAll 91 = .ok (.iload 4, 2) := by decide +kernel
theorem dX12_cutAll_93 : decode cX12_cutAll 93 = .ok (.isub, 1) := by decide +kernel
theorem dX12_cutAll_94 : decode cX12_cutAll 94 = .ok (.bipush 8, 2) := by decide +kernel
theorem dX12_cutAll_96 : decode cX12_cutAll 96 = .ok (.if_icmp .ge 23, 3) := by decide +kernel
theorem dX12_cutAll_99 : decode cX12_cutAll 99 = .ok (.ldc2_w 143, 3) := by decide +kernel
theorem dX12_cutAll_102 : decode cX12_cutAll 102 = .ok (.lload 5, 2) := by decide +kernel
theorem dX12_cutAll_104 : decode cX12_cutAll 104 = .ok (.lmul, 1) := by decide +kernel
theorem dX12_cutAll_105 : decode cX12_cutAll 105 = .ok (.aload_n 0, 1) := by decide +kernel
theorem dX12_cutAll_106 : decode cX12_cutAll 106 = .ok (.getfield 14, 3) := by decide +kernel
theorem dX12_cutAll_109 : decode cX12_cutAll 109 = .ok (.iload_n 2, 1) := by decide +kernel
theorem dX12_cutAll_110 : decode cX12_cutAll 110 = .ok (.iaload, 1) := by decide +kernel
theorem dX12_cutAll_111 : decode cX12_cutAll 111 = .ok (.invokestatic 145, 3) := by decide +kernel
theorem dX12_cutAll_159 : decode cX12_cutAll 159 = .ok (.iload_n 2, 1) := by decide +kernel
theorem dX12_cutAll_160 : decode cX12_cutAll 160 = .ok (.aload_n 0, 1) := by decide +kernel
theorem dX12_cutAll_161 : decode cX12_cutAll 161 = .ok (.getfield 140, 3) := by decide +kernel
theorem dX12_cutAll_164 : decode cX12_cutAll 164 = .ok (.if_icmp .ge 54, 3) := by decide +kernel
theorem dX12_cutAll_167 : decode cX12_cutAll 167 = .ok (.aload_n 0, 1) := by decide +kernel
theorem dX12_cutAll_168 : decode cX12_cutAll 168 = .ok (.getfield 14, 3) := by decide +kernel
theorem dX12_cutAll_171 : decode cX12_cutAll 171 = .ok (.iload_n 2, 1) := by decide +kernel
theorem dX12_cutAll_172 : decode cX12_cutAll 172 = .ok (.iaload, 1) := by decide +kernel
theorem dX12_cutAll_173 : decode cX12_cutAll 173 = .ok (.invokestatic 149, 3) := by decide +kernel
theorem dX12_cutAll_176 : decode cX12_cutAll 176 = .ok (.ifCond .eq 42, 3) := by decide +kernel
theorem dX12_cutAll_179 : decode cX12_cutAll 179 = .ok (.iload_n 2, 1) := by decide +kernel
theorem dX12_cutAll_180 : decode cX12_cutAll 180 = .ok (.iload 4, 2) := by decide +kernel
theorem dX12_cutAll_182 : decode cX12_cutAll 182 = .ok (.isub, 1) := by decide +kernel
theorem dX12_cutAll_183 : decode cX12_cutAll 183 = .ok (.iconst 4, 1) := by decide +kernel
theorem dX12_cutAll_184 : decode cX12_cutAll 184 = .ok (.if_icmp .ge 24, 3) := by decide +kernel
theorem dX12_cutAll_187 : decode cX12_cutAll 187 = .ok (.ldc2_w 152, 3) := by decide +kernel
theorem dX12_cutAll_190 : decode cX12_cutAll 190 = .ok (.lload 5, 2) := by decide +kernel
theorem dX12_cutAll_192 : decode cX12_cutAll 192 = .ok (.lmul, 1) := by decide +kernel
theorem dX12_cutAll_193 : decode cX12_cutAll 193 = .ok (.aload_n 0, 1) := by decide +kernel
theorem dX12_cutAll_194 : decode cX12_cutAll 194 = .ok (.getfield 14, 3) := by decide +kernel
theorem dX12_cutAll_197 : decode cX12_cutAll 197 = .ok (.iload_n 2, 1) := by decide +kernel
theorem dX12_cutAll_198 : decode cX12_cutAll 198 = .ok (.iaload, 1) := by decide +kernel
theorem dX12_cutAll_199 : decode cX12_cutAll 199 = .ok (.i2l, 1) := by decide +kernel
theorem dX12_cutAll_200 : decode cX12_cutAll 200 = .ok (.ladd, 1) := by decide +kernel
theorem dX12_cutAll_201 : decode cX12_cutAll 201 = .ok (.ldc2_w 154, 3) := by decide +kernel
theorem dX12_cutAll_204 : decode cX12_cutAll 204 = .ok (.lsub, 1) := by decide +kernel
theorem dX12_cutAll_205 : decode cX12_cutAll 205 = .ok (.goto 5, 3) := by decide +kernel
theorem dX12_cutAll_253 : decode cX12_cutAll 253 = .ok (.ifCond .eq 7, 3) := by decide +kernel
theorem dX12_cutAll_256 : decode cX12_cutAll 256 = .ok (.iconst 3, 1) := by decide +kernel
theorem dX12_cutAll_257 : decode cX12_cutAll 257 = .ok (.goto 4, 3) := by decide +kernel
theorem dX12_cutAll_260 : decode cX12_cutAll 260 = .ok (.iconst 4, 1) := by decide +kernel
theorem dX12_cutAll_261 : decode cX12_cutAll 261 = .ok (.iastore, 1) := by decide +kernel
theorem dX12_cutAll_262 : decode cX12_cutAll 262 = .ok (.iinc 2 1, 3) := by decide +kernel
theorem dX12_rank_0 : decode cX12_rank 0 = .ok (.iload_n 0, 1) := by decide +kernel
theorem dX12_rank_1 : decode cX12_rank 1 = .ok (.invokestatic 136, 3) := by decide +kernel
theorem dX12_rank_4 : decode cX12_rank 4 = .ok (.ifCond .eq 10, 3) := by decide +kernel
theorem dX12_rank_7 : decode cX12_rank 7 = .ok (.iload_n 0, 1) := by decide +kernel
theorem dX12_rank_8 : decode cX12_rank 8 = .ok (.bipush 96, 2) := by decide +kernel
theorem dX12_rank_10 : decode cX12_rank 10 = .ok (.isub, 1) := by decide +kernel
theorem dX12_rank_11 : decode cX12_rank 11 = .ok (.goto 7, 3) := by decide +kernel
theorem dX12_rank_14 : decode cX12_rank 14 = .ok (.iload_n 0, 1) := by decide +kernel
theorem dX12_rank_15 : decode cX12_rank 15 = .ok (.bipush 21, 2) := by decide +kernel
theorem dX12_rank_17 : decode cX12_rank 17 = .ok (.isub, 1) := by decide +kernel
theorem dX12_rank_18 : decode cX12_rank 18 = .ok (.ireturn, 1) := by decide +kernel
set_option maxHeartbeats 4000000 in
set_option maxRecDepth 100000 in
theorem s_X12_rank {P : PP} {a0 : Int32} (I : IV P) : CtrI yX12_rank cX12_rank 1 (some Jvm.ClassFile.FieldType.int) ({ frames := 2, cells := 0, slots := 0, locals := 128 } : Room) 0 0 P [.int a0] (fun r P2 => P = P2 ∧ (True)) := by
  refine enI (lv := [(0, .int a0)]) (by decide) (Nat.le_of_ble_eq_true rfl) rfl (fun E D cy C Ci0 ret => ?_)
  refine g_iload_n C dX12_rank_0 rfl 0 rfl ?_
  refine g_callSI (b := 0) (ci := 0) (rest := []) C ms_X12_136 [.int a0] (s_X12_isLetter I) rfl rfl (by decide) (Nat.le_of_ble_eq_true rfl) (by decide) dX12_rank_1 (fun r43384 Y43385 h43386 => ?_)
  obtain ⟨rfl, h43386⟩ := h43386
  obtain ⟨h43386, hi43387, hi43388⟩ := h43386
  have hi43387 : r43384.toInt = 0 ∨ (((97 : Int) ≤ a0.toInt ∧ a0.toInt ≤ (122 : Int))) := hi43387
  have hi43388 : r43384.toInt ≠ 0 ∨ a0.toInt < 97 ∨ 122 < a0.toInt := hi43388
  have h43386 : 0 ≤ r43384.toInt ∧ r43384.toInt ≤ 1 := h43386
  refine b_if_eq C 14 dX12_rank_4 (by decide) (fun h43389 => ?_) (fun h43389 => ?_)
  · have h43389 : r43384.toInt = 0 := congrArg Int32.toInt h43389
    clear hi43387
    refine g_iload_n C dX12_rank_14 rfl 0 rfl ?_
    refine g_bipush (v := 21) C dX12_rank_15 (by decide) ?_
    refine a_isub C dX12_rank_17 (fun z43390 => ?_)
    exact ret _ _ _ _ _ _ dX12_rank_18 rfl (by decide) (by decide) ⟨rfl, trivial⟩
  · have h43389 : r43384.toInt ≠ 0 := ti_ne h43389
    replace hi43387 := hi43387.resolve_left (by omega)
    refine g_iload_n C dX12_rank_7 rfl 0 rfl ?_
    refine g_bipush (v := 96) C dX12_rank_8 (by decide) ?_
    refine s_isub C dX12_rank_10 (by show -2147483648 ≤ a0.toInt - 96 ∧ a0.toInt - 96 ≤ 2147483647; omega) (fun z43392 h43393 => ?_)
    have h43393 : z43392.toInt = a0.toInt - 96 := h43393
    refine g_goto C 18 dX12_rank_11 (by decide) ?_
    exact ret _ _ _ _ _ _ dX12_rank_18 rfl (by decide) (by decide) ⟨rfl, trivial⟩
theorem dX12_cutAll_114 : decode cX12_cutAll 114 = .ok (.i2l, 1) := by decide +kernel
theorem dX12_cutAll_115 : decode cX12_cutAll 115 = .ok (.ladd, 1) := by decide +kernel
theorem dX12_cutAll_116 : decode cX12_cutAll 116 = .ok (.goto 5, 3) := by decide +kernel
theorem dX12_cutAll_119 : decode cX12_cutAll 119 = .ok (.lload 5, 2) := by decide +kernel
theorem dX12_cutAll_121 : decode cX12_cutAll 121 = .ok (.lstore 5, 2) := by decide +kernel
theorem dX12_cutAll_123 : decode cX12_cutAll 123 = .ok (.iinc 2 1, 3) := by decide +kernel
theorem dX12_cutAll_126 : decode cX12_cutAll 126 = .ok (.goto (-56), 3) := by decide +kernel
theorem dX12_cutAll_129 : decode cX12_cutAll 129 = .ok (.aload_n 0, 1) := by decide +kernel
theorem dX12_cutAll_130 : decode cX12_cutAll 130 = .ok (.getfield 24, 3) := by decide +kernel
theorem dX12_cutAll_133 : decode cX12_cutAll 133 = .ok (.iload_n 1, 1) := by decide +kernel
theorem dX12_cutAll_134 : decode cX12_cutAll 134 = .ok (.iload_n 2, 1) := by decide +kernel
theorem dX12_cutAll_135 : decode cX12_cutAll 135 = .ok (.iload 4, 2) := by decide +kernel
theorem dX12_cutAll_137 : decode cX12_cutAll 137 = .ok (.isub, 1) := by decide +kernel
theorem dX12_cutAll_138 : decode cX12_cutAll 138 = .ok (.bipush 8, 2) := by decide +kernel
theorem dX12_cutAll_140 : decode cX12_cutAll 140 = .ok (.if_icmp .le 7, 3) := by decide +kernel
theorem dX12_cutAll_143 : decode cX12_cutAll 143 = .ok (.iconst 4, 1) := by decide +kernel
theorem dX12_cutAll_144 : decode cX12_cutAll 144 = .ok (.goto 4, 3) := by decide +kernel
theorem dX12_cutAll_147 : decode cX12_cutAll 147 = .ok (.iconst 1, 1) := by decide +kernel
theorem dX12_cutAll_148 : decode cX12_cutAll 148 = .ok (.iastore, 1) := by decide +kernel
theorem dX12_cutAll_149 : decode cX12_cutAll 149 = .ok (.goto 116, 3) := by decide +kernel
theorem dX12_cutAll_208 : decode cX12_cutAll 208 = .ok (.lload 5, 2) := by decide +kernel
theorem dX12_cutAll_210 : decode cX12_cutAll 210 = .ok (.lstore 5, 2) := by decide +kernel
theorem dX12_cutAll_212 : decode cX12_cutAll 212 = .ok (.iinc 2 1, 3) := by decide +kernel
theorem dX12_cutAll_215 : decode cX12_cutAll 215 = .ok (.goto (-56), 3) := by decide +kernel
theorem dX12_cutAll_218 : decode cX12_cutAll 218 = .ok (.aload_n 0, 1) := by decide +kernel
theorem dX12_cutAll_219 : decode cX12_cutAll 219 = .ok (.getfield 24, 3) := by decide +kernel
theorem dX12_cutAll_222 : decode cX12_cutAll 222 = .ok (.iload_n 1, 1) := by decide +kernel
theorem dX12_cutAll_223 : decode cX12_cutAll 223 = .ok (.iload_n 2, 1) := by decide +kernel
theorem dX12_cutAll_224 : decode cX12_cutAll 224 = .ok (.iload 4, 2) := by decide +kernel
theorem dX12_cutAll_226 : decode cX12_cutAll 226 = .ok (.isub, 1) := by decide +kernel
theorem dX12_cutAll_227 : decode cX12_cutAll 227 = .ok (.iconst 4, 1) := by decide +kernel
theorem dX12_cutAll_228 : decode cX12_cutAll 228 = .ok (.if_icmp .le 7, 3) := by decide +kernel
theorem dX12_cutAll_231 : decode cX12_cutAll 231 = .ok (.iconst 4, 1) := by decide +kernel
theorem dX12_cutAll_232 : decode cX12_cutAll 232 = .ok (.goto 4, 3) := by decide +kernel
theorem dX12_cutAll_235 : decode cX12_cutAll 235 = .ok (.iconst 2, 1) := by decide +kernel
theorem dX12_cutAll_236 : decode cX12_cutAll 236 = .ok (.iastore, 1) := by decide +kernel
theorem dX12_cutAll_237 : decode cX12_cutAll 237 = .ok (.goto 28, 3) := by decide +kernel
theorem dX12_cutAll_265 : decode cX12_cutAll 265 = .ok (.aload_n 0, 1) := by decide +kernel
theorem dX12_cutAll_266 : decode cX12_cutAll 266 = .ok (.getfield 30, 3) := by decide +kernel
theorem dX12_cutAll_269 : decode cX12_cutAll 269 = .ok (.iload_n 1, 1) := by decide +kernel
theorem dX12_cutAll_270 : decode cX12_cutAll 270 = .ok (.lload 5, 2) := by decide +kernel
theorem dX12_cutAll_272 : decode cX12_cutAll 272 = .ok (.lastore, 1) := by decide +kernel
theorem dX12_cutAll_273 : decode cX12_cutAll 273 = .ok (.iinc 1 1, 3) := by decide +kernel
theorem dX12_cutAll_276 : decode cX12_cutAll 276 = .ok (.goto (-259), 3) := by decide +kernel
set_option maxHeartbeats 4000000 in
set_option maxRecDepth 100000 in
theorem s_X12_cutAll {P : PP} {a0 : Nat} (I : IM P a0) (hW : MW P a0) : CtrV yX12_cutAll cX12_cutAll 7 none ({ frames := 3, cells := 0, slots := 0, locals := 192 } : Room) 0 0 P [.ref a0] (fun P2 => IM P2 a0 ∧ EM [2, 3, 4, 5, 7, 8] a0 P P2 ∧ MW P2 a0) := by
  refine enV (lv := [(0, .ref a0)]) (by decide) (Nat.le_of_ble_eq_true rfl) rfl (fun E D cy C Ci0 ret => ?_)
  have ha0 := I.2.1
  have J17 : ∀ (n17 : Nat) (P17 : PP) (v17_1 : Int32) (v17_2 : Int32), (1000 - v17_2.toInt).toNat < n17 → (IM P17 a0) → (EM [2, 3, 4, 5, 7, 8] a0 P P17) → (MW P17 a0) → (0 ≤ v17_1.toInt ∧ v17_1.toInt ≤ 1000) → (0 ≤ v17_2.toInt ∧ v17_2.toInt ≤ 1000) → (0 ≤ (pI P17 a0 2).toInt ∧ (pI P17 a0 2).toInt ≤ 0) → (v17_1.toInt ≤ v17_2.toInt) → G E ({ frames := 3, cells := 0, slots := 0, locals := 192 } : Room) D cy 7 P17 0 0 17 [(0, .ref a0), (1, .int v17_1), (2, .int v17_2)] [] := by
    intro n17
    induction n17 with
    | zero => intro P17 v17_1 v17_2 hm17 I17 X17 W17 hv17_1 hv17_2 hq17_0 rel17_0; omega
    | succ n17 ih17 =>
      intro P17 v17_1 v17_2 hm17 I17 X17 W17 hv17_1 hv17_2 hq17_0 rel17_0
      have h54691 := X17.at ha0
      have J265 : ∀ (P265 : PP) (v265_2 : Int32) (l265_5 : Int64), (IM P265 a0) → (EM [2, 3, 4, 5, 7, 8] a0 P P265) → (MW P265 a0) → (0 ≤ v265_2.toInt ∧ v265_2.toInt ≤ 1000) → (0 ≤ (pI P265 a0 2).toInt ∧ (pI P265 a0 2).toInt ≤ 0) → (1 ≤ (pI P265 a0 3).toInt ∧ (pI P265 a0 3).toInt ≤ 1000) → (∀ b, pR P265 a0 4 = some b → 1 ≤ (pI P265 b (v17_1.toInt.toNat)).toInt ∧ (pI P265 b (v17_1.toInt.toNat)).toInt ≤ 4) → (∀ b, pR P265 a0 5 = some b → 0 ≤ (pI P265 b (v17_1.toInt.toNat)).toInt ∧ (pI P265 b (v17_1.toInt.toNat)).toInt ≤ 999) → (v17_1.toInt < v265_2.toInt) → (v17_2.toInt < v265_2.toInt) → G E ({ frames := 3, cells := 0, slots := 0, locals := 192 } : Room) D cy 7 P265 0 0 265 [(0, .ref a0), (1, .int v17_1), (2, .int v265_2), (5, .long l265_5)] [] := by
        intro P265 v265_2 l265_5 I265 X265 W265 hv265_2 hq265_0 hq265_1 hq265_2 hq265_3 rel265_0 rel265_1
        have h54692 := X265.at ha0
        obtain ⟨b54693, e54694, h54695⟩ := I265.fld (h54692) 4 13 1002 rfl
        have hq265_2 := hq265_2 b54693 e54694
        obtain ⟨b54696, e54697, h54698⟩ := I265.fld (h54692) 5 13 1002 rfl
        have hq265_3 := hq265_3 b54696 e54697
        refine g_aload_n C dX12_cutAll_265 rfl 0 rfl ?_
        obtain ⟨b54699, e54700, h54701⟩ := I265.fld (h54692) 6 14 1002 rfl
        refine g_getR C fi_X12_30 rfl e54700 (h54692).1 (h54692).2 dX12_cutAll_266 ?_
        refine g_iload_n C dX12_cutAll_269 rfl 1 rfl ?_
        refine g_lload C dX12_cutAll_270 3 rfl ?_
        refine g_last (j := (v17_1.toInt.toNat)) C h54701.1 h54701.2.1 (ix_in h54701.2.2 (by omega)) dX12_cutAll_272 ?_
        refine gq (ks := []) (I265.setJ) (EM.setJ) (fun Y54702 Iy54703 Xy54704 => ?_)
        have q54705 := Xy54704.keepF 2 (by decide)
        have q54706 := Xy54704.keepF 3 (by decide)
        have q54707 := Xy54704.keepA e54694 (by decide) rfl (v17_1.toInt.toNat)
        have q54708 := Xy54704.keepA e54697 (by decide) rfl (v17_1.toInt.toNat)
        have W54709 := W265.keep I265 Xy54704 (by decide) (by decide) (by decide)
        have Xz54710 : EM [2, 3, 4, 5, 7, 8] a0 P Y54702 := EM.tr ha0 X265 (Xy54704.mono (by decide))
        have e54711 := Xy54704.ref h54692 (by decide) e54694
        have e54712 := Xy54704.ref h54692 (by decide) e54697
        have h54713 := Xy54704.at h54692
        have h54714 := Xy54704.ar h54695
        have h54715 := Xy54704.ar h54698
        refine s_iinc (lv0 := [(0, .ref a0), (2, .int v265_2), (5, .long l265_5)]) (m := 1) C dX12_cutAll_273 1 rfl (by decide) rfl (by decide) (by omega) (fun z54716 h54717 => ?_)
        have h54717 : z54716.toInt = v17_1.toInt + 1 := h54717
        refine g_goto C 17 dX12_cutAll_276 (by decide) ?_
        refine g_lv (lv' := [(0, .ref a0), (1, .int z54716), (2, .int v265_2)]) [1, 0, 2] rfl ?_
        exact ih17 Y54702 z54716 v265_2 (by omega) Iy54703 Xz54710 W54709 (by omega) (by omega) (by omega) (by show z54716.toInt ≤ v265_2.toInt; omega)
      have J261 : ∀ (P261 : PP) (l261_5 : Int64) (v261_s0 : Int32) (b261_s2 : Nat), (IM P261 a0) → (EM [2, 3, 4, 5, 7, 8] a0 P P261) → (MW P261 a0) → (0 ≤ v17_2.toInt ∧ v17_2.toInt ≤ 999) → (3 ≤ v261_s0.toInt ∧ v261_s0.toInt ≤ 4) → (Ar P261 b261_s2 13 1002) → (pR P261 a0 4 = some b261_s2) → (0 ≤ (pI P261 a0 2).toInt ∧ (pI P261 a0 2).toInt ≤ 0) → (1 ≤ (pI P261 a0 3).toInt ∧ (pI P261 a0 3).toInt ≤ 1000) → (∀ b, pR P261 a0 5 = some b → 0 ≤ (pI P261 b (v17_1.toInt.toNat)).toInt ∧ (pI P261 b (v17_1.toInt.toNat)).toInt ≤ 999) → (v17_1.toInt ≤ v17_2.toInt) → (v17_2.toInt = v17_2.toInt) → G E ({ frames := 3, cells := 0, slots := 0, locals := 192 } : Room) D cy 7 P261 0 0 261 [(0, .ref a0), (1, .int v17_1), (2, .int v17_2), (5, .long l261_5)] [.int v261_s0, .int v17_1, .ref b261_s2] := by
        intro P261 l261_5 v261_s0 b261_s2 I261 X261 W261 hv261_2 hv261_s0 hb261_s2 eb261_s2 hq261_0 hq261_1 hq261_2 rel261_0 rel261_1
        have h54718 := X261.at ha0
        obtain ⟨b54719, e54720, h54721⟩ := I261.fld (h54718) 5 13 1002 rfl
        have hq261_2 := hq261_2 b54719 e54720
        refine g_iast (j := (v17_1.toInt.toNat)) C hb261_s2.1 hb261_s2.2.1 (ix_in hb261_s2.2.2 (by omega)) dX12_cutAll_261 ?_
        refine gqW (ks := [4]) (I261.setA eb261_s2 hb261_s2 (by decide) (arOk.of rfl (by omega))) (EM.setA I261 eb261_s2 rfl (by decide)) (fun Y54722 Iy54723 Xy54724 w54725  => ?_)
        have w54725 : (pI Y54722 b261_s2 (v17_1.toInt.toNat)).toInt = v261_s0.toInt := w54725
        have q54726 := Xy54724.keepF 2 (by decide)
        have q54727 := Xy54724.keepF 3 (by decide)
        have q54728 := Xy54724.keepA e54720 (by decide) rfl (v17_1.toInt.toNat)
        have W54729 := W261.keep I261 Xy54724 (by decide) (by decide) (by decide)
        have Xz54730 : EM [2, 3, 4, 5, 7, 8] a0 P Y54722 := EM.tr ha0 X261 (Xy54724.mono (by decide))
        have e54731 := Xy54724.ref h54718 (by decide) eb261_s2
        have e54732 := Xy54724.ref h54718 (by decide) e54720
        have h54733 := Xy54724.at h54718
        have h54734 := Xy54724.ar hb261_s2
        have h54735 := Xy54724.ar h54721
        refine s_iinc (lv0 := [(0, .ref a0), (1, .int v17_1), (5, .long l261_5)]) (m := 1) C dX12_cutAll_262 2 rfl (by decide) rfl (by decide) (by omega) (fun z54736 h54737 => ?_)
        have h54737 : z54736.toInt = v17_2.toInt + 1 := h54737
        refine g_lv (lv' := [(0, .ref a0), (1, .int v17_1), (2, .int z54736), (5, .long l261_5)]) [1, 2, 0, 3] rfl ?_
        exact J265 Y54722 z54736 l261_5 Iy54723 Xz54730 W54729 (by omega) (by omega) (by omega) (fun b9 e9 => by rw [e54731] at e9; cases e9; omega) (fun b9 e9 => by rw [e54732] at e9; cases e9; omega) (by show v17_1.toInt < z54736.toInt; omega) (by show v17_2.toInt < z54736.toInt; omega)
      have J236 : ∀ (P236 : PP) (v236_2 : Int32) (l236_5 : Int64) (v236_s0 : Int32) (b236_s2 : Nat), (IM P236 a0) → (EM [2, 3, 4, 5, 7, 8] a0 P P236) → (MW P236 a0) → (0 ≤ v236_2.toInt ∧ v236_2.toInt ≤ 1000) → (2 ≤ v236_s0.toInt ∧ v236_s0.toInt ≤ 4) → (Ar P236 b236_s2 13 1002) → (pR P236 a0 4 = some b236_s2) → (0 ≤ (pI P236 a0 2).toInt ∧ (pI P236 a0 2).toInt ≤ 0) → (1 ≤ (pI P236 a0 3).toInt ∧ (pI P236 a0 3).toInt ≤ 1000) → (∀ b, pR P236 a0 5 = some b → 0 ≤ (pI P236 b (v17_1.toInt.toNat)).toInt ∧ (pI P236 b (v17_1.toInt.toNat)).toInt ≤ 999) → (v17_1.toInt < v236_2.toInt) → (v17_2.toInt < v236_2.toInt) → G E ({ frames := 3, cells := 0, slots := 0, locals := 192 } : Room) D cy 7 P236 0 0 236 [(0, .ref a0), (1, .int v17_1), (2, .int v236_2), (5, .long l236_5)] [.int v236_s0, .int v17_1, .ref b236_s2] := by
        intro P236 v236_2 l236_5 v236_s0 b236_s2 I236 X236 W236 hv236_2 hv236_s0 hb236_s2 eb236_s2 hq236_0 hq236_1 hq236_2 rel236_0 rel236_1
        have h54738 := X236.at ha0
        obtain ⟨b54739, e54740, h54741⟩ := I236.fld (h54738) 5 13 1002 rfl
        have hq236_2 := hq236_2 b54739 e54740
        refine g_iast (j := (v17_1.toInt.toNat)) C hb236_s2.1 hb236_s2.2.1 (ix_in hb236_s2.2.2 (by omega)) dX12_cutAll_236 ?_
        refine gqW (ks := [4]) (I236.setA eb236_s2 hb236_s2 (by decide) (arOk.of rfl (by omega))) (EM.setA I236 eb236_s2 rfl (by decide)) (fun Y54742 Iy54743 Xy54744 w54745  => ?_)
        have w54745 : (pI Y54742 b236_s2 (v17_1.toInt.toNat)).toInt = v236_s0.toInt := w54745
        have q54746 := Xy54744.keepF 2 (by decide)
        have q54747 := Xy54744.keepF 3 (by decide)
        have q54748 := Xy54744.keepA e54740 (by decide) rfl (v17_1.toInt.toNat)
        have W54749 := W236.keep I236 Xy54744 (by decide) (by decide) (by decide)
        have Xz54750 : EM [2, 3, 4, 5, 7, 8] a0 P Y54742 := EM.tr ha0 X236 (Xy54744.mono (by decide))
        have e54751 := Xy54744.ref h54738 (by decide) eb236_s2
        have e54752 := Xy54744.ref h54738 (by decide) e54740
        have h54753 := Xy54744.at h54738
        have h54754 := Xy54744.ar hb236_s2
        have h54755 := Xy54744.ar h54741
        refine g_goto C 265 dX12_cutAll_237 (by decide) ?_
        exact J265 Y54742 v236_2 l236_5 Iy54743 Xz54750 W54749 (by omega) (by omega) (by omega) (fun b9 e9 => by rw [e54751] at e9; cases e9; omega) (fun b9 e9 => by rw [e54752] at e9; cases e9; omega) (by show v17_1.toInt < v236_2.toInt; omega) (by show v17_2.toInt < v236_2.toInt; omega)
      have J218 : ∀ (P218 : PP) (v218_2 : Int32) (l218_5 : Int64), (IM P218 a0) → (EM [2, 3, 4, 5, 7, 8] a0 P P218) → (MW P218 a0) → (0 ≤ v218_2.toInt ∧ v218_2.toInt ≤ 1000) → (0 ≤ v17_2.toInt ∧ v17_2.toInt ≤ 999) → (0 ≤ (pI P218 a0 2).toInt ∧ (pI P218 a0 2).toInt ≤ 0) → (1 ≤ (pI P218 a0 3).toInt ∧ (pI P218 a0 3).toInt ≤ 1000) → (∀ b, pR P218 a0 5 = some b → 0 ≤ (pI P218 b (v17_1.toInt.toNat)).toInt ∧ (pI P218 b (v17_1.toInt.toNat)).toInt ≤ 999) → (v17_1.toInt ≤ v17_2.toInt) → (v17_2.toInt < v218_2.toInt) → (v17_2.toInt < v218_2.toInt) → G E ({ frames := 3, cells := 0, slots := 0, locals := 192 } : Room) D cy 7 P218 0 0 218 [(0, .ref a0), (1, .int v17_1), (2, .int v218_2), (4, .int v17_2), (5, .long l218_5)] [] := by
        intro P218 v218_2 l218_5 I218 X218 W218 hv218_2 hv218_4 hq218_0 hq218_1 hq218_2 rel218_0 rel218_1 rel218_2
        have h54756 := X218.at ha0
        obtain ⟨b54757, e54758, h54759⟩ := I218.fld (h54756) 5 13 1002 rfl
        have hq218_2 := hq218_2 b54757 e54758
        refine g_aload_n C dX12_cutAll_218 rfl 0 rfl ?_
        obtain ⟨b54760, e54761, h54762⟩ := I218.fld (h54756) 4 13 1002 rfl
        refine g_getR C fi_X12_24 rfl e54761 (h54756).1 (h54756).2 dX12_cutAll_219 ?_
        refine g_iload_n C dX12_cutAll_222 rfl 1 rfl ?_
        refine g_iload_n C dX12_cutAll_223 rfl 2 rfl ?_
        refine g_iload C dX12_cutAll_224 3 rfl ?_
        refine s_isub C dX12_cutAll_226 (by show -2147483648 ≤ v218_2.toInt - v17_2.toInt ∧ v218_2.toInt - v17_2.toInt ≤ 2147483647; omega) (fun z54763 h54764 => ?_)
        have h54764 : z54763.toInt = v218_2.toInt - v17_2.toInt := h54764
        refine g_iconst (v := 4) C dX12_cutAll_227 (by decide) ?_
        refine b_icmp_le C 235 dX12_cutAll_228 (by decide) (fun h54765 => ?_) (fun h54765 => ?_)
        · have h54765 : z54763.toInt ≤ 4 := h54765
          refine g_iconst (v := 2) C dX12_cutAll_235 (by decide) ?_
          refine g_lv (lv' := [(0, .ref a0), (1, .int v17_1), (2, .int v218_2), (5, .long l218_5)]) [0, 1, 2, 4] rfl ?_
          exact J236 P218 v218_2 l218_5 2 b54760 I218 X218 W218 (by omega) (by decide) h54762 e54761 (by omega) (by omega) (fun b9 e9 => by rw [e54758] at e9; cases e9; omega) (by show v17_1.toInt < v218_2.toInt; omega) (by show v17_2.toInt < v218_2.toInt; omega)
        · have h54765 : 4 < z54763.toInt := h54765
          refine g_iconst (v := 4) C dX12_cutAll_231 (by decide) ?_
          refine g_goto C 236 dX12_cutAll_232 (by decide) ?_
          refine g_lv (lv' := [(0, .ref a0), (1, .int v17_1), (2, .int v218_2), (5, .long l218_5)]) [0, 1, 2, 4] rfl ?_
          exact J236 P218 v218_2 l218_5 4 b54760 I218 X218 W218 (by omega) (by decide) h54762 e54761 (by omega) (by omega) (fun b9 e9 => by rw [e54758] at e9; cases e9; omega) (by show v17_1.toInt < v218_2.toInt; omega) (by show v17_2.toInt < v218_2.toInt; omega)
      have J159 : ∀ (n159 : Nat) (P159 : PP) (v159_2 : Int32) (l159_5 : Int64), (1000 - v159_2.toInt).toNat < n159 → (IM P159 a0) → (EM [2, 3, 4, 5, 7, 8] a0 P P159) → (MW P159 a0) → (0 ≤ v159_2.toInt ∧ v159_2.toInt ≤ 1000) → (0 ≤ v17_2.toInt ∧ v17_2.toInt ≤ 999) → (0 ≤ (pI P159 a0 2).toInt ∧ (pI P159 a0 2).toInt ≤ 0) → (1 ≤ (pI P159 a0 3).toInt ∧ (pI P159 a0 3).toInt ≤ 1000) → (∀ b, pR P159 a0 5 = some b → 0 ≤ (pI P159 b (v17_1.toInt.toNat)).toInt ∧ (pI P159 b (v17_1.toInt.toNat)).toInt ≤ 999) → (v17_1.toInt ≤ v17_2.toInt) → (∀ b91, pR P159 a0 1 = some b91 → v17_2.toInt < v159_2.toInt ∨ (v17_2.toInt = v159_2.toInt ∧ v159_2.toInt < (pI P159 a0 3).toInt ∧ 48 ≤ (pI P159 b91 (v159_2.toInt.toNat)).toInt ∧ (pI P159 b91 (v159_2.toInt.toNat)).toInt ≤ 57)) → (v17_2.toInt = v17_2.toInt) → G E ({ frames := 3, cells := 0, slots := 0, locals := 192 } : Room) D cy 7 P159 0 0 159 [(0, .ref a0), (1, .int v17_1), (2, .int v159_2), (4, .int v17_2), (5, .long l159_5)] [] := by
        intro n159
        induction n159 with
        | zero => intro P159 v159_2 l159_5 hm159 I159 X159 W159 hv159_2 hv159_4 hq159_0 hq159_1 hq159_2 rel159_0 rel159_1 rel159_2; omega
        | succ n159 ih159 =>
          intro P159 v159_2 l159_5 hm159 I159 X159 W159 hv159_2 hv159_4 hq159_0 hq159_1 hq159_2 rel159_0 rel159_1 rel159_2
          have h54766 := X159.at ha0
          obtain ⟨b54767, e54768, h54769⟩ := I159.fld (h54766) 5 13 1002 rfl
          have hq159_2 := hq159_2 b54767 e54768
          obtain ⟨b54770, e54771, h54772⟩ := I159.fld (h54766) 1 13 1000 rfl
          have rel159_1 := rel159_1 b54770 e54771
          have J210 : ∀ (l210_s0 : Int64), (0 ≤ v159_2.toInt ∧ v159_2.toInt ≤ 999) → (0 ≤ v17_2.toInt ∧ v17_2.toInt ≤ 999) → (0 ≤ (pI P159 a0 2).toInt ∧ (pI P159 a0 2).toInt ≤ 0) → (1 ≤ (pI P159 a0 3).toInt ∧ (pI P159 a0 3).toInt ≤ 1000) → (∀ b, pR P159 a0 1 = some b → 48 ≤ (pI P159 b (v159_2.toInt.toNat)).toInt ∧ (pI P159 b (v159_2.toInt.toNat)).toInt ≤ 57) → (∀ b, pR P159 a0 5 = some b → 0 ≤ (pI P159 b (v17_1.toInt.toNat)).toInt ∧ (pI P159 b (v17_1.toInt.toNat)).toInt ≤ 999) → (v17_1.toInt ≤ v17_2.toInt) → (v17_2.toInt ≤ v159_2.toInt) → (v17_2.toInt = v17_2.toInt) → G E ({ frames := 3, cells := 0, slots := 0, locals := 192 } : Room) D cy 7 P159 0 0 210 [(0, .ref a0), (1, .int v17_1), (2, .int v159_2), (4, .int v17_2)] [.long l210_s0] := by
            intro l210_s0 hv210_2 hv210_4 hq210_0 hq210_1 hq210_2 hq210_3 rel210_0 rel210_1 rel210_2
            have h54773 := X159.at ha0
            obtain ⟨b54774, e54775, h54776⟩ := I159.fld (h54773) 1 13 1000 rfl
            have hq210_2 := hq210_2 b54774 e54775
            obtain ⟨b54777, e54778, h54779⟩ := I159.fld (h54773) 5 13 1002 rfl
            have hq210_3 := hq210_3 b54777 e54778
            refine g_lstore (lv' := [(5, .long l210_s0), (0, .ref a0), (1, .int v17_1), (2, .int v159_2), (4, .int v17_2)]) C dX12_cutAll_210 (by decide) rfl ?_
            refine s_iinc (lv0 := [(5, .long l210_s0), (0, .ref a0), (1, .int v17_1), (4, .int v17_2)]) (m := 1) C dX12_cutAll_212 3 rfl (by decide) rfl (by decide) (by omega) (fun z54780 h54781 => ?_)
            have h54781 : z54780.toInt = v159_2.toInt + 1 := h54781
            refine g_goto C 159 dX12_cutAll_215 (by decide) ?_
            refine g_lv (lv' := [(0, .ref a0), (1, .int v17_1), (2, .int z54780), (4, .int v17_2), (5, .long l210_s0)]) [2, 3, 0, 4, 1] rfl ?_
            exact ih159 P159 z54780 l210_s0 (by omega) I159 X159 W159 (by omega) (by omega) (by omega) (by omega) (fun b9 e9 => by rw [e54778] at e9; cases e9; omega) (by show v17_1.toInt ≤ v17_2.toInt; omega) (by intro b91 e91; rw [e54775] at e91; cases e91; show v17_2.toInt < z54780.toInt ∨ (v17_2.toInt = z54780.toInt ∧ z54780.toInt < (pI P159 a0 3).toInt ∧ 48 ≤ (pI P159 b54774 (z54780.toInt.toNat)).toInt ∧ (pI P159 b54774 (z54780.toInt.toNat)).toInt ≤ 57); omega) (by show v17_2.toInt = v17_2.toInt; omega)
          refine g_iload_n C dX12_cutAll_159 rfl 2 rfl ?_
          refine g_aload_n C dX12_cutAll_160 rfl 0 rfl ?_
          refine g_getI C fi_X12_140 (by decide) (h54766).1 (h54766).2 dX12_cutAll_161 ?_
          refine b_icmp_ge C 218 dX12_cutAll_164 (by decide) (fun h54782 => ?_) (fun h54782 => ?_)
          · have h54782 : (pI P159 a0 3).toInt ≤ v159_2.toInt := h54782
            exact J218 P159 v159_2 l159_5 I159 X159 W159 (by omega) (by omega) (by omega) (by omega) (fun b9 e9 => by rw [e54768] at e9; cases e9; omega) (by show v17_1.toInt ≤ v17_2.toInt; omega) (by show v17_2.toInt < v159_2.toInt; omega) (by show v17_2.toInt < v159_2.toInt; omega)
          · have h54782 : v159_2.toInt < (pI P159 a0 3).toInt := h54782
            refine g_aload_n C dX12_cutAll_167 rfl 0 rfl ?_
            refine g_getR C fi_X12_14 rfl e54771 (h54766).1 (h54766).2 dX12_cutAll_168 ?_
            refine g_iload_n C dX12_cutAll_171 rfl 2 rfl ?_
            refine g_iald (j := (v159_2.toInt.toNat)) C h54772.1 h54772.2.1 (ix_in h54772.2.2 (by omega)) dX12_cutAll_172 ?_
            refine g_callSI (b := 0) (ci := 0) (rest := []) C ms_X12_149 [.int (pI P159 b54770 (v159_2.toInt.toNat))] (s_X12_isDigit I159.1) rfl rfl (by decide) (Nat.le_of_ble_eq_true rfl) (by decide) dX12_cutAll_173 (fun r54783 Y54784 h54785 => ?_)
            obtain ⟨rfl, h54785⟩ := h54785
            obtain ⟨h54785, hi54786, hi54787⟩ := h54785
            have hi54786 : r54783.toInt = 0 ∨ (((48 : Int) ≤ (pI P159 b54770 (v159_2.toInt.toNat)).toInt ∧ (pI P159 b54770 (v159_2.toInt.toNat)).toInt ≤ (57 : Int))) := hi54786
            have hi54787 : r54783.toInt ≠ 0 ∨ (pI P159 b54770 (v159_2.toInt.toNat)).toInt < 48 ∨ 57 < (pI P159 b54770 (v159_2.toInt.toNat)).toInt := hi54787
            have h54785 : 0 ≤ r54783.toInt ∧ r54783.toInt ≤ 1 := h54785
            refine b_if_eq C 218 dX12_cutAll_176 (by decide) (fun h54788 => ?_) (fun h54788 => ?_)
            · have h54788 : r54783.toInt = 0 := congrArg Int32.toInt h54788
              clear hi54786
              exact J218 P159 v159_2 l159_5 I159 X159 W159 (by omega) (by omega) (by omega) (by omega) (fun b9 e9 => by rw [e54768] at e9; cases e9; omega) (by show v17_1.toInt ≤ v17_2.toInt; omega) (by show v17_2.toInt < v159_2.toInt; omega) (by show v17_2.toInt < v159_2.toInt; omega)
            · have h54788 : r54783.toInt ≠ 0 := ti_ne h54788
              replace hi54786 := hi54786.resolve_left (by omega)
              refine g_iload_n C dX12_cutAll_179 rfl 2 rfl ?_
              refine g_iload C dX12_cutAll_180 3 rfl ?_
              refine s_isub C dX12_cutAll_182 (by show -2147483648 ≤ v159_2.toInt - v17_2.toInt ∧ v159_2.toInt - v17_2.toInt ≤ 2147483647; omega) (fun z54789 h54790 => ?_)
              have h54790 : z54789.toInt = v159_2.toInt - v17_2.toInt := h54790
              refine g_iconst (v := 4) C dX12_cutAll_183 (by decide) ?_
              refine b_icmp_ge C 208 dX12_cutAll_184 (by decide) (fun h54791 => ?_) (fun h54791 => ?_)
              · have h54791 : 4 ≤ z54789.toInt := h54791
                refine g_lload C dX12_cutAll_208 4 rfl ?_
                refine g_lv (lv' := [(0, .ref a0), (1, .int v17_1), (2, .int v159_2), (4, .int v17_2)]) [0, 1, 2, 3] rfl ?_
                exact J210 l159_5 (by omega) (by omega) (by omega) (by omega) (fun b9 e9 => by rw [e54771] at e9; cases e9; omega) (fun b9 e9 => by rw [e54768] at e9; cases e9; omega) (by show v17_1.toInt ≤ v17_2.toInt; omega) (by show v17_2.toInt ≤ v159_2.toInt; omega) (by show v17_2.toInt = v17_2.toInt; omega)
              · have h54791 : z54789.toInt < 4 := h54791
                refine g_ldc2 (v := 10) C kl_X12_152 dX12_cutAll_187 ?_
                refine g_topl (fun l54792 el54792 => ?_)
                have hz_l54792 : ¬ l54792 = 0 := by rw [el54792]; decide
                refine g_lload C dX12_cutAll_190 4 rfl ?_
                refine a_lmul C dX12_cutAll_192 (fun l54793 => ?_)
                refine g_aload_n C dX12_cutAll_193 rfl 0 rfl ?_
                refine g_getR C fi_X12_14 rfl e54771 (h54766).1 (h54766).2 dX12_cutAll_194 ?_
                refine g_iload_n C dX12_cutAll_197 rfl 2 rfl ?_
                refine g_iald (j := (v159_2.toInt.toNat)) C h54772.1 h54772.2.1 (ix_in h54772.2.2 (by omega)) dX12_cutAll_198 ?_
                refine a_i2l C dX12_cutAll_199 (fun l54794 => ?_)
                refine a_ladd C dX12_cutAll_200 (fun l54795 => ?_)
                refine g_ldc2 (v := 48) C kl_X12_154 dX12_cutAll_201 ?_
                refine g_topl (fun l54796 el54796 => ?_)
                have hz_l54796 : ¬ l54796 = 0 := by rw [el54796]; decide
                refine a_lsub C dX12_cutAll_204 (fun l54797 => ?_)
                refine g_goto C 210 dX12_cutAll_205 (by decide) ?_
                refine g_lv (lv' := [(0, .ref a0), (1, .int v17_1), (2, .int v159_2), (4, .int v17_2)]) [0, 1, 2, 3] rfl ?_
                exact J210 l54797 (by omega) (by omega) (by omega) (by omega) (fun b9 e9 => by rw [e54771] at e9; cases e9; omega) (fun b9 e9 => by rw [e54768] at e9; cases e9; omega) (by show v17_1.toInt ≤ v17_2.toInt; omega) (by show v17_2.toInt ≤ v159_2.toInt; omega) (by show v17_2.toInt = v17_2.toInt; omega)
      have J148 : ∀ (P148 : PP) (v148_2 : Int32) (l148_5 : Int64) (v148_s0 : Int32) (b148_s2 : Nat), (IM P148 a0) → (EM [2, 3, 4, 5, 7, 8] a0 P P148) → (MW P148 a0) → (0 ≤ v148_2.toInt ∧ v148_2.toInt ≤ 1000) → (1 ≤ v148_s0.toInt ∧ v148_s0.toInt ≤ 4) → (Ar P148 b148_s2 13 1002) → (pR P148 a0 4 = some b148_s2) → (0 ≤ (pI P148 a0 2).toInt ∧ (pI P148 a0 2).toInt ≤ 0) → (1 ≤ (pI P148 a0 3).toInt ∧ (pI P148 a0 3).toInt ≤ 1000) → (∀ b, pR P148 a0 5 = some b → 0 ≤ (pI P148 b (v17_1.toInt.toNat)).toInt ∧ (pI P148 b (v17_1.toInt.toNat)).toInt ≤ 999) → (v17_1.toInt < v148_2.toInt) → (v17_2.toInt < v148_2.toInt) → G E ({ frames := 3, cells := 0, slots := 0, locals := 192 } : Room) D cy 7 P148 0 0 148 [(0, .ref a0), (1, .int v17_1), (2, .int v148_2), (5, .long l148_5)] [.int v148_s0, .int v17_1, .ref b148_s2] := by
        intro P148 v148_2 l148_5 v148_s0 b148_s2 I148 X148 W148 hv148_2 hv148_s0 hb148_s2 eb148_s2 hq148_0 hq148_1 hq148_2 rel148_0 rel148_1
        have h54798 := X148.at ha0
        obtain ⟨b54799, e54800, h54801⟩ := I148.fld (h54798) 5 13 1002 rfl
        have hq148_2 := hq148_2 b54799 e54800
        refine g_iast (j := (v17_1.toInt.toNat)) C hb148_s2.1 hb148_s2.2.1 (ix_in hb148_s2.2.2 (by omega)) dX12_cutAll_148 ?_
        refine gqW (ks := [4]) (I148.setA eb148_s2 hb148_s2 (by decide) (arOk.of rfl (by omega))) (EM.setA I148 eb148_s2 rfl (by decide)) (fun Y54802 Iy54803 Xy54804 w54805  => ?_)
        have w54805 : (pI Y54802 b148_s2 (v17_1.toInt.toNat)).toInt = v148_s0.toInt := w54805
        have q54806 := Xy54804.keepF 2 (by decide)
        have q54807 := Xy54804.keepF 3 (by decide)
        have q54808 := Xy54804.keepA e54800 (by decide) rfl (v17_1.toInt.toNat)
        have W54809 := W148.keep I148 Xy54804 (by decide) (by decide) (by decide)
        have Xz54810 : EM [2, 3, 4, 5, 7, 8] a0 P Y54802 := EM.tr ha0 X148 (Xy54804.mono (by decide))
        have e54811 := Xy54804.ref h54798 (by decide) eb148_s2
        have e54812 := Xy54804.ref h54798 (by decide) e54800
        have h54813 := Xy54804.at h54798
        have h54814 := Xy54804.ar hb148_s2
        have h54815 := Xy54804.ar h54801
        refine g_goto C 265 dX12_cutAll_149 (by decide) ?_
        exact J265 Y54802 v148_2 l148_5 Iy54803 Xz54810 W54809 (by omega) (by omega) (by omega) (fun b9 e9 => by rw [e54811] at e9; cases e9; omega) (fun b9 e9 => by rw [e54812] at e9; cases e9; omega) (by show v17_1.toInt < v148_2.toInt; omega) (by show v17_2.toInt < v148_2.toInt; omega)
      have J129 : ∀ (P129 : PP) (v129_2 : Int32) (l129_5 : Int64), (IM P129 a0) → (EM [2, 3, 4, 5, 7, 8] a0 P P129) → (MW P129 a0) → (0 ≤ v129_2.toInt ∧ v129_2.toInt ≤ 1000) → (0 ≤ v17_2.toInt ∧ v17_2.toInt ≤ 999) → (0 ≤ (pI P129 a0 2).toInt ∧ (pI P129 a0 2).toInt ≤ 0) → (1 ≤ (pI P129 a0 3).toInt ∧ (pI P129 a0 3).toInt ≤ 1000) → (∀ b, pR P129 a0 5 = some b → 0 ≤ (pI P129 b (v17_1.toInt.toNat)).toInt ∧ (pI P129 b (v17_1.toInt.toNat)).toInt ≤ 999) → (v17_1.toInt ≤ v17_2.toInt) → (v17_2.toInt < v129_2.toInt) → (v17_2.toInt < v129_2.toInt) → G E ({ frames := 3, cells := 0, slots := 0, locals := 192 } : Room) D cy 7 P129 0 0 129 [(0, .ref a0), (1, .int v17_1), (2, .int v129_2), (4, .int v17_2), (5, .long l129_5)] [] := by
        intro P129 v129_2 l129_5 I129 X129 W129 hv129_2 hv129_4 hq129_0 hq129_1 hq129_2 rel129_0 rel129_1 rel129_2
        have h54816 := X129.at ha0
        obtain ⟨b54817, e54818, h54819⟩ := I129.fld (h54816) 5 13 1002 rfl
        have hq129_2 := hq129_2 b54817 e54818
        refine g_aload_n C dX12_cutAll_129 rfl 0 rfl ?_
        obtain ⟨b54820, e54821, h54822⟩ := I129.fld (h54816) 4 13 1002 rfl
        refine g_getR C fi_X12_24 rfl e54821 (h54816).1 (h54816).2 dX12_cutAll_130 ?_
        refine g_iload_n C dX12_cutAll_133 rfl 1 rfl ?_
        refine g_iload_n C dX12_cutAll_134 rfl 2 rfl ?_
        refine g_iload C dX12_cutAll_135 3 rfl ?_
        refine s_isub C dX12_cutAll_137 (by show -2147483648 ≤ v129_2.toInt - v17_2.toInt ∧ v129_2.toInt - v17_2.toInt ≤ 2147483647; omega) (fun z54823 h54824 => ?_)
        have h54824 : z54823.toInt = v129_2.toInt - v17_2.toInt := h54824
        refine g_bipush (v := 8) C dX12_cutAll_138 (by decide) ?_
        refine b_icmp_le C 147 dX12_cutAll_140 (by decide) (fun h54825 => ?_) (fun h54825 => ?_)
        · have h54825 : z54823.toInt ≤ 8 := h54825
          refine g_iconst (v := 1) C dX12_cutAll_147 (by decide) ?_
          refine g_lv (lv' := [(0, .ref a0), (1, .int v17_1), (2, .int v129_2), (5, .long l129_5)]) [0, 1, 2, 4] rfl ?_
          exact J148 P129 v129_2 l129_5 1 b54820 I129 X129 W129 (by omega) (by decide) h54822 e54821 (by omega) (by omega) (fun b9 e9 => by rw [e54818] at e9; cases e9; omega) (by show v17_1.toInt < v129_2.toInt; omega) (by show v17_2.toInt < v129_2.toInt; omega)
        · have h54825 : 8 < z54823.toInt := h54825
          refine g_iconst (v := 4) C dX12_cutAll_143 (by decide) ?_
          refine g_goto C 148 dX12_cutAll_144 (by decide) ?_
          refine g_lv (lv' := [(0, .ref a0), (1, .int v17_1), (2, .int v129_2), (5, .long l129_5)]) [0, 1, 2, 4] rfl ?_
          exact J148 P129 v129_2 l129_5 4 b54820 I129 X129 W129 (by omega) (by decide) h54822 e54821 (by omega) (by omega) (fun b9 e9 => by rw [e54818] at e9; cases e9; omega) (by show v17_1.toInt < v129_2.toInt; omega) (by show v17_2.toInt < v129_2.toInt; omega)
      have J70 : ∀ (n70 : Nat) (P70 : PP) (v70_2 : Int32) (l70_5 : Int64), (1000 - v70_2.toInt).toNat < n70 → (IM P70 a0) → (EM [2, 3, 4, 5, 7, 8] a0 P P70) → (MW P70 a0) → (0 ≤ v70_2.toInt ∧ v70_2.toInt ≤ 1000) → (0 ≤ v17_2.toInt ∧ v17_2.toInt ≤ 999) → (0 ≤ (pI P70 a0 2).toInt ∧ (pI P70 a0 2).toInt ≤ 0) → (1 ≤ (pI P70 a0 3).toInt ∧ (pI P70 a0 3).toInt ≤ 1000) → (∀ b, pR P70 a0 5 = some b → 0 ≤ (pI P70 b (v17_1.toInt.toNat)).toInt ∧ (pI P70 b (v17_1.toInt.toNat)).toInt ≤ 999) → (v17_1.toInt ≤ v17_2.toInt) → (∀ b91, pR P70 a0 1 = some b91 → v17_2.toInt < v70_2.toInt ∨ (v17_2.toInt = v70_2.toInt ∧ v70_2.toInt < (pI P70 a0 3).toInt ∧ 97 ≤ (pI P70 b91 (v70_2.toInt.toNat)).toInt ∧ (pI P70 b91 (v70_2.toInt.toNat)).toInt ≤ 122)) → (v17_2.toInt = v17_2.toInt) → G E ({ frames := 3, cells := 0, slots := 0, locals := 192 } : Room) D cy 7 P70 0 0 70 [(0, .ref a0), (1, .int v17_1), (2, .int v70_2), (4, .int v17_2), (5, .long l70_5)] [] := by
        intro n70
        induction n70 with
        | zero => intro P70 v70_2 l70_5 hm70 I70 X70 W70 hv70_2 hv70_4 hq70_0 hq70_1 hq70_2 rel70_0 rel70_1 rel70_2; omega
        | succ n70 ih70 =>
          intro P70 v70_2 l70_5 hm70 I70 X70 W70 hv70_2 hv70_4 hq70_0 hq70_1 hq70_2 rel70_0 rel70_1 rel70_2
          have h54826 := X70.at ha0
          obtain ⟨b54827, e54828, h54829⟩ := I70.fld (h54826) 5 13 1002 rfl
          have hq70_2 := hq70_2 b54827 e54828
          obtain ⟨b54830, e54831, h54832⟩ := I70.fld (h54826) 1 13 1000 rfl
          have rel70_1 := rel70_1 b54830 e54831
          have J121 : ∀ (l121_s0 : Int64), (0 ≤ v70_2.toInt ∧ v70_2.toInt ≤ 999) → (0 ≤ v17_2.toInt ∧ v17_2.toInt ≤ 999) → (0 ≤ (pI P70 a0 2).toInt ∧ (pI P70 a0 2).toInt ≤ 0) → (1 ≤ (pI P70 a0 3).toInt ∧ (pI P70 a0 3).toInt ≤ 1000) → (∀ b, pR P70 a0 1 = some b → 97 ≤ (pI P70 b (v70_2.toInt.toNat)).toInt ∧ (pI P70 b (v70_2.toInt.toNat)).toInt ≤ 122) → (∀ b, pR P70 a0 5 = some b → 0 ≤ (pI P70 b (v17_1.toInt.toNat)).toInt ∧ (pI P70 b (v17_1.toInt.toNat)).toInt ≤ 999) → (v17_1.toInt ≤ v17_2.toInt) → (v17_2.toInt ≤ v70_2.toInt) → (v17_2.toInt = v17_2.toInt) → G E ({ frames := 3, cells := 0, slots := 0, locals := 192 } : Room) D cy 7 P70 0 0 121 [(0, .ref a0), (1, .int v17_1), (2, .int v70_2), (4, .int v17_2)] [.long l121_s0] := by
            intro l121_s0 hv121_2 hv121_4 hq121_0 hq121_1 hq121_2 hq121_3 rel121_0 rel121_1 rel121_2
            have h54833 := X70.at ha0
            obtain ⟨b54834, e54835, h54836⟩ := I70.fld (h54833) 1 13 1000 rfl
            have hq121_2 := hq121_2 b54834 e54835
            obtain ⟨b54837, e54838, h54839⟩ := I70.fld (h54833) 5 13 1002 rfl
            have hq121_3 := hq121_3 b54837 e54838
            refine g_lstore (lv' := [(5, .long l121_s0), (0, .ref a0), (1, .int v17_1), (2, .int v70_2), (4, .int v17_2)]) C dX12_cutAll_121 (by decide) rfl ?_
            refine s_iinc (lv0 := [(5, .long l121_s0), (0, .ref a0), (1, .int v17_1), (4, .int v17_2)]) (m := 1) C dX12_cutAll_123 3 rfl (by decide) rfl (by decide) (by omega) (fun z54840 h54841 => ?_)
            have h54841 : z54840.toInt = v70_2.toInt + 1 := h54841
            refine g_goto C 70 dX12_cutAll_126 (by decide) ?_
            refine g_lv (lv' := [(0, .ref a0), (1, .int v17_1), (2, .int z54840), (4, .int v17_2), (5, .long l121_s0)]) [2, 3, 0, 4, 1] rfl ?_
            exact ih70 P70 z54840 l121_s0 (by omega) I70 X70 W70 (by omega) (by omega) (by omega) (by omega) (fun b9 e9 => by rw [e54838] at e9; cases e9; omega) (by show v17_1.toInt ≤ v17_2.toInt; omega) (by intro b91 e91; rw [e54835] at e91; cases e91; show v17_2.toInt < z54840.toInt ∨ (v17_2.toInt = z54840.toInt ∧ z54840.toInt < (pI P70 a0 3).toInt ∧ 97 ≤ (pI P70 b54834 (z54840.toInt.toNat)).toInt ∧ (pI P70 b54834 (z54840.toInt.toNat)).toInt ≤ 122); omega) (by show v17_2.toInt = v17_2.toInt; omega)
          refine g_iload_n C dX12_cutAll_70 rfl 2 rfl ?_
          refine g_aload_n C dX12_cutAll_71 rfl 0 rfl ?_
          refine g_getI C fi_X12_140 (by decide) (h54826).1 (h54826).2 dX12_cutAll_72 ?_
          refine b_icmp_ge C 129 dX12_cutAll_75 (by decide) (fun h54842 => ?_) (fun h54842 => ?_)
          · have h54842 : (pI P70 a0 3).toInt ≤ v70_2.toInt := h54842
            exact J129 P70 v70_2 l70_5 I70 X70 W70 (by omega) (by omega) (by omega) (by omega) (fun b9 e9 => by rw [e54828] at e9; cases e9; omega) (by show v17_1.toInt ≤ v17_2.toInt; omega) (by show v17_2.toInt < v70_2.toInt; omega) (by show v17_2.toInt < v70_2.toInt; omega)
          · have h54842 : v70_2.toInt < (pI P70 a0 3).toInt := h54842
            refine g_aload_n C dX12_cutAll_78 rfl 0 rfl ?_
            refine g_getR C fi_X12_14 rfl e54831 (h54826).1 (h54826).2 dX12_cutAll_79 ?_
            refine g_iload_n C dX12_cutAll_82 rfl 2 rfl ?_
            refine g_iald (j := (v70_2.toInt.toNat)) C h54832.1 h54832.2.1 (ix_in h54832.2.2 (by omega)) dX12_cutAll_83 ?_
            refine g_callSI (b := 0) (ci := 0) (rest := []) C ms_X12_136 [.int (pI P70 b54830 (v70_2.toInt.toNat))] (s_X12_isLetter I70.1) rfl rfl (by decide) (Nat.le_of_ble_eq_true rfl) (by decide) dX12_cutAll_84 (fun r54843 Y54844 h54845 => ?_)
            obtain ⟨rfl, h54845⟩ := h54845
            obtain ⟨h54845, hi54846, hi54847⟩ := h54845
            have hi54846 : r54843.toInt = 0 ∨ (((97 : Int) ≤ (pI P70 b54830 (v70_2.toInt.toNat)).toInt ∧ (pI P70 b54830 (v70_2.toInt.toNat)).toInt ≤ (122 : Int))) := hi54846
            have hi54847 : r54843.toInt ≠ 0 ∨ (pI P70 b54830 (v70_2.toInt.toNat)).toInt < 97 ∨ 122 < (pI P70 b54830 (v70_2.toInt.toNat)).toInt := hi54847
            have h54845 : 0 ≤ r54843.toInt ∧ r54843.toInt ≤ 1 := h54845
            refine b_if_eq C 129 dX12_cutAll_87 (by decide) (fun h54848 => ?_) (fun h54848 => ?_)
            · have h54848 : r54843.toInt = 0 := congrArg Int32.toInt h54848
              clear hi54846
              exact J129 P70 v70_2 l70_5 I70 X70 W70 (by omega) (by omega) (by omega) (by omega) (fun b9 e9 => by rw [e54828] at e9; cases e9; omega) (by show v17_1.toInt ≤ v17_2.toInt; omega) (by show v17_2.toInt < v70_2.toInt; omega) (by show v17_2.toInt < v70_2.toInt; omega)
            · have h54848 : r54843.toInt ≠ 0 := ti_ne h54848
              replace hi54846 := hi54846.resolve_left (by omega)
              refine g_iload_n C dX12_cutAll_90 rfl 2 rfl ?_
              refine g_iload C dX12_cutAll_91 3 rfl ?_
              refine s_isub C dX12_cutAll_93 (by show -2147483648 ≤ v70_2.toInt - v17_2.toInt ∧ v70_2.toInt - v17_2.toInt ≤ 2147483647; omega) (fun z54849 h54850 => ?_)
              have h54850 : z54849.toInt = v70_2.toInt - v17_2.toInt := h54850
              refine g_bipush (v := 8) C dX12_cutAll_94 (by decide) ?_
              refine b_icmp_ge C 119 dX12_cutAll_96 (by decide) (fun h54851 => ?_) (fun h54851 => ?_)
              · have h54851 : 8 ≤ z54849.toInt := h54851
                refine g_lload C dX12_cutAll_119 4 rfl ?_
                refine g_lv (lv' := [(0, .ref a0), (1, .int v17_1), (2, .int v70_2), (4, .int v17_2)]) [0, 1, 2, 3] rfl ?_
                exact J121 l70_5 (by omega) (by omega) (by omega) (by omega) (fun b9 e9 => by rw [e54831] at e9; cases e9; omega) (fun b9 e9 => by rw [e54828] at e9; cases e9; omega) (by show v17_1.toInt ≤ v17_2.toInt; omega) (by show v17_2.toInt ≤ v70_2.toInt; omega) (by show v17_2.toInt = v17_2.toInt; omega)
              · have h54851 : z54849.toInt < 8 := h54851
                refine g_ldc2 (v := 37) C kl_X12_143 dX12_cutAll_99 ?_
                refine g_topl (fun l54852 el54852 => ?_)
                have hz_l54852 : ¬ l54852 = 0 := by rw [el54852]; decide
                refine g_lload C dX12_cutAll_102 4 rfl ?_
                refine a_lmul C dX12_cutAll_104 (fun l54853 => ?_)
                refine g_aload_n C dX12_cutAll_105 rfl 0 rfl ?_
                refine g_getR C fi_X12_14 rfl e54831 (h54826).1 (h54826).2 dX12_cutAll_106 ?_
                refine g_iload_n C dX12_cutAll_109 rfl 2 rfl ?_
                refine g_iald (j := (v70_2.toInt.toNat)) C h54832.1 h54832.2.1 (ix_in h54832.2.2 (by omega)) dX12_cutAll_110 ?_
                refine g_callSI (b := 0) (ci := 0) (rest := [.long l54853]) C ms_X12_145 [.int (pI P70 b54830 (v70_2.toInt.toNat))] (s_X12_rank I70.1) rfl rfl (by decide) (Nat.le_of_ble_eq_true rfl) (by decide) dX12_cutAll_111 (fun r54854 Y54855 h54856 => ?_)
                obtain ⟨rfl, h54856⟩ := h54856
                have h54856 : True := h54856
                refine a_i2l C dX12_cutAll_114 (fun l54857 => ?_)
                refine a_ladd C dX12_cutAll_115 (fun l54858 => ?_)
                refine g_goto C 121 dX12_cutAll_116 (by decide) ?_
                refine g_lv (lv' := [(0, .ref a0), (1, .int v17_1), (2, .int v70_2), (4, .int v17_2)]) [0, 1, 2, 3] rfl ?_
                exact J121 l54858 (by omega) (by omega) (by omega) (by omega) (fun b9 e9 => by rw [e54831] at e9; cases e9; omega) (fun b9 e9 => by rw [e54828] at e9; cases e9; omega) (by show v17_1.toInt ≤ v17_2.toInt; omega) (by show v17_2.toInt ≤ v70_2.toInt; omega) (by show v17_2.toInt = v17_2.toInt; omega)
      have J44 : (0 ≤ v17_2.toInt ∧ v17_2.toInt ≤ 999) → (0 ≤ (pI P17 a0 2).toInt ∧ (pI P17 a0 2).toInt ≤ 0) → (1 ≤ (pI P17 a0 3).toInt ∧ (pI P17 a0 3).toInt ≤ 1000) → G E ({ frames := 3, cells := 0, slots := 0, locals := 192 } : Room) D cy 7 P17 0 0 44 [(0, .ref a0), (1, .int v17_1), (2, .int v17_2)] [] := by
        intro hv44_2 hq44_0 hq44_1
        have h54859 := X17.at ha0
        refine s_iinc (lv0 := [(0, .ref a0), (1, .int v17_1)]) (m := 1) C dX12_cutAll_44 2 rfl (by decide) rfl (by decide) (by omega) (fun z54860 h54861 => ?_)
        have h54861 : z54860.toInt = v17_2.toInt + 1 := h54861
        refine g_goto C 17 dX12_cutAll_47 (by decide) ?_
        refine g_lv (lv' := [(0, .ref a0), (1, .int v17_1), (2, .int z54860)]) [1, 2, 0] rfl ?_
        exact ih17 P17 v17_1 z54860 (by omega) I17 X17 W17 (by omega) (by omega) (by omega) (by show v17_1.toInt ≤ z54860.toInt; omega)
      refine g_iload_n C dX12_cutAll_17 rfl 2 rfl ?_
      refine g_aload_n C dX12_cutAll_18 rfl 0 rfl ?_
      refine g_getI C fi_X12_140 (by decide) (h54691).1 (h54691).2 dX12_cutAll_19 ?_
      have h54862 := I17.rg (h54691) 3 rfl
      refine b_icmp_ge C 279 dX12_cutAll_22 (by decide) (fun h54863 => ?_) (fun h54863 => ?_)
      · have h54863 : (pI P17 a0 3).toInt ≤ v17_2.toInt := h54863
        refine g_aload_n C dX12_cutAll_279 rfl 0 rfl ?_
        obtain ⟨b54864, e54865, h54866⟩ := I17.fld (h54691) 4 13 1002 rfl
        refine g_getR C fi_X12_24 rfl e54865 (h54691).1 (h54691).2 dX12_cutAll_280 ?_
        refine g_iload_n C dX12_cutAll_283 rfl 1 rfl ?_
        refine g_iconst (v := 0) C dX12_cutAll_284 (by decide) ?_
        refine g_iast (j := (v17_1.toInt.toNat)) C h54866.1 h54866.2.1 (ix_in h54866.2.2 (by omega)) dX12_cutAll_285 ?_
        refine gqW (ks := [4]) (I17.setA e54865 h54866 (by decide) (arOk.of rfl (by decide))) (EM.setA I17 e54865 rfl (by decide)) (fun Y54867 Iy54868 Xy54869 w54870  => ?_)
        have w54870 : (pI Y54867 b54864 (v17_1.toInt.toNat)).toInt = 0 := w54870
        have q54871 := Xy54869.keepF 2 (by decide)
        have q54872 := Xy54869.keepF 3 (by decide)
        have W54873 := W17.keep I17 Xy54869 (by decide) (by decide) (by decide)
        have Xz54874 : EM [2, 3, 4, 5, 7, 8] a0 P Y54867 := EM.tr ha0 X17 (Xy54869.mono (by decide))
        have e54875 := Xy54869.ref h54691 (by decide) e54865
        have h54876 := Xy54869.at h54691
        have h54877 := Xy54869.ar h54866
        refine g_aload_n C dX12_cutAll_286 rfl 0 rfl ?_
        obtain ⟨b54878, e54879, h54880⟩ := Iy54868.fld (h54876) 5 13 1002 rfl
        refine g_getR C fi_X12_27 rfl e54879 (h54876).1 (h54876).2 dX12_cutAll_287 ?_
        refine g_iload_n C dX12_cutAll_290 rfl 1 rfl ?_
        refine g_aload_n C dX12_cutAll_291 rfl 0 rfl ?_
        refine g_getI C fi_X12_140 (by decide) (h54876).1 (h54876).2 dX12_cutAll_292 ?_
        refine g_iast (j := (v17_1.toInt.toNat)) C h54880.1 h54880.2.1 (ix_in h54880.2.2 (by omega)) dX12_cutAll_295 ?_
        refine gqW (ks := [5]) (Iy54868.setA e54879 h54880 (by decide) (arOk.of rfl (by omega))) (EM.setA Iy54868 e54879 rfl (by decide)) (fun Y54881 Iy54882 Xy54883 w54884  => ?_)
        have w54884 : (pI Y54881 b54878 (v17_1.toInt.toNat)).toInt = (pI Y54867 a0 3).toInt := w54884
        have q54885 := Xy54883.keepF 2 (by decide)
        have q54886 := Xy54883.keepF 3 (by decide)
        have q54887 := Xy54883.keepA e54875 (by decide) rfl (v17_1.toInt.toNat)
        have W54888 := W54873.keep Iy54868 Xy54883 (by decide) (by decide) (by decide)
        have Xz54889 : EM [2, 3, 4, 5, 7, 8] a0 P Y54881 := EM.tr ha0 Xz54874 (Xy54883.mono (by decide))
        have e54890 := Xy54883.ref h54876 (by decide) e54875
        have e54891 := Xy54883.ref h54876 (by decide) e54879
        have h54892 := Xy54883.at h54876
        have h54893 := Xy54883.ar h54877
        have h54894 := Xy54883.ar h54880
        refine g_aload_n C dX12_cutAll_296 rfl 0 rfl ?_
        refine g_iconst (v := 0) C dX12_cutAll_297 (by decide) ?_
        refine g_putI C fi_X12_159 rfl (h54892).1 (h54892).2 dX12_cutAll_298 ?_
        refine gqW (ks := [7]) (Iy54882.setI (rgOk.of rfl (by decide))) (EM.setI Iy54882 (by decide)) (fun Y54895 Iy54896 Xy54897 w54898  => ?_)
        have w54898 : (pI Y54895 a0 7).toInt = 0 := w54898
        have q54899 := Xy54897.keepF 2 (by decide)
        have q54900 := Xy54897.keepF 3 (by decide)
        have q54901 := Xy54897.keepA e54890 (by decide) rfl (v17_1.toInt.toNat)
        have q54902 := Xy54897.keepA e54891 (by decide) rfl (v17_1.toInt.toNat)
        have W54903 := W54888.keep Iy54882 Xy54897 (by decide) (by decide) (by decide)
        have Xz54904 : EM [2, 3, 4, 5, 7, 8] a0 P Y54895 := EM.tr ha0 Xz54889 (Xy54897.mono (by decide))
        have e54905 := Xy54897.ref h54892 (by decide) e54890
        have e54906 := Xy54897.ref h54892 (by decide) e54891
        have h54907 := Xy54897.at h54892
        have h54908 := Xy54897.ar h54893
        have h54909 := Xy54897.ar h54894
        refine g_aload_n C dX12_cutAll_301 rfl 0 rfl ?_
        refine g_iconst (v := 0) C dX12_cutAll_302 (by decide) ?_
        refine g_putI C fi_X12_162 rfl (h54907).1 (h54907).2 dX12_cutAll_303 ?_
        refine gqW (ks := [8]) (Iy54896.setI (rgOk.of rfl (by decide))) (EM.setI Iy54896 (by decide)) (fun Y54910 Iy54911 Xy54912 w54913  => ?_)
        have w54913 : (pI Y54910 a0 8).toInt = 0 := w54913
        have q54914 := Xy54912.keepF 2 (by decide)
        have q54915 := Xy54912.keepF 3 (by decide)
        have q54916 := Xy54912.keepA e54905 (by decide) rfl (v17_1.toInt.toNat)
        have q54917 := Xy54912.keepA e54906 (by decide) rfl (v17_1.toInt.toNat)
        have q54918 := Xy54912.keepF 7 (by decide)
        have W54919 := W54903.keep Iy54896 Xy54912 (by decide) (by decide) (by decide)
        have Xz54920 : EM [2, 3, 4, 5, 7, 8] a0 P Y54910 := EM.tr ha0 Xz54904 (Xy54912.mono (by decide))
        have e54921 := Xy54912.ref h54907 (by decide) e54905
        have e54922 := Xy54912.ref h54907 (by decide) e54906
        have h54923 := Xy54912.at h54907
        have h54924 := Xy54912.ar h54908
        have h54925 := Xy54912.ar h54909
        exact ret _ _ _ _ _ dX12_cutAll_306 (by decide) (by decide) ⟨Iy54911, Xz54920, W54919⟩
      · have h54863 : v17_2.toInt < (pI P17 a0 3).toInt := h54863
        refine g_aload_n C dX12_cutAll_25 rfl 0 rfl ?_
        obtain ⟨b54926, e54927, h54928⟩ := I17.fld (h54691) 1 13 1000 rfl
        refine g_getR C fi_X12_14 rfl e54927 (h54691).1 (h54691).2 dX12_cutAll_26 ?_
        refine g_iload_n C dX12_cutAll_29 rfl 2 rfl ?_
        refine g_iald (j := (v17_2.toInt.toNat)) C h54928.1 h54928.2.1 (ix_in h54928.2.2 (by omega)) dX12_cutAll_30 ?_
        refine g_topi (fun z54929 h54930 => ?_)
        have h54930 : z54929.toInt = (pI P17 b54926 (v17_2.toInt.toNat)).toInt := congrArg Int32.toInt h54930
        refine g_istore_n (lv' := [(3, .int z54929), (0, .ref a0), (1, .int v17_1), (2, .int v17_2)]) C dX12_cutAll_31 rfl (by decide) rfl ?_
        refine g_iload_n C dX12_cutAll_32 rfl 0 rfl ?_
        refine g_bipush (v := 10) C dX12_cutAll_33 (by decide) ?_
        have u54932 := ti_rng z54929
        refine b_icmp_eq C 44 dX12_cutAll_35 (by decide) (fun h54931 => ?_) (fun h54931 => ?_)
        · have h54931 : z54929.toInt = 10 := congrArg Int32.toInt h54931
          refine g_lv (lv' := [(0, .ref a0), (1, .int v17_1), (2, .int v17_2)]) [1, 2, 3] rfl ?_
          exact J44 (by omega) (by omega) (by omega)
        · have h54931 : z54929.toInt ≠ 10 := ti_ne h54931
          refine g_iload_n C dX12_cutAll_38 rfl 0 rfl ?_
          refine g_bipush (v := 32) C dX12_cutAll_39 (by decide) ?_
          have u54934 := ti_rng z54929
          refine b_icmp_ne C 50 dX12_cutAll_41 (by decide) (fun h54933 => ?_) (fun h54933 => ?_)
          · have h54933 : z54929.toInt ≠ 32 := ti_ne h54933
            refine g_iload_n C dX12_cutAll_50 rfl 3 rfl ?_
            refine g_istore (lv' := [(4, .int v17_2), (3, .int z54929), (0, .ref a0), (1, .int v17_1), (2, .int v17_2)]) C dX12_cutAll_51 (by decide) rfl ?_
            refine g_lconst (v := 0) C dX12_cutAll_53 (by decide) ?_
            refine g_lstore (lv' := [(5, .long 0), (4, .int v17_2), (3, .int z54929), (0, .ref a0), (1, .int v17_1), (2, .int v17_2)]) C dX12_cutAll_54 (by decide) rfl ?_
            refine g_aload_n C dX12_cutAll_56 rfl 3 rfl ?_
            obtain ⟨b54935, e54936, h54937⟩ := I17.fld (h54691) 5 13 1002 rfl
            refine g_getR C fi_X12_27 rfl e54936 (h54691).1 (h54691).2 dX12_cutAll_57 ?_
            refine g_iload_n C dX12_cutAll_60 rfl 4 rfl ?_
            refine g_iload_n C dX12_cutAll_61 rfl 5 rfl ?_
            refine g_iast (j := (v17_1.toInt.toNat)) C h54937.1 h54937.2.1 (ix_in h54937.2.2 (by omega)) dX12_cutAll_62 ?_
            refine gqW (ks := [5]) (I17.setA e54936 h54937 (by decide) (arOk.of rfl (by omega))) (EM.setA I17 e54936 rfl (by decide)) (fun Y54938 Iy54939 Xy54940 w54941  => ?_)
            have w54941 : (pI Y54938 b54935 (v17_1.toInt.toNat)).toInt = v17_2.toInt := w54941
            have q54942 := Xy54940.keepF 2 (by decide)
            have q54943 := Xy54940.keepF 3 (by decide)
            have q54944 := Xy54940.keepA e54927 (by decide) rfl (v17_2.toInt.toNat)
            have W54945 := W17.keep I17 Xy54940 (by decide) (by decide) (by decide)
            have Xz54946 : EM [2, 3, 4, 5, 7, 8] a0 P Y54938 := EM.tr ha0 X17 (Xy54940.mono (by decide))
            have e54947 := Xy54940.ref h54691 (by decide) e54927
            have e54948 := Xy54940.ref h54691 (by decide) e54936
            have h54949 := Xy54940.at h54691
            have h54950 := Xy54940.ar h54928
            have h54951 := Xy54940.ar h54937
            refine g_iload_n C dX12_cutAll_63 rfl 2 rfl ?_
            refine g_callSI (b := 0) (ci := 0) (rest := []) C ms_X12_136 [.int z54929] (s_X12_isLetter Iy54939.1) rfl rfl (by decide) (Nat.le_of_ble_eq_true rfl) (by decide) dX12_cutAll_64 (fun r54952 Y54953 h54954 => ?_)
            obtain ⟨rfl, h54954⟩ := h54954
            obtain ⟨h54954, hi54955, hi54956⟩ := h54954
            have hi54955 : r54952.toInt = 0 ∨ (((97 : Int) ≤ z54929.toInt ∧ z54929.toInt ≤ (122 : Int))) := hi54955
            have hi54956 : r54952.toInt ≠ 0 ∨ z54929.toInt < 97 ∨ 122 < z54929.toInt := hi54956
            have h54954 : 0 ≤ r54952.toInt ∧ r54952.toInt ≤ 1 := h54954
            refine b_if_eq C 152 dX12_cutAll_67 (by decide) (fun h54957 => ?_) (fun h54957 => ?_)
            · have h54957 : r54952.toInt = 0 := congrArg Int32.toInt h54957
              clear hi54955
              refine g_iload_n C dX12_cutAll_152 rfl 2 rfl ?_
              refine g_callSI (b := 0) (ci := 0) (rest := []) C ms_X12_149 [.int z54929] (s_X12_isDigit Iy54939.1) rfl rfl (by decide) (Nat.le_of_ble_eq_true rfl) (by decide) dX12_cutAll_153 (fun r54958 Y54959 h54960 => ?_)
              obtain ⟨rfl, h54960⟩ := h54960
              obtain ⟨h54960, hi54961, hi54962⟩ := h54960
              have hi54961 : r54958.toInt = 0 ∨ (((48 : Int) ≤ z54929.toInt ∧ z54929.toInt ≤ (57 : Int))) := hi54961
              have hi54962 : r54958.toInt ≠ 0 ∨ z54929.toInt < 48 ∨ 57 < z54929.toInt := hi54962
              have h54960 : 0 ≤ r54958.toInt ∧ r54958.toInt ≤ 1 := h54960
              refine b_if_eq C 240 dX12_cutAll_156 (by decide) (fun h54963 => ?_) (fun h54963 => ?_)
              · have h54963 : r54958.toInt = 0 := congrArg Int32.toInt h54963
                clear hi54961
                refine g_iload_n C dX12_cutAll_240 rfl 2 rfl ?_
                refine a_i2l C dX12_cutAll_241 (fun l54964 => ?_)
                refine g_lstore (lv' := [(5, .long l54964), (4, .int v17_2), (3, .int z54929), (0, .ref a0), (1, .int v17_1), (2, .int v17_2)]) C dX12_cutAll_242 (by decide) rfl ?_
                refine g_aload_n C dX12_cutAll_244 rfl 3 rfl ?_
                obtain ⟨b54965, e54966, h54967⟩ := Iy54939.fld (h54949) 4 13 1002 rfl
                refine g_getR C fi_X12_24 rfl e54966 (h54949).1 (h54949).2 dX12_cutAll_245 ?_
                refine g_iload_n C dX12_cutAll_248 rfl 4 rfl ?_
                refine g_iload_n C dX12_cutAll_249 rfl 2 rfl ?_
                refine g_callSI (b := 0) (ci := 0) (rest := [.int v17_1, .ref b54965]) C ms_X12_156 [.int z54929] (s_X12_isSignOf Iy54939.1) rfl rfl (by decide) (Nat.le_of_ble_eq_true rfl) (by decide) dX12_cutAll_250 (fun r54968 Y54969 h54970 => ?_)
                obtain ⟨rfl, h54970⟩ := h54970
                obtain ⟨h54970, hi54971⟩ := h54970
                have hi54971 : r54968.toInt = 0 ∨ (((59 : Int) ≤ z54929.toInt ∧ z54929.toInt ≤ (59 : Int))) := hi54971
                have h54970 : 0 ≤ r54968.toInt ∧ r54968.toInt ≤ 1 := h54970
                refine b_if_eq C 260 dX12_cutAll_253 (by decide) (fun h54972 => ?_) (fun h54972 => ?_)
                · have h54972 : r54968.toInt = 0 := congrArg Int32.toInt h54972
                  clear hi54971
                  refine g_iconst (v := 4) C dX12_cutAll_260 (by decide) ?_
                  refine g_lv (lv' := [(0, .ref a0), (1, .int v17_1), (2, .int v17_2), (5, .long l54964)]) [3, 4, 5, 0] rfl ?_
                  exact J261 Y54938 l54964 4 b54965 Iy54939 Xz54946 W54945 (by omega) (by decide) h54967 e54966 (by omega) (by omega) (fun b9 e9 => by rw [e54948] at e9; cases e9; omega) (by show v17_1.toInt ≤ v17_2.toInt; omega) (by show v17_2.toInt = v17_2.toInt; omega)
                · have h54972 : r54968.toInt ≠ 0 := ti_ne h54972
                  replace hi54971 := hi54971.resolve_left (by omega)
                  refine g_iconst (v := 3) C dX12_cutAll_256 (by decide) ?_
                  refine g_goto C 261 dX12_cutAll_257 (by decide) ?_
                  refine g_lv (lv' := [(0, .ref a0), (1, .int v17_1), (2, .int v17_2), (5, .long l54964)]) [3, 4, 5, 0] rfl ?_
                  exact J261 Y54938 l54964 3 b54965 Iy54939 Xz54946 W54945 (by omega) (by decide) h54967 e54966 (by omega) (by omega) (fun b9 e9 => by rw [e54948] at e9; cases e9; omega) (by show v17_1.toInt ≤ v17_2.toInt; omega) (by show v17_2.toInt = v17_2.toInt; omega)
              · have h54963 : r54958.toInt ≠ 0 := ti_ne h54963
                replace hi54961 := hi54961.resolve_left (by omega)
                refine g_lv (lv' := [(0, .ref a0), (1, .int v17_1), (2, .int v17_2), (4, .int v17_2), (5, .long 0)]) [3, 4, 5, 1, 0] rfl ?_
                exact J159 _ Y54938 v17_2 0 (Nat.lt_succ_self _) Iy54939 Xz54946 W54945 (by omega) (by omega) (by omega) (by omega) (fun b9 e9 => by rw [e54948] at e9; cases e9; omega) (by show v17_1.toInt ≤ v17_2.toInt; omega) (by intro b91 e91; rw [e54947] at e91; cases e91; show v17_2.toInt < v17_2.toInt ∨ (v17_2.toInt = v17_2.toInt ∧ v17_2.toInt < (pI Y54938 a0 3).toInt ∧ 48 ≤ (pI Y54938 b54926 (v17_2.toInt.toNat)).toInt ∧ (pI Y54938 b54926 (v17_2.toInt.toNat)).toInt ≤ 57); omega) (by show v17_2.toInt = v17_2.toInt; omega)
            · have h54957 : r54952.toInt ≠ 0 := ti_ne h54957
              replace hi54955 := hi54955.resolve_left (by omega)
              refine g_lv (lv' := [(0, .ref a0), (1, .int v17_1), (2, .int v17_2), (4, .int v17_2), (5, .long 0)]) [3, 4, 5, 1, 0] rfl ?_
              exact J70 _ Y54938 v17_2 0 (Nat.lt_succ_self _) Iy54939 Xz54946 W54945 (by omega) (by omega) (by omega) (by omega) (fun b9 e9 => by rw [e54948] at e9; cases e9; omega) (by show v17_1.toInt ≤ v17_2.toInt; omega) (by intro b91 e91; rw [e54947] at e91; cases e91; show v17_2.toInt < v17_2.toInt ∨ (v17_2.toInt = v17_2.toInt ∧ v17_2.toInt < (pI Y54938 a0 3).toInt ∧ 97 ≤ (pI Y54938 b54926 (v17_2.toInt.toNat)).toInt ∧ (pI Y54938 b54926 (v17_2.toInt.toNat)).toInt ≤ 122); omega) (by show v17_2.toInt = v17_2.toInt; omega)
          · have h54933 : z54929.toInt = 32 := congrArg Int32.toInt h54933
            refine g_lv (lv' := [(0, .ref a0), (1, .int v17_1), (2, .int v17_2)]) [1, 2, 3] rfl ?_
            exact J44 (by omega) (by omega) (by omega)
  refine g_aload_n C dX12_cutAll_0 rfl 0 rfl ?_
  refine g_aload_n C dX12_cutAll_1 rfl 0 rfl ?_
  refine g_getI C fi_X12_11 (by decide) (ha0).1 (ha0).2 dX12_cutAll_2 ?_
  have h54973 := I.rg (ha0) 2 rfl
  refine g_putI C fi_X12_140 rfl (ha0).1 (ha0).2 dX12_cutAll_5 ?_
  refine gqW (ks := [3]) (I.setI (rgOk.of rfl (by omega))) (EM.setI I (by decide)) (fun Y54974 Iy54975 Xy54976 w54977  => ?_)
  have w54977 : (pI Y54974 a0 3).toInt = (pI P a0 2).toInt := w54977
  have q54978 := Xy54976.keepF 2 (by decide)
  have W54979 := hW.keep I Xy54976 (by decide) (by decide) (by decide)
  have Xz54980 : EM [2, 3, 4, 5, 7, 8] a0 P Y54974 := Xy54976.mono (by decide)
  have h54981 := Xy54976.at ha0
  refine g_aload_n C dX12_cutAll_8 rfl 0 rfl ?_
  refine g_iconst (v := 0) C dX12_cutAll_9 (by decide) ?_
  refine g_putI C fi_X12_11 rfl (h54981).1 (h54981).2 dX12_cutAll_10 ?_
  refine gqW (ks := [2]) (Iy54975.setI (rgOk.of rfl (by decide))) (EM.setI Iy54975 (by decide)) (fun Y54982 Iy54983 Xy54984 w54985  => ?_)
  have w54985 : (pI Y54982 a0 2).toInt = 0 := w54985
  have q54986 := Xy54984.keepF 3 (by decide)
  have W54987 := W54979.keep Iy54975 Xy54984 (by decide) (by decide) (by decide)
  have Xz54988 : EM [2, 3, 4, 5, 7, 8] a0 P Y54982 := EM.tr ha0 Xz54980 (Xy54984.mono (by decide))
  have h54989 := Xy54984.at h54981
  refine g_iconst (v := 0) C dX12_cutAll_13 (by decide) ?_
  refine g_istore_n (lv' := [(1, .int 0), (0, .ref a0)]) C dX12_cutAll_14 rfl (by decide) rfl ?_
  refine g_iconst (v := 0) C dX12_cutAll_15 (by decide) ?_
  refine g_istore_n (lv' := [(2, .int 0), (1, .int 0), (0, .ref a0)]) C dX12_cutAll_16 rfl (by decide) rfl ?_
  refine g_lv (lv' := [(0, .ref a0), (1, .int 0), (2, .int 0)]) [2, 1, 0] rfl ?_
  exact J17 _ Y54982 0 0 (Nat.lt_succ_self _) Iy54983 Xz54988 W54987 (by decide) (by decide) (by omega) (by show 0 ≤ 0; omega)
