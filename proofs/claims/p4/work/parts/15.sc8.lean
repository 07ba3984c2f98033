theorem dX11_soon_0 : decode cX11_soon 0 = .ok (.iload_n 1, 1) := by decide +kernel
theorem dX11_soon_1 : decode cX11_soon 1 = .ok (.invokestatic 158, 3) := by decide +kernel
theorem dX11_soon_4 : decode cX11_soon 4 = .ok (.ifCond .eq 20, 3) := by decide +kernel
theorem dX11_soon_7 : decode cX11_soon 7 = .ok (.aload_n 0, 1) := by decide +kernel
theorem dX11_soon_8 : decode cX11_soon 8 = .ok (.iload_n 2, 1) := by decide +kernel
theorem dX11_soon_9 : decode cX11_soon 9 = .ok (.iload_n 3, 1) := by decide +kernel
theorem dX11_soon_10 : decode cX11_soon 10 = .ok (.invokevirtual 155, 3) := by decide +kernel
theorem dX11_soon_13 : decode cX11_soon 13 = .ok (.ifCond .eq 11, 3) := by decide +kernel
theorem dX11_soon_16 : decode cX11_soon 16 = .ok (.iload 4, 2) := by decide +kernel
theorem dX11_soon_18 : decode cX11_soon 18 = .ok (.invokestatic 249, 3) := by decide +kernel
theorem dX11_soon_21 : decode cX11_soon 21 = .ok (.ifCond .ne 5, 3) := by decide +kernel
theorem dX11_soon_26 : decode cX11_soon 26 = .ok (.iload 4, 2) := by decide +kernel
theorem dX11_soon_28 : decode cX11_soon 28 = .ok (.ifCond .ne 13, 3) := by decide +kernel
theorem dX11_soon_41 : decode cX11_soon 41 = .ok (.aload_n 0, 1) := by decide +kernel
theorem dX11_soon_42 : decode cX11_soon 42 = .ok (.iload_n 1, 1) := by decide +kernel
theorem dX11_soon_43 : decode cX11_soon 43 = .ok (.iload_n 2, 1) := by decide +kernel
theorem dX11_soon_44 : decode cX11_soon 44 = .ok (.iload_n 3, 1) := by decide +kernel
theorem dX11_soon_45 : decode cX11_soon 45 = .ok (.invokevirtual 260, 3) := by decide +kernel
theorem dX11_soonSolved_0 : decode cX11_soonSolved 0 = .ok (.aload_n 0, 1) := by decide +kernel
theorem dX11_soonSolved_1 : decode cX11_soonSolved 1 = .ok (.getfield 17, 3) := by decide +kernel
theorem dX11_soonSolved_4 : decode cX11_soonSolved 4 = .ok (.iload_n 1, 1) := by decide +kernel
theorem dX11_soonSolved_5 : decode cX11_soonSolved 5 = .ok (.aaload, 1) := by decide +kernel
theorem dX11_soonSolved_6 : decode cX11_soonSolved 6 = .ok (.astore 4, 2) := by decide +kernel
theorem dX11_soonSolved_8 : decode cX11_soonSolved 8 = .ok (.iconst 0, 1) := by decide +kernel
theorem dX11_soonSolved_9 : decode cX11_soonSolved 9 = .ok (.istore 5, 2) := by decide +kernel
theorem dX11_soonSolved_11 : decode cX11_soonSolved 11 = .ok (.iload 5, 2) := by decide +kernel
theorem dX11_soonSolved_13 : decode cX11_soonSolved 13 = .ok (.iconst 2, 1) := by decide +kernel
theorem dX11_soonSolved_14 : decode cX11_soonSolved 14 = .ok (.if_icmp .ge 43, 3) := by decide +kernel
theorem dX11_soonSolved_17 : decode cX11_soonSolved 17 = .ok (.aload_n 0, 1) := by decide +kernel
theorem dX11_soonSolved_18 : decode cX11_soonSolved 18 = .ok (.getfield 47, 3) := by decide +kernel
theorem dX11_soonSolved_21 : decode cX11_soonSolved 21 = .ok (.iload 5, 2) := by decide +kernel
theorem dX11_soonSolved_23 : decode cX11_soonSolved 23 = .ok (.aaload, 1) := by decide +kernel
theorem dX11_soonSolved_24 : decode cX11_soonSolved 24 = .ok (.aload_n 0, 1) := by decide +kernel
theorem dX11_soonSolved_25 : decode cX11_soonSolved 25 = .ok (.getfield 11, 3) := by decide +kernel
theorem dX11_soonSolved_28 : decode cX11_soonSolved 28 = .ok (.iload_n 2, 1) := by decide +kernel
theorem dX11_soonSolved_29 : decode cX11_soonSolved 29 = .ok (.aaload, 1) := by decide +kernel
theorem dX11_soonSolved_30 : decode cX11_soonSolved 30 = .ok (.invokevirtual 371, 3) := by decide +kernel
theorem dX11_soonSolved_33 : decode cX11_soonSolved 33 = .ok (.aload_n 0, 1) := by decide +kernel
theorem dX11_soonSolved_34 : decode cX11_soonSolved 34 = .ok (.getfield 53, 3) := by decide +kernel
theorem dX11_soonSolved_37 : decode cX11_soonSolved 37 = .ok (.iload 5, 2) := by decide +kernel
theorem dX11_soonSolved_39 : decode cX11_soonSolved 39 = .ok (.aaload, 1) := by decide +kernel
theorem dX11_soonSolved_40 : decode cX11_soonSolved 40 = .ok (.aload_n 0, 1) := by decide +kernel
theorem dX11_soonSolved_41 : decode cX11_soonSolved 41 = .ok (.getfield 47, 3) := by decide +kernel
theorem dX11_soonSolved_44 : decode cX11_soonSolved 44 = .ok (.iload 5, 2) := by decide +kernel
theorem dX11_soonSolved_46 : decode cX11_soonSolved 46 = .ok (.aaload, 1) := by decide +kernel
theorem dX11_soonSolved_47 : decode cX11_soonSolved 47 = .ok (.iconst (-1), 1) := by decide +kernel
theorem dX11_soonSolved_48 : decode cX11_soonSolved 48 = .ok (.invokevirtual 236, 3) := by decide +kernel
theorem dX11_soonSolved_51 : decode cX11_soonSolved 51 = .ok (.iinc 5 1, 3) := by decide +kernel
theorem dX11_soonSolved_54 : decode cX11_soonSolved 54 = .ok (.goto (-43), 3) := by decide +kernel
theorem dX11_soonSolved_57 : decode cX11_soonSolved 57 = .ok (.iconst 0, 1) := by decide +kernel
theorem dX11_soonSolved_58 : decode cX11_soonSolved 58 = .ok (.istore 5, 2) := by decide +kernel
theorem dX11_soonSolved_60 : decode cX11_soonSolved 60 = .ok (.iload 5, 2) := by decide +kernel
theorem dX11_soonSolved_62 : decode cX11_soonSolved 62 = .ok (.aload 4, 2) := by decide +kernel
theorem dX11_soonSolved_64 : decode cX11_soonSolved 64 = .ok (.getfield 336, 3) := by decide +kernel
theorem dX11_soonSolved_67 : decode cX11_soonSolved 67 = .ok (.if_icmp .ge 108, 3) := by decide +kernel
theorem dX11_soonSolved_70 : decode cX11_soonSolved 70 = .ok (.aload 4, 2) := by decide +kernel
theorem dX11_soonSolved_72 : decode cX11_soonSolved 72 = .ok (.iload 5, 2) := by decide +kernel
theorem dX11_soonSolved_74 : decode cX11_soonSolved 74 = .ok (.invokevirtual 337, 3) := by decide +kernel
theorem dX11_soonSolved_77 : decode cX11_soonSolved 77 = .ok (.astore 6, 2) := by decide +kernel
theorem dX11_soonSolved_79 : decode cX11_soonSolved 79 = .ok (.aload 6, 2) := by decide +kernel
theorem dX11_soonSolved_81 : decode cX11_soonSolved 81 = .ok (.ifnull 88, 3) := by decide +kernel
theorem dX11_soonSolved_84 : decode cX11_soonSolved 84 = .ok (.aload 6, 2) := by decide +kernel
theorem dX11_soonSolved_86 : decode cX11_soonSolved 86 = .ok (.getfield 191, 3) := by decide +kernel
theorem dX11_soonSolved_89 : decode cX11_soonSolved 89 = .ok (.iload_n 2, 1) := by decide +kernel
theorem dX11_soonSolved_90 : decode cX11_soonSolved 90 = .ok (.if_icmp .ne 79, 3) := by decide +kernel
theorem dX11_soonSolved_93 : decode cX11_soonSolved 93 = .ok (.iconst 0, 1) := by decide +kernel
theorem dX11_soonSolved_94 : decode cX11_soonSolved 94 = .ok (.istore 7, 2) := by decide +kernel
theorem dX11_soonSolved_96 : decode cX11_soonSolved 96 = .ok (.iload 7, 2) := by decide +kernel
theorem dX11_soonSolved_98 : decode cX11_soonSolved 98 = .ok (.iconst 2, 1) := by decide +kernel
theorem dX11_soonSolved_99 : decode cX11_soonSolved 99 = .ok (.if_icmp .ge 37, 3) := by decide +kernel
theorem dX11_soonSolved_102 : decode cX11_soonSolved 102 = .ok (.aload 6, 2) := by decide +kernel
theorem dX11_soonSolved_104 : decode cX11_soonSolved 104 = .ok (.iload 7, 2) := by decide +kernel
theorem dX11_soonSolved_106 : decode cX11_soonSolved 106 = .ok (.invokevirtual 365, 3) := by decide +kernel
theorem dX11_soonSolved_109 : decode cX11_soonSolved 109 = .ok (.ifCond .eq 21, 3) := by decide +kernel
theorem dX11_soonSolved_112 : decode cX11_soonSolved 112 = .ok (.aload_n 0, 1) := by decide +kernel
theorem dX11_soonSolved_113 : decode cX11_soonSolved 113 = .ok (.getfield 53, 3) := by decide +kernel
theorem dX11_soonSolved_116 : decode cX11_soonSolved 116 = .ok (.iload 7, 2) := by decide +kernel
theorem dX11_soonSolved_118 : decode cX11_soonSolved 118 = .ok (.aaload, 1) := by decide +kernel
theorem dX11_soonSolved_119 : decode cX11_soonSolved 119 = .ok (.aload 6, 2) := by decide +kernel
theorem dX11_soonSolved_121 : decode cX11_soonSolved 121 = .ok (.iload_n 2, 1) := by decide +kernel
theorem dX11_soonSolved_122 : decode cX11_soonSolved 122 = .ok (.iload 7, 2) := by decide +kernel
theorem dX11_soonSolved_124 : decode cX11_soonSolved 124 = .ok (.invokevirtual 375, 3) := by decide +kernel
theorem dX11_soonSolved_127 : decode cX11_soonSolved 127 = .ok (.invokevirtual 392, 3) := by decide +kernel
theorem dX11_soonSolved_130 : decode cX11_soonSolved 130 = .ok (.iinc 7 1, 3) := by decide +kernel
theorem dX11_soonSolved_133 : decode cX11_soonSolved 133 = .ok (.goto (-37), 3) := by decide +kernel
theorem dX11_soonSolved_136 : decode cX11_soonSolved 136 = .ok (.aload_n 0, 1) := by decide +kernel
theorem dX11_soonSolved_137 : decode cX11_soonSolved 137 = .ok (.getfield 53, 3) := by decide +kernel
theorem dX11_soonSolved_140 : decode cX11_soonSolved 140 = .ok (.iconst 0, 1) := by decide +kernel
theorem dX11_soonSolved_141 : decode cX11_soonSolved 141 = .ok (.aaload, 1) := by decide +kernel
theorem dX11_soonSolved_142 : decode cX11_soonSolved 142 = .ok (.iload_n 3, 1) := by decide +kernel
theorem dX11_soonSolved_143 : decode cX11_soonSolved 143 = .ok (.invokevirtual 272, 3) := by decide +kernel
theorem dX11_soonSolved_146 : decode cX11_soonSolved 146 = .ok (.iconst (-1), 1) := by decide +kernel
theorem dX11_soonSolved_147 : decode cX11_soonSolved 147 = .ok (.if_icmp .eq 22, 3) := by decide +kernel
theorem dX11_soonSolved_150 : decode cX11_soonSolved 150 = .ok (.aload_n 0, 1) := by decide +kernel
theorem dX11_soonSolved_151 : decode cX11_soonSolved 151 = .ok (.getfield 53, 3) := by decide +kernel
theorem dX11_soonSolved_154 : decode cX11_soonSolved 154 = .ok (.iconst 1, 1) := by decide +kernel
theorem dX11_soonSolved_155 : decode cX11_soonSolved 155 = .ok (.aaload, 1) := by decide +kernel
theorem dX11_soonSolved_156 : decode cX11_soonSolved 156 = .ok (.iload_n 3, 1) := by decide +kernel
theorem dX11_soonSolved_157 : decode cX11_soonSolved 157 = .ok (.invokevirtual 272, 3) := by decide +kernel
theorem dX11_soonSolved_160 : decode cX11_soonSolved 160 = .ok (.iconst (-1), 1) := by decide +kernel
theorem dX11_soonSolved_161 : decode cX11_soonSolved 161 = .ok (.if_icmp .eq 8, 3) := by decide +kernel
theorem dX11_soonSolved_164 : decode cX11_soonSolved 164 = .ok (.iload 5, 2) := by decide +kernel
theorem dX11_soonSolved_166 : decode cX11_soonSolved 166 = .ok (.iconst 1, 1) := by decide +kernel
theorem dX11_soonSolved_167 : decode cX11_soonSolved 167 = .ok (.iadd, 1) := by decide +kernel
theorem dX11_soonSolved_168 : decode cX11_soonSolved 168 = .ok (.ireturn, 1) := by decide +kernel
theorem dX11_soonSolved_169 : decode cX11_soonSolved 169 = .ok (.iinc 5 1, 3) := by decide +kernel
theorem dX11_soonSolved_172 : decode cX11_soonSolved 172 = .ok (.goto (-112), 3) := by decide +kernel
theorem dX11_soonSolved_175 : decode cX11_soonSolved 175 = .ok (.iconst (-1), 1) := by decide +kernel
theorem dX11_soonSolved_176 : decode cX11_soonSolved 176 = .ok (.ireturn, 1) := by decide +kernel
set_option maxHeartbeats 4000000 in
set_option maxRecDepth 100000 in
theorem s_X11_soonSolved {P : PP} {a0 : Nat} {a1 : Int32} {a2 : Int32} {a3 : Int32} (I : IV P) (ha0 : At P a0 11) (ha1 : 0 ≤ a1.toInt ∧ a1.toInt ≤ 3) (ha2 : 0 ≤ a2.toInt ∧ a2.toInt ≤ 1) : CtrI yX11_soonSolved cX11_soonSolved 8 (some Jvm.ClassFile.FieldType.int) ({ frames := 4, cells := 0, slots := 0, locals := 256 } : Room) 0 0 P [.ref a0, .int a1, .int a2, .int a3] (fun r P2 => IV P2 ∧ EK [0, 5, 13] P P2 ∧ (-1 ≤ r.toInt ∧ r.toInt ≤ 40)) := by
  refine enI (lv := [(0, .ref a0), (1, .int a1), (2, .int a2), (3, .int a3)]) (by decide) (Nat.le_of_ble_eq_true rfl) rfl (fun E D cy C Ci0 ret => ?_)
  have J60 : ∀ (n60 : Nat) (P60 : PP) (b60_4 : Nat) (v60_5 : Int32), (40 - v60_5.toInt).toNat < n60 → (IV P60) → (EK [0, 5, 13] P P60) → (At P60 b60_4 6) → (0 ≤ v60_5.toInt ∧ v60_5.toInt ≤ 40) → G E ({ frames := 4, cells := 0, slots := 0, locals := 256 } : Room) D cy 8 P60 0 0 60 [(0, .ref a0), (2, .int a2), (3, .int a3), (4, .ref b60_4), (5, .int v60_5)] [] := by
    intro n60
    induction n60 with
    | zero => intro P60 b60_4 v60_5 hm60 I60 X60 hb60_4 hv60_5; omega
    | succ n60 ih60 =>
      intro P60 b60_4 v60_5 hm60 I60 X60 hb60_4 hv60_5
      have h36217 := X60.at ha0
      have J169 : ∀ (P169 : PP) (b169_4 : Nat), (IV P169) → (EK [0, 5, 13] P P169) → (At P169 b169_4 6) → (0 ≤ v60_5.toInt ∧ v60_5.toInt ≤ 39) → (1 ≤ (pI P169 b169_4 1).toInt ∧ (pI P169 b169_4 1).toInt ≤ 40) → G E ({ frames := 4, cells := 0, slots := 0, locals := 256 } : Room) D cy 8 P169 0 0 169 [(0, .ref a0), (2, .int a2), (3, .int a3), (4, .ref b169_4), (5, .int v60_5)] [] := by
        intro P169 b169_4 I169 X169 hb169_4 hv169_5 hq169_0
        have h36218 := X169.at ha0
        refine s_iinc (lv0 := [(0, .ref a0), (2, .int a2), (3, .int a3), (4, .ref b169_4)]) (m := 1) C dX11_soonSolved_169 4 rfl (by decide) rfl (by decide) (by omega) (fun z36219 h36220 => ?_)
        have h36220 : z36219.toInt = v60_5.toInt + 1 := h36220
        refine g_goto C 60 dX11_soonSolved_172 (by decide) ?_
        refine g_lv (lv' := [(0, .ref a0), (2, .int a2), (3, .int a3), (4, .ref b169_4), (5, .int z36219)]) [1, 2, 3, 4, 0] rfl ?_
        exact ih60 P169 b169_4 z36219 (by omega) I169 X169 hb169_4 (by omega)
      have J96 : ∀ (n96 : Nat) (P96 : PP) (b96_4 : Nat) (b96_6 : Nat) (v96_7 : Int32), (2 - v96_7.toInt).toNat < n96 → (IV P96) → (EK [0, 5, 13] P P96) → (At P96 b96_4 6) → (0 ≤ v60_5.toInt ∧ v60_5.toInt ≤ 39) → (At P96 b96_6 7) → (0 ≤ v96_7.toInt ∧ v96_7.toInt ≤ 2) → (1 ≤ (pI P96 b96_4 1).toInt ∧ (pI P96 b96_4 1).toInt ≤ 40) → (0 ≤ (pI P96 b96_6 0).toInt ∧ (pI P96 b96_6 0).toInt ≤ 1) → G E ({ frames := 4, cells := 0, slots := 0, locals := 256 } : Room) D cy 8 P96 0 0 96 [(0, .ref a0), (2, .int a2), (3, .int a3), (4, .ref b96_4), (5, .int v60_5), (6, .ref b96_6), (7, .int v96_7)] [] := by
        intro n96
        induction n96 with
        | zero => intro P96 b96_4 b96_6 v96_7 hm96 I96 X96 hb96_4 hv96_5 hb96_6 hv96_7 hq96_0 hq96_1; omega
        | succ n96 ih96 =>
          intro P96 b96_4 b96_6 v96_7 hm96 I96 X96 hb96_4 hv96_5 hb96_6 hv96_7 hq96_0 hq96_1
          have h36221 := X96.at ha0
          have J130 : ∀ (P130 : PP) (b130_4 : Nat) (b130_6 : Nat), (IV P130) → (EK [0, 5, 13] P P130) → (At P130 b130_4 6) → (0 ≤ v60_5.toInt ∧ v60_5.toInt ≤ 39) → (At P130 b130_6 7) → (0 ≤ v96_7.toInt ∧ v96_7.toInt ≤ 1) → (1 ≤ (pI P130 b130_4 1).toInt ∧ (pI P130 b130_4 1).toInt ≤ 40) → (0 ≤ (pI P130 b130_6 0).toInt ∧ (pI P130 b130_6 0).toInt ≤ 1) → G E ({ frames := 4, cells := 0, slots := 0, locals := 256 } : Room) D cy 8 P130 0 0 130 [(0, .ref a0), (2, .int a2), (3, .int a3), (4, .ref b130_4), (5, .int v60_5), (6, .ref b130_6), (7, .int v96_7)] [] := by
            intro P130 b130_4 b130_6 I130 X130 hb130_4 hv130_5 hb130_6 hv130_7 hq130_0 hq130_1
            have h36222 := X130.at ha0
            refine s_iinc (lv0 := [(0, .ref a0), (2, .int a2), (3, .int a3), (4, .ref b130_4), (5, .int v60_5), (6, .ref b130_6)]) (m := 1) C dX11_soonSolved_130 6 rfl (by decide) rfl (by decide) (by omega) (fun z36223 h36224 => ?_)
            have h36224 : z36223.toInt = v96_7.toInt + 1 := h36224
            refine g_goto C 96 dX11_soonSolved_133 (by decide) ?_
            refine g_lv (lv' := [(0, .ref a0), (2, .int a2), (3, .int a3), (4, .ref b130_4), (5, .int v60_5), (6, .ref b130_6), (7, .int z36223)]) [1, 2, 3, 4, 5, 6, 0] rfl ?_
            exact ih96 P130 b130_4 b130_6 z36223 (by omega) I130 X130 hb130_4 (by omega) hb130_6 (by omega) (by omega) (by omega)
          refine g_iload C dX11_soonSolved_96 6 rfl ?_
          refine g_iconst (v := 2) C dX11_soonSolved_98 (by decide) ?_
          refine b_icmp_ge C 136 dX11_soonSolved_99 (by decide) (fun h36225 => ?_) (fun h36225 => ?_)
          · have h36225 : 2 ≤ v96_7.toInt := h36225
            refine g_aload_n C dX11_soonSolved_136 rfl 0 rfl ?_
            obtain ⟨b36226, e36227, h36228⟩ := I96.fld (h36221) 9 16 2 rfl
            refine g_getR C fi_X11_53 rfl e36227 (h36221).1 (h36221).2 dX11_soonSolved_137 ?_
            refine g_iconst (v := 0) C dX11_soonSolved_140 (by decide) ?_
            obtain ⟨b36229, e36230, h36231⟩ := I96.elm h36228 (by decide) 0 (by decide)
            refine g_aldR C h36228.1 h36228.2.1 (by decide) (IX.litn (j := 0) h36228.2.2 rfl (by decide) (by decide)) e36230 dX11_soonSolved_141 ?_
            refine g_iload_n C dX11_soonSolved_142 rfl 2 rfl ?_
            refine g_callVI (rest := []) C mv_X11_272 [.int a3] (s_X0_octetOf I96 h36231) (h36231).1 (h36231).2 rfl rfl (by decide) (Nat.le_of_ble_eq_true rfl) (by decide) dX11_soonSolved_143 (fun r36232 Y36233 h36234 => ?_)
            obtain ⟨rfl, h36234⟩ := h36234
            have h36234 : True := h36234
            refine g_iconst (v := (-1)) C dX11_soonSolved_146 (by decide) ?_
            have u36236 := ti_rng r36232
            refine b_icmp_eq C 169 dX11_soonSolved_147 (by decide) (fun h36235 => ?_) (fun h36235 => ?_)
            · have h36235 : r36232.toInt = (-1) := congrArg Int32.toInt h36235
              refine g_lv (lv' := [(0, .ref a0), (2, .int a2), (3, .int a3), (4, .ref b96_4), (5, .int v60_5)]) [0, 1, 2, 3, 4] rfl ?_
              exact J169 P96 b96_4 I96 X96 hb96_4 (by omega) (by omega)
            · have h36235 : r36232.toInt ≠ (-1) := ti_ne h36235
              refine g_aload_n C dX11_soonSolved_150 rfl 0 rfl ?_
              refine g_getR C fi_X11_53 rfl e36227 (h36221).1 (h36221).2 dX11_soonSolved_151 ?_
              refine g_iconst (v := 1) C dX11_soonSolved_154 (by decide) ?_
              obtain ⟨b36237, e36238, h36239⟩ := I96.elm h36228 (by decide) 1 (by decide)
              refine g_aldR C h36228.1 h36228.2.1 (by decide) (IX.litn (j := 1) h36228.2.2 rfl (by decide) (by decide)) e36238 dX11_soonSolved_155 ?_
              refine g_iload_n C dX11_soonSolved_156 rfl 2 rfl ?_
              refine g_callVI (rest := []) C mv_X11_272 [.int a3] (s_X0_octetOf I96 h36239) (h36239).1 (h36239).2 rfl rfl (by decide) (Nat.le_of_ble_eq_true rfl) (by decide) dX11_soonSolved_157 (fun r36240 Y36241 h36242 => ?_)
              obtain ⟨rfl, h36242⟩ := h36242
              have h36242 : True := h36242
              refine g_iconst (v := (-1)) C dX11_soonSolved_160 (by decide) ?_
              have u36244 := ti_rng r36240
              refine b_icmp_eq C 169 dX11_soonSolved_161 (by decide) (fun h36243 => ?_) (fun h36243 => ?_)
              · have h36243 : r36240.toInt = (-1) := congrArg Int32.toInt h36243
                refine g_lv (lv' := [(0, .ref a0), (2, .int a2), (3, .int a3), (4, .ref b96_4), (5, .int v60_5)]) [0, 1, 2, 3, 4] rfl ?_
                exact J169 P96 b96_4 I96 X96 hb96_4 (by omega) (by omega)
              · have h36243 : r36240.toInt ≠ (-1) := ti_ne h36243
                refine g_iload C dX11_soonSolved_164 4 rfl ?_
                refine g_iconst (v := 1) C dX11_soonSolved_166 (by decide) ?_
                refine s_iadd C dX11_soonSolved_167 (by show -2147483648 ≤ v60_5.toInt + 1 ∧ v60_5.toInt + 1 ≤ 2147483647; omega) (fun z36245 h36246 => ?_)
                have h36246 : z36245.toInt = v60_5.toInt + 1 := h36246
                exact ret _ _ _ _ _ _ dX11_soonSolved_168 rfl (by decide) (by decide) ⟨I96, X96, (by omega)⟩
          · have h36225 : v96_7.toInt < 2 := h36225
            refine g_aload C dX11_soonSolved_102 5 rfl ?_
            refine g_iload C dX11_soonSolved_104 6 rfl ?_
            refine g_callVI (rest := []) C mv_X11_365 [.int v96_7] (s_X7_hasOctet I96 hb96_6) (hb96_6).1 (hb96_6).2 rfl rfl (by decide) (Nat.le_of_ble_eq_true rfl) (by decide) dX11_soonSolved_106 (fun r36247 Y36248 h36249 => ?_)
            obtain ⟨rfl, h36249⟩ := h36249
            have h36249 : 0 ≤ r36247.toInt ∧ r36247.toInt ≤ 1 := h36249
            refine b_if_eq C 130 dX11_soonSolved_109 (by decide) (fun h36250 => ?_) (fun h36250 => ?_)
            · have h36250 : r36247.toInt = 0 := congrArg Int32.toInt h36250
              exact J130 P96 b96_4 b96_6 I96 X96 hb96_4 (by omega) hb96_6 (by omega) (by omega) (by omega)
            · have h36250 : r36247.toInt ≠ 0 := ti_ne h36250
              refine g_aload_n C dX11_soonSolved_112 rfl 0 rfl ?_
              obtain ⟨b36251, e36252, h36253⟩ := I96.fld (h36221) 9 16 2 rfl
              refine g_getR C fi_X11_53 rfl e36252 (h36221).1 (h36221).2 dX11_soonSolved_113 ?_
              refine g_iload C dX11_soonSolved_116 6 rfl ?_
              obtain ⟨b36254, e36255, h36256⟩ := I96.elm h36253 (by decide) (v96_7.toInt.toNat) (by omega)
              refine g_aldR C h36253.1 h36253.2.1 (by decide) (ix_in h36253.2.2 (by omega)) e36255 dX11_soonSolved_118 ?_
              refine g_aload C dX11_soonSolved_119 5 rfl ?_
              refine g_iload_n C dX11_soonSolved_121 rfl 1 rfl ?_
              refine g_iload C dX11_soonSolved_122 6 rfl ?_
              refine g_callVI (rest := [.ref b36254]) C mv_X11_375 [.int a2, .int v96_7] (s_X7_equation I96 hb96_6) (hb96_6).1 (hb96_6).2 rfl rfl (by decide) (Nat.le_of_ble_eq_true rfl) (by decide) dX11_soonSolved_124 (fun r36257 Y36258 h36259 => ?_)
              obtain ⟨rfl, h36259⟩ := h36259
              have h36259 : True := h36259
              refine g_callVV (rest := []) C mv_X11_392 [.int r36257] (s_X0_add I96 h36256) (h36256).1 (h36256).2 rfl rfl (by decide) (Nat.le_of_ble_eq_true rfl) (by decide) dX11_soonSolved_127 (fun Y36261 h36262 => ?_)
              obtain ⟨Iy36263, Xy36264⟩ := h36262
              have q36265 := Xy36264.keep hb96_4 (by decide) 1
              have q36266 := Xy36264.keep hb96_6 (by decide) 0
              have Xz36267 : EK [0, 5, 13] P Y36261 := X96.tr (Xy36264.mono (by decide))
              have h36268 := Xy36264.at h36221
              have h36269 := Xy36264.at hb96_4
              have h36270 := Xy36264.at hb96_6
              exact J130 Y36261 b96_4 b96_6 Iy36263 Xz36267 h36269 (by omega) h36270 (by omega) (by omega) (by omega)
      refine g_iload C dX11_soonSolved_60 4 rfl ?_
      refine g_aload C dX11_soonSolved_62 3 rfl ?_
      refine g_getI C fi_X11_336 (by decide) (hb60_4).1 (hb60_4).2 dX11_soonSolved_64 ?_
      have h36271 := I60.rg (hb60_4) 1 rfl
      refine b_icmp_ge C 175 dX11_soonSolved_67 (by decide) (fun h36272 => ?_) (fun h36272 => ?_)
      · have h36272 : (pI P60 b60_4 1).toInt ≤ v60_5.toInt := h36272
        refine g_iconst (v := (-1)) C dX11_soonSolved_175 (by decide) ?_
        exact ret _ _ _ _ _ _ dX11_soonSolved_176 rfl (by decide) (by decide) ⟨I60, X60, (by decide)⟩
      · have h36272 : v60_5.toInt < (pI P60 b60_4 1).toInt := h36272
        refine g_aload C dX11_soonSolved_70 3 rfl ?_
        refine g_iload C dX11_soonSolved_72 4 rfl ?_
        refine g_callVQ (rest := []) C mv_X11_337 [.int v60_5] (s_X6_at I60 hb60_4) (hb60_4).1 (hb60_4).2 rfl rfl (by decide) (Nat.le_of_ble_eq_true rfl) (by decide) dX11_soonSolved_74 (fun r36273 Y36274 h36275 => ?_)
        obtain ⟨rfl, h36275⟩ := h36275
        rcases h36275 with rfl | ⟨b36277, rfl, h36275, hj36276⟩
        · show G _ _ _ _ _ _ _ _ _ _ (.null :: _)
          refine g_astoreN (lv' := [(6, .null), (0, .ref a0), (2, .int a2), (3, .int a3), (4, .ref b60_4), (5, .int v60_5)]) C dX11_soonSolved_77 (by decide) rfl ?_
          refine g_aloadN C dX11_soonSolved_79 0 rfl ?_
          refine g_ifnullN C 169 dX11_soonSolved_81 (by decide) ?_
          refine g_lv (lv' := [(0, .ref a0), (2, .int a2), (3, .int a3), (4, .ref b60_4), (5, .int v60_5)]) [1, 2, 3, 4, 5] rfl ?_
          exact J169 P60 b60_4 I60 X60 hb60_4 (by omega) (by omega)
        · have hj36276 : ((0 : Int) ≤ v60_5.toInt ∧ v60_5.toInt ≤ (39 : Int)) := hj36276
          show G _ _ _ _ _ _ _ _ _ _ (.ref b36277 :: _)
          refine g_astore (lv' := [(6, .ref b36277), (0, .ref a0), (2, .int a2), (3, .int a3), (4, .ref b60_4), (5, .int v60_5)]) C dX11_soonSolved_77 (by decide) rfl ?_
          refine g_aload C dX11_soonSolved_79 0 rfl ?_
          refine g_ifnull C dX11_soonSolved_81 ?_
          refine g_aload C dX11_soonSolved_84 0 rfl ?_
          refine g_getI C fi_X11_191 (by decide) (h36275).1 (h36275).2 dX11_soonSolved_86 ?_
          have h36278 := I60.rg (h36275) 0 rfl
          refine g_iload_n C dX11_soonSolved_89 rfl 2 rfl ?_
          refine b_icmp_ne C 169 dX11_soonSolved_90 (by decide) (fun h36279 => ?_) (fun h36279 => ?_)
          · have h36279 : (pI P60 b36277 0).toInt ≠ a2.toInt := ti_ne h36279
            refine g_lv (lv' := [(0, .ref a0), (2, .int a2), (3, .int a3), (4, .ref b60_4), (5, .int v60_5)]) [1, 2, 3, 4, 5] rfl ?_
            exact J169 P60 b60_4 I60 X60 hb60_4 (by omega) (by omega)
          · have h36279 : (pI P60 b36277 0).toInt = a2.toInt := congrArg Int32.toInt h36279
            refine g_iconst (v := 0) C dX11_soonSolved_93 (by decide) ?_
            refine g_istore (lv' := [(7, .int 0), (6, .ref b36277), (0, .ref a0), (2, .int a2), (3, .int a3), (4, .ref b60_4), (5, .int v60_5)]) C dX11_soonSolved_94 (by decide) rfl ?_
            refine g_lv (lv' := [(0, .ref a0), (2, .int a2), (3, .int a3), (4, .ref b60_4), (5, .int v60_5), (6, .ref b36277), (7, .int 0)]) [2, 3, 4, 5, 6, 1, 0] rfl ?_
            exact J96 _ P60 b60_4 b36277 0 (Nat.lt_succ_self _) I60 X60 hb60_4 (by omega) h36275 (by decide) (by omega) (by omega)
  have J11 : ∀ (n11 : Nat) (P11 : PP) (b11_4 : Nat) (v11_5 : Int32), (2 - v11_5.toInt).toNat < n11 → (IV P11) → (EK [0, 5, 13] P P11) → (At P11 b11_4 6) → (0 ≤ v11_5.toInt ∧ v11_5.toInt ≤ 2) → G E ({ frames := 4, cells := 0, slots := 0, locals := 256 } : Room) D cy 8 P11 0 0 11 [(0, .ref a0), (2, .int a2), (3, .int a3), (4, .ref b11_4), (5, .int v11_5)] [] := by
    intro n11
    induction n11 with
    | zero => intro P11 b11_4 v11_5 hm11 I11 X11 hb11_4 hv11_5; omega
    | succ n11 ih11 =>
      intro P11 b11_4 v11_5 hm11 I11 X11 hb11_4 hv11_5
      have h36280 := X11.at ha0
      refine g_iload C dX11_soonSolved_11 4 rfl ?_
      refine g_iconst (v := 2) C dX11_soonSolved_13 (by decide) ?_
      refine b_icmp_ge C 57 dX11_soonSolved_14 (by decide) (fun h36281 => ?_) (fun h36281 => ?_)
      · have h36281 : 2 ≤ v11_5.toInt := h36281
        refine g_iconst (v := 0) C dX11_soonSolved_57 (by decide) ?_
        refine g_istore (lv' := [(5, .int 0), (0, .ref a0), (2, .int a2), (3, .int a3), (4, .ref b11_4)]) C dX11_soonSolved_58 (by decide) rfl ?_
        refine g_lv (lv' := [(0, .ref a0), (2, .int a2), (3, .int a3), (4, .ref b11_4), (5, .int 0)]) [1, 2, 3, 4, 0] rfl ?_
        exact J60 _ P11 b11_4 0 (Nat.lt_succ_self _) I11 X11 hb11_4 (by decide)
      · have h36281 : v11_5.toInt < 2 := h36281
        refine g_aload_n C dX11_soonSolved_17 rfl 0 rfl ?_
        obtain ⟨b36282, e36283, h36284⟩ := I11.fld (h36280) 8 18 2 rfl
        refine g_getR C fi_X11_47 rfl e36283 (h36280).1 (h36280).2 dX11_soonSolved_18 ?_
        refine g_iload C dX11_soonSolved_21 4 rfl ?_
        obtain ⟨b36285, e36286, h36287⟩ := I11.elm h36284 (by decide) (v11_5.toInt.toNat) (by omega)
        refine g_aldR C h36284.1 h36284.2.1 (by decide) (ix_in h36284.2.2 (by omega)) e36286 dX11_soonSolved_23 ?_
        refine g_aload_n C dX11_soonSolved_24 rfl 0 rfl ?_
        obtain ⟨b36288, e36289, h36290⟩ := I11.fld (h36280) 0 17 2 rfl
        refine g_getR C fi_X11_11 rfl e36289 (h36280).1 (h36280).2 dX11_soonSolved_25 ?_
        refine g_iload_n C dX11_soonSolved_28 rfl 1 rfl ?_
        obtain ⟨b36291, e36292, h36293⟩ := I11.elm h36290 (by decide) (a2.toInt.toNat) (by omega)
        refine g_aldR C h36290.1 h36290.2.1 (by decide) (ix_in h36290.2.2 (by omega)) e36292 dX11_soonSolved_29 ?_
        refine g_callVV (rest := []) C mv_X11_371 [.ref b36291] (s_X5_startWith I11 h36287 h36293) (h36287).1 (h36287).2 rfl rfl (by decide) (Nat.le_of_ble_eq_true rfl) (by decide) dX11_soonSolved_30 (fun Y36295 h36296 => ?_)
        obtain ⟨Iy36297, Xy36298⟩ := h36296
        have Xz36299 : EK [0, 5, 13] P Y36295 := X11.tr (Xy36298.mono (by decide))
        have h36300 := Xy36298.at h36280
        have h36301 := Xy36298.at hb11_4
        refine g_aload_n C dX11_soonSolved_33 rfl 0 rfl ?_
        obtain ⟨b36302, e36303, h36304⟩ := Iy36297.fld (h36300) 9 16 2 rfl
        refine g_getR C fi_X11_53 rfl e36303 (h36300).1 (h36300).2 dX11_soonSolved_34 ?_
        refine g_iload C dX11_soonSolved_37 4 rfl ?_
        obtain ⟨b36305, e36306, h36307⟩ := Iy36297.elm h36304 (by decide) (v11_5.toInt.toNat) (by omega)
        refine g_aldR C h36304.1 h36304.2.1 (by decide) (ix_in h36304.2.2 (by omega)) e36306 dX11_soonSolved_39 ?_
        refine g_aload_n C dX11_soonSolved_40 rfl 0 rfl ?_
        obtain ⟨b36308, e36309, h36310⟩ := Iy36297.fld (h36300) 8 18 2 rfl
        refine g_getR C fi_X11_47 rfl e36309 (h36300).1 (h36300).2 dX11_soonSolved_41 ?_
        refine g_iload C dX11_soonSolved_44 4 rfl ?_
        obtain ⟨b36311, e36312, h36313⟩ := Iy36297.elm h36310 (by decide) (v11_5.toInt.toNat) (by omega)
        refine g_aldR C h36310.1 h36310.2.1 (by decide) (ix_in h36310.2.2 (by omega)) e36312 dX11_soonSolved_46 ?_
        refine g_iconst (v := (-1)) C dX11_soonSolved_47 (by decide) ?_
        refine g_callVV (rest := []) C mv_X11_236 [.ref b36311, .int (-1)] (s_X0_take Iy36297 h36307 h36313) (h36307).1 (h36307).2 rfl rfl (by decide) (Nat.le_of_ble_eq_true rfl) (by decide) dX11_soonSolved_48 (fun Y36315 h36316 => ?_)
        obtain ⟨Iy36317, Xy36318⟩ := h36316
        have Xz36319 : EK [0, 5, 13] P Y36315 := Xz36299.tr (Xy36318.mono (by decide))
        have h36320 := Xy36318.at h36300
        have h36321 := Xy36318.at h36301
        refine s_iinc (lv0 := [(0, .ref a0), (2, .int a2), (3, .int a3), (4, .ref b11_4)]) (m := 1) C dX11_soonSolved_51 4 rfl (by decide) rfl (by decide) (by omega) (fun z36322 h36323 => ?_)
        have h36323 : z36322.toInt = v11_5.toInt + 1 := h36323
        refine g_goto C 11 dX11_soonSolved_54 (by decide) ?_
        refine g_lv (lv' := [(0, .ref a0), (2, .int a2), (3, .int a3), (4, .ref b11_4), (5, .int z36322)]) [1, 2, 3, 4, 0] rfl ?_
        exact ih11 Y36315 b11_4 z36322 (by omega) Iy36317 Xz36319 h36321 (by omega)
  refine g_aload_n C dX11_soonSolved_0 rfl 0 rfl ?_
  obtain ⟨b36324, e36325, h36326⟩ := I.fld (ha0) 1 19 4 rfl
  refine g_getR C fi_X11_17 rfl e36325 (ha0).1 (ha0).2 dX11_soonSolved_1 ?_
  refine g_iload_n C dX11_soonSolved_4 rfl 1 rfl ?_
  obtain ⟨b36327, e36328, h36329⟩ := I.elm h36326 (by decide) (a1.toInt.toNat) (by omega)
  refine g_aldR C h36326.1 h36326.2.1 (by decide) (ix_in h36326.2.2 (by omega)) e36328 dX11_soonSolved_5 ?_
  refine g_astore (lv' := [(4, .ref b36327), (0, .ref a0), (1, .int a1), (2, .int a2), (3, .int a3)]) C dX11_soonSolved_6 (by decide) rfl ?_
  refine g_iconst (v := 0) C dX11_soonSolved_8 (by decide) ?_
  refine g_istore (lv' := [(5, .int 0), (4, .ref b36327), (0, .ref a0), (1, .int a1), (2, .int a2), (3, .int a3)]) C dX11_soonSolved_9 (by decide) rfl ?_
  refine g_lv (lv' := [(0, .ref a0), (2, .int a2), (3, .int a3), (4, .ref b36327), (5, .int 0)]) [2, 4, 5, 1, 0] rfl ?_
  exact J11 _ P b36327 0 (Nat.lt_succ_self _) I EK.rf h36329 (by decide)
theorem dX11_soon_31 : decode cX11_soon 31 = .ok (.aload_n 0, 1) := by decide +kernel
theorem dX11_soon_32 : decode cX11_soon 32 = .ok (.iload_n 1, 1) := by decide +kernel
theorem dX11_soon_33 : decode cX11_soon 33 = .ok (.iload_n 2, 1) := by decide +kernel
theorem dX11_soon_34 : decode cX11_soon 34 = .ok (.iload_n 3, 1) := by decide +kernel
theorem dX11_soon_35 : decode cX11_soon 35 = .ok (.invokevirtual 256, 3) := by decide +kernel
theorem dX11_soon_48 : decode cX11_soon 48 = .ok (.ireturn, 1) := by decide +kernel
theorem dX11_soonPeeled_0 : decode cX11_soonPeeled 0 = .ok (.aload_n 0, 1) := by decide +kernel
theorem dX11_soonPeeled_1 : decode cX11_soonPeeled 1 = .ok (.getfield 17, 3) := by decide +kernel
theorem dX11_soonPeeled_4 : decode cX11_soonPeeled 4 = .ok (.iload_n 1, 1) := by decide +kernel
theorem dX11_soonPeeled_5 : decode cX11_soonPeeled 5 = .ok (.aaload, 1) := by decide +kernel
theorem dX11_soonPeeled_6 : decode cX11_soonPeeled 6 = .ok (.astore 4, 2) := by decide +kernel
theorem dX11_soonPeeled_8 : decode cX11_soonPeeled 8 = .ok (.iconst 0, 1) := by decide +kernel
theorem dX11_soonPeeled_9 : decode cX11_soonPeeled 9 = .ok (.istore 5, 2) := by decide +kernel
theorem dX11_soonPeeled_11 : decode cX11_soonPeeled 11 = .ok (.iconst 0, 1) := by decide +kernel
theorem dX11_soonPeeled_12 : decode cX11_soonPeeled 12 = .ok (.istore 6, 2) := by decide +kernel
theorem dX11_soonPeeled_14 : decode cX11_soonPeeled 14 = .ok (.aload_n 0, 1) := by decide +kernel
theorem dX11_soonPeeled_15 : decode cX11_soonPeeled 15 = .ok (.getfield 47, 3) := by decide +kernel
theorem dX11_soonPeeled_18 : decode cX11_soonPeeled 18 = .ok (.iconst 0, 1) := by decide +kernel
theorem dX11_soonPeeled_19 : decode cX11_soonPeeled 19 = .ok (.aaload, 1) := by decide +kernel
theorem dX11_soonPeeled_20 : decode cX11_soonPeeled 20 = .ok (.aload_n 0, 1) := by decide +kernel
theorem dX11_soonPeeled_21 : decode cX11_soonPeeled 21 = .ok (.getfield 11, 3) := by decide +kernel
theorem dX11_soonPeeled_24 : decode cX11_soonPeeled 24 = .ok (.iload_n 2, 1) := by decide +kernel
theorem dX11_soonPeeled_25 : decode cX11_soonPeeled 25 = .ok (.aaload, 1) := by decide +kernel
theorem dX11_soonPeeled_26 : decode cX11_soonPeeled 26 = .ok (.invokevirtual 371, 3) := by decide +kernel
theorem dX11_soonPeeled_29 : decode cX11_soonPeeled 29 = .ok (.aload_n 0, 1) := by decide +kernel
theorem dX11_soonPeeled_30 : decode cX11_soonPeeled 30 = .ok (.getfield 47, 3) := by decide +kernel
theorem dX11_soonPeeled_33 : decode cX11_soonPeeled 33 = .ok (.iconst 1, 1) := by decide +kernel
theorem dX11_soonPeeled_34 : decode cX11_soonPeeled 34 = .ok (.aaload, 1) := by decide +kernel
theorem dX11_soonPeeled_35 : decode cX11_soonPeeled 35 = .ok (.aload_n 0, 1) := by decide +kernel
theorem dX11_soonPeeled_36 : decode cX11_soonPeeled 36 = .ok (.getfield 11, 3) := by decide +kernel
theorem dX11_soonPeeled_39 : decode cX11_soonPeeled 39 = .ok (.iload_n 2, 1) := by decide +kernel
theorem dX11_soonPeeled_40 : decode cX11_soonPeeled 40 = .ok (.aaload, 1) := by decide +kernel
theorem dX11_soonPeeled_41 : decode cX11_soonPeeled 41 = .ok (.invokevirtual 371, 3) := by decide +kernel
theorem dX11_soonPeeled_44 : decode cX11_soonPeeled 44 = .ok (.iconst 0, 1) := by decide +kernel
theorem dX11_soonPeeled_45 : decode cX11_soonPeeled 45 = .ok (.istore 7, 2) := by decide +kernel
theorem dX11_soonPeeled_47 : decode cX11_soonPeeled 47 = .ok (.iload 7, 2) := by decide +kernel
theorem dX11_soonPeeled_49 : decode cX11_soonPeeled 49 = .ok (.aload 4, 2) := by decide +kernel
theorem dX11_soonPeeled_51 : decode cX11_soonPeeled 51 = .ok (.getfield 336, 3) := by decide +kernel
theorem dX11_soonPeeled_54 : decode cX11_soonPeeled 54 = .ok (.if_icmp .ge 75, 3) := by decide +kernel
theorem dX11_soonPeeled_57 : decode cX11_soonPeeled 57 = .ok (.aload 4, 2) := by decide +kernel
theorem dX11_soonPeeled_59 : decode cX11_soonPeeled 59 = .ok (.iload 7, 2) := by decide +kernel
theorem dX11_soonPeeled_61 : decode cX11_soonPeeled 61 = .ok (.invokevirtual 337, 3) := by decide +kernel
theorem dX11_soonPeeled_64 : decode cX11_soonPeeled 64 = .ok (.astore 8, 2) := by decide +kernel
theorem dX11_soonPeeled_66 : decode cX11_soonPeeled 66 = .ok (.aload 8, 2) := by decide +kernel
theorem dX11_soonPeeled_68 : decode cX11_soonPeeled 68 = .ok (.ifnull 55, 3) := by decide +kernel
theorem dX11_soonPeeled_71 : decode cX11_soonPeeled 71 = .ok (.aload 8, 2) := by decide +kernel
theorem dX11_soonPeeled_73 : decode cX11_soonPeeled 73 = .ok (.getfield 191, 3) := by decide +kernel
theorem dX11_soonPeeled_76 : decode cX11_soonPeeled 76 = .ok (.iload_n 2, 1) := by decide +kernel
theorem dX11_soonPeeled_77 : decode cX11_soonPeeled 77 = .ok (.if_icmp .ne 46, 3) := by decide +kernel
theorem dX11_soonPeeled_80 : decode cX11_soonPeeled 80 = .ok (.aload_n 0, 1) := by decide +kernel
theorem dX11_soonPeeled_81 : decode cX11_soonPeeled 81 = .ok (.aload 8, 2) := by decide +kernel
theorem dX11_soonPeeled_83 : decode cX11_soonPeeled 83 = .ok (.iconst 0, 1) := by decide +kernel
theorem dX11_soonPeeled_84 : decode cX11_soonPeeled 84 = .ok (.iload 7, 2) := by decide +kernel
theorem dX11_soonPeeled_86 : decode cX11_soonPeeled 86 = .ok (.iload 5, 2) := by decide +kernel
theorem dX11_soonPeeled_88 : decode cX11_soonPeeled 88 = .ok (.invokevirtual 385, 3) := by decide +kernel
theorem dX11_soonPeeled_129 : decode cX11_soonPeeled 129 = .ok (.iconst (-1), 1) := by decide +kernel
theorem dX11_soonPeeled_130 : decode cX11_soonPeeled 130 = .ok (.ireturn, 1) := by decide +kernel
theorem dX11_spreadWith_0 : decode cX11_spreadWith 0 = .ok (.aload_n 1, 1) := by decide +kernel
theorem dX11_spreadWith_1 : decode cX11_spreadWith 1 = .ok (.iload_n 2, 1) := by decide +kernel
theorem dX11_spreadWith_2 : decode cX11_spreadWith 2 = .ok (.invokevirtual 365, 3) := by decide +kernel
theorem dX11_spreadWith_5 : decode cX11_spreadWith 5 = .ok (.ifCond .ne 6, 3) := by decide +kernel
theorem dX11_spreadWith_8 : decode cX11_spreadWith 8 = .ok (.iload 4, 2) := by decide +kernel
theorem dX11_spreadWith_10 : decode cX11_spreadWith 10 = .ok (.ireturn, 1) := by decide +kernel
theorem dX11_spreadWith_11 : decode cX11_spreadWith 11 = .ok (.aload_n 0, 1) := by decide +kernel
theorem dX11_spreadWith_12 : decode cX11_spreadWith 12 = .ok (.getfield 47, 3) := by decide +kernel
theorem dX11_spreadWith_15 : decode cX11_spreadWith 15 = .ok (.iload_n 2, 1) := by decide +kernel
theorem dX11_spreadWith_16 : decode cX11_spreadWith 16 = .ok (.aaload, 1) := by decide +kernel
theorem dX11_spreadWith_17 : decode cX11_spreadWith 17 = .ok (.aload_n 1, 1) := by decide +kernel
theorem dX11_spreadWith_18 : decode cX11_spreadWith 18 = .ok (.aload_n 1, 1) := by decide +kernel
theorem dX11_spreadWith_19 : decode cX11_spreadWith 19 = .ok (.getfield 191, 3) := by decide +kernel
theorem dX11_spreadWith_22 : decode cX11_spreadWith 22 = .ok (.iload_n 2, 1) := by decide +kernel
theorem dX11_spreadWith_23 : decode cX11_spreadWith 23 = .ok (.invokevirtual 375, 3) := by decide +kernel
theorem dX11_spreadWith_26 : decode cX11_spreadWith 26 = .ok (.iload_n 3, 1) := by decide +kernel
theorem dX11_spreadWith_27 : decode cX11_spreadWith 27 = .ok (.invokevirtual 378, 3) := by decide +kernel
theorem dX11_spreadWith_30 : decode cX11_spreadWith 30 = .ok (.aload_n 0, 1) := by decide +kernel
theorem dX11_spreadWith_31 : decode cX11_spreadWith 31 = .ok (.getfield 47, 3) := by decide +kernel
theorem dX11_spreadWith_34 : decode cX11_spreadWith 34 = .ok (.iload_n 2, 1) := by decide +kernel
theorem dX11_spreadWith_35 : decode cX11_spreadWith 35 = .ok (.aaload, 1) := by decide +kernel
theorem dX11_spreadWith_36 : decode cX11_spreadWith 36 = .ok (.iload 4, 2) := by decide +kernel
theorem dX11_spreadWith_38 : decode cX11_spreadWith 38 = .ok (.invokevirtual 389, 3) := by decide +kernel
theorem dX11_spreadWith_41 : decode cX11_spreadWith 41 = .ok (.ireturn, 1) := by decide +kernel
set_option maxHeartbeats 4000000 in
set_option maxRecDepth 100000 in
theorem s_X11_spreadWith {P : PP} {a0 : Nat} {a1 : Nat} {a2 : Int32} {a3 : Int32} {a4 : Int32} (I : IV P) (ha0 : At P a0 11) (ha1 : At P a1 7) (ha2 : 0 ≤ a2.toInt ∧ a2.toInt ≤ 1) : CtrI yX11_spreadWith cX11_spreadWith 5 (some Jvm.ClassFile.FieldType.int) ({ frames := 3, cells := 0, slots := 0, locals := 192 } : Room) 0 0 P [.ref a0, .ref a1, .int a2, .int a3, .int a4] (fun r P2 => IV P2 ∧ EK [5, 13] P P2 ∧ (True)) := by
  refine enI (lv := [(0, .ref a0), (1, .ref a1), (2, .int a2), (3, .int a3), (4, .int a4)]) (by decide) (Nat.le_of_ble_eq_true rfl) rfl (fun E D cy C Ci0 ret => ?_)
  refine g_aload_n C dX11_spreadWith_0 rfl 1 rfl ?_
  refine g_iload_n C dX11_spreadWith_1 rfl 2 rfl ?_
  refine g_callVI (rest := []) C mv_X11_365 [.int a2] (s_X7_hasOctet I ha1) (ha1).1 (ha1).2 rfl rfl (by decide) (Nat.le_of_ble_eq_true rfl) (by decide) dX11_spreadWith_2 (fun r36441 Y36442 h36443 => ?_)
  obtain ⟨rfl, h36443⟩ := h36443
  have h36443 : 0 ≤ r36441.toInt ∧ r36441.toInt ≤ 1 := h36443
  refine b_if_ne C 11 dX11_spreadWith_5 (by decide) (fun h36444 => ?_) (fun h36444 => ?_)
  · have h36444 : r36441.toInt ≠ 0 := ti_ne h36444
    refine g_aload_n C dX11_spreadWith_11 rfl 0 rfl ?_
    obtain ⟨b36445, e36446, h36447⟩ := I.fld (ha0) 8 18 2 rfl
    refine g_getR C fi_X11_47 rfl e36446 (ha0).1 (ha0).2 dX11_spreadWith_12 ?_
    refine g_iload_n C dX11_spreadWith_15 rfl 2 rfl ?_
    obtain ⟨b36448, e36449, h36450⟩ := I.elm h36447 (by decide) (a2.toInt.toNat) (by omega)
    refine g_aldR C h36447.1 h36447.2.1 (by decide) (ix_in h36447.2.2 (by omega)) e36449 dX11_spreadWith_16 ?_
    refine g_aload_n C dX11_spreadWith_17 rfl 1 rfl ?_
    refine g_aload_n C dX11_spreadWith_18 rfl 1 rfl ?_
    refine g_getI C fi_X11_191 (by decide) (ha1).1 (ha1).2 dX11_spreadWith_19 ?_
    have h36451 := I.rg (ha1) 0 rfl
    refine g_iload_n C dX11_spreadWith_22 rfl 2 rfl ?_
    refine g_callVI (rest := [.ref b36448]) C mv_X11_375 [.int (pI P a1 0), .int a2] (s_X7_equation I ha1) (ha1).1 (ha1).2 rfl rfl (by decide) (Nat.le_of_ble_eq_true rfl) (by decide) dX11_spreadWith_23 (fun r36452 Y36453 h36454 => ?_)
    obtain ⟨rfl, h36454⟩ := h36454
    have h36454 : True := h36454
    refine g_iload_n C dX11_spreadWith_26 rfl 3 rfl ?_
    refine g_callVV (rest := []) C mv_X11_378 [.int r36452, .int a3] (s_X5_add I h36450) (h36450).1 (h36450).2 rfl rfl (by decide) (Nat.le_of_ble_eq_true rfl) (by decide) dX11_spreadWith_27 (fun Y36456 h36457 => ?_)
    obtain ⟨Iy36458, Xy36459⟩ := h36457
    have q36460 := Xy36459.keep ha1 (by decide) 0
    have Xz36461 : EK [5, 13] P Y36456 := Xy36459.mono (by decide)
    have h36462 := Xy36459.at ha0
    have h36463 := Xy36459.at ha1
    refine g_aload_n C dX11_spreadWith_30 rfl 0 rfl ?_
    obtain ⟨b36464, e36465, h36466⟩ := Iy36458.fld (h36462) 8 18 2 rfl
    refine g_getR C fi_X11_47 rfl e36465 (h36462).1 (h36462).2 dX11_spreadWith_31 ?_
    refine g_iload_n C dX11_spreadWith_34 rfl 2 rfl ?_
    obtain ⟨b36467, e36468, h36469⟩ := Iy36458.elm h36466 (by decide) (a2.toInt.toNat) (by omega)
    refine g_aldR C h36466.1 h36466.2.1 (by decide) (ix_in h36466.2.2 (by omega)) e36468 dX11_spreadWith_35 ?_
    refine g_iload C dX11_spreadWith_36 4 rfl ?_
    refine g_callVI (rest := []) C mv_X11_389 [.int a4] (s_X5_spread Iy36458 h36469) (h36469).1 (h36469).2 rfl rfl (by decide) (Nat.le_of_ble_eq_true rfl) (by decide) dX11_spreadWith_38 (fun r36470 Y36471 h36472 => ?_)
    obtain ⟨rfl, h36472⟩ := h36472
    have h36472 : True := h36472
    exact ret _ _ _ _ _ _ dX11_spreadWith_41 rfl (by decide) (by decide) ⟨Iy36458, Xz36461, trivial⟩
  · have h36444 : r36441.toInt = 0 := congrArg Int32.toInt h36444
    refine g_iload C dX11_spreadWith_8 4 rfl ?_
    exact ret _ _ _ _ _ _ dX11_spreadWith_10 rfl (by decide) (by decide) ⟨I, EK.rf, trivial⟩
theorem dX11_soonPeeled_91 : decode cX11_soonPeeled 91 = .ok (.istore 5, 2) := by decide +kernel
theorem dX11_soonPeeled_93 : decode cX11_soonPeeled 93 = .ok (.aload_n 0, 1) := by decide +kernel
theorem dX11_soonPeeled_94 : decode cX11_soonPeeled 94 = .ok (.aload 8, 2) := by decide +kernel
theorem dX11_soonPeeled_96 : decode cX11_soonPeeled 96 = .ok (.iconst 1, 1) := by decide +kernel
theorem dX11_soonPeeled_97 : decode cX11_soonPeeled 97 = .ok (.iload 7, 2) := by decide +kernel
theorem dX11_soonPeeled_99 : decode cX11_soonPeeled 99 = .ok (.iload 6, 2) := by decide +kernel
theorem dX11_soonPeeled_101 : decode cX11_soonPeeled 101 = .ok (.invokevirtual 385, 3) := by decide +kernel
theorem dX11_soonPeeled_104 : decode cX11_soonPeeled 104 = .ok (.istore 6, 2) := by decide +kernel
theorem dX11_soonPeeled_106 : decode cX11_soonPeeled 106 = .ok (.iload 5, 2) := by decide +kernel
theorem dX11_soonPeeled_108 : decode cX11_soonPeeled 108 = .ok (.iload 6, 2) := by decide +kernel
theorem dX11_soonPeeled_110 : decode cX11_soonPeeled 110 = .ok (.iand, 1) := by decide +kernel
theorem dX11_soonPeeled_111 : decode cX11_soonPeeled 111 = .ok (.iconst 1, 1) := by decide +kernel
theorem dX11_soonPeeled_112 : decode cX11_soonPeeled 112 = .ok (.iload_n 3, 1) := by decide +kernel
theorem dX11_soonPeeled_113 : decode cX11_soonPeeled 113 = .ok (.ishl, 1) := by decide +kernel
theorem dX11_soonPeeled_114 : decode cX11_soonPeeled 114 = .ok (.iand, 1) := by decide +kernel
theorem dX11_soonPeeled_115 : decode cX11_soonPeeled 115 = .ok (.ifCond .eq 8, 3) := by decide +kernel
theorem dX11_soonPeeled_118 : decode cX11_soonPeeled 118 = .ok (.iload 7, 2) := by decide +kernel
theorem dX11_soonPeeled_120 : decode cX11_soonPeeled 120 = .ok (.iconst 1, 1) := by decide +kernel
theorem dX11_soonPeeled_121 : decode cX11_soonPeeled 121 = .ok (.iadd, 1) := by decide +kernel
theorem dX11_soonPeeled_122 : decode cX11_soonPeeled 122 = .ok (.ireturn, 1) := by decide +kernel
theorem dX11_soonPeeled_123 : decode cX11_soonPeeled 123 = .ok (.iinc 7 1, 3) := by decide +kernel
theorem dX11_soonPeeled_126 : decode cX11_soonPeeled 126 = .ok (.goto (-79), 3) := by decide +kernel
set_option maxHeartbeats 4000000 in
set_option maxRecDepth 100000 in
theorem s_X11_soonPeeled {P : PP} {a0 : Nat} {a1 : Int32} {a2 : Int32} {a3 : Int32} (I : IV P) (ha0 : At P a0 11) (ha1 : 0 ≤ a1.toInt ∧ a1.toInt ≤ 3) (ha2 : 0 ≤ a2.toInt ∧ a2.toInt ≤ 1) : CtrI yX11_soonPeeled cX11_soonPeeled 9 (some Jvm.ClassFile.FieldType.int) ({ frames := 4, cells := 0, slots := 0, locals := 256 } : Room) 0 0 P [.ref a0, .int a1, .int a2, .int a3] (fun r P2 => IV P2 ∧ EK [5, 13] P P2 ∧ (-1 ≤ r.toInt ∧ r.toInt ≤ 40)) := by
  refine enI (lv := [(0, .ref a0), (1, .int a1), (2, .int a2), (3, .int a3)]) (by decide) (Nat.le_of_ble_eq_true rfl) rfl (fun E D cy C Ci0 ret => ?_)
  have J47 : ∀ (n47 : Nat) (P47 : PP) (b47_4 : Nat) (v47_5 : Int32) (v47_6 : Int32) (v47_7 : Int32), (40 - v47_7.toInt).toNat < n47 → (IV P47) → (EK [5, 13] P P47) → (At P47 b47_4 6) → (0 ≤ v47_7.toInt ∧ v47_7.toInt ≤ 40) → G E ({ frames := 4, cells := 0, slots := 0, locals := 256 } : Room) D cy 9 P47 0 0 47 [(0, .ref a0), (2, .int a2), (3, .int a3), (4, .ref b47_4), (5, .int v47_5), (6, .int v47_6), (7, .int v47_7)] [] := by
    intro n47
    induction n47 with
    | zero => intro P47 b47_4 v47_5 v47_6 v47_7 hm47 I47 X47 hb47_4 hv47_7; omega
    | succ n47 ih47 =>
      intro P47 b47_4 v47_5 v47_6 v47_7 hm47 I47 X47 hb47_4 hv47_7
      have h37194 := X47.at ha0
      have J123 : ∀ (P123 : PP) (b123_4 : Nat) (v123_5 : Int32) (v123_6 : Int32), (IV P123) → (EK [5, 13] P P123) → (At P123 b123_4 6) → (0 ≤ v47_7.toInt ∧ v47_7.toInt ≤ 39) → (1 ≤ (pI P123 b123_4 1).toInt ∧ (pI P123 b123_4 1).toInt ≤ 40) → G E ({ frames := 4, cells := 0, slots := 0, locals := 256 } : Room) D cy 9 P123 0 0 123 [(0, .ref a0), (2, .int a2), (3, .int a3), (4, .ref b123_4), (5, .int v123_5), (6, .int v123_6), (7, .int v47_7)] [] := by
        intro P123 b123_4 v123_5 v123_6 I123 X123 hb123_4 hv123_7 hq123_0
        have h37195 := X123.at ha0
        refine s_iinc (lv0 := [(0, .ref a0), (2, .int a2), (3, .int a3), (4, .ref b123_4), (5, .int v123_5), (6, .int v123_6)]) (m := 1) C dX11_soonPeeled_123 6 rfl (by decide) rfl (by decide) (by omega) (fun z37196 h37197 => ?_)
        have h37197 : z37196.toInt = v47_7.toInt + 1 := h37197
        refine g_goto C 47 dX11_soonPeeled_126 (by decide) ?_
        refine g_lv (lv' := [(0, .ref a0), (2, .int a2), (3, .int a3), (4, .ref b123_4), (5, .int v123_5), (6, .int v123_6), (7, .int z37196)]) [1, 2, 3, 4, 5, 6, 0] rfl ?_
        exact ih47 P123 b123_4 v123_5 v123_6 z37196 (by omega) I123 X123 hb123_4 (by omega)
      refine g_iload C dX11_soonPeeled_47 6 rfl ?_
      refine g_aload C dX11_soonPeeled_49 3 rfl ?_
      refine g_getI C fi_X11_336 (by decide) (hb47_4).1 (hb47_4).2 dX11_soonPeeled_51 ?_
      have h37198 := I47.rg (hb47_4) 1 rfl
      refine b_icmp_ge C 129 dX11_soonPeeled_54 (by decide) (fun h37199 => ?_) (fun h37199 => ?_)
      · have h37199 : (pI P47 b47_4 1).toInt ≤ v47_7.toInt := h37199
        refine g_iconst (v := (-1)) C dX11_soonPeeled_129 (by decide) ?_
        exact ret _ _ _ _ _ _ dX11_soonPeeled_130 rfl (by decide) (by decide) ⟨I47, X47, (by decide)⟩
      · have h37199 : v47_7.toInt < (pI P47 b47_4 1).toInt := h37199
        refine g_aload C dX11_soonPeeled_57 3 rfl ?_
        refine g_iload C dX11_soonPeeled_59 6 rfl ?_
        refine g_callVQ (rest := []) C mv_X11_337 [.int v47_7] (s_X6_at I47 hb47_4) (hb47_4).1 (hb47_4).2 rfl rfl (by decide) (Nat.le_of_ble_eq_true rfl) (by decide) dX11_soonPeeled_61 (fun r37200 Y37201 h37202 => ?_)
        obtain ⟨rfl, h37202⟩ := h37202
        rcases h37202 with rfl | ⟨b37204, rfl, h37202, hj37203⟩
        · show G _ _ _ _ _ _ _ _ _ _ (.null :: _)
          refine g_astoreN (lv' := [(8, .null), (0, .ref a0), (2, .int a2), (3, .int a3), (4, .ref b47_4), (5, .int v47_5), (6, .int v47_6), (7, .int v47_7)]) C dX11_soonPeeled_64 (by decide) rfl ?_
          refine g_aloadN C dX11_soonPeeled_66 0 rfl ?_
          refine g_ifnullN C 123 dX11_soonPeeled_68 (by decide) ?_
          refine g_lv (lv' := [(0, .ref a0), (2, .int a2), (3, .int a3), (4, .ref b47_4), (5, .int v47_5), (6, .int v47_6), (7, .int v47_7)]) [1, 2, 3, 4, 5, 6, 7] rfl ?_
          exact J123 P47 b47_4 v47_5 v47_6 I47 X47 hb47_4 (by omega) (by omega)
        · have hj37203 : ((0 : Int) ≤ v47_7.toInt ∧ v47_7.toInt ≤ (39 : Int)) := hj37203
          show G _ _ _ _ _ _ _ _ _ _ (.ref b37204 :: _)
          refine g_astore (lv' := [(8, .ref b37204), (0, .ref a0), (2, .int a2), (3, .int a3), (4, .ref b47_4), (5, .int v47_5), (6, .int v47_6), (7, .int v47_7)]) C dX11_soonPeeled_64 (by decide) rfl ?_
          refine g_aload C dX11_soonPeeled_66 0 rfl ?_
          refine g_ifnull C dX11_soonPeeled_68 ?_
          refine g_aload C dX11_soonPeeled_71 0 rfl ?_
          refine g_getI C fi_X11_191 (by decide) (h37202).1 (h37202).2 dX11_soonPeeled_73 ?_
          have h37205 := I47.rg (h37202) 0 rfl
          refine g_iload_n C dX11_soonPeeled_76 rfl 2 rfl ?_
          refine b_icmp_ne C 123 dX11_soonPeeled_77 (by decide) (fun h37206 => ?_) (fun h37206 => ?_)
          · have h37206 : (pI P47 b37204 0).toInt ≠ a2.toInt := ti_ne h37206
            refine g_lv (lv' := [(0, .ref a0), (2, .int a2), (3, .int a3), (4, .ref b47_4), (5, .int v47_5), (6, .int v47_6), (7, .int v47_7)]) [1, 2, 3, 4, 5, 6, 7] rfl ?_
            exact J123 P47 b47_4 v47_5 v47_6 I47 X47 hb47_4 (by omega) (by omega)
          · have h37206 : (pI P47 b37204 0).toInt = a2.toInt := congrArg Int32.toInt h37206
            refine g_aload_n C dX11_soonPeeled_80 rfl 1 rfl ?_
            refine g_aload C dX11_soonPeeled_81 0 rfl ?_
            refine g_iconst (v := 0) C dX11_soonPeeled_83 (by decide) ?_
            refine g_iload C dX11_soonPeeled_84 7 rfl ?_
            refine g_iload C dX11_soonPeeled_86 5 rfl ?_
            refine g_callVI (rest := []) C mv_X11_385 [.ref b37204, .int 0, .int v47_7, .int v47_5] (s_X11_spreadWith I47 h37194 h37202 (by decide)) (h37194).1 (h37194).2 rfl rfl (by decide) (Nat.le_of_ble_eq_true rfl) (by decide) dX11_soonPeeled_88 (fun r37207 Y37208 h37209 => ?_)
            obtain ⟨Iy37210, Xy37211, h37209⟩ := h37209
            have q37212 := Xy37211.keep hb47_4 (by decide) 1
            have q37213 := Xy37211.keep h37202 (by decide) 0
            have Xz37214 : EK [5, 13] P Y37208 := X47.tr (Xy37211.mono (by decide))
            have h37215 := Xy37211.at h37194
            have h37216 := Xy37211.at h37202
            have h37217 := Xy37211.at hb47_4
            have h37209 : True := h37209
            refine g_istore (lv' := [(5, .int r37207), (8, .ref b37204), (0, .ref a0), (2, .int a2), (3, .int a3), (4, .ref b47_4), (6, .int v47_6), (7, .int v47_7)]) C dX11_soonPeeled_91 (by decide) rfl ?_
            refine g_aload_n C dX11_soonPeeled_93 rfl 2 rfl ?_
            refine g_aload C dX11_soonPeeled_94 1 rfl ?_
            refine g_iconst (v := 1) C dX11_soonPeeled_96 (by decide) ?_
            refine g_iload C dX11_soonPeeled_97 7 rfl ?_
            refine g_iload C dX11_soonPeeled_99 6 rfl ?_
            refine g_callVI (rest := []) C mv_X11_385 [.ref b37204, .int 1, .int v47_7, .int v47_6] (s_X11_spreadWith Iy37210 h37215 h37216 (by decide)) (h37215).1 (h37215).2 rfl rfl (by decide) (Nat.le_of_ble_eq_true rfl) (by decide) dX11_soonPeeled_101 (fun r37218 Y37219 h37220 => ?_)
            obtain ⟨Iy37221, Xy37222, h37220⟩ := h37220
            have q37223 := Xy37222.keep h37217 (by decide) 1
            have q37224 := Xy37222.keep h37216 (by decide) 0
            have Xz37225 : EK [5, 13] P Y37219 := Xz37214.tr (Xy37222.mono (by decide))
            have h37226 := Xy37222.at h37215
            have h37227 := Xy37222.at h37216
            have h37228 := Xy37222.at h37217
            have h37220 : True := h37220
            refine g_istore (lv' := [(6, .int r37218), (5, .int r37207), (8, .ref b37204), (0, .ref a0), (2, .int a2), (3, .int a3), (4, .ref b47_4), (7, .int v47_7)]) C dX11_soonPeeled_104 (by decide) rfl ?_
            refine g_iload C dX11_soonPeeled_106 1 rfl ?_
            refine g_iload C dX11_soonPeeled_108 0 rfl ?_
            refine a_iand C dX11_soonPeeled_110 (fun z37229 => ?_)
            refine g_iconst (v := 1) C dX11_soonPeeled_111 (by decide) ?_
            refine g_iload_n C dX11_soonPeeled_112 rfl 5 rfl ?_
            refine a_ishl C dX11_soonPeeled_113 (fun z37231 => ?_)
            refine a_iand C dX11_soonPeeled_114 (fun z37233 => ?_)
            have u37236 := ti_rng z37233
            refine b_if_eq C 123 dX11_soonPeeled_115 (by decide) (fun h37235 => ?_) (fun h37235 => ?_)
            · have h37235 : z37233.toInt = 0 := congrArg Int32.toInt h37235
              refine g_lv (lv' := [(0, .ref a0), (2, .int a2), (3, .int a3), (4, .ref b47_4), (5, .int r37207), (6, .int r37218), (7, .int v47_7)]) [3, 4, 5, 6, 1, 0, 7] rfl ?_
              exact J123 Y37219 b47_4 r37207 r37218 Iy37221 Xz37225 h37228 (by omega) (by omega)
            · have h37235 : z37233.toInt ≠ 0 := ti_ne h37235
              refine g_iload C dX11_soonPeeled_118 7 rfl ?_
              refine g_iconst (v := 1) C dX11_soonPeeled_120 (by decide) ?_
              refine s_iadd C dX11_soonPeeled_121 (by show -2147483648 ≤ v47_7.toInt + 1 ∧ v47_7.toInt + 1 ≤ 2147483647; omega) (fun z37237 h37238 => ?_)
              have h37238 : z37237.toInt = v47_7.toInt + 1 := h37238
              exact ret _ _ _ _ _ _ dX11_soonPeeled_122 rfl (by decide) (by decide) ⟨Iy37221, Xz37225, (by omega)⟩
  refine g_aload_n C dX11_soonPeeled_0 rfl 0 rfl ?_
  obtain ⟨b37239, e37240, h37241⟩ := I.fld (ha0) 1 19 4 rfl
  refine g_getR C fi_X11_17 rfl e37240 (ha0).1 (ha0).2 dX11_soonPeeled_1 ?_
  refine g_iload_n C dX11_soonPeeled_4 rfl 1 rfl ?_
  obtain ⟨b37242, e37243, h37244⟩ := I.elm h37241 (by decide) (a1.toInt.toNat) (by omega)
  refine g_aldR C h37241.1 h37241.2.1 (by decide) (ix_in h37241.2.2 (by omega)) e37243 dX11_soonPeeled_5 ?_
  refine g_astore (lv' := [(4, .ref b37242), (0, .ref a0), (1, .int a1), (2, .int a2), (3, .int a3)]) C dX11_soonPeeled_6 (by decide) rfl ?_
  refine g_iconst (v := 0) C dX11_soonPeeled_8 (by decide) ?_
  refine g_istore (lv' := [(5, .int 0), (4, .ref b37242), (0, .ref a0), (1, .int a1), (2, .int a2), (3, .int a3)]) C dX11_soonPeeled_9 (by decide) rfl ?_
  refine g_iconst (v := 0) C dX11_soonPeeled_11 (by decide) ?_
  refine g_istore (lv' := [(6, .int 0), (5, .int 0), (4, .ref b37242), (0, .ref a0), (1, .int a1), (2, .int a2), (3, .int a3)]) C dX11_soonPeeled_12 (by decide) rfl ?_
  refine g_aload_n C dX11_soonPeeled_14 rfl 3 rfl ?_
  obtain ⟨b37245, e37246, h37247⟩ := I.fld (ha0) 8 18 2 rfl
  refine g_getR C fi_X11_47 rfl e37246 (ha0).1 (ha0).2 dX11_soonPeeled_15 ?_
  refine g_iconst (v := 0) C dX11_soonPeeled_18 (by decide) ?_
  obtain ⟨b37248, e37249, h37250⟩ := I.elm h37247 (by decide) 0 (by decide)
  refine g_aldR C h37247.1 h37247.2.1 (by decide) (IX.litn (j := 0) h37247.2.2 rfl (by decide) (by decide)) e37249 dX11_soonPeeled_19 ?_
  refine g_aload_n C dX11_soonPeeled_20 rfl 3 rfl ?_
  obtain ⟨b37251, e37252, h37253⟩ := I.fld (ha0) 0 17 2 rfl
  refine g_getR C fi_X11_11 rfl e37252 (ha0).1 (ha0).2 dX11_soonPeeled_21 ?_
  refine g_iload_n C dX11_soonPeeled_24 rfl 5 rfl ?_
  obtain ⟨b37254, e37255, h37256⟩ := I.elm h37253 (by decide) (a2.toInt.toNat) (by omega)
  refine g_aldR C h37253.1 h37253.2.1 (by decide) (ix_in h37253.2.2 (by omega)) e37255 dX11_soonPeeled_25 ?_
  refine g_callVV (rest := []) C mv_X11_371 [.ref b37254] (s_X5_startWith I h37250 h37256) (h37250).1 (h37250).2 rfl rfl (by decide) (Nat.le_of_ble_eq_true rfl) (by decide) dX11_soonPeeled_26 (fun Y37258 h37259 => ?_)
  obtain ⟨Iy37260, Xy37261⟩ := h37259
  have Xz37262 : EK [5, 13] P Y37258 := Xy37261.mono (by decide)
  have h37263 := Xy37261.at ha0
  have h37264 := Xy37261.at h37244
  refine g_aload_n C dX11_soonPeeled_29 rfl 3 rfl ?_
  obtain ⟨b37265, e37266, h37267⟩ := Iy37260.fld (h37263) 8 18 2 rfl
  refine g_getR C fi_X11_47 rfl e37266 (h37263).1 (h37263).2 dX11_soonPeeled_30 ?_
  refine g_iconst (v := 1) C dX11_soonPeeled_33 (by decide) ?_
  obtain ⟨b37268, e37269, h37270⟩ := Iy37260.elm h37267 (by decide) 1 (by decide)
  refine g_aldR C h37267.1 h37267.2.1 (by decide) (IX.litn (j := 1) h37267.2.2 rfl (by decide) (by decide)) e37269 dX11_soonPeeled_34 ?_
  refine g_aload_n C dX11_soonPeeled_35 rfl 3 rfl ?_
  obtain ⟨b37271, e37272, h37273⟩ := Iy37260.fld (h37263) 0 17 2 rfl
  refine g_getR C fi_X11_11 rfl e37272 (h37263).1 (h37263).2 dX11_soonPeeled_36 ?_
  refine g_iload_n C dX11_soonPeeled_39 rfl 5 rfl ?_
  obtain ⟨b37274, e37275, h37276⟩ := Iy37260.elm h37273 (by decide) (a2.toInt.toNat) (by omega)
  refine g_aldR C h37273.1 h37273.2.1 (by decide) (ix_in h37273.2.2 (by omega)) e37275 dX11_soonPeeled_40 ?_
  refine g_callVV (rest := []) C mv_X11_371 [.ref b37274] (s_X5_startWith Iy37260 h37270 h37276) (h37270).1 (h37270).2 rfl rfl (by decide) (Nat.le_of_ble_eq_true rfl) (by decide) dX11_soonPeeled_41 (fun Y37278 h37279 => ?_)
  obtain ⟨Iy37280, Xy37281⟩ := h37279
  have Xz37282 : EK [5, 13] P Y37278 := Xz37262.tr (Xy37281.mono (by decide))
  have h37283 := Xy37281.at h37263
  have h37284 := Xy37281.at h37264
  refine g_iconst (v := 0) C dX11_soonPeeled_44 (by decide) ?_
  refine g_istore (lv' := [(7, .int 0), (6, .int 0), (5, .int 0), (4, .ref b37242), (0, .ref a0), (1, .int a1), (2, .int a2), (3, .int a3)]) C dX11_soonPeeled_45 (by decide) rfl ?_
  refine g_lv (lv' := [(0, .ref a0), (2, .int a2), (3, .int a3), (4, .ref b37242), (5, .int 0), (6, .int 0), (7, .int 0)]) [4, 6, 7, 3, 2, 1, 0] rfl ?_
  exact J47 _ Y37278 b37242 0 0 0 (Nat.lt_succ_self _) Iy37280 Xz37282 h37284 (by decide)
theorem dX11_soon_24 : decode cX11_soon 24 = .ok (.iconst (-1), 1) := by decide +kernel
theorem dX11_soon_25 : decode cX11_soon 25 = .ok (.ireturn, 1) := by decide +kernel
theorem dX11_soon_38 : decode cX11_soon 38 = .ok (.goto 10, 3) := by decide +kernel
set_option maxHeartbeats 4000000 in
set_option maxRecDepth 100000 in
theorem s_X11_soon {P : PP} {a0 : Nat} {a1 : Int32} {a2 : Int32} {a3 : Int32} {a4 : Int32} (I : IV P) (ha0 : At P a0 11) : CtrI yX11_soon cX11_soon 5 (some Jvm.ClassFile.FieldType.int) ({ frames := 5, cells := 0, slots := 0, locals := 320 } : Room) 0 0 P [.ref a0, .int a1, .int a2, .int a3, .int a4] (fun r P2 => IV P2 ∧ EK [0, 5, 13] P P2 ∧ (-1 ≤ r.toInt ∧ r.toInt ≤ 40)) := by
  refine enI (lv := [(0, .ref a0), (1, .int a1), (2, .int a2), (3, .int a3), (4, .int a4)]) (by decide) (Nat.le_of_ble_eq_true rfl) rfl (fun E D cy C Ci0 ret => ?_)
  have J24 : G E ({ frames := 5, cells := 0, slots := 0, locals := 320 } : Room) D cy 5 P 0 0 24 [] [] := by
    refine g_iconst (v := (-1)) C dX11_soon_24 (by decide) ?_
    exact ret _ _ _ _ _ _ dX11_soon_25 rfl (by decide) (by decide) ⟨I, EK.rf, (by decide)⟩
  refine g_iload_n C dX11_soon_0 rfl 1 rfl ?_
  refine g_callSI (b := 0) (ci := 0) (rest := []) C ms_X11_158 [.int a1] (s_X11_isQuarter I) rfl rfl (by decide) (Nat.le_of_ble_eq_true rfl) (by decide) dX11_soon_1 (fun r37315 Y37316 h37317 => ?_)
  obtain ⟨rfl, h37317⟩ := h37317
  obtain ⟨h37317, hi37318⟩ := h37317
  have hi37318 : r37315.toInt = 0 ∨ (((0 : Int) ≤ a1.toInt ∧ a1.toInt ≤ (3 : Int))) := hi37318
  have h37317 : 0 ≤ r37315.toInt ∧ r37315.toInt ≤ 1 := h37317
  refine b_if_eq C 24 dX11_soon_4 (by decide) (fun h37319 => ?_) (fun h37319 => ?_)
  · have h37319 : r37315.toInt = 0 := congrArg Int32.toInt h37319
    clear hi37318
    refine g_lv (lv' := []) [] rfl ?_
    exact J24 
  · have h37319 : r37315.toInt ≠ 0 := ti_ne h37319
    replace hi37318 := hi37318.resolve_left (by omega)
    refine g_aload_n C dX11_soon_7 rfl 0 rfl ?_
    refine g_iload_n C dX11_soon_8 rfl 2 rfl ?_
    refine g_iload_n C dX11_soon_9 rfl 3 rfl ?_
    refine g_callVI (rest := []) C mv_X11_155 [.int a2, .int a3] (s_X11_isPageOf I ha0) (ha0).1 (ha0).2 rfl rfl (by decide) (Nat.le_of_ble_eq_true rfl) (by decide) dX11_soon_10 (fun r37320 Y37321 h37322 => ?_)
    obtain ⟨rfl, h37322⟩ := h37322
    obtain ⟨h37322, hi37323⟩ := h37322
    have hi37323 : r37320.toInt = 0 ∨ (((0 : Int) ≤ a2.toInt ∧ a2.toInt ≤ (1 : Int)) ∧ ((0 : Int) ≤ a3.toInt ∧ a3.toInt ≤ (19 : Int))) := hi37323
    have h37322 : 0 ≤ r37320.toInt ∧ r37320.toInt ≤ 1 := h37322
    refine b_if_eq C 24 dX11_soon_13 (by decide) (fun h37324 => ?_) (fun h37324 => ?_)
    · have h37324 : r37320.toInt = 0 := congrArg Int32.toInt h37324
      clear hi37323
      refine g_lv (lv' := []) [] rfl ?_
      exact J24 
    · have h37324 : r37320.toInt ≠ 0 := ti_ne h37324
      replace hi37323 := hi37323.resolve_left (by omega)
      refine g_iload C dX11_soon_16 4 rfl ?_
      refine g_callSI (b := 0) (ci := 0) (rest := []) C ms_X11_249 [.int a4] (s_X11_isHow I) rfl rfl (by decide) (Nat.le_of_ble_eq_true rfl) (by decide) dX11_soon_18 (fun r37325 Y37326 h37327 => ?_)
      obtain ⟨rfl, h37327⟩ := h37327
      have h37327 : 0 ≤ r37325.toInt ∧ r37325.toInt ≤ 1 := h37327
      refine b_if_ne C 26 dX11_soon_21 (by decide) (fun h37328 => ?_) (fun h37328 => ?_)
      · have h37328 : r37325.toInt ≠ 0 := ti_ne h37328
        refine g_iload C dX11_soon_26 4 rfl ?_
        have u37330 := ti_rng a4
        refine b_if_ne C 41 dX11_soon_28 (by decide) (fun h37329 => ?_) (fun h37329 => ?_)
        · have h37329 : a4.toInt ≠ 0 := ti_ne h37329
          refine g_aload_n C dX11_soon_41 rfl 0 rfl ?_
          refine g_iload_n C dX11_soon_42 rfl 1 rfl ?_
          refine g_iload_n C dX11_soon_43 rfl 2 rfl ?_
          refine g_iload_n C dX11_soon_44 rfl 3 rfl ?_
          refine g_callVI (rest := []) C mv_X11_260 [.int a1, .int a2, .int a3] (s_X11_soonSolved I ha0 (by omega) (by omega)) (ha0).1 (ha0).2 rfl rfl (by decide) (Nat.le_of_ble_eq_true rfl) (by decide) dX11_soon_45 (fun r37331 Y37332 h37333 => ?_)
          obtain ⟨Iy37334, Xy37335, h37333⟩ := h37333
          have Xz37336 : EK [0, 5, 13] P Y37332 := Xy37335.mono (by decide)
          have h37337 := Xy37335.at ha0
          have h37333 : -1 ≤ r37331.toInt ∧ r37331.toInt ≤ 40 := h37333
          exact ret _ _ _ _ _ _ dX11_soon_48 rfl (by decide) (by decide) ⟨Iy37334, Xz37336, (by omega)⟩
        · have h37329 : a4.toInt = 0 := congrArg Int32.toInt h37329
          refine g_aload_n C dX11_soon_31 rfl 0 rfl ?_
          refine g_iload_n C dX11_soon_32 rfl 1 rfl ?_
          refine g_iload_n C dX11_soon_33 rfl 2 rfl ?_
          refine g_iload_n C dX11_soon_34 rfl 3 rfl ?_
          refine g_callVI (rest := []) C mv_X11_256 [.int a1, .int a2, .int a3] (s_X11_soonPeeled I ha0 (by omega) (by omega)) (ha0).1 (ha0).2 rfl rfl (by decide) (Nat.le_of_ble_eq_true rfl) (by decide) dX11_soon_35 (fun r37338 Y37339 h37340 => ?_)
          obtain ⟨Iy37341, Xy37342, h37340⟩ := h37340
          have Xz37343 : EK [0, 5, 13] P Y37339 := Xy37342.mono (by decide)
          have h37344 := Xy37342.at ha0
          have h37340 : -1 ≤ r37338.toInt ∧ r37338.toInt ≤ 40 := h37340
          refine g_goto C 48 dX11_soon_38 (by decide) ?_
          exact ret _ _ _ _ _ _ dX11_soon_48 rfl (by decide) (by decide) ⟨Iy37341, Xz37343, (by omega)⟩
      · have h37328 : r37325.toInt = 0 := congrArg Int32.toInt h37328
        refine g_lv (lv' := []) [] rfl ?_
        exact J24 
theorem dX11_swap_0 : decode cX11_swap 0 = .ok (.iload_n 1, 1) := by decide +kernel
theorem dX11_swap_1 : decode cX11_swap 1 = .ok (.invokestatic 158, 3) := by decide +kernel
theorem dX11_swap_4 : decode cX11_swap 4 = .ok (.ifCond .eq 25, 3) := by decide +kernel
theorem dX11_swap_7 : decode cX11_swap 7 = .ok (.iload_n 2, 1) := by decide +kernel
theorem dX11_swap_8 : decode cX11_swap 8 = .ok (.invokestatic 158, 3) := by decide +kernel
theorem dX11_swap_11 : decode cX11_swap 11 = .ok (.ifCond .eq 18, 3) := by decide +kernel
theorem dX11_swap_14 : decode cX11_swap 14 = .ok (.iload_n 1, 1) := by decide +kernel
theorem dX11_swap_15 : decode cX11_swap 15 = .ok (.iload_n 2, 1) := by decide +kernel
theorem dX11_swap_16 : decode cX11_swap 16 = .ok (.if_icmp .eq 13, 3) := by decide +kernel
theorem dX11_swap_19 : decode cX11_swap 19 = .ok (.iload_n 3, 1) := by decide +kernel
theorem dX11_swap_20 : decode cX11_swap 20 = .ok (.ifCond .lt 9, 3) := by decide +kernel
theorem dX11_swap_23 : decode cX11_swap 23 = .ok (.iload_n 3, 1) := by decide +kernel
theorem dX11_swap_24 : decode cX11_swap 24 = .ok (.bipush 40, 2) := by decide +kernel
theorem dX11_swap_26 : decode cX11_swap 26 = .ok (.if_icmp .le 5, 3) := by decide +kernel
theorem dX11_swap_29 : decode cX11_swap 29 = .ok (.iconst (-1), 1) := by decide +kernel
theorem dX11_swap_30 : decode cX11_swap 30 = .ok (.ireturn, 1) := by decide +kernel
theorem dX11_swap_31 : decode cX11_swap 31 = .ok (.aload_n 0, 1) := by decide +kernel
theorem dX11_swap_32 : decode cX11_swap 32 = .ok (.getfield 17, 3) := by decide +kernel
theorem dX11_swap_35 : decode cX11_swap 35 = .ok (.iload_n 1, 1) := by decide +kernel
theorem dX11_swap_36 : decode cX11_swap 36 = .ok (.aaload, 1) := by decide +kernel
theorem dX11_swap_37 : decode cX11_swap 37 = .ok (.astore 4, 2) := by decide +kernel
theorem dX11_swap_39 : decode cX11_swap 39 = .ok (.aload_n 0, 1) := by decide +kernel
theorem dX11_swap_40 : decode cX11_swap 40 = .ok (.getfield 17, 3) := by decide +kernel
theorem dX11_swap_43 : decode cX11_swap 43 = .ok (.iload_n 2, 1) := by decide +kernel
theorem dX11_swap_44 : decode cX11_swap 44 = .ok (.aaload, 1) := by decide +kernel
theorem dX11_swap_45 : decode cX11_swap 45 = .ok (.astore 5, 2) := by decide +kernel
theorem dX11_swap_47 : decode cX11_swap 47 = .ok (.iconst 0, 1) := by decide +kernel
theorem dX11_swap_48 : decode cX11_swap 48 = .ok (.istore 6, 2) := by decide +kernel
theorem dX11_swap_50 : decode cX11_swap 50 = .ok (.iconst 0, 1) := by decide +kernel
theorem dX11_swap_51 : decode cX11_swap 51 = .ok (.istore 7, 2) := by decide +kernel
theorem dX11_swap_53 : decode cX11_swap 53 = .ok (.iload 7, 2) := by decide +kernel
theorem dX11_swap_55 : decode cX11_swap 55 = .ok (.aload 4, 2) := by decide +kernel
theorem dX11_swap_57 : decode cX11_swap 57 = .ok (.getfield 336, 3) := by decide +kernel
theorem dX11_swap_60 : decode cX11_swap 60 = .ok (.if_icmp .ge 53, 3) := by decide +kernel
theorem dX11_swap_63 : decode cX11_swap 63 = .ok (.iload 6, 2) := by decide +kernel
theorem dX11_swap_65 : decode cX11_swap 65 = .ok (.iload_n 3, 1) := by decide +kernel
theorem dX11_swap_66 : decode cX11_swap 66 = .ok (.if_icmp .ge 47, 3) := by decide +kernel
theorem dX11_swap_69 : decode cX11_swap 69 = .ok (.aload 4, 2) := by decide +kernel
theorem dX11_swap_71 : decode cX11_swap 71 = .ok (.iload 7, 2) := by decide +kernel
theorem dX11_swap_73 : decode cX11_swap 73 = .ok (.invokevirtual 337, 3) := by decide +kernel
theorem dX11_swap_76 : decode cX11_swap 76 = .ok (.astore 8, 2) := by decide +kernel
theorem dX11_swap_78 : decode cX11_swap 78 = .ok (.aload 8, 2) := by decide +kernel
theorem dX11_swap_80 : decode cX11_swap 80 = .ok (.ifnull 27, 3) := by decide +kernel
theorem dX11_swap_83 : decode cX11_swap 83 = .ok (.aload 5, 2) := by decide +kernel
theorem dX11_swap_85 : decode cX11_swap 85 = .ok (.aload 8, 2) := by decide +kernel
theorem dX11_swap_87 : decode cX11_swap 87 = .ok (.invokevirtual 341, 3) := by decide +kernel
theorem dX11_swap_90 : decode cX11_swap 90 = .ok (.ifCond .ne 17, 3) := by decide +kernel
theorem dX11_swap_93 : decode cX11_swap 93 = .ok (.aload 5, 2) := by decide +kernel
theorem dX11_swap_95 : decode cX11_swap 95 = .ok (.aload 8, 2) := by decide +kernel
theorem dX11_swap_97 : decode cX11_swap 97 = .ok (.invokevirtual 165, 3) := by decide +kernel
theorem dX11_swap_100 : decode cX11_swap 100 = .ok (.iconst (-1), 1) := by decide +kernel
theorem dX11_swap_101 : decode cX11_swap 101 = .ok (.if_icmp .eq 6, 3) := by decide +kernel
theorem dX11_swap_104 : decode cX11_swap 104 = .ok (.iinc 6 1, 3) := by decide +kernel
theorem dX11_swap_107 : decode cX11_swap 107 = .ok (.iinc 7 1, 3) := by decide +kernel
theorem dX11_swap_110 : decode cX11_swap 110 = .ok (.goto (-57), 3) := by decide +kernel
theorem dX11_swap_113 : decode cX11_swap 113 = .ok (.iload 6, 2) := by decide +kernel
theorem dX11_swap_115 : decode cX11_swap 115 = .ok (.ireturn, 1) := by decide +kernel
set_option maxHeartbeats 4000000 in
set_option maxRecDepth 100000 in
theorem s_X11_swap {P : PP} {a0 : Nat} {a1 : Int32} {a2 : Int32} {a3 : Int32} (I : IV P) (ha0 : At P a0 11) : CtrI yX11_swap cX11_swap 9 (some Jvm.ClassFile.FieldType.int) ({ frames := 3, cells := 0, slots := 0, locals := 192 } : Room) 0 0 P [.ref a0, .int a1, .int a2, .int a3] (fun r P2 => IV P2 ∧ EK [6] P P2 ∧ (-1 ≤ r.toInt ∧ r.toInt ≤ 40)) := by
  refine enI (lv := [(0, .ref a0), (1, .int a1), (2, .int a2), (3, .int a3)]) (by decide) (Nat.le_of_ble_eq_true rfl) rfl (fun E D cy C Ci0 ret => ?_)
  have J113 : ∀ (P113 : PP) (v113_6 : Int32), (IV P113) → (EK [6] P P113) → (0 ≤ v113_6.toInt ∧ v113_6.toInt ≤ 40) → G E ({ frames := 3, cells := 0, slots := 0, locals := 192 } : Room) D cy 9 P113 0 0 113 [(6, .int v113_6)] [] := by
    intro P113 v113_6 I113 X113 hv113_6
    have h37817 := X113.at ha0
    refine g_iload C dX11_swap_113 0 rfl ?_
    exact ret _ _ _ _ _ _ dX11_swap_115 rfl (by decide) (by decide) ⟨I113, X113, (by omega)⟩
  have J53 : ∀ (n53 : Nat) (P53 : PP) (b53_4 : Nat) (b53_5 : Nat) (v53_6 : Int32) (v53_7 : Int32), (40 - v53_7.toInt).toNat < n53 → (IV P53) → (EK [6] P P53) → (0 ≤ a3.toInt ∧ a3.toInt ≤ 40) → (At P53 b53_4 6) → (At P53 b53_5 6) → (0 ≤ v53_6.toInt ∧ v53_6.toInt ≤ 40) → (0 ≤ v53_7.toInt ∧ v53_7.toInt ≤ 40) → G E ({ frames := 3, cells := 0, slots := 0, locals := 192 } : Room) D cy 9 P53 0 0 53 [(3, .int a3), (4, .ref b53_4), (5, .ref b53_5), (6, .int v53_6), (7, .int v53_7)] [] := by
    intro n53
    induction n53 with
    | zero => intro P53 b53_4 b53_5 v53_6 v53_7 hm53 I53 X53 hv53_3 hb53_4 hb53_5 hv53_6 hv53_7; omega
    | succ n53 ih53 =>
      intro P53 b53_4 b53_5 v53_6 v53_7 hm53 I53 X53 hv53_3 hb53_4 hb53_5 hv53_6 hv53_7
      have h37818 := X53.at ha0
      have J107 : ∀ (P107 : PP) (b107_4 : Nat) (b107_5 : Nat) (v107_6 : Int32), (IV P107) → (EK [6] P P107) → (1 ≤ a3.toInt ∧ a3.toInt ≤ 40) → (At P107 b107_4 6) → (At P107 b107_5 6) → (0 ≤ v107_6.toInt ∧ v107_6.toInt ≤ 40) → (0 ≤ v53_7.toInt ∧ v53_7.toInt ≤ 39) → G E ({ frames := 3, cells := 0, slots := 0, locals := 192 } : Room) D cy 9 P107 0 0 107 [(3, .int a3), (4, .ref b107_4), (5, .ref b107_5), (6, .int v107_6), (7, .int v53_7)] [] := by
        intro P107 b107_4 b107_5 v107_6 I107 X107 hv107_3 hb107_4 hb107_5 hv107_6 hv107_7
        have h37819 := X107.at ha0
        refine s_iinc (lv0 := [(3, .int a3), (4, .ref b107_4), (5, .ref b107_5), (6, .int v107_6)]) (m := 1) C dX11_swap_107 4 rfl (by decide) rfl (by decide) (by omega) (fun z37820 h37821 => ?_)
        have h37821 : z37820.toInt = v53_7.toInt + 1 := h37821
        refine g_goto C 53 dX11_swap_110 (by decide) ?_
        refine g_lv (lv' := [(3, .int a3), (4, .ref b107_4), (5, .ref b107_5), (6, .int v107_6), (7, .int z37820)]) [1, 2, 3, 4, 0] rfl ?_
        exact ih53 P107 b107_4 b107_5 v107_6 z37820 (by omega) I107 X107 (by omega) hb107_4 hb107_5 (by omega) (by omega)
      refine g_iload C dX11_swap_53 4 rfl ?_
      refine g_aload C dX11_swap_55 1 rfl ?_
      refine g_getI C fi_X11_336 (by decide) (hb53_4).1 (hb53_4).2 dX11_swap_57 ?_
      have h37822 := I53.rg (hb53_4) 1 rfl
      refine b_icmp_ge C 113 dX11_swap_60 (by decide) (fun h37823 => ?_) (fun h37823 => ?_)
      · have h37823 : (pI P53 b53_4 1).toInt ≤ v53_7.toInt := h37823
        refine g_lv (lv' := [(6, .int v53_6)]) [3] rfl ?_
        exact J113 P53 v53_6 I53 X53 (by omega)
      · have h37823 : v53_7.toInt < (pI P53 b53_4 1).toInt := h37823
        refine g_iload C dX11_swap_63 3 rfl ?_
        refine g_iload_n C dX11_swap_65 rfl 0 rfl ?_
        refine b_icmp_ge C 113 dX11_swap_66 (by decide) (fun h37824 => ?_) (fun h37824 => ?_)
        · have h37824 : a3.toInt ≤ v53_6.toInt := h37824
          refine g_lv (lv' := [(6, .int v53_6)]) [3] rfl ?_
          exact J113 P53 v53_6 I53 X53 (by omega)
        · have h37824 : v53_6.toInt < a3.toInt := h37824
          refine g_aload C dX11_swap_69 1 rfl ?_
          refine g_iload C dX11_swap_71 4 rfl ?_
          refine g_callVQ (rest := []) C mv_X11_337 [.int v53_7] (s_X6_at I53 hb53_4) (hb53_4).1 (hb53_4).2 rfl rfl (by decide) (Nat.le_of_ble_eq_true rfl) (by decide) dX11_swap_73 (fun r37825 Y37826 h37827 => ?_)
          obtain ⟨rfl, h37827⟩ := h37827
          rcases h37827 with rfl | ⟨b37829, rfl, h37827, hj37828⟩
          · show G _ _ _ _ _ _ _ _ _ _ (.null :: _)
            refine g_astoreN (lv' := [(8, .null), (3, .int a3), (4, .ref b53_4), (5, .ref b53_5), (6, .int v53_6), (7, .int v53_7)]) C dX11_swap_76 (by decide) rfl ?_
            refine g_aloadN C dX11_swap_78 0 rfl ?_
            refine g_ifnullN C 107 dX11_swap_80 (by decide) ?_
            refine g_lv (lv' := [(3, .int a3), (4, .ref b53_4), (5, .ref b53_5), (6, .int v53_6), (7, .int v53_7)]) [1, 2, 3, 4, 5] rfl ?_
            exact J107 P53 b53_4 b53_5 v53_6 I53 X53 (by omega) hb53_4 hb53_5 (by omega) (by omega)
          · have hj37828 : ((0 : Int) ≤ v53_7.toInt ∧ v53_7.toInt ≤ (39 : Int)) := hj37828
            show G _ _ _ _ _ _ _ _ _ _ (.ref b37829 :: _)
            refine g_astore (lv' := [(8, .ref b37829), (3, .int a3), (4, .ref b53_4), (5, .ref b53_5), (6, .int v53_6), (7, .int v53_7)]) C dX11_swap_76 (by decide) rfl ?_
            refine g_aload C dX11_swap_78 0 rfl ?_
            refine g_ifnull C dX11_swap_80 ?_
            refine g_aload C dX11_swap_83 3 rfl ?_
            refine g_aload C dX11_swap_85 0 rfl ?_
            refine g_callVI (rest := []) C mv_X11_341 [.ref b37829] (s_X6_hasAlike I53 hb53_5 h37827) (hb53_5).1 (hb53_5).2 rfl rfl (by decide) (Nat.le_of_ble_eq_true rfl) (by decide) dX11_swap_87 (fun r37830 Y37831 h37832 => ?_)
            obtain ⟨rfl, h37832⟩ := h37832
            have h37832 : 0 ≤ r37830.toInt ∧ r37830.toInt ≤ 1 := h37832
            refine b_if_ne C 107 dX11_swap_90 (by decide) (fun h37833 => ?_) (fun h37833 => ?_)
            · have h37833 : r37830.toInt ≠ 0 := ti_ne h37833
              refine g_lv (lv' := [(3, .int a3), (4, .ref b53_4), (5, .ref b53_5), (6, .int v53_6), (7, .int v53_7)]) [1, 2, 3, 4, 5] rfl ?_
              exact J107 P53 b53_4 b53_5 v53_6 I53 X53 (by omega) hb53_4 hb53_5 (by omega) (by omega)
            · have h37833 : r37830.toInt = 0 := congrArg Int32.toInt h37833
              refine g_aload C dX11_swap_93 3 rfl ?_
              refine g_aload C dX11_swap_95 0 rfl ?_
              refine g_callVI (rest := []) C mv_X11_165 [.ref b37829] (s_X6_put I53 hb53_5 h37827) (hb53_5).1 (hb53_5).2 rfl rfl (by decide) (Nat.le_of_ble_eq_true rfl) (by decide) dX11_swap_97 (fun r37834 Y37835 h37836 => ?_)
              obtain ⟨Iy37837, Xy37838, h37836⟩ := h37836
              have Xz37839 : EK [6] P Y37835 := X53.tr (Xy37838.mono (by decide))
              have h37840 := Xy37838.at h37818
              have h37841 := Xy37838.at h37827
              have h37842 := Xy37838.at hb53_4
              have h37843 := Xy37838.at hb53_5
              have h37836 : -1 ≤ r37834.toInt ∧ r37834.toInt ≤ 39 := h37836
              refine g_iconst (v := (-1)) C dX11_swap_100 (by decide) ?_
              refine b_icmp_eq C 107 dX11_swap_101 (by decide) (fun h37844 => ?_) (fun h37844 => ?_)
              · have h37844 : r37834.toInt = (-1) := congrArg Int32.toInt h37844
                refine g_lv (lv' := [(3, .int a3), (4, .ref b53_4), (5, .ref b53_5), (6, .int v53_6), (7, .int v53_7)]) [1, 2, 3, 4, 5] rfl ?_
                exact J107 Y37835 b53_4 b53_5 v53_6 Iy37837 Xz37839 (by omega) h37842 h37843 (by omega) (by omega)
              · have h37844 : r37834.toInt ≠ (-1) := ti_ne h37844
                refine s_iinc (lv0 := [(8, .ref b37829), (3, .int a3), (4, .ref b53_4), (5, .ref b53_5), (7, .int v53_7)]) (m := 1) C dX11_swap_104 4 rfl (by decide) rfl (by decide) (by omega) (fun z37845 h37846 => ?_)
                have h37846 : z37845.toInt = v53_6.toInt + 1 := h37846
                refine g_lv (lv' := [(3, .int a3), (4, .ref b53_4), (5, .ref b53_5), (6, .int z37845), (7, .int v53_7)]) [2, 3, 4, 0, 5] rfl ?_
                exact J107 Y37835 b53_4 b53_5 z37845 Iy37837 Xz37839 (by omega) h37842 h37843 (by omega) (by omega)
  have J29 : G E ({ frames := 3, cells := 0, slots := 0, locals := 192 } : Room) D cy 9 P 0 0 29 [] [] := by
    refine g_iconst (v := (-1)) C dX11_swap_29 (by decide) ?_
    exact ret _ _ _ _ _ _ dX11_swap_30 rfl (by decide) (by decide) ⟨I, EK.rf, (by decide)⟩
  refine g_iload_n C dX11_swap_0 rfl 1 rfl ?_
  refine g_callSI (b := 0) (ci := 0) (rest := []) C ms_X11_158 [.int a1] (s_X11_isQuarter I) rfl rfl (by decide) (Nat.le_of_ble_eq_true rfl) (by decide) dX11_swap_1 (fun r37847 Y37848 h37849 => ?_)
  obtain ⟨rfl, h37849⟩ := h37849
  obtain ⟨h37849, hi37850⟩ := h37849
  have hi37850 : r37847.toInt = 0 ∨ (((0 : Int) ≤ a1.toInt ∧ a1.toInt ≤ (3 : Int))) := hi37850
  have h37849 : 0 ≤ r37847.toInt ∧ r37847.toInt ≤ 1 := h37849
  refine b_if_eq C 29 dX11_swap_4 (by decide) (fun h37851 => ?_) (fun h37851 => ?_)
  · have h37851 : r37847.toInt = 0 := congrArg Int32.toInt h37851
    clear hi37850
    refine g_lv (lv' := []) [] rfl ?_
    exact J29 
  · have h37851 : r37847.toInt ≠ 0 := ti_ne h37851
    replace hi37850 := hi37850.resolve_left (by omega)
    refine g_iload_n C dX11_swap_7 rfl 2 rfl ?_
    refine g_callSI (b := 0) (ci := 0) (rest := []) C ms_X11_158 [.int a2] (s_X11_isQuarter I) rfl rfl (by decide) (Nat.le_of_ble_eq_true rfl) (by decide) dX11_swap_8 (fun r37852 Y37853 h37854 => ?_)
    obtain ⟨rfl, h37854⟩ := h37854
    obtain ⟨h37854, hi37855⟩ := h37854
    have hi37855 : r37852.toInt = 0 ∨ (((0 : Int) ≤ a2.toInt ∧ a2.toInt ≤ (3 : Int))) := hi37855
    have h37854 : 0 ≤ r37852.toInt ∧ r37852.toInt ≤ 1 := h37854
    refine b_if_eq C 29 dX11_swap_11 (by decide) (fun h37856 => ?_) (fun h37856 => ?_)
    · have h37856 : r37852.toInt = 0 := congrArg Int32.toInt h37856
      clear hi37855
      refine g_lv (lv' := []) [] rfl ?_
      exact J29 
    · have h37856 : r37852.toInt ≠ 0 := ti_ne h37856
      replace hi37855 := hi37855.resolve_left (by omega)
      refine g_iload_n C dX11_swap_14 rfl 1 rfl ?_
      refine g_iload_n C dX11_swap_15 rfl 2 rfl ?_
      refine b_icmp_eq C 29 dX11_swap_16 (by decide) (fun h37857 => ?_) (fun h37857 => ?_)
      · have h37857 : a1.toInt = a2.toInt := congrArg Int32.toInt h37857
        refine g_lv (lv' := []) [] rfl ?_
        exact J29 
      · have h37857 : a1.toInt ≠ a2.toInt := ti_ne h37857
        refine g_iload_n C dX11_swap_19 rfl 3 rfl ?_
        have u37859 := ti_rng a3
        refine b_if_lt C 29 dX11_swap_20 (by decide) (fun h37858 => ?_) (fun h37858 => ?_)
        · have h37858 : a3.toInt < 0 := h37858
          refine g_lv (lv' := []) [] rfl ?_
          exact J29 
        · have h37858 : 0 ≤ a3.toInt := h37858
          refine g_iload_n C dX11_swap_23 rfl 3 rfl ?_
          refine g_bipush (v := 40) C dX11_swap_24 (by decide) ?_
          have u37861 := ti_rng a3
          refine b_icmp_le C 31 dX11_swap_26 (by decide) (fun h37860 => ?_) (fun h37860 => ?_)
          · have h37860 : a3.toInt ≤ 40 := h37860
            refine g_aload_n C dX11_swap_31 rfl 0 rfl ?_
            obtain ⟨b37862, e37863, h37864⟩ := I.fld (ha0) 1 19 4 rfl
            refine g_getR C fi_X11_17 rfl e37863 (ha0).1 (ha0).2 dX11_swap_32 ?_
            refine g_iload_n C dX11_swap_35 rfl 1 rfl ?_
            obtain ⟨b37865, e37866, h37867⟩ := I.elm h37864 (by decide) (a1.toInt.toNat) (by omega)
            refine g_aldR C h37864.1 h37864.2.1 (by decide) (ix_in h37864.2.2 (by omega)) e37866 dX11_swap_36 ?_
            refine g_astore (lv' := [(4, .ref b37865), (0, .ref a0), (1, .int a1), (2, .int a2), (3, .int a3)]) C dX11_swap_37 (by decide) rfl ?_
            refine g_aload_n C dX11_swap_39 rfl 1 rfl ?_
            refine g_getR C fi_X11_17 rfl e37863 (ha0).1 (ha0).2 dX11_swap_40 ?_
            refine g_iload_n C dX11_swap_43 rfl 3 rfl ?_
            obtain ⟨b37868, e37869, h37870⟩ := I.elm h37864 (by decide) (a2.toInt.toNat) (by omega)
            refine g_aldR C h37864.1 h37864.2.1 (by decide) (ix_in h37864.2.2 (by omega)) e37869 dX11_swap_44 ?_
            refine g_astore (lv' := [(5, .ref b37868), (4, .ref b37865), (0, .ref a0), (1, .int a1), (2, .int a2), (3, .int a3)]) C dX11_swap_45 (by decide) rfl ?_
            refine g_iconst (v := 0) C dX11_swap_47 (by decide) ?_
            refine g_istore (lv' := [(6, .int 0), (5, .ref b37868), (4, .ref b37865), (0, .ref a0), (1, .int a1), (2, .int a2), (3, .int a3)]) C dX11_swap_48 (by decide) rfl ?_
            refine g_iconst (v := 0) C dX11_swap_50 (by decide) ?_
            refine g_istore (lv' := [(7, .int 0), (6, .int 0), (5, .ref b37868), (4, .ref b37865), (0, .ref a0), (1, .int a1), (2, .int a2), (3, .int a3)]) C dX11_swap_51 (by decide) rfl ?_
            refine g_lv (lv' := [(3, .int a3), (4, .ref b37865), (5, .ref b37868), (6, .int 0), (7, .int 0)]) [7, 3, 2, 1, 0] rfl ?_
            exact J53 _ P b37865 b37868 0 0 (Nat.lt_succ_self _) I EK.rf (by omega) h37867 h37870 (by decide) (by decide)
          · have h37860 : 40 < a3.toInt := h37860
            refine g_lv (lv' := []) [] rfl ?_
            exact J29 
