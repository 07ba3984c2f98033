theorem dX11_average_34 : decode cX11_average 34 = .ok (.ldc2_w 302, 3) := by decide +kernel
theorem dX11_average_37 : decode cX11_average 37 = .ok (.lreturn, 1) := by decide +kernel
theorem dX11_average_54 : decode cX11_average 54 = .ok (.aload_n 0, 1) := by decide +kernel
theorem dX11_average_55 : decode cX11_average 55 = .ok (.getfield 60, 3) := by decide +kernel
theorem dX11_average_58 : decode cX11_average 58 = .ok (.getfield 296, 3) := by decide +kernel
theorem dX11_average_61 : decode cX11_average 61 = .ok (.iload_n 2, 1) := by decide +kernel
theorem dX11_average_62 : decode cX11_average 62 = .ok (.iaload, 1) := by decide +kernel
theorem dX11_average_63 : decode cX11_average 63 = .ok (.ifCond .ne 7, 3) := by decide +kernel
theorem dX11_average_66 : decode cX11_average 66 = .ok (.ldc2_w 302, 3) := by decide +kernel
theorem dX11_average_69 : decode cX11_average 69 = .ok (.lreturn, 1) := by decide +kernel
theorem dX11_average_70 : decode cX11_average 70 = .ok (.lconst 0, 1) := by decide +kernel
theorem dX11_average_71 : decode cX11_average 71 = .ok (.lstore 5, 2) := by decide +kernel
theorem dX11_average_73 : decode cX11_average 73 = .ok (.lconst 1, 1) := by decide +kernel
theorem dX11_average_74 : decode cX11_average 74 = .ok (.lstore 7, 2) := by decide +kernel
theorem dX11_average_76 : decode cX11_average 76 = .ok (.iconst 0, 1) := by decide +kernel
theorem dX11_average_77 : decode cX11_average 77 = .ok (.istore 9, 2) := by decide +kernel
theorem dX11_average_79 : decode cX11_average 79 = .ok (.iload 9, 2) := by decide +kernel
theorem dX11_average_81 : decode cX11_average 81 = .ok (.iload_n 2, 1) := by decide +kernel
theorem dX11_average_82 : decode cX11_average 82 = .ok (.if_icmp .ge 80, 3) := by decide +kernel
theorem dX11_average_85 : decode cX11_average 85 = .ok (.iload_n 2, 1) := by decide +kernel
theorem dX11_average_86 : decode cX11_average 86 = .ok (.iload 9, 2) := by decide +kernel
theorem dX11_average_88 : decode cX11_average 88 = .ok (.invokestatic 299, 3) := by decide +kernel
theorem dX11_average_91 : decode cX11_average 91 = .ok (.i2l, 1) := by decide +kernel
theorem dX11_average_92 : decode cX11_average 92 = .ok (.lstore 10, 2) := by decide +kernel
theorem dX11_average_94 : decode cX11_average 94 = .ok (.lload 5, 2) := by decide +kernel
theorem dX11_average_96 : decode cX11_average 96 = .ok (.lload 10, 2) := by decide +kernel
theorem dX11_average_98 : decode cX11_average 98 = .ok (.lmul, 1) := by decide +kernel
theorem dX11_average_99 : decode cX11_average 99 = .ok (.lload 7, 2) := by decide +kernel
theorem dX11_average_101 : decode cX11_average 101 = .ok (.lload 10, 2) := by decide +kernel
theorem dX11_average_103 : decode cX11_average 103 = .ok (.aload_n 0, 1) := by decide +kernel
theorem dX11_average_104 : decode cX11_average 104 = .ok (.getfield 60, 3) := by decide +kernel
theorem dX11_average_107 : decode cX11_average 107 = .ok (.getfield 296, 3) := by decide +kernel
theorem dX11_average_110 : decode cX11_average 110 = .ok (.iload 9, 2) := by decide +kernel
theorem dX11_average_112 : decode cX11_average 112 = .ok (.iaload, 1) := by decide +kernel
theorem dX11_average_113 : decode cX11_average 113 = .ok (.i2l, 1) := by decide +kernel
theorem dX11_average_114 : decode cX11_average 114 = .ok (.lsub, 1) := by decide +kernel
theorem dX11_average_115 : decode cX11_average 115 = .ok (.lmul, 1) := by decide +kernel
theorem dX11_average_116 : decode cX11_average 116 = .ok (.ladd, 1) := by decide +kernel
theorem dX11_average_117 : decode cX11_average 117 = .ok (.lstore 5, 2) := by decide +kernel
theorem dX11_average_119 : decode cX11_average 119 = .ok (.lload 7, 2) := by decide +kernel
theorem dX11_average_121 : decode cX11_average 121 = .ok (.lload 10, 2) := by decide +kernel
theorem dX11_average_123 : decode cX11_average 123 = .ok (.lmul, 1) := by decide +kernel
theorem dX11_average_124 : decode cX11_average 124 = .ok (.lstore 7, 2) := by decide +kernel
theorem dX11_average_126 : decode cX11_average 126 = .ok (.lload 5, 2) := by decide +kernel
theorem dX11_average_128 : decode cX11_average 128 = .ok (.lload 7, 2) := by decide +kernel
theorem dX11_average_130 : decode cX11_average 130 = .ok (.invokestatic 304, 3) := by decide +kernel
theorem dX11_commonDivisor_0 : decode cX11_commonDivisor 0 = .ok (.lload_n 0, 1) := by decide +kernel
theorem dX11_commonDivisor_1 : decode cX11_commonDivisor 1 = .ok (.lstore 4, 2) := by decide +kernel
theorem dX11_commonDivisor_3 : decode cX11_commonDivisor 3 = .ok (.lload_n 2, 1) := by decide +kernel
theorem dX11_commonDivisor_4 : decode cX11_commonDivisor 4 = .ok (.lstore 6, 2) := by decide +kernel
theorem dX11_commonDivisor_6 : decode cX11_commonDivisor 6 = .ok (.iconst 0, 1) := by decide +kernel
theorem dX11_commonDivisor_7 : decode cX11_commonDivisor 7 = .ok (.istore 8, 2) := by decide +kernel
theorem dX11_commonDivisor_9 : decode cX11_commonDivisor 9 = .ok (.iload 8, 2) := by decide +kernel
theorem dX11_commonDivisor_11 : decode cX11_commonDivisor 11 = .ok (.bipush 100, 2) := by decide +kernel
theorem dX11_commonDivisor_13 : decode cX11_commonDivisor 13 = .ok (.if_icmp .ge 31, 3) := by decide +kernel
theorem dX11_commonDivisor_16 : decode cX11_commonDivisor 16 = .ok (.lload 6, 2) := by decide +kernel
theorem dX11_commonDivisor_18 : decode cX11_commonDivisor 18 = .ok (.lconst 0, 1) := by decide +kernel
theorem dX11_commonDivisor_19 : decode cX11_commonDivisor 19 = .ok (.lcmp, 1) := by decide +kernel
theorem dX11_commonDivisor_20 : decode cX11_commonDivisor 20 = .ok (.ifCond .eq 24, 3) := by decide +kernel
theorem dX11_commonDivisor_23 : decode cX11_commonDivisor 23 = .ok (.lload 4, 2) := by decide +kernel
theorem dX11_commonDivisor_25 : decode cX11_commonDivisor 25 = .ok (.lload 6, 2) := by decide +kernel
theorem dX11_commonDivisor_27 : decode cX11_commonDivisor 27 = .ok (.lrem, 1) := by decide +kernel
theorem dX11_commonDivisor_28 : decode cX11_commonDivisor 28 = .ok (.lstore 9, 2) := by decide +kernel
theorem dX11_commonDivisor_30 : decode cX11_commonDivisor 30 = .ok (.lload 6, 2) := by decide +kernel
theorem dX11_commonDivisor_32 : decode cX11_commonDivisor 32 = .ok (.lstore 4, 2) := by decide +kernel
theorem dX11_commonDivisor_34 : decode cX11_commonDivisor 34 = .ok (.lload 9, 2) := by decide +kernel
theorem dX11_commonDivisor_36 : decode cX11_commonDivisor 36 = .ok (.lstore 6, 2) := by decide +kernel
theorem dX11_commonDivisor_38 : decode cX11_commonDivisor 38 = .ok (.iinc 8 1, 3) := by decide +kernel
theorem dX11_commonDivisor_41 : decode cX11_commonDivisor 41 = .ok (.goto (-32), 3) := by decide +kernel
theorem dX11_commonDivisor_44 : decode cX11_commonDivisor 44 = .ok (.lload 4, 2) := by decide +kernel
theorem dX11_commonDivisor_46 : decode cX11_commonDivisor 46 = .ok (.lreturn, 1) := by decide +kernel
set_option maxHeartbeats 4000000 in
set_option maxRecDepth 100000 in
theorem s_X11_commonDivisor {P : PP} {a0 : Int64} {a1 : Int64} (I : IV P) : CtrL yX11_commonDivisor cX11_commonDivisor 11 (some Jvm.ClassFile.FieldType.long) ({ frames := 1, cells := 0, slots := 0, locals := 64 } : Room) 0 0 P [.long a0, .long a1] (fun r P2 => P = P2 ∧ (True)) := by
  refine enL (lv := [(0, .long a0), (2, .long a1)]) (by decide) (Nat.le_of_ble_eq_true rfl) rfl (fun E D cy C Ci0 ret => ?_)
  have J44 : ∀ (l44_4 : Int64), G E ({ frames := 1, cells := 0, slots := 0, locals := 64 } : Room) D cy 11 P 0 0 44 [(4, .long l44_4)] [] := by
    intro l44_4
    refine g_lload C dX11_commonDivisor_44 0 rfl ?_
    exact ret _ _ _ _ _ _ dX11_commonDivisor_46 (by decide) (by decide) ⟨rfl, trivial⟩
  have J9 : ∀ (n9 : Nat) (l9_4 : Int64) (l9_6 : Int64) (v9_8 : Int32), (100 - v9_8.toInt).toNat < n9 → (0 ≤ v9_8.toInt ∧ v9_8.toInt ≤ 100) → G E ({ frames := 1, cells := 0, slots := 0, locals := 64 } : Room) D cy 11 P 0 0 9 [(4, .long l9_4), (6, .long l9_6), (8, .int v9_8)] [] := by
    intro n9
    induction n9 with
    | zero => intro l9_4 l9_6 v9_8 hm9 hv9_8; omega
    | succ n9 ih9 =>
      intro l9_4 l9_6 v9_8 hm9 hv9_8
      refine g_iload C dX11_commonDivisor_9 2 rfl ?_
      refine g_bipush (v := 100) C dX11_commonDivisor_11 (by decide) ?_
      refine b_icmp_ge C 44 dX11_commonDivisor_13 (by decide) (fun h13493 => ?_) (fun h13493 => ?_)
      · have h13493 : 100 ≤ v9_8.toInt := h13493
        refine g_lv (lv' := [(4, .long l9_4)]) [0] rfl ?_
        exact J44 l9_4
      · have h13493 : v9_8.toInt < 100 := h13493
        refine g_lload C dX11_commonDivisor_16 1 rfl ?_
        refine g_lconst (v := 0) C dX11_commonDivisor_18 (by decide) ?_
        refine a_lcmp0 C dX11_commonDivisor_19 (fun z13494 h13495 => ?_)
        have u13497 := ti_rng z13494
        refine b_if_eq C 44 dX11_commonDivisor_20 (by decide) (fun h13496 => ?_) (fun h13496 => ?_)
        · have h13496 : z13494.toInt = 0 := congrArg Int32.toInt h13496
          refine g_lv (lv' := [(4, .long l9_4)]) [0] rfl ?_
          exact J44 l9_4
        · have h13496 : z13494.toInt ≠ 0 := ti_ne h13496
          have hz_l9_6 := h13495 h13496
          refine g_lload C dX11_commonDivisor_23 0 rfl ?_
          refine g_lload C dX11_commonDivisor_25 1 rfl ?_
          refine a_lrem C dX11_commonDivisor_27 hz_l9_6 (fun l13498 => ?_)
          refine g_lstore (lv' := [(9, .long l13498), (4, .long l9_4), (6, .long l9_6), (8, .int v9_8)]) C dX11_commonDivisor_28 (by decide) rfl ?_
          refine g_lload C dX11_commonDivisor_30 2 rfl ?_
          refine g_lstore (lv' := [(4, .long l9_6), (9, .long l13498), (6, .long l9_6), (8, .int v9_8)]) C dX11_commonDivisor_32 (by decide) rfl ?_
          refine g_lload C dX11_commonDivisor_34 1 rfl ?_
          refine g_lstore (lv' := [(6, .long l13498), (4, .long l9_6), (9, .long l13498), (8, .int v9_8)]) C dX11_commonDivisor_36 (by decide) rfl ?_
          refine s_iinc (lv0 := [(6, .long l13498), (4, .long l9_6), (9, .long l13498)]) (m := 1) C dX11_commonDivisor_38 3 rfl (by decide) rfl (by decide) (by omega) (fun z13499 h13500 => ?_)
          have h13500 : z13499.toInt = v9_8.toInt + 1 := h13500
          refine g_goto C 9 dX11_commonDivisor_41 (by decide) ?_
          refine g_lv (lv' := [(4, .long l9_6), (6, .long l13498), (8, .int z13499)]) [2, 1, 0] rfl ?_
          exact ih9 l9_6 l13498 z13499 (by omega) (by omega)
  refine g_lload_n C dX11_commonDivisor_0 rfl 0 rfl ?_
  refine g_lstore (lv' := [(4, .long a0), (0, .long a0), (2, .long a1)]) C dX11_commonDivisor_1 (by decide) rfl ?_
  refine g_lload_n C dX11_commonDivisor_3 rfl 2 rfl ?_
  refine g_lstore (lv' := [(6, .long a1), (4, .long a0), (0, .long a0), (2, .long a1)]) C dX11_commonDivisor_4 (by decide) rfl ?_
  refine g_iconst (v := 0) C dX11_commonDivisor_6 (by decide) ?_
  refine g_istore (lv' := [(8, .int 0), (6, .long a1), (4, .long a0), (0, .long a0), (2, .long a1)]) C dX11_commonDivisor_7 (by decide) rfl ?_
  refine g_lv (lv' := [(4, .long a0), (6, .long a1), (8, .int 0)]) [2, 1, 0] rfl ?_
  exact J9 _ a0 a1 0 (Nat.lt_succ_self _) (by decide)
theorem dX11_average_133 : decode cX11_average 133 = .ok (.lstore 12, 2) := by decide +kernel
theorem dX11_average_135 : decode cX11_average 135 = .ok (.lload 12, 2) := by decide +kernel
theorem dX11_average_137 : decode cX11_average 137 = .ok (.lconst 1, 1) := by decide +kernel
theorem dX11_average_138 : decode cX11_average 138 = .ok (.lcmp, 1) := by decide +kernel
theorem dX11_average_139 : decode cX11_average 139 = .ok (.ifCond .le 17, 3) := by decide +kernel
theorem dX11_average_142 : decode cX11_average 142 = .ok (.lload 5, 2) := by decide +kernel
theorem dX11_average_144 : decode cX11_average 144 = .ok (.lload 12, 2) := by decide +kernel
theorem dX11_average_146 : decode cX11_average 146 = .ok (.ldiv, 1) := by decide +kernel
theorem dX11_average_147 : decode cX11_average 147 = .ok (.lstore 5, 2) := by decide +kernel
theorem dX11_average_149 : decode cX11_average 149 = .ok (.lload 7, 2) := by decide +kernel
theorem dX11_average_151 : decode cX11_average 151 = .ok (.lload 12, 2) := by decide +kernel
theorem dX11_average_153 : decode cX11_average 153 = .ok (.ldiv, 1) := by decide +kernel
theorem dX11_average_154 : decode cX11_average 154 = .ok (.lstore 7, 2) := by decide +kernel
theorem dX11_average_156 : decode cX11_average 156 = .ok (.iinc 9 1, 3) := by decide +kernel
theorem dX11_average_159 : decode cX11_average 159 = .ok (.goto (-80), 3) := by decide +kernel
theorem dX11_average_162 : decode cX11_average 162 = .ok (.iload 4, 2) := by decide +kernel
theorem dX11_average_164 : decode cX11_average 164 = .ok (.ifCond .ne 8, 3) := by decide +kernel
theorem dX11_average_167 : decode cX11_average 167 = .ok (.lload 5, 2) := by decide +kernel
theorem dX11_average_169 : decode cX11_average 169 = .ok (.goto 5, 3) := by decide +kernel
theorem dX11_average_172 : decode cX11_average 172 = .ok (.lload 7, 2) := by decide +kernel
theorem dX11_average_174 : decode cX11_average 174 = .ok (.lreturn, 1) := by decide +kernel
set_option maxHeartbeats 4000000 in
set_option maxRecDepth 100000 in
theorem s_X11_average {P : PP} {a0 : Nat} {a1 : Int32} {a2 : Int32} {a3 : Int32} {a4 : Int32} (I : IV P) (ha0 : At P a0 11) : CtrL yX11_average cX11_average 14 (some Jvm.ClassFile.FieldType.long) ({ frames := 16, cells := 0, slots := 0, locals := 1024 } : Room) 0 0 P [.ref a0, .int a1, .int a2, .int a3, .int a4] (fun r P2 => IV P2 ∧ EK [0, 1, 5, 8, 13] P P2 ∧ (True)) := by
  refine enL (lv := [(0, .ref a0), (1, .int a1), (2, .int a2), (3, .int a3), (4, .int a4)]) (by decide) (Nat.le_of_ble_eq_true rfl) rfl (fun E D cy C Ci0 ret => ?_)
  have J79 : ∀ (n79 : Nat) (P79 : PP) (l79_5 : Int64) (l79_7 : Int64) (v79_9 : Int32), (11 - v79_9.toInt).toNat < n79 → (IV P79) → (EK [0, 1, 5, 8, 13] P P79) → (1 ≤ a2.toInt ∧ a2.toInt ≤ 11) → (0 ≤ a4.toInt ∧ a4.toInt ≤ 1) → (0 ≤ v79_9.toInt ∧ v79_9.toInt ≤ 11) → G E ({ frames := 16, cells := 0, slots := 0, locals := 1024 } : Room) D cy 14 P79 0 0 79 [(0, .ref a0), (2, .int a2), (4, .int a4), (5, .long l79_5), (7, .long l79_7), (9, .int v79_9)] [] := by
    intro n79
    induction n79 with
    | zero => intro P79 l79_5 l79_7 v79_9 hm79 I79 X79 hv79_2 hv79_4 hv79_9; omega
    | succ n79 ih79 =>
      intro P79 l79_5 l79_7 v79_9 hm79 I79 X79 hv79_2 hv79_4 hv79_9
      have h13833 := X79.at ha0
      have J156 : ∀ (l156_5 : Int64) (l156_7 : Int64), (1 ≤ a2.toInt ∧ a2.toInt ≤ 11) → (0 ≤ a4.toInt ∧ a4.toInt ≤ 1) → (0 ≤ v79_9.toInt ∧ v79_9.toInt ≤ 10) → G E ({ frames := 16, cells := 0, slots := 0, locals := 1024 } : Room) D cy 14 P79 0 0 156 [(0, .ref a0), (2, .int a2), (4, .int a4), (5, .long l156_5), (7, .long l156_7), (9, .int v79_9)] [] := by
        intro l156_5 l156_7 hv156_2 hv156_4 hv156_9
        have h13834 := X79.at ha0
        refine s_iinc (lv0 := [(0, .ref a0), (2, .int a2), (4, .int a4), (5, .long l156_5), (7, .long l156_7)]) (m := 1) C dX11_average_156 5 rfl (by decide) rfl (by decide) (by omega) (fun z13835 h13836 => ?_)
        have h13836 : z13835.toInt = v79_9.toInt + 1 := h13836
        refine g_goto C 79 dX11_average_159 (by decide) ?_
        refine g_lv (lv' := [(0, .ref a0), (2, .int a2), (4, .int a4), (5, .long l156_5), (7, .long l156_7), (9, .int z13835)]) [1, 2, 3, 4, 5, 0] rfl ?_
        exact ih79 P79 l156_5 l156_7 z13835 (by omega) I79 X79 (by omega) (by omega) (by omega)
      refine g_iload C dX11_average_79 5 rfl ?_
      refine g_iload_n C dX11_average_81 rfl 1 rfl ?_
      refine b_icmp_ge C 162 dX11_average_82 (by decide) (fun h13837 => ?_) (fun h13837 => ?_)
      · have h13837 : a2.toInt ≤ v79_9.toInt := h13837
        refine g_iload C dX11_average_162 2 rfl ?_
        refine b_if_ne C 172 dX11_average_164 (by decide) (fun h13838 => ?_) (fun h13838 => ?_)
        · have h13838 : a4.toInt ≠ 0 := ti_ne h13838
          refine g_lload C dX11_average_172 4 rfl ?_
          exact ret _ _ _ _ _ _ dX11_average_174 (by decide) (by decide) ⟨I79, X79, trivial⟩
        · have h13838 : a4.toInt = 0 := congrArg Int32.toInt h13838
          refine g_lload C dX11_average_167 3 rfl ?_
          refine g_goto C 174 dX11_average_169 (by decide) ?_
          exact ret _ _ _ _ _ _ dX11_average_174 (by decide) (by decide) ⟨I79, X79, trivial⟩
      · have h13837 : v79_9.toInt < a2.toInt := h13837
        refine g_iload_n C dX11_average_85 rfl 1 rfl ?_
        refine g_iload C dX11_average_86 5 rfl ?_
        refine g_callSI (b := 0) (ci := 0) (rest := []) C ms_X11_299 [.int a2, .int v79_9] (s_X11_choose I79 (by omega) (by omega)) rfl rfl (by decide) (Nat.le_of_ble_eq_true rfl) (by decide) dX11_average_88 (fun r13839 Y13840 h13841 => ?_)
        obtain ⟨rfl, h13841⟩ := h13841
        have h13841 : True := h13841
        refine a_i2l C dX11_average_91 (fun l13842 => ?_)
        refine g_lstore (lv' := [(10, .long l13842), (0, .ref a0), (2, .int a2), (4, .int a4), (5, .long l79_5), (7, .long l79_7), (9, .int v79_9)]) C dX11_average_92 (by decide) rfl ?_
        refine g_lload C dX11_average_94 4 rfl ?_
        refine g_lload C dX11_average_96 0 rfl ?_
        refine a_lmul C dX11_average_98 (fun l13843 => ?_)
        refine g_lload C dX11_average_99 5 rfl ?_
        refine g_lload C dX11_average_101 0 rfl ?_
        refine g_aload_n C dX11_average_103 rfl 1 rfl ?_
        obtain ⟨b13844, e13845, h13846⟩ := I79.fld (h13833) 10 8 0 rfl
        refine g_getR C fi_X11_60 rfl e13845 (h13833).1 (h13833).2 dX11_average_104 ?_
        obtain ⟨b13847, e13848, h13849⟩ := I79.fld (h13846.at) 0 13 12 rfl
        refine g_getR C fi_X11_296 rfl e13848 (h13846.at).1 (h13846.at).2 dX11_average_107 ?_
        refine g_iload C dX11_average_110 6 rfl ?_
        refine g_iald (j := (v79_9.toInt.toNat)) C h13849.1 h13849.2.1 (ix_in h13849.2.2 (by omega)) dX11_average_112 ?_
        refine g_topi (fun z13850 _ => ?_)
        refine a_i2l C dX11_average_113 (fun l13851 => ?_)
        refine a_lsub C dX11_average_114 (fun l13852 => ?_)
        refine a_lmul C dX11_average_115 (fun l13853 => ?_)
        refine a_ladd C dX11_average_116 (fun l13854 => ?_)
        refine g_lstore (lv' := [(5, .long l13854), (10, .long l13842), (0, .ref a0), (2, .int a2), (4, .int a4), (7, .long l79_7), (9, .int v79_9)]) C dX11_average_117 (by decide) rfl ?_
        refine g_lload C dX11_average_119 5 rfl ?_
        refine g_lload C dX11_average_121 1 rfl ?_
        refine a_lmul C dX11_average_123 (fun l13855 => ?_)
        refine g_lstore (lv' := [(7, .long l13855), (5, .long l13854), (10, .long l13842), (0, .ref a0), (2, .int a2), (4, .int a4), (9, .int v79_9)]) C dX11_average_124 (by decide) rfl ?_
        refine g_lload C dX11_average_126 1 rfl ?_
        refine g_lload C dX11_average_128 0 rfl ?_
        refine g_callSL (b := 0) (ci := 0) (rest := []) C ms_X11_304 [.long l13854, .long l13855] (s_X11_commonDivisor I79) rfl rfl (by decide) (Nat.le_of_ble_eq_true rfl) (by decide) dX11_average_130 (fun r13856 Y13857 h13858 => ?_)
        obtain ⟨rfl, h13858⟩ := h13858
        refine g_lstore (lv' := [(12, .long r13856), (7, .long l13855), (5, .long l13854), (10, .long l13842), (0, .ref a0), (2, .int a2), (4, .int a4), (9, .int v79_9)]) C dX11_average_133 (by decide) rfl ?_
        refine g_lload C dX11_average_135 0 rfl ?_
        refine g_lconst (v := 1) C dX11_average_137 (by decide) ?_
        refine a_lcmp1 C dX11_average_138 (fun z13859 h13860 => ?_)
        have u13862 := ti_rng z13859
        refine b_if_le C 156 dX11_average_139 (by decide) (fun h13861 => ?_) (fun h13861 => ?_)
        · have h13861 : z13859.toInt ≤ 0 := h13861
          refine g_lv (lv' := [(0, .ref a0), (2, .int a2), (4, .int a4), (5, .long l13854), (7, .long l13855), (9, .int v79_9)]) [4, 5, 6, 2, 1, 7] rfl ?_
          exact J156 l13854 l13855 (by omega) (by omega) (by omega)
        · have h13861 : 0 < z13859.toInt := h13861
          have hz_r13856 := h13860 h13861
          refine g_lload C dX11_average_142 2 rfl ?_
          refine g_lload C dX11_average_144 0 rfl ?_
          refine a_ldiv C dX11_average_146 hz_r13856 (fun l13863 => ?_)
          refine g_lstore (lv' := [(5, .long l13863), (12, .long r13856), (7, .long l13855), (10, .long l13842), (0, .ref a0), (2, .int a2), (4, .int a4), (9, .int v79_9)]) C dX11_average_147 (by decide) rfl ?_
          refine g_lload C dX11_average_149 2 rfl ?_
          refine g_lload C dX11_average_151 1 rfl ?_
          refine a_ldiv C dX11_average_153 hz_r13856 (fun l13864 => ?_)
          refine g_lstore (lv' := [(7, .long l13864), (5, .long l13863), (12, .long r13856), (10, .long l13842), (0, .ref a0), (2, .int a2), (4, .int a4), (9, .int v79_9)]) C dX11_average_154 (by decide) rfl ?_
          refine g_lv (lv' := [(0, .ref a0), (2, .int a2), (4, .int a4), (5, .long l13863), (7, .long l13864), (9, .int v79_9)]) [4, 5, 6, 1, 0, 7] rfl ?_
          exact J156 l13863 l13864 (by omega) (by omega) (by omega)
  have J34 : G E ({ frames := 16, cells := 0, slots := 0, locals := 1024 } : Room) D cy 14 P 0 0 34 [] [] := by
    refine g_ldc2 (v := -1) C kl_X11_302 dX11_average_34 ?_
    refine g_topl (fun l13865 el13865 => ?_)
    have hz_l13865 : ¬ l13865 = 0 := by rw [el13865]; decide
    exact ret _ _ _ _ _ _ dX11_average_37 (by decide) (by decide) ⟨I, EK.rf, trivial⟩
  refine g_aload_n C dX11_average_0 rfl 0 rfl ?_
  refine g_iload_n C dX11_average_1 rfl 1 rfl ?_
  refine g_callVI (rest := []) C mv_X11_97 [.int a1] (s_X11_isTold I ha0) (ha0).1 (ha0).2 rfl rfl (by decide) (Nat.le_of_ble_eq_true rfl) (by decide) dX11_average_2 (fun r13866 Y13867 h13868 => ?_)
  obtain ⟨rfl, h13868⟩ := h13868
  obtain ⟨h13868, hi13869⟩ := h13868
  have hi13869 : r13866.toInt = 0 ∨ (((0 : Int) ≤ a1.toInt ∧ a1.toInt ≤ (1 : Int))) := hi13869
  have h13868 : 0 ≤ r13866.toInt ∧ r13866.toInt ≤ 1 := h13868
  refine b_if_eq C 34 dX11_average_5 (by decide) (fun h13870 => ?_) (fun h13870 => ?_)
  · have h13870 : r13866.toInt = 0 := congrArg Int32.toInt h13870
    clear hi13869
    refine g_lv (lv' := []) [] rfl ?_
    exact J34 
  · have h13870 : r13866.toInt ≠ 0 := ti_ne h13870
    replace hi13869 := hi13869.resolve_left (by omega)
    refine g_iload_n C dX11_average_8 rfl 2 rfl ?_
    refine g_iconst (v := 0) C dX11_average_9 (by decide) ?_
    refine g_callSI (b := 0) (ci := 0) (rest := []) C ms_X11_289 [.int a2, .int 0] (s_X11_isSetSize I) rfl rfl (by decide) (Nat.le_of_ble_eq_true rfl) (by decide) dX11_average_10 (fun r13871 Y13872 h13873 => ?_)
    obtain ⟨rfl, h13873⟩ := h13873
    obtain ⟨h13873, hi13874⟩ := h13873
    have hi13874 : r13871.toInt = 0 ∨ (((1 : Int) ≤ a2.toInt ∧ a2.toInt ≤ (11 : Int)) ∧ ((0 : Int) ≤ 0 ∧ 0 ≤ (11 : Int))) := hi13874
    have h13873 : 0 ≤ r13871.toInt ∧ r13871.toInt ≤ 1 := h13873
    refine b_if_eq C 34 dX11_average_13 (by decide) (fun h13875 => ?_) (fun h13875 => ?_)
    · have h13875 : r13871.toInt = 0 := congrArg Int32.toInt h13875
      clear hi13874
      refine g_lv (lv' := []) [] rfl ?_
      exact J34 
    · have h13875 : r13871.toInt ≠ 0 := ti_ne h13875
      replace hi13874 := hi13874.resolve_left (by omega)
      refine g_iload_n C dX11_average_16 rfl 3 rfl ?_
      refine g_callSI (b := 0) (ci := 0) (rest := []) C ms_X11_249 [.int a3] (s_X11_isHow I) rfl rfl (by decide) (Nat.le_of_ble_eq_true rfl) (by decide) dX11_average_17 (fun r13876 Y13877 h13878 => ?_)
      obtain ⟨rfl, h13878⟩ := h13878
      have h13878 : 0 ≤ r13876.toInt ∧ r13876.toInt ≤ 1 := h13878
      refine b_if_eq C 34 dX11_average_20 (by decide) (fun h13879 => ?_) (fun h13879 => ?_)
      · have h13879 : r13876.toInt = 0 := congrArg Int32.toInt h13879
        refine g_lv (lv' := []) [] rfl ?_
        exact J34 
      · have h13879 : r13876.toInt ≠ 0 := ti_ne h13879
        refine g_iload C dX11_average_23 4 rfl ?_
        have u13881 := ti_rng a4
        refine b_if_lt C 34 dX11_average_25 (by decide) (fun h13880 => ?_) (fun h13880 => ?_)
        · have h13880 : a4.toInt < 0 := h13880
          refine g_lv (lv' := []) [] rfl ?_
          exact J34 
        · have h13880 : 0 ≤ a4.toInt := h13880
          refine g_iload C dX11_average_28 4 rfl ?_
          refine g_iconst (v := 1) C dX11_average_30 (by decide) ?_
          have u13883 := ti_rng a4
          refine b_icmp_le C 38 dX11_average_31 (by decide) (fun h13882 => ?_) (fun h13882 => ?_)
          · have h13882 : a4.toInt ≤ 1 := h13882
            refine g_aload_n C dX11_average_38 rfl 0 rfl ?_
            obtain ⟨b13884, e13885, h13886⟩ := I.fld (ha0) 10 8 0 rfl
            refine g_getR C fi_X11_60 rfl e13885 (ha0).1 (ha0).2 dX11_average_39 ?_
            refine g_aload_n C dX11_average_42 rfl 0 rfl ?_
            obtain ⟨b13887, e13888, h13889⟩ := I.fld (ha0) 0 17 2 rfl
            refine g_getR C fi_X11_11 rfl e13888 (ha0).1 (ha0).2 dX11_average_43 ?_
            refine g_iload_n C dX11_average_46 rfl 1 rfl ?_
            obtain ⟨b13890, e13891, h13892⟩ := I.elm h13889 (by decide) (a1.toInt.toNat) (by omega)
            refine g_aldR C h13889.1 h13889.2.1 (by decide) (ix_in h13889.2.2 (by omega)) e13891 dX11_average_47 ?_
            refine g_iload_n C dX11_average_48 rfl 2 rfl ?_
            refine g_iload_n C dX11_average_49 rfl 3 rfl ?_
            refine g_iconst (v := 0) C dX11_average_50 (by decide) ?_
            refine g_callVV (rest := []) C mv_X11_292 [.ref b13890, .int a2, .int a3, .int 0] (s_X8_tally I h13886.at h13892 (by omega) (by decide)) (h13886.at).1 (h13886.at).2 rfl rfl (by decide) (Nat.le_of_ble_eq_true rfl) (by decide) dX11_average_51 (fun Y13894 h13895 => ?_)
            obtain ⟨Iy13896, Xy13897⟩ := h13895
            have Xz13898 : EK [0, 1, 5, 8, 13] P Y13894 := Xy13897.mono (by decide)
            have h13899 := Xy13897.at ha0
            refine g_aload_n C dX11_average_54 rfl 0 rfl ?_
            obtain ⟨b13900, e13901, h13902⟩ := Iy13896.fld (h13899) 10 8 0 rfl
            refine g_getR C fi_X11_60 rfl e13901 (h13899).1 (h13899).2 dX11_average_55 ?_
            obtain ⟨b13903, e13904, h13905⟩ := Iy13896.fld (h13902.at) 0 13 12 rfl
            refine g_getR C fi_X11_296 rfl e13904 (h13902.at).1 (h13902.at).2 dX11_average_58 ?_
            refine g_iload_n C dX11_average_61 rfl 2 rfl ?_
            refine g_iald (j := (a2.toInt.toNat)) C h13905.1 h13905.2.1 (ix_in h13905.2.2 (by omega)) dX11_average_62 ?_
            refine g_topi (fun z13906 _ => ?_)
            have u13908 := ti_rng z13906
            refine b_if_ne C 70 dX11_average_63 (by decide) (fun h13907 => ?_) (fun h13907 => ?_)
            · have h13907 : z13906.toInt ≠ 0 := ti_ne h13907
              refine g_lconst (v := 0) C dX11_average_70 (by decide) ?_
              refine g_lstore (lv' := [(5, .long 0), (0, .ref a0), (1, .int a1), (2, .int a2), (3, .int a3), (4, .int a4)]) C dX11_average_71 (by decide) rfl ?_
              refine g_lconst (v := 1) C dX11_average_73 (by decide) ?_
              refine g_lstore (lv' := [(7, .long 1), (5, .long 0), (0, .ref a0), (1, .int a1), (2, .int a2), (3, .int a3), (4, .int a4)]) C dX11_average_74 (by decide) rfl ?_
              refine g_iconst (v := 0) C dX11_average_76 (by decide) ?_
              refine g_istore (lv' := [(9, .int 0), (7, .long 1), (5, .long 0), (0, .ref a0), (1, .int a1), (2, .int a2), (3, .int a3), (4, .int a4)]) C dX11_average_77 (by decide) rfl ?_
              refine g_lv (lv' := [(0, .ref a0), (2, .int a2), (4, .int a4), (5, .long 0), (7, .long 1), (9, .int 0)]) [3, 5, 7, 2, 1, 0] rfl ?_
              exact J79 _ Y13894 0 1 0 (Nat.lt_succ_self _) Iy13896 Xz13898 (by omega) (by omega) (by decide)
            · have h13907 : z13906.toInt = 0 := congrArg Int32.toInt h13907
              refine g_ldc2 (v := -1) C kl_X11_302 dX11_average_66 ?_
              refine g_topl (fun l13909 el13909 => ?_)
              have hz_l13909 : ¬ l13909 = 0 := by rw [el13909]; decide
              exact ret _ _ _ _ _ _ dX11_average_69 (by decide) (by decide) ⟨Iy13896, Xz13898, trivial⟩
          · have h13882 : 1 < a4.toInt := h13882
            refine g_lv (lv' := []) [] rfl ?_
            exact J34 
theorem dX11_away_0 : decode cX11_away 0 = .ok (.aload_n 0, 1) := by decide +kernel
theorem dX11_away_1 : decode cX11_away 1 = .ok (.iload_n 1, 1) := by decide +kernel
theorem dX11_away_2 : decode cX11_away 2 = .ok (.iload_n 2, 1) := by decide +kernel
theorem dX11_away_3 : decode cX11_away 3 = .ok (.invokevirtual 185, 3) := by decide +kernel
theorem dX11_away_6 : decode cX11_away 6 = .ok (.ifnonnull 5, 3) := by decide +kernel
theorem dX11_away_9 : decode cX11_away 9 = .ok (.iconst 0, 1) := by decide +kernel
theorem dX11_away_10 : decode cX11_away 10 = .ok (.ireturn, 1) := by decide +kernel
theorem dX11_away_11 : decode cX11_away 11 = .ok (.aload_n 0, 1) := by decide +kernel
theorem dX11_away_12 : decode cX11_away 12 = .ok (.getfield 17, 3) := by decide +kernel
theorem dX11_away_15 : decode cX11_away 15 = .ok (.iload_n 1, 1) := by decide +kernel
theorem dX11_away_16 : decode cX11_away 16 = .ok (.aaload, 1) := by decide +kernel
theorem dX11_away_17 : decode cX11_away 17 = .ok (.iload_n 2, 1) := by decide +kernel
theorem dX11_away_18 : decode cX11_away 18 = .ok (.invokevirtual 210, 3) := by decide +kernel
theorem dX6_drop_0 : decode cX6_drop 0 = .ok (.iload_n 1, 1) := by decide +kernel
theorem dX6_drop_1 : decode cX6_drop 1 = .ok (.ifCond .lt 11, 3) := by decide +kernel
theorem dX6_drop_4 : decode cX6_drop 4 = .ok (.iload_n 1, 1) := by decide +kernel
theorem dX6_drop_5 : decode cX6_drop 5 = .ok (.aload_n 0, 1) := by decide +kernel
theorem dX6_drop_6 : decode cX6_drop 6 = .ok (.getfield 17, 3) := by decide +kernel
theorem dX6_drop_9 : decode cX6_drop 9 = .ok (.if_icmp .lt 4, 3) := by decide +kernel
theorem dX6_drop_12 : decode cX6_drop 12 = .ok (.return_, 1) := by decide +kernel
theorem dX6_drop_13 : decode cX6_drop 13 = .ok (.iload_n 1, 1) := by decide +kernel
theorem dX6_drop_14 : decode cX6_drop 14 = .ok (.iconst 1, 1) := by decide +kernel
theorem dX6_drop_15 : decode cX6_drop 15 = .ok (.iadd, 1) := by decide +kernel
theorem dX6_drop_16 : decode cX6_drop 16 = .ok (.istore_n 2, 1) := by decide +kernel
theorem dX6_drop_17 : decode cX6_drop 17 = .ok (.iload_n 2, 1) := by decide +kernel
theorem dX6_drop_18 : decode cX6_drop 18 = .ok (.aload_n 0, 1) := by decide +kernel
theorem dX6_drop_19 : decode cX6_drop 19 = .ok (.getfield 17, 3) := by decide +kernel
theorem dX6_drop_22 : decode cX6_drop 22 = .ok (.if_icmp .ge 23, 3) := by decide +kernel
theorem dX6_drop_25 : decode cX6_drop 25 = .ok (.aload_n 0, 1) := by decide +kernel
theorem dX6_drop_26 : decode cX6_drop 26 = .ok (.getfield 11, 3) := by decide +kernel
theorem dX6_drop_29 : decode cX6_drop 29 = .ok (.iload_n 2, 1) := by decide +kernel
theorem dX6_drop_30 : decode cX6_drop 30 = .ok (.iconst 1, 1) := by decide +kernel
theorem dX6_drop_31 : decode cX6_drop 31 = .ok (.isub, 1) := by decide +kernel
theorem dX6_drop_32 : decode cX6_drop 32 = .ok (.aload_n 0, 1) := by decide +kernel
theorem dX6_drop_33 : decode cX6_drop 33 = .ok (.getfield 11, 3) := by decide +kernel
theorem dX6_drop_36 : decode cX6_drop 36 = .ok (.iload_n 2, 1) := by decide +kernel
theorem dX6_drop_37 : decode cX6_drop 37 = .ok (.aaload, 1) := by decide +kernel
theorem dX6_drop_38 : decode cX6_drop 38 = .ok (.aastore, 1) := by decide +kernel
theorem dX6_drop_39 : decode cX6_drop 39 = .ok (.iinc 2 1, 3) := by decide +kernel
theorem dX6_drop_42 : decode cX6_drop 42 = .ok (.goto (-25), 3) := by decide +kernel
theorem dX6_drop_45 : decode cX6_drop 45 = .ok (.aload_n 0, 1) := by decide +kernel
theorem dX6_drop_46 : decode cX6_drop 46 = .ok (.dup, 1) := by decide +kernel
theorem dX6_drop_47 : decode cX6_drop 47 = .ok (.getfield 17, 3) := by decide +kernel
theorem dX6_drop_50 : decode cX6_drop 50 = .ok (.iconst 1, 1) := by decide +kernel
theorem dX6_drop_51 : decode cX6_drop 51 = .ok (.isub, 1) := by decide +kernel
theorem dX6_drop_52 : decode cX6_drop 52 = .ok (.putfield 17, 3) := by decide +kernel
theorem dX6_drop_55 : decode cX6_drop 55 = .ok (.return_, 1) := by decide +kernel
set_option maxHeartbeats 4000000 in
set_option maxRecDepth 100000 in
theorem s_X6_drop {P : PP} {a0 : Nat} {a1 : Int32} (I : IV P) (ha0 : At P a0 6) : CtrV yX6_drop cX6_drop 3 none ({ frames := 1, cells := 0, slots := 0, locals := 64 } : Room) 0 0 P [.ref a0, .int a1] (fun P2 => IV P2 ∧ EK [6] P P2) := by
  refine enV (lv := [(0, .ref a0), (1, .int a1)]) (by decide) (Nat.le_of_ble_eq_true rfl) rfl (fun E D cy C Ci0 ret => ?_)
  have J17 : ∀ (n17 : Nat) (P17 : PP) (v17_2 : Int32), (40 - v17_2.toInt).toNat < n17 → (IV P17) → (EK [6] P P17) → (1 ≤ v17_2.toInt ∧ v17_2.toInt ≤ 40) → (1 ≤ (pI P17 a0 1).toInt ∧ (pI P17 a0 1).toInt ≤ 40) → G E ({ frames := 1, cells := 0, slots := 0, locals := 64 } : Room) D cy 3 P17 0 0 17 [(0, .ref a0), (2, .int v17_2)] [] := by
    intro n17
    induction n17 with
    | zero => intro P17 v17_2 hm17 I17 X17 hv17_2 hq17_0; omega
    | succ n17 ih17 =>
      intro P17 v17_2 hm17 I17 X17 hv17_2 hq17_0
      have h13997 := X17.at ha0
      refine g_iload_n C dX6_drop_17 rfl 1 rfl ?_
      refine g_aload_n C dX6_drop_18 rfl 0 rfl ?_
      refine g_getI C fi_X6_17 (by decide) (h13997).1 (h13997).2 dX6_drop_19 ?_
      refine b_icmp_ge C 45 dX6_drop_22 (by decide) (fun h13998 => ?_) (fun h13998 => ?_)
      · have h13998 : (pI P17 a0 1).toInt ≤ v17_2.toInt := h13998
        refine g_aload_n C dX6_drop_45 rfl 0 rfl ?_
        refine g_dup C dX6_drop_46 rfl ?_
        refine g_getI C fi_X6_17 (by decide) (h13997).1 (h13997).2 dX6_drop_47 ?_
        refine g_iconst (v := 1) C dX6_drop_50 (by decide) ?_
        refine s_isub C dX6_drop_51 (by show -2147483648 ≤ (pI P17 a0 1).toInt - 1 ∧ (pI P17 a0 1).toInt - 1 ≤ 2147483647; omega) (fun z13999 h14000 => ?_)
        have h14000 : z13999.toInt = (pI P17 a0 1).toInt - 1 := h14000
        refine g_putI C fi_X6_17 rfl (h13997).1 (h13997).2 dX6_drop_52 ?_
        refine gpW (ks := [6]) (I17.setI (h13997) (rgOk.of rfl (by omega))) (EK.setI (h13997).2 (by decide)) (fun Y14001 Iy14002 Xy14003 w14004 w14005 => ?_)
        have Xz14006 : EK [6] P Y14001 := X17.tr (Xy14003.mono (by decide))
        have h14007 := Xy14003.at h13997
        exact ret _ _ _ _ _ dX6_drop_55 (by decide) (by decide) ⟨Iy14002, Xz14006⟩
      · have h13998 : v17_2.toInt < (pI P17 a0 1).toInt := h13998
        refine g_aload_n C dX6_drop_25 rfl 0 rfl ?_
        obtain ⟨b14008, e14009, h14010⟩ := I17.fld (h13997) 0 20 40 rfl
        refine g_getR C fi_X6_11 rfl e14009 (h13997).1 (h13997).2 dX6_drop_26 ?_
        refine g_iload_n C dX6_drop_29 rfl 1 rfl ?_
        refine g_iconst (v := 1) C dX6_drop_30 (by decide) ?_
        refine s_isub C dX6_drop_31 (by show -2147483648 ≤ v17_2.toInt - 1 ∧ v17_2.toInt - 1 ≤ 2147483647; omega) (fun z14011 h14012 => ?_)
        have h14012 : z14011.toInt = v17_2.toInt - 1 := h14012
        refine g_aload_n C dX6_drop_32 rfl 0 rfl ?_
        refine g_getR C fi_X6_11 rfl e14009 (h13997).1 (h13997).2 dX6_drop_33 ?_
        refine g_iload_n C dX6_drop_36 rfl 1 rfl ?_
        refine g_aldQ (j := (v17_2.toInt.toNat)) C h14010.1 h14010.2.1 (by decide) (ix_in h14010.2.2 (by omega)) dX6_drop_37 ?_
        rcases I17.pap h14010 (v17_2.toInt.toNat) with e14014 | ⟨b14013, e14014, h14015⟩
        · rw [e14014]
          show G _ _ _ _ _ _ _ _ _ _ (.null :: _)
          refine g_astN (j := (z14011.toInt.toNat)) C h14010.1 h14010.2.1 (by decide) (ix_in h14010.2.2 (by omega)) dX6_drop_38 ?_
          refine gp (ks := []) (I17.setP h14010 (fun _ z => by cases z)) (EK.setR h14010.2.1 (by decide)) (fun Y14016 Iy14017 Xy14018 => ?_)
          have q14019 := Xy14018.keep h13997 (by decide) 1
          have Xz14020 : EK [6] P Y14016 := X17.tr (Xy14018.mono (by decide))
          have h14021 := Xy14018.at h13997
          refine s_iinc (lv0 := [(0, .ref a0)]) (m := 1) C dX6_drop_39 1 rfl (by decide) rfl (by decide) (by omega) (fun z14022 h14023 => ?_)
          have h14023 : z14022.toInt = v17_2.toInt + 1 := h14023
          refine g_goto C 17 dX6_drop_42 (by decide) ?_
          refine g_lv (lv' := [(0, .ref a0), (2, .int z14022)]) [1, 0] rfl ?_
          exact ih17 Y14016 z14022 (by omega) Iy14017 Xz14020 (by omega) (by omega)
        · rw [e14014]
          show G _ _ _ _ _ _ _ _ _ _ (.ref b14013 :: _)
          refine g_astR (j := (z14011.toInt.toNat)) C h14010.1 h14010.2.1 (by decide) (ix_in h14010.2.2 (by omega)) (h14015).1 (h14015).2 (by decide) rfl rfl dX6_drop_38 ?_
          refine gp (ks := []) (I17.setP h14010 (fun _ z => by cases z; exact h14015)) (EK.setR h14010.2.1 (by decide)) (fun Y14024 Iy14025 Xy14026 => ?_)
          have q14027 := Xy14026.keep h13997 (by decide) 1
          have Xz14028 : EK [6] P Y14024 := X17.tr (Xy14026.mono (by decide))
          have h14029 := Xy14026.at h13997
          refine s_iinc (lv0 := [(0, .ref a0)]) (m := 1) C dX6_drop_39 1 rfl (by decide) rfl (by decide) (by omega) (fun z14030 h14031 => ?_)
          have h14031 : z14030.toInt = v17_2.toInt + 1 := h14031
          refine g_goto C 17 dX6_drop_42 (by decide) ?_
          refine g_lv (lv' := [(0, .ref a0), (2, .int z14030)]) [1, 0] rfl ?_
          exact ih17 Y14024 z14030 (by omega) Iy14025 Xz14028 (by omega) (by omega)
  refine g_iload_n C dX6_drop_0 rfl 1 rfl ?_
  have u14033 := ti_rng a1
  refine b_if_lt C 12 dX6_drop_1 (by decide) (fun h14032 => ?_) (fun h14032 => ?_)
  · have h14032 : a1.toInt < 0 := h14032
    exact ret _ _ _ _ _ dX6_drop_12 (by decide) (by decide) ⟨I, EK.rf⟩
  · have h14032 : 0 ≤ a1.toInt := h14032
    refine g_iload_n C dX6_drop_4 rfl 1 rfl ?_
    refine g_aload_n C dX6_drop_5 rfl 0 rfl ?_
    refine g_getI C fi_X6_17 (by decide) (ha0).1 (ha0).2 dX6_drop_6 ?_
    have h14034 := I.rg (ha0) 1 rfl
    have u14036 := ti_rng a1
    refine b_icmp_lt C 13 dX6_drop_9 (by decide) (fun h14035 => ?_) (fun h14035 => ?_)
    · have h14035 : a1.toInt < (pI P a0 1).toInt := h14035
      refine g_iload_n C dX6_drop_13 rfl 1 rfl ?_
      refine g_iconst (v := 1) C dX6_drop_14 (by decide) ?_
      refine s_iadd C dX6_drop_15 (by show -2147483648 ≤ a1.toInt + 1 ∧ a1.toInt + 1 ≤ 2147483647; omega) (fun z14037 h14038 => ?_)
      have h14038 : z14037.toInt = a1.toInt + 1 := h14038
      refine g_istore_n (lv' := [(2, .int z14037), (0, .ref a0), (1, .int a1)]) C dX6_drop_16 rfl (by decide) rfl ?_
      refine g_lv (lv' := [(0, .ref a0), (2, .int z14037)]) [1, 0] rfl ?_
      exact J17 _ P z14037 (Nat.lt_succ_self _) I EK.rf (by omega) (by omega)
    · have h14035 : (pI P a0 1).toInt ≤ a1.toInt := h14035
      exact ret _ _ _ _ _ dX6_drop_12 (by decide) (by decide) ⟨I, EK.rf⟩
theorem dX11_away_21 : decode cX11_away 21 = .ok (.iconst 1, 1) := by decide +kernel
theorem dX11_away_22 : decode cX11_away 22 = .ok (.ireturn, 1) := by decide +kernel
set_option maxHeartbeats 4000000 in
set_option maxRecDepth 100000 in
theorem s_X11_away {P : PP} {a0 : Nat} {a1 : Int32} {a2 : Int32} (I : IV P) (ha0 : At P a0 11) : CtrI yX11_away cX11_away 3 (some Jvm.ClassFile.FieldType.boolean) ({ frames := 3, cells := 0, slots := 0, locals := 192 } : Room) 0 0 P [.ref a0, .int a1, .int a2] (fun r P2 => IV P2 ∧ EK [6] P P2 ∧ (0 ≤ r.toInt ∧ r.toInt ≤ 1) ∧ (r.toInt = 0 ∨ (((0 : Int) ≤ a1.toInt ∧ a1.toInt ≤ (3 : Int)) ∧ ((0 : Int) ≤ a2.toInt ∧ a2.toInt ≤ (39 : Int))))) := by
  refine enI (lv := [(0, .ref a0), (1, .int a1), (2, .int a2)]) (by decide) (Nat.le_of_ble_eq_true rfl) rfl (fun E D cy C Ci0 ret => ?_)
  refine g_aload_n C dX11_away_0 rfl 0 rfl ?_
  refine g_iload_n C dX11_away_1 rfl 1 rfl ?_
  refine g_iload_n C dX11_away_2 rfl 2 rfl ?_
  refine g_callVQ (rest := []) C mv_X11_185 [.int a1, .int a2] (s_X11_paperAt I ha0) (ha0).1 (ha0).2 rfl rfl (by decide) (Nat.le_of_ble_eq_true rfl) (by decide) dX11_away_3 (fun r14057 Y14058 h14059 => ?_)
  obtain ⟨rfl, h14059⟩ := h14059
  rcases h14059 with rfl | ⟨b14061, rfl, h14059, hj14060⟩
  · show G _ _ _ _ _ _ _ _ _ _ (.null :: _)
    refine g_ifnonnullN C dX11_away_6 ?_
    refine g_iconst (v := 0) C dX11_away_9 (by decide) ?_
    exact ret _ _ _ _ _ _ dX11_away_10 rfl (by decide) (by decide) ⟨I, EK.rf, (by decide), Or.inl rfl⟩
  · have hj14060 : ((0 : Int) ≤ a1.toInt ∧ a1.toInt ≤ (3 : Int)) ∧ ((0 : Int) ≤ a2.toInt ∧ a2.toInt ≤ (39 : Int)) := hj14060
    show G _ _ _ _ _ _ _ _ _ _ (.ref b14061 :: _)
    refine g_ifnonnull C 11 dX11_away_6 (by decide) ?_
    refine g_aload_n C dX11_away_11 rfl 0 rfl ?_
    obtain ⟨b14062, e14063, h14064⟩ := I.fld (ha0) 1 19 4 rfl
    refine g_getR C fi_X11_17 rfl e14063 (ha0).1 (ha0).2 dX11_away_12 ?_
    refine g_iload_n C dX11_away_15 rfl 1 rfl ?_
    obtain ⟨b14065, e14066, h14067⟩ := I.elm h14064 (by decide) (a1.toInt.toNat) (by omega)
    refine g_aldR C h14064.1 h14064.2.1 (by decide) (ix_in h14064.2.2 (by omega)) e14066 dX11_away_16 ?_
    refine g_iload_n C dX11_away_17 rfl 2 rfl ?_
    refine g_callVV (rest := []) C mv_X11_210 [.int a2] (s_X6_drop I h14067) (h14067).1 (h14067).2 rfl rfl (by decide) (Nat.le_of_ble_eq_true rfl) (by decide) dX11_away_18 (fun Y14069 h14070 => ?_)
    obtain ⟨Iy14071, Xy14072⟩ := h14070
    have Xz14073 : EK [6] P Y14069 := Xy14072.mono (by decide)
    have h14074 := Xy14072.at ha0
    refine g_iconst (v := 1) C dX11_away_21 (by decide) ?_
    exact ret _ _ _ _ _ _ dX11_away_22 rfl (by decide) (by decide) ⟨Iy14071, Xz14073, (by decide), Or.inr (by omega)⟩
theorem dX11_book_0 : decode cX11_book 0 = .ok (.iload_n 1, 1) := by decide +kernel
theorem dX11_book_1 : decode cX11_book 1 = .ok (.invokestatic 84, 3) := by decide +kernel
theorem dX11_book_4 : decode cX11_book 4 = .ok (.ifCond .eq 14, 3) := by decide +kernel
theorem dX11_book_7 : decode cX11_book 7 = .ok (.iload_n 2, 1) := by decide +kernel
theorem dX11_book_8 : decode cX11_book 8 = .ok (.iconst 1, 1) := by decide +kernel
theorem dX11_book_9 : decode cX11_book 9 = .ok (.if_icmp .lt 9, 3) := by decide +kernel
theorem dX11_book_12 : decode cX11_book 12 = .ok (.iload_n 2, 1) := by decide +kernel
theorem dX11_book_13 : decode cX11_book 13 = .ok (.bipush 16, 2) := by decide +kernel
theorem dX11_book_15 : decode cX11_book 15 = .ok (.if_icmp .le 5, 3) := by decide +kernel
theorem dX11_book_20 : decode cX11_book 20 = .ok (.aload_n 0, 1) := by decide +kernel
theorem dX11_book_21 : decode cX11_book 21 = .ok (.getfield 11, 3) := by decide +kernel
theorem dX11_book_24 : decode cX11_book 24 = .ok (.iload_n 1, 1) := by decide +kernel
theorem dX11_book_25 : decode cX11_book 25 = .ok (.aaload, 1) := by decide +kernel
theorem dX11_book_26 : decode cX11_book 26 = .ok (.iload_n 2, 1) := by decide +kernel
theorem dX11_book_27 : decode cX11_book 27 = .ok (.invokevirtual 88, 3) := by decide +kernel
theorem dX1_tell_0 : decode cX1_tell 0 = .ok (.aload_n 0, 1) := by decide +kernel
theorem dX1_tell_1 : decode cX1_tell 1 = .ok (.iconst 1, 1) := by decide +kernel
theorem dX1_tell_2 : decode cX1_tell 2 = .ok (.putfield 29, 3) := by decide +kernel
theorem dX1_tell_5 : decode cX1_tell 5 = .ok (.aload_n 0, 1) := by decide +kernel
theorem dX1_tell_6 : decode cX1_tell 6 = .ok (.iload_n 1, 1) := by decide +kernel
theorem dX1_tell_7 : decode cX1_tell 7 = .ok (.putfield 33, 3) := by decide +kernel
theorem dX1_tell_10 : decode cX1_tell 10 = .ok (.iconst 0, 1) := by decide +kernel
theorem dX1_tell_11 : decode cX1_tell 11 = .ok (.istore_n 2, 1) := by decide +kernel
theorem dX1_tell_12 : decode cX1_tell 12 = .ok (.iload_n 2, 1) := by decide +kernel
theorem dX1_tell_13 : decode cX1_tell 13 = .ok (.bipush 16, 2) := by decide +kernel
theorem dX1_tell_15 : decode cX1_tell 15 = .ok (.if_icmp .ge 16, 3) := by decide +kernel
theorem dX1_tell_18 : decode cX1_tell 18 = .ok (.aload_n 0, 1) := by decide +kernel
theorem dX1_tell_19 : decode cX1_tell 19 = .ok (.getfield 9, 3) := by decide +kernel
theorem dX1_tell_22 : decode cX1_tell 22 = .ok (.iload_n 2, 1) := by decide +kernel
theorem dX1_tell_23 : decode cX1_tell 23 = .ok (.iconst 0, 1) := by decide +kernel
theorem dX1_tell_24 : decode cX1_tell 24 = .ok (.iastore, 1) := by decide +kernel
theorem dX1_tell_25 : decode cX1_tell 25 = .ok (.iinc 2 1, 3) := by decide +kernel
theorem dX1_tell_28 : decode cX1_tell 28 = .ok (.goto (-16), 3) := by decide +kernel
theorem dX1_tell_31 : decode cX1_tell 31 = .ok (.aload_n 0, 1) := by decide +kernel
theorem dX1_tell_32 : decode cX1_tell 32 = .ok (.getfield 18, 3) := by decide +kernel
theorem dX1_tell_35 : decode cX1_tell 35 = .ok (.invokevirtual 36, 3) := by decide +kernel
theorem dX3_clear_0 : decode cX3_clear 0 = .ok (.iconst 0, 1) := by decide +kernel
theorem dX3_clear_1 : decode cX3_clear 1 = .ok (.istore_n 1, 1) := by decide +kernel
theorem dX3_clear_2 : decode cX3_clear 2 = .ok (.iload_n 1, 1) := by decide +kernel
theorem dX3_clear_3 : decode cX3_clear 3 = .ok (.bipush 20, 2) := by decide +kernel
theorem dX3_clear_5 : decode cX3_clear 5 = .ok (.if_icmp .gt 16, 3) := by decide +kernel
theorem dX3_clear_8 : decode cX3_clear 8 = .ok (.aload_n 0, 1) := by decide +kernel
theorem dX3_clear_9 : decode cX3_clear 9 = .ok (.getfield 9, 3) := by decide +kernel
theorem dX3_clear_12 : decode cX3_clear 12 = .ok (.iload_n 1, 1) := by decide +kernel
theorem dX3_clear_13 : decode cX3_clear 13 = .ok (.iconst (-1), 1) := by decide +kernel
theorem dX3_clear_14 : decode cX3_clear 14 = .ok (.iastore, 1) := by decide +kernel
theorem dX3_clear_15 : decode cX3_clear 15 = .ok (.iinc 1 1, 3) := by decide +kernel
theorem dX3_clear_18 : decode cX3_clear 18 = .ok (.goto (-16), 3) := by decide +kernel
theorem dX3_clear_21 : decode cX3_clear 21 = .ok (.aload_n 0, 1) := by decide +kernel
theorem dX3_clear_22 : decode cX3_clear 22 = .ok (.iconst 0, 1) := by decide +kernel
theorem dX3_clear_23 : decode cX3_clear 23 = .ok (.putfield 21, 3) := by decide +kernel
theorem dX3_clear_26 : decode cX3_clear 26 = .ok (.aload_n 0, 1) := by decide +kernel
theorem dX3_clear_27 : decode cX3_clear 27 = .ok (.iconst 0, 1) := by decide +kernel
theorem dX3_clear_28 : decode cX3_clear 28 = .ok (.putfield 25, 3) := by decide +kernel
theorem dX3_clear_31 : decode cX3_clear 31 = .ok (.aload_n 0, 1) := by decide +kernel
theorem dX3_clear_32 : decode cX3_clear 32 = .ok (.iconst 0, 1) := by decide +kernel
theorem dX3_clear_33 : decode cX3_clear 33 = .ok (.putfield 28, 3) := by decide +kernel
theorem dX3_clear_36 : decode cX3_clear 36 = .ok (.aload_n 0, 1) := by decide +kernel
theorem dX3_clear_37 : decode cX3_clear 37 = .ok (.iconst 0, 1) := by decide +kernel
theorem dX3_clear_38 : decode cX3_clear 38 = .ok (.putfield 31, 3) := by decide +kernel
theorem dX3_clear_41 : decode cX3_clear 41 = .ok (.return_, 1) := by decide +kernel
set_option maxHeartbeats 4000000 in
set_option maxRecDepth 100000 in
theorem s_X3_clear {P : PP} {a0 : Nat} (I : IV P) (ha0 : At P a0 3) : CtrV yX3_clear cX3_clear 2 none ({ frames := 1, cells := 0, slots := 0, locals := 64 } : Room) 0 0 P [.ref a0] (fun P2 => IV P2 ∧ EK [3, 13] P P2) := by
  refine enV (lv := [(0, .ref a0)]) (by decide) (Nat.le_of_ble_eq_true rfl) rfl (fun E D cy C Ci0 ret => ?_)
  have J2 : ∀ (n2 : Nat) (P2 : PP) (v2_1 : Int32), (21 - v2_1.toInt).toNat < n2 → (IV P2) → (EK [3, 13] P P2) → (0 ≤ v2_1.toInt ∧ v2_1.toInt ≤ 21) → G E ({ frames := 1, cells := 0, slots := 0, locals := 64 } : Room) D cy 2 P2 0 0 2 [(0, .ref a0), (1, .int v2_1)] [] := by
    intro n2
    induction n2 with
    | zero => intro P2 v2_1 hm2 I2 X2 hv2_1; omega
    | succ n2 ih2 =>
      intro P2 v2_1 hm2 I2 X2 hv2_1
      have h14451 := X2.at ha0
      refine g_iload_n C dX3_clear_2 rfl 1 rfl ?_
      refine g_bipush (v := 20) C dX3_clear_3 (by decide) ?_
      refine b_icmp_gt C 21 dX3_clear_5 (by decide) (fun h14452 => ?_) (fun h14452 => ?_)
      · have h14452 : 20 < v2_1.toInt := h14452
        refine g_aload_n C dX3_clear_21 rfl 0 rfl ?_
        refine g_iconst (v := 0) C dX3_clear_22 (by decide) ?_
        refine g_putI C fi_X3_21 rfl (h14451).1 (h14451).2 dX3_clear_23 ?_
        refine gpW (ks := [3]) (I2.setI (h14451) (rgOk.of rfl (by decide))) (EK.setI (h14451).2 (by decide)) (fun Y14453 Iy14454 Xy14455 w14456 w14457 => ?_)
        have w14457 : (pI Y14453 a0 2).toInt = 0 := w14457
        have Xz14458 : EK [3, 13] P Y14453 := X2.tr (Xy14455.mono (by decide))
        have h14459 := Xy14455.at h14451
        refine g_aload_n C dX3_clear_26 rfl 0 rfl ?_
        refine g_iconst (v := 0) C dX3_clear_27 (by decide) ?_
        refine g_putI C fi_X3_25 rfl (h14459).1 (h14459).2 dX3_clear_28 ?_
        refine gpW (ks := [3]) (Iy14454.setI (h14459) (rgOk.none rfl)) (EK.setI (h14459).2 (by decide)) (fun Y14460 Iy14461 Xy14462 w14463 w14464 => ?_)
        have w14464 : (pI Y14460 a0 3).toInt = 0 := w14464
        have q14465 := w14463 2 (by decide)
        have Xz14466 : EK [3, 13] P Y14460 := Xz14458.tr (Xy14462.mono (by decide))
        have h14467 := Xy14462.at h14459
        refine g_aload_n C dX3_clear_31 rfl 0 rfl ?_
        refine g_iconst (v := 0) C dX3_clear_32 (by decide) ?_
        refine g_putI C fi_X3_28 rfl (h14467).1 (h14467).2 dX3_clear_33 ?_
        refine gpW (ks := [3]) (Iy14461.setI (h14467) (rgOk.none rfl)) (EK.setI (h14467).2 (by decide)) (fun Y14468 Iy14469 Xy14470 w14471 w14472 => ?_)
        have w14472 : (pI Y14468 a0 4).toInt = 0 := w14472
        have q14473 := w14471 2 (by decide)
        have q14474 := w14471 3 (by decide)
        have Xz14475 : EK [3, 13] P Y14468 := Xz14466.tr (Xy14470.mono (by decide))
        have h14476 := Xy14470.at h14467
        refine g_aload_n C dX3_clear_36 rfl 0 rfl ?_
        refine g_iconst (v := 0) C dX3_clear_37 (by decide) ?_
        refine g_putI C fi_X3_31 rfl (h14476).1 (h14476).2 dX3_clear_38 ?_
        refine gpW (ks := [3]) (Iy14469.setI (h14476) (rgOk.none rfl)) (EK.setI (h14476).2 (by decide)) (fun Y14477 Iy14478 Xy14479 w14480 w14481 => ?_)
        have w14481 : (pI Y14477 a0 5).toInt = 0 := w14481
        have q14482 := w14480 2 (by decide)
        have q14483 := w14480 3 (by decide)
        have q14484 := w14480 4 (by decide)
        have Xz14485 : EK [3, 13] P Y14477 := Xz14475.tr (Xy14479.mono (by decide))
        have h14486 := Xy14479.at h14476
        exact ret _ _ _ _ _ dX3_clear_41 (by decide) (by decide) ⟨Iy14478, Xz14485⟩
      · have h14452 : v2_1.toInt ≤ 20 := h14452
        refine g_aload_n C dX3_clear_8 rfl 0 rfl ?_
        obtain ⟨b14487, e14488, h14489⟩ := I2.fld (h14451) 0 13 21 rfl
        refine g_getR C fi_X3_9 rfl e14488 (h14451).1 (h14451).2 dX3_clear_9 ?_
        refine g_iload_n C dX3_clear_12 rfl 1 rfl ?_
        refine g_iconst (v := (-1)) C dX3_clear_13 (by decide) ?_
        refine g_iast (j := (v2_1.toInt.toNat)) C h14489.1 h14489.2.1 (ix_in h14489.2.2 (by omega)) dX3_clear_14 ?_
        refine gp (ks := [13]) (I2.setA h14489 (by decide)) (EK.setI h14489.2.1 (by decide)) (fun Y14490 Iy14491 Xy14492 => ?_)
        have Xz14493 : EK [3, 13] P Y14490 := X2.tr (Xy14492.mono (by decide))
        have h14494 := Xy14492.at h14451
        refine s_iinc (lv0 := [(0, .ref a0)]) (m := 1) C dX3_clear_15 1 rfl (by decide) rfl (by decide) (by omega) (fun z14495 h14496 => ?_)
        have h14496 : z14495.toInt = v2_1.toInt + 1 := h14496
        refine g_goto C 2 dX3_clear_18 (by decide) ?_
        refine g_lv (lv' := [(0, .ref a0), (1, .int z14495)]) [1, 0] rfl ?_
        exact ih2 Y14490 z14495 (by omega) Iy14491 Xz14493 (by omega)
  refine g_iconst (v := 0) C dX3_clear_0 (by decide) ?_
  refine g_istore_n (lv' := [(1, .int 0), (0, .ref a0)]) C dX3_clear_1 rfl (by decide) rfl ?_
  refine g_lv (lv' := [(0, .ref a0), (1, .int 0)]) [1, 0] rfl ?_
  exact J2 _ P 0 (Nat.lt_succ_self _) I EK.rf (by decide)
theorem dX1_tell_38 : decode cX1_tell 38 = .ok (.aload_n 0, 1) := by decide +kernel
theorem dX1_tell_39 : decode cX1_tell 39 = .ok (.invokevirtual 39, 3) := by decide +kernel
theorem dX1_forgetDrawn_0 : decode cX1_forgetDrawn 0 = .ok (.iconst 0, 1) := by decide +kernel
theorem dX1_forgetDrawn_1 : decode cX1_forgetDrawn 1 = .ok (.istore_n 1, 1) := by decide +kernel
theorem dX1_forgetDrawn_2 : decode cX1_forgetDrawn 2 = .ok (.iload_n 1, 1) := by decide +kernel
theorem dX1_forgetDrawn_3 : decode cX1_forgetDrawn 3 = .ok (.bipush 60, 2) := by decide +kernel
theorem dX1_forgetDrawn_5 : decode cX1_forgetDrawn 5 = .ok (.if_icmp .ge 16, 3) := by decide +kernel
theorem dX1_forgetDrawn_8 : decode cX1_forgetDrawn 8 = .ok (.aload_n 0, 1) := by decide +kernel
theorem dX1_forgetDrawn_9 : decode cX1_forgetDrawn 9 = .ok (.getfield 22, 3) := by decide +kernel
theorem dX1_forgetDrawn_12 : decode cX1_forgetDrawn 12 = .ok (.iload_n 1, 1) := by decide +kernel
theorem dX1_forgetDrawn_13 : decode cX1_forgetDrawn 13 = .ok (.iconst 0, 1) := by decide +kernel
theorem dX1_forgetDrawn_14 : decode cX1_forgetDrawn 14 = .ok (.iastore, 1) := by decide +kernel
theorem dX1_forgetDrawn_15 : decode cX1_forgetDrawn 15 = .ok (.iinc 1 1, 3) := by decide +kernel
theorem dX1_forgetDrawn_18 : decode cX1_forgetDrawn 18 = .ok (.goto (-16), 3) := by decide +kernel
theorem dX1_forgetDrawn_21 : decode cX1_forgetDrawn 21 = .ok (.return_, 1) := by decide +kernel
set_option maxHeartbeats 4000000 in
set_option maxRecDepth 100000 in
theorem s_X1_forgetDrawn {P : PP} {a0 : Nat} (I : IV P) (ha0 : At P a0 1) : CtrV yX1_forgetDrawn cX1_forgetDrawn 2 none ({ frames := 1, cells := 0, slots := 0, locals := 64 } : Room) 0 0 P [.ref a0] (fun P2 => IV P2 ∧ EK [13] P P2) := by
  refine enV (lv := [(0, .ref a0)]) (by decide) (Nat.le_of_ble_eq_true rfl) rfl (fun E D cy C Ci0 ret => ?_)
  have J2 : ∀ (n2 : Nat) (P2 : PP) (v2_1 : Int32), (60 - v2_1.toInt).toNat < n2 → (IV P2) → (EK [13] P P2) → (0 ≤ v2_1.toInt ∧ v2_1.toInt ≤ 60) → G E ({ frames := 1, cells := 0, slots := 0, locals := 64 } : Room) D cy 2 P2 0 0 2 [(0, .ref a0), (1, .int v2_1)] [] := by
    intro n2
    induction n2 with
    | zero => intro P2 v2_1 hm2 I2 X2 hv2_1; omega
    | succ n2 ih2 =>
      intro P2 v2_1 hm2 I2 X2 hv2_1
      have h14905 := X2.at ha0
      refine g_iload_n C dX1_forgetDrawn_2 rfl 1 rfl ?_
      refine g_bipush (v := 60) C dX1_forgetDrawn_3 (by decide) ?_
      refine b_icmp_ge C 21 dX1_forgetDrawn_5 (by decide) (fun h14906 => ?_) (fun h14906 => ?_)
      · have h14906 : 60 ≤ v2_1.toInt := h14906
        exact ret _ _ _ _ _ dX1_forgetDrawn_21 (by decide) (by decide) ⟨I2, X2⟩
      · have h14906 : v2_1.toInt < 60 := h14906
        refine g_aload_n C dX1_forgetDrawn_8 rfl 0 rfl ?_
        obtain ⟨b14907, e14908, h14909⟩ := I2.fld (h14905) 3 13 60 rfl
        refine g_getR C fi_X1_22 rfl e14908 (h14905).1 (h14905).2 dX1_forgetDrawn_9 ?_
        refine g_iload_n C dX1_forgetDrawn_12 rfl 1 rfl ?_
        refine g_iconst (v := 0) C dX1_forgetDrawn_13 (by decide) ?_
        refine g_iast (j := (v2_1.toInt.toNat)) C h14909.1 h14909.2.1 (ix_in h14909.2.2 (by omega)) dX1_forgetDrawn_14 ?_
        refine gp (ks := [13]) (I2.setA h14909 (by decide)) (EK.setI h14909.2.1 (by decide)) (fun Y14910 Iy14911 Xy14912 => ?_)
        have Xz14913 : EK [13] P Y14910 := X2.tr (Xy14912.mono (by decide))
        have h14914 := Xy14912.at h14905
        refine s_iinc (lv0 := [(0, .ref a0)]) (m := 1) C dX1_forgetDrawn_15 1 rfl (by decide) rfl (by decide) (by omega) (fun z14915 h14916 => ?_)
        have h14916 : z14915.toInt = v2_1.toInt + 1 := h14916
        refine g_goto C 2 dX1_forgetDrawn_18 (by decide) ?_
        refine g_lv (lv' := [(0, .ref a0), (1, .int z14915)]) [1, 0] rfl ?_
        exact ih2 Y14910 z14915 (by omega) Iy14911 Xz14913 (by omega)
  refine g_iconst (v := 0) C dX1_forgetDrawn_0 (by decide) ?_
  refine g_istore_n (lv' := [(1, .int 0), (0, .ref a0)]) C dX1_forgetDrawn_1 rfl (by decide) rfl ?_
  refine g_lv (lv' := [(0, .ref a0), (1, .int 0)]) [1, 0] rfl ?_
  exact J2 _ P 0 (Nat.lt_succ_self _) I EK.rf (by decide)
theorem dX1_tell_42 : decode cX1_tell 42 = .ok (.return_, 1) := by decide +kernel
set_option maxHeartbeats 4000000 in
set_option maxRecDepth 100000 in
theorem s_X1_tell {P : PP} {a0 : Nat} {a1 : Int32} (I : IV P) (ha0 : At P a0 1) (ha1 : 1 ≤ a1.toInt ∧ a1.toInt ≤ 16) : CtrV yX1_tell cX1_tell 3 none ({ frames := 2, cells := 0, slots := 0, locals := 128 } : Room) 0 0 P [.ref a0, .int a1] (fun P2 => IV P2 ∧ EK [1, 3, 13] P P2) := by
  refine enV (lv := [(0, .ref a0), (1, .int a1)]) (by decide) (Nat.le_of_ble_eq_true rfl) rfl (fun E D cy C Ci0 ret => ?_)
  have J12 : ∀ (n12 : Nat) (P12 : PP) (v12_2 : Int32), (16 - v12_2.toInt).toNat < n12 → (IV P12) → (EK [1, 3, 13] P P12) → (0 ≤ v12_2.toInt ∧ v12_2.toInt ≤ 16) → (1 ≤ (pI P12 a0 4).toInt ∧ (pI P12 a0 4).toInt ≤ 1) → (1 ≤ (pI P12 a0 5).toInt ∧ (pI P12 a0 5).toInt ≤ 16) → G E ({ frames := 2, cells := 0, slots := 0, locals := 128 } : Room) D cy 3 P12 0 0 12 [(0, .ref a0), (2, .int v12_2)] [] := by
    intro n12
    induction n12 with
    | zero => intro P12 v12_2 hm12 I12 X12 hv12_2 hq12_0 hq12_1; omega
    | succ n12 ih12 =>
      intro P12 v12_2 hm12 I12 X12 hv12_2 hq12_0 hq12_1
      have h15107 := X12.at ha0
      refine g_iload_n C dX1_tell_12 rfl 1 rfl ?_
      refine g_bipush (v := 16) C dX1_tell_13 (by decide) ?_
      refine b_icmp_ge C 31 dX1_tell_15 (by decide) (fun h15108 => ?_) (fun h15108 => ?_)
      · have h15108 : 16 ≤ v12_2.toInt := h15108
        refine g_aload_n C dX1_tell_31 rfl 0 rfl ?_
        obtain ⟨b15109, e15110, h15111⟩ := I12.fld (h15107) 2 3 0 rfl
        refine g_getR C fi_X1_18 rfl e15110 (h15107).1 (h15107).2 dX1_tell_32 ?_
        refine g_callVV (rest := []) C mv_X1_36 [] (s_X3_clear I12 h15111.at) (h15111.at).1 (h15111.at).2 rfl rfl (by decide) (Nat.le_of_ble_eq_true rfl) (by decide) dX1_tell_35 (fun Y15113 h15114 => ?_)
        obtain ⟨Iy15115, Xy15116⟩ := h15114
        have q15117 := Xy15116.keep h15107 (by decide) 4
        have q15118 := Xy15116.keep h15107 (by decide) 5
        have Xz15119 : EK [1, 3, 13] P Y15113 := X12.tr (Xy15116.mono (by decide))
        have h15120 := Xy15116.at h15107
        refine g_aload_n C dX1_tell_38 rfl 0 rfl ?_
        refine g_callVV (rest := []) C mv_X1_39 [] (s_X1_forgetDrawn Iy15115 h15120) (h15120).1 (h15120).2 rfl rfl (by decide) (Nat.le_of_ble_eq_true rfl) (by decide) dX1_tell_39 (fun Y15122 h15123 => ?_)
        obtain ⟨Iy15124, Xy15125⟩ := h15123
        have q15126 := Xy15125.keep h15120 (by decide) 4
        have q15127 := Xy15125.keep h15120 (by decide) 5
        have Xz15128 : EK [1, 3, 13] P Y15122 := Xz15119.tr (Xy15125.mono (by decide))
        have h15129 := Xy15125.at h15120
        exact ret _ _ _ _ _ dX1_tell_42 (by decide) (by decide) ⟨Iy15124, Xz15128⟩
      · have h15108 : v12_2.toInt < 16 := h15108
        refine g_aload_n C dX1_tell_18 rfl 0 rfl ?_
        obtain ⟨b15130, e15131, h15132⟩ := I12.fld (h15107) 1 13 16 rfl
        refine g_getR C fi_X1_9 rfl e15131 (h15107).1 (h15107).2 dX1_tell_19 ?_
        refine g_iload_n C dX1_tell_22 rfl 1 rfl ?_
        refine g_iconst (v := 0) C dX1_tell_23 (by decide) ?_
        refine g_iast (j := (v12_2.toInt.toNat)) C h15132.1 h15132.2.1 (ix_in h15132.2.2 (by omega)) dX1_tell_24 ?_
        refine gp (ks := [13]) (I12.setA h15132 (by decide)) (EK.setI h15132.2.1 (by decide)) (fun Y15133 Iy15134 Xy15135 => ?_)
        have q15136 := Xy15135.keep h15107 (by decide) 4
        have q15137 := Xy15135.keep h15107 (by decide) 5
        have Xz15138 : EK [1, 3, 13] P Y15133 := X12.tr (Xy15135.mono (by decide))
        have h15139 := Xy15135.at h15107
        refine s_iinc (lv0 := [(0, .ref a0)]) (m := 1) C dX1_tell_25 1 rfl (by decide) rfl (by decide) (by omega) (fun z15140 h15141 => ?_)
        have h15141 : z15140.toInt = v12_2.toInt + 1 := h15141
        refine g_goto C 12 dX1_tell_28 (by decide) ?_
        refine g_lv (lv' := [(0, .ref a0), (2, .int z15140)]) [1, 0] rfl ?_
        exact ih12 Y15133 z15140 (by omega) Iy15134 Xz15138 (by omega) (by omega) (by omega)
  refine g_aload_n C dX1_tell_0 rfl 0 rfl ?_
  refine g_iconst (v := 1) C dX1_tell_1 (by decide) ?_
  refine g_putZ C fi_X1_29 rfl (Or.inr rfl) (ha0).1 (ha0).2 dX1_tell_2 ?_
  refine gpW (ks := [1]) (I.setI (ha0) (rgOk.of rfl (by decide))) (EK.setI (ha0).2 (by decide)) (fun Y15142 Iy15143 Xy15144 w15145 w15146 => ?_)
  have w15146 : (pI Y15142 a0 4).toInt = 1 := w15146
  have Xz15147 : EK [1, 3, 13] P Y15142 := Xy15144.mono (by decide)
  have h15148 := Xy15144.at ha0
  refine g_aload_n C dX1_tell_5 rfl 0 rfl ?_
  refine g_iload_n C dX1_tell_6 rfl 1 rfl ?_
  refine g_putI C fi_X1_33 rfl (h15148).1 (h15148).2 dX1_tell_7 ?_
  refine gpW (ks := [1]) (Iy15143.setI (h15148) (rgOk.of rfl (by omega))) (EK.setI (h15148).2 (by decide)) (fun Y15149 Iy15150 Xy15151 w15152 w15153 => ?_)
  have q15154 := w15152 4 (by decide)
  have Xz15155 : EK [1, 3, 13] P Y15149 := Xz15147.tr (Xy15151.mono (by decide))
  have h15156 := Xy15151.at h15148
  refine g_iconst (v := 0) C dX1_tell_10 (by decide) ?_
  refine g_istore_n (lv' := [(2, .int 0), (0, .ref a0), (1, .int a1)]) C dX1_tell_11 rfl (by decide) rfl ?_
  refine g_lv (lv' := [(0, .ref a0), (2, .int 0)]) [1, 0] rfl ?_
  exact J12 _ Y15149 0 (Nat.lt_succ_self _) Iy15150 Xz15155 (by decide) (by omega) (by omega)
theorem dX11_book_18 : decode cX11_book 18 = .ok (.iconst 0, 1) := by decide +kernel
theorem dX11_book_19 : decode cX11_book 19 = .ok (.ireturn, 1) := by decide +kernel
theorem dX11_book_30 : decode cX11_book 30 = .ok (.iconst 0, 1) := by decide +kernel
theorem dX11_book_31 : decode cX11_book 31 = .ok (.istore_n 3, 1) := by decide +kernel
theorem dX11_book_32 : decode cX11_book 32 = .ok (.iload_n 3, 1) := by decide +kernel
theorem dX11_book_33 : decode cX11_book 33 = .ok (.iconst 4, 1) := by decide +kernel
theorem dX11_book_34 : decode cX11_book 34 = .ok (.if_icmp .ge 19, 3) := by decide +kernel
theorem dX11_book_37 : decode cX11_book 37 = .ok (.aload_n 0, 1) := by decide +kernel
theorem dX11_book_38 : decode cX11_book 38 = .ok (.getfield 17, 3) := by decide +kernel
theorem dX11_book_41 : decode cX11_book 41 = .ok (.iload_n 3, 1) := by decide +kernel
theorem dX11_book_42 : decode cX11_book 42 = .ok (.aaload, 1) := by decide +kernel
theorem dX11_book_43 : decode cX11_book 43 = .ok (.iload_n 1, 1) := by decide +kernel
theorem dX11_book_44 : decode cX11_book 44 = .ok (.invokevirtual 91, 3) := by decide +kernel
theorem dX6_dropTouching_0 : decode cX6_dropTouching 0 = .ok (.iconst 0, 1) := by decide +kernel
theorem dX6_dropTouching_1 : decode cX6_dropTouching 1 = .ok (.istore_n 2, 1) := by decide +kernel
theorem dX6_dropTouching_2 : decode cX6_dropTouching 2 = .ok (.iconst 0, 1) := by decide +kernel
theorem dX6_dropTouching_3 : decode cX6_dropTouching 3 = .ok (.istore_n 3, 1) := by decide +kernel
theorem dX6_dropTouching_4 : decode cX6_dropTouching 4 = .ok (.iload_n 3, 1) := by decide +kernel
theorem dX6_dropTouching_5 : decode cX6_dropTouching 5 = .ok (.aload_n 0, 1) := by decide +kernel
theorem dX6_dropTouching_6 : decode cX6_dropTouching 6 = .ok (.getfield 17, 3) := by decide +kernel
theorem dX6_dropTouching_9 : decode cX6_dropTouching 9 = .ok (.if_icmp .ge 37, 3) := by decide +kernel
theorem dX6_dropTouching_12 : decode cX6_dropTouching 12 = .ok (.aload_n 0, 1) := by decide +kernel
theorem dX6_dropTouching_13 : decode cX6_dropTouching 13 = .ok (.getfield 11, 3) := by decide +kernel
theorem dX6_dropTouching_16 : decode cX6_dropTouching 16 = .ok (.iload_n 3, 1) := by decide +kernel
theorem dX6_dropTouching_17 : decode cX6_dropTouching 17 = .ok (.aaload, 1) := by decide +kernel
theorem dX6_dropTouching_18 : decode cX6_dropTouching 18 = .ok (.iload_n 1, 1) := by decide +kernel
theorem dX6_dropTouching_19 : decode cX6_dropTouching 19 = .ok (.invokestatic 32, 3) := by decide +kernel
theorem dX6_dropTouching_46 : decode cX6_dropTouching 46 = .ok (.aload_n 0, 1) := by decide +kernel
theorem dX6_dropTouching_47 : decode cX6_dropTouching 47 = .ok (.iload_n 2, 1) := by decide +kernel
theorem dX6_dropTouching_48 : decode cX6_dropTouching 48 = .ok (.putfield 17, 3) := by decide +kernel
theorem dX6_dropTouching_51 : decode cX6_dropTouching 51 = .ok (.return_, 1) := by decide +kernel
theorem dX6_isTouching_0 : decode cX6_isTouching 0 = .ok (.aload_n 0, 1) := by decide +kernel
theorem dX6_isTouching_1 : decode cX6_isTouching 1 = .ok (.ifnull 23, 3) := by decide +kernel
theorem dX6_isTouching_24 : decode cX6_isTouching 24 = .ok (.iconst 0, 1) := by decide +kernel
theorem dX6_isTouching_25 : decode cX6_isTouching 25 = .ok (.ireturn, 1) := by decide +kernel
set_option maxHeartbeats 4000000 in
set_option maxRecDepth 100000 in
theorem s_X6_isTouchingn0 {P : PP} {a1 : Int32} (I : IV P) : CtrI yX6_isTouching cX6_isTouching 2 (some Jvm.ClassFile.FieldType.boolean) ({ frames := 1, cells := 0, slots := 0, locals := 64 } : Room) 0 0 P [.null, .int a1] (fun r P2 => P = P2 ∧ (0 ≤ r.toInt ∧ r.toInt ≤ 0)) := by
  refine enI (lv := [(0, .null), (1, .int a1)]) (by decide) (Nat.le_of_ble_eq_true rfl) rfl (fun E D cy C Ci0 ret => ?_)
  have J24 : G E ({ frames := 1, cells := 0, slots := 0, locals := 64 } : Room) D cy 2 P 0 0 24 [] [] := by
    refine g_iconst (v := 0) C dX6_isTouching_24 (by decide) ?_
    exact ret _ _ _ _ _ _ dX6_isTouching_25 rfl (by decide) (by decide) ⟨rfl, (by decide)⟩
  refine g_aload_nN C dX6_isTouching_0 rfl 0 rfl ?_
  refine g_ifnullN C 24 dX6_isTouching_1 (by decide) ?_
  refine g_lv (lv' := []) [] rfl ?_
  exact J24 
theorem dX6_dropTouching_22 : decode cX6_dropTouching 22 = .ok (.ifCond .ne 18, 3) := by decide +kernel
theorem dX6_dropTouching_25 : decode cX6_dropTouching 25 = .ok (.aload_n 0, 1) := by decide +kernel
theorem dX6_dropTouching_26 : decode cX6_dropTouching 26 = .ok (.getfield 11, 3) := by decide +kernel
theorem dX6_dropTouching_29 : decode cX6_dropTouching 29 = .ok (.iload_n 2, 1) := by decide +kernel
theorem dX6_dropTouching_30 : decode cX6_dropTouching 30 = .ok (.aload_n 0, 1) := by decide +kernel
theorem dX6_dropTouching_31 : decode cX6_dropTouching 31 = .ok (.getfield 11, 3) := by decide +kernel
theorem dX6_dropTouching_34 : decode cX6_dropTouching 34 = .ok (.iload_n 3, 1) := by decide +kernel
theorem dX6_dropTouching_35 : decode cX6_dropTouching 35 = .ok (.aaload, 1) := by decide +kernel
theorem dX6_dropTouching_36 : decode cX6_dropTouching 36 = .ok (.aastore, 1) := by decide +kernel
theorem dX6_dropTouching_37 : decode cX6_dropTouching 37 = .ok (.iinc 2 1, 3) := by decide +kernel
theorem dX6_isTouching_4 : decode cX6_isTouching 4 = .ok (.aload_n 0, 1) := by decide +kernel
theorem dX6_isTouching_5 : decode cX6_isTouching 5 = .ok (.getfield 21, 3) := by decide +kernel
theorem dX6_isTouching_8 : decode cX6_isTouching 8 = .ok (.iload_n 1, 1) := by decide +kernel
theorem dX6_isTouching_9 : decode cX6_isTouching 9 = .ok (.if_icmp .eq 11, 3) := by decide +kernel
theorem dX6_isTouching_12 : decode cX6_isTouching 12 = .ok (.aload_n 0, 1) := by decide +kernel
theorem dX6_isTouching_13 : decode cX6_isTouching 13 = .ok (.getfield 21, 3) := by decide +kernel
theorem dX6_isTouching_16 : decode cX6_isTouching 16 = .ok (.iconst (-1), 1) := by decide +kernel
theorem dX6_isTouching_17 : decode cX6_isTouching 17 = .ok (.if_icmp .ne 7, 3) := by decide +kernel
theorem dX6_isTouching_20 : decode cX6_isTouching 20 = .ok (.iconst 1, 1) := by decide +kernel
theorem dX6_isTouching_21 : decode cX6_isTouching 21 = .ok (.goto 4, 3) := by decide +kernel
set_option maxHeartbeats 4000000 in
set_option maxRecDepth 100000 in
theorem s_X6_isTouching {P : PP} {a0 : Nat} {a1 : Int32} (I : IV P) (ha0 : At P a0 7) : CtrI yX6_isTouching cX6_isTouching 2 (some Jvm.ClassFile.FieldType.boolean) ({ frames := 1, cells := 0, slots := 0, locals := 64 } : Room) 0 0 P [.ref a0, .int a1] (fun r P2 => P = P2 ∧ (0 ≤ r.toInt ∧ r.toInt ≤ 1)) := by
  refine enI (lv := [(0, .ref a0), (1, .int a1)]) (by decide) (Nat.le_of_ble_eq_true rfl) rfl (fun E D cy C Ci0 ret => ?_)
  have J24 : (0 ≤ (pI P a0 0).toInt ∧ (pI P a0 0).toInt ≤ 1) → G E ({ frames := 1, cells := 0, slots := 0, locals := 64 } : Room) D cy 2 P 0 0 24 [] [] := by
    intro hq24_0
    refine g_iconst (v := 0) C dX6_isTouching_24 (by decide) ?_
    exact ret _ _ _ _ _ _ dX6_isTouching_25 rfl (by decide) (by decide) ⟨rfl, (by decide)⟩
  have J20 : G E ({ frames := 1, cells := 0, slots := 0, locals := 64 } : Room) D cy 2 P 0 0 20 [] [] := by
    refine g_iconst (v := 1) C dX6_isTouching_20 (by decide) ?_
    refine g_goto C 25 dX6_isTouching_21 (by decide) ?_
    exact ret _ _ _ _ _ _ dX6_isTouching_25 rfl (by decide) (by decide) ⟨rfl, (by decide)⟩
  refine g_aload_n C dX6_isTouching_0 rfl 0 rfl ?_
  refine g_ifnull C dX6_isTouching_1 ?_
  refine g_aload_n C dX6_isTouching_4 rfl 0 rfl ?_
  refine g_getI C fi_X6_21 (by decide) (ha0).1 (ha0).2 dX6_isTouching_5 ?_
  have h15244 := I.rg (ha0) 0 rfl
  refine g_iload_n C dX6_isTouching_8 rfl 1 rfl ?_
  have u15246 := ti_rng a1
  refine b_icmp_eq C 20 dX6_isTouching_9 (by decide) (fun h15245 => ?_) (fun h15245 => ?_)
  · have h15245 : (pI P a0 0).toInt = a1.toInt := congrArg Int32.toInt h15245
    refine g_lv (lv' := []) [] rfl ?_
    exact J20 
  · have h15245 : (pI P a0 0).toInt ≠ a1.toInt := ti_ne h15245
    refine g_aload_n C dX6_isTouching_12 rfl 0 rfl ?_
    refine g_getI C fi_X6_21 (by decide) (ha0).1 (ha0).2 dX6_isTouching_13 ?_
    refine g_iconst (v := (-1)) C dX6_isTouching_16 (by decide) ?_
    refine b_icmp_ne C 24 dX6_isTouching_17 (by decide) (fun h15247 => ?_) (fun h15247 => ?_)
    · have h15247 : (pI P a0 0).toInt ≠ (-1) := ti_ne h15247
      refine g_lv (lv' := []) [] rfl ?_
      exact J24 (by omega)
    · have h15247 : (pI P a0 0).toInt = (-1) := congrArg Int32.toInt h15247
      refine g_lv (lv' := []) [] rfl ?_
      exact J20 
theorem dX6_dropTouching_40 : decode cX6_dropTouching 40 = .ok (.iinc 3 1, 3) := by decide +kernel
theorem dX6_dropTouching_43 : decode cX6_dropTouching 43 = .ok (.goto (-39), 3) := by decide +kernel
set_option maxHeartbeats 4000000 in
set_option maxRecDepth 100000 in
theorem s_X6_dropTouching {P : PP} {a0 : Nat} {a1 : Int32} (I : IV P) (ha0 : At P a0 6) : CtrV yX6_dropTouching cX6_dropTouching 4 none ({ frames := 2, cells := 0, slots := 0, locals := 128 } : Room) 0 0 P [.ref a0, .int a1] (fun P2 => IV P2 ∧ EK [6] P P2) := by
  refine enV (lv := [(0, .ref a0), (1, .int a1)]) (by decide) (Nat.le_of_ble_eq_true rfl) rfl (fun E D cy C Ci0 ret => ?_)
  have J4 : ∀ (n4 : Nat) (P4 : PP) (v4_2 : Int32) (v4_3 : Int32), (40 - v4_3.toInt).toNat < n4 → (IV P4) → (EK [6] P P4) → (0 ≤ v4_2.toInt ∧ v4_2.toInt ≤ 40) → (0 ≤ v4_3.toInt ∧ v4_3.toInt ≤ 40) → (v4_2.toInt ≤ v4_3.toInt) → G E ({ frames := 2, cells := 0, slots := 0, locals := 128 } : Room) D cy 4 P4 0 0 4 [(0, .ref a0), (1, .int a1), (2, .int v4_2), (3, .int v4_3)] [] := by
    intro n4
    induction n4 with
    | zero => intro P4 v4_2 v4_3 hm4 I4 X4 hv4_2 hv4_3 rel4_0; omega
    | succ n4 ih4 =>
      intro P4 v4_2 v4_3 hm4 I4 X4 hv4_2 hv4_3 rel4_0
      have h16222 := X4.at ha0
      have J40 : ∀ (P40 : PP) (v40_2 : Int32), (IV P40) → (EK [6] P P40) → (0 ≤ v40_2.toInt ∧ v40_2.toInt ≤ 40) → (0 ≤ v4_3.toInt ∧ v4_3.toInt ≤ 39) → (1 ≤ (pI P40 a0 1).toInt ∧ (pI P40 a0 1).toInt ≤ 40) → (v40_2.toInt ≤ v4_3.toInt + 1) → G E ({ frames := 2, cells := 0, slots := 0, locals := 128 } : Room) D cy 4 P40 0 0 40 [(0, .ref a0), (1, .int a1), (2, .int v40_2), (3, .int v4_3)] [] := by
        intro P40 v40_2 I40 X40 hv40_2 hv40_3 hq40_0 rel40_0
        have h16223 := X40.at ha0
        refine s_iinc (lv0 := [(0, .ref a0), (1, .int a1), (2, .int v40_2)]) (m := 1) C dX6_dropTouching_40 3 rfl (by decide) rfl (by decide) (by omega) (fun z16224 h16225 => ?_)
        have h16225 : z16224.toInt = v4_3.toInt + 1 := h16225
        refine g_goto C 4 dX6_dropTouching_43 (by decide) ?_
        refine g_lv (lv' := [(0, .ref a0), (1, .int a1), (2, .int v40_2), (3, .int z16224)]) [1, 2, 3, 0] rfl ?_
        exact ih4 P40 v40_2 z16224 (by omega) I40 X40 (by omega) (by omega) (by show v40_2.toInt ≤ z16224.toInt; omega)
      refine g_iload_n C dX6_dropTouching_4 rfl 3 rfl ?_
      refine g_aload_n C dX6_dropTouching_5 rfl 0 rfl ?_
      refine g_getI C fi_X6_17 (by decide) (h16222).1 (h16222).2 dX6_dropTouching_6 ?_
      have h16226 := I4.rg (h16222) 1 rfl
      refine b_icmp_ge C 46 dX6_dropTouching_9 (by decide) (fun h16227 => ?_) (fun h16227 => ?_)
      · have h16227 : (pI P4 a0 1).toInt ≤ v4_3.toInt := h16227
        refine g_aload_n C dX6_dropTouching_46 rfl 0 rfl ?_
        refine g_iload_n C dX6_dropTouching_47 rfl 2 rfl ?_
        refine g_putI C fi_X6_17 rfl (h16222).1 (h16222).2 dX6_dropTouching_48 ?_
        refine gpW (ks := [6]) (I4.setI (h16222) (rgOk.of rfl (by omega))) (EK.setI (h16222).2 (by decide)) (fun Y16228 Iy16229 Xy16230 w16231 w16232 => ?_)
        have Xz16233 : EK [6] P Y16228 := X4.tr (Xy16230.mono (by decide))
        have h16234 := Xy16230.at h16222
        exact ret _ _ _ _ _ dX6_dropTouching_51 (by decide) (by decide) ⟨Iy16229, Xz16233⟩
      · have h16227 : v4_3.toInt < (pI P4 a0 1).toInt := h16227
        refine g_aload_n C dX6_dropTouching_12 rfl 0 rfl ?_
        obtain ⟨b16235, e16236, h16237⟩ := I4.fld (h16222) 0 20 40 rfl
        refine g_getR C fi_X6_11 rfl e16236 (h16222).1 (h16222).2 dX6_dropTouching_13 ?_
        refine g_iload_n C dX6_dropTouching_16 rfl 3 rfl ?_
        refine g_aldQ (j := (v4_3.toInt.toNat)) C h16237.1 h16237.2.1 (by decide) (ix_in h16237.2.2 (by omega)) dX6_dropTouching_17 ?_
        rcases I4.pap h16237 (v4_3.toInt.toNat) with e16239 | ⟨b16238, e16239, h16240⟩
        · rw [e16239]
          show G _ _ _ _ _ _ _ _ _ _ (.null :: _)
          refine g_iload_n C dX6_dropTouching_18 rfl 1 rfl ?_
          refine g_callSI (b := 0) (ci := 0) (rest := []) C ms_X6_32 [.null, .int a1] (s_X6_isTouchingn0 I4) rfl rfl (by decide) (Nat.le_of_ble_eq_true rfl) (by decide) dX6_dropTouching_19 (fun r16241 Y16242 h16243 => ?_)
          obtain ⟨rfl, h16243⟩ := h16243
          have h16243 : 0 ≤ r16241.toInt ∧ r16241.toInt ≤ 0 := h16243
          refine b_if_ne C 40 dX6_dropTouching_22 (by decide) (fun h16244 => ?_) (fun h16244 => ?_)
          · have h16244 : r16241.toInt ≠ 0 := ti_ne h16244
            omega
          · have h16244 : r16241.toInt = 0 := congrArg Int32.toInt h16244
            refine g_aload_n C dX6_dropTouching_25 rfl 0 rfl ?_
            refine g_getR C fi_X6_11 rfl e16236 (h16222).1 (h16222).2 dX6_dropTouching_26 ?_
            refine g_iload_n C dX6_dropTouching_29 rfl 2 rfl ?_
            refine g_aload_n C dX6_dropTouching_30 rfl 0 rfl ?_
            refine g_getR C fi_X6_11 rfl e16236 (h16222).1 (h16222).2 dX6_dropTouching_31 ?_
            refine g_iload_n C dX6_dropTouching_34 rfl 3 rfl ?_
            refine g_aldQ (j := (v4_3.toInt.toNat)) C h16237.1 h16237.2.1 (by decide) (ix_in h16237.2.2 (by omega)) dX6_dropTouching_35 ?_
            rcases I4.pap h16237 (v4_3.toInt.toNat) with e16246 | ⟨b16245, e16246, h16247⟩
            · rw [e16246]
              show G _ _ _ _ _ _ _ _ _ _ (.null :: _)
              refine g_astN (j := (v4_2.toInt.toNat)) C h16237.1 h16237.2.1 (by decide) (ix_in h16237.2.2 (by omega)) dX6_dropTouching_36 ?_
              refine gp (ks := []) (I4.setP h16237 (fun _ z => by cases z)) (EK.setR h16237.2.1 (by decide)) (fun Y16248 Iy16249 Xy16250 => ?_)
              have q16251 := Xy16250.keep h16222 (by decide) 1
              have Xz16252 : EK [6] P Y16248 := X4.tr (Xy16250.mono (by decide))
              have h16253 := Xy16250.at h16222
              refine s_iinc (lv0 := [(0, .ref a0), (1, .int a1), (3, .int v4_3)]) (m := 1) C dX6_dropTouching_37 2 rfl (by decide) rfl (by decide) (by omega) (fun z16254 h16255 => ?_)
              have h16255 : z16254.toInt = v4_2.toInt + 1 := h16255
              refine g_lv (lv' := [(0, .ref a0), (1, .int a1), (2, .int z16254), (3, .int v4_3)]) [1, 2, 0, 3] rfl ?_
              exact J40 Y16248 z16254 Iy16249 Xz16252 (by omega) (by omega) (by omega) (by show z16254.toInt ≤ v4_3.toInt + 1; omega)
            · rw [e16246]
              show G _ _ _ _ _ _ _ _ _ _ (.ref b16245 :: _)
              refine g_astR (j := (v4_2.toInt.toNat)) C h16237.1 h16237.2.1 (by decide) (ix_in h16237.2.2 (by omega)) (h16247).1 (h16247).2 (by decide) rfl rfl dX6_dropTouching_36 ?_
              refine gp (ks := []) (I4.setP h16237 (fun _ z => by cases z; exact h16247)) (EK.setR h16237.2.1 (by decide)) (fun Y16256 Iy16257 Xy16258 => ?_)
              have q16259 := Xy16258.keep h16222 (by decide) 1
              have Xz16260 : EK [6] P Y16256 := X4.tr (Xy16258.mono (by decide))
              have h16261 := Xy16258.at h16222
              refine s_iinc (lv0 := [(0, .ref a0), (1, .int a1), (3, .int v4_3)]) (m := 1) C dX6_dropTouching_37 2 rfl (by decide) rfl (by decide) (by omega) (fun z16262 h16263 => ?_)
              have h16263 : z16262.toInt = v4_2.toInt + 1 := h16263
              refine g_lv (lv' := [(0, .ref a0), (1, .int a1), (2, .int z16262), (3, .int v4_3)]) [1, 2, 0, 3] rfl ?_
              exact J40 Y16256 z16262 Iy16257 Xz16260 (by omega) (by omega) (by omega) (by show z16262.toInt ≤ v4_3.toInt + 1; omega)
        · rw [e16239]
          show G _ _ _ _ _ _ _ _ _ _ (.ref b16238 :: _)
          refine g_iload_n C dX6_dropTouching_18 rfl 1 rfl ?_
          refine g_callSI (b := 0) (ci := 0) (rest := []) C ms_X6_32 [.ref b16238, .int a1] (s_X6_isTouching I4 h16240) rfl rfl (by decide) (Nat.le_of_ble_eq_true rfl) (by decide) dX6_dropTouching_19 (fun r16264 Y16265 h16266 => ?_)
          obtain ⟨rfl, h16266⟩ := h16266
          have h16266 : 0 ≤ r16264.toInt ∧ r16264.toInt ≤ 1 := h16266
          refine b_if_ne C 40 dX6_dropTouching_22 (by decide) (fun h16267 => ?_) (fun h16267 => ?_)
          · have h16267 : r16264.toInt ≠ 0 := ti_ne h16267
            exact J40 P4 v4_2 I4 X4 (by omega) (by omega) (by omega) (by show v4_2.toInt ≤ v4_3.toInt + 1; omega)
          · have h16267 : r16264.toInt = 0 := congrArg Int32.toInt h16267
            refine g_aload_n C dX6_dropTouching_25 rfl 0 rfl ?_
            refine g_getR C fi_X6_11 rfl e16236 (h16222).1 (h16222).2 dX6_dropTouching_26 ?_
            refine g_iload_n C dX6_dropTouching_29 rfl 2 rfl ?_
            refine g_aload_n C dX6_dropTouching_30 rfl 0 rfl ?_
            refine g_getR C fi_X6_11 rfl e16236 (h16222).1 (h16222).2 dX6_dropTouching_31 ?_
            refine g_iload_n C dX6_dropTouching_34 rfl 3 rfl ?_
            refine g_aldQ (j := (v4_3.toInt.toNat)) C h16237.1 h16237.2.1 (by decide) (ix_in h16237.2.2 (by omega)) dX6_dropTouching_35 ?_
            rcases I4.pap h16237 (v4_3.toInt.toNat) with e16269 | ⟨b16268, e16269, h16270⟩
            · rw [e16269]
              show G _ _ _ _ _ _ _ _ _ _ (.null :: _)
              refine g_astN (j := (v4_2.toInt.toNat)) C h16237.1 h16237.2.1 (by decide) (ix_in h16237.2.2 (by omega)) dX6_dropTouching_36 ?_
              refine gp (ks := []) (I4.setP h16237 (fun _ z => by cases z)) (EK.setR h16237.2.1 (by decide)) (fun Y16271 Iy16272 Xy16273 => ?_)
              have q16274 := Xy16273.keep h16222 (by decide) 1
              have Xz16275 : EK [6] P Y16271 := X4.tr (Xy16273.mono (by decide))
              have h16276 := Xy16273.at h16222
              refine s_iinc (lv0 := [(0, .ref a0), (1, .int a1), (3, .int v4_3)]) (m := 1) C dX6_dropTouching_37 2 rfl (by decide) rfl (by decide) (by omega) (fun z16277 h16278 => ?_)
              have h16278 : z16277.toInt = v4_2.toInt + 1 := h16278
              refine g_lv (lv' := [(0, .ref a0), (1, .int a1), (2, .int z16277), (3, .int v4_3)]) [1, 2, 0, 3] rfl ?_
              exact J40 Y16271 z16277 Iy16272 Xz16275 (by omega) (by omega) (by omega) (by show z16277.toInt ≤ v4_3.toInt + 1; omega)
            · rw [e16269]
              show G _ _ _ _ _ _ _ _ _ _ (.ref b16268 :: _)
              refine g_astR (j := (v4_2.toInt.toNat)) C h16237.1 h16237.2.1 (by decide) (ix_in h16237.2.2 (by omega)) (h16270).1 (h16270).2 (by decide) rfl rfl dX6_dropTouching_36 ?_
              refine gp (ks := []) (I4.setP h16237 (fun _ z => by cases z; exact h16270)) (EK.setR h16237.2.1 (by decide)) (fun Y16279 Iy16280 Xy16281 => ?_)
              have q16282 := Xy16281.keep h16222 (by decide) 1
              have Xz16283 : EK [6] P Y16279 := X4.tr (Xy16281.mono (by decide))
              have h16284 := Xy16281.at h16222
              refine s_iinc (lv0 := [(0, .ref a0), (1, .int a1), (3, .int v4_3)]) (m := 1) C dX6_dropTouching_37 2 rfl (by decide) rfl (by decide) (by omega) (fun z16285 h16286 => ?_)
              have h16286 : z16285.toInt = v4_2.toInt + 1 := h16286
              refine g_lv (lv' := [(0, .ref a0), (1, .int a1), (2, .int z16285), (3, .int v4_3)]) [1, 2, 0, 3] rfl ?_
              exact J40 Y16279 z16285 Iy16280 Xz16283 (by omega) (by omega) (by omega) (by show z16285.toInt ≤ v4_3.toInt + 1; omega)
  refine g_iconst (v := 0) C dX6_dropTouching_0 (by decide) ?_
  refine g_istore_n (lv' := [(2, .int 0), (0, .ref a0), (1, .int a1)]) C dX6_dropTouching_1 rfl (by decide) rfl ?_
  refine g_iconst (v := 0) C dX6_dropTouching_2 (by decide) ?_
  refine g_istore_n (lv' := [(3, .int 0), (2, .int 0), (0, .ref a0), (1, .int a1)]) C dX6_dropTouching_3 rfl (by decide) rfl ?_
  refine g_lv (lv' := [(0, .ref a0), (1, .int a1), (2, .int 0), (3, .int 0)]) [2, 3, 1, 0] rfl ?_
  exact J4 _ P 0 0 (Nat.lt_succ_self _) I EK.rf (by decide) (by decide) (by show 0 ≤ 0; omega)
theorem dX11_book_47 : decode cX11_book 47 = .ok (.iinc 3 1, 3) := by decide +kernel
theorem dX11_book_50 : decode cX11_book 50 = .ok (.goto (-18), 3) := by decide +kernel
theorem dX11_book_53 : decode cX11_book 53 = .ok (.aload_n 0, 1) := by decide +kernel
theorem dX11_book_54 : decode cX11_book 54 = .ok (.invokevirtual 94, 3) := by decide +kernel
theorem dX11_forgetMarks_0 : decode cX11_forgetMarks 0 = .ok (.iconst 0, 1) := by decide +kernel
theorem dX11_forgetMarks_1 : decode cX11_forgetMarks 1 = .ok (.istore_n 1, 1) := by decide +kernel
theorem dX11_forgetMarks_2 : decode cX11_forgetMarks 2 = .ok (.iload_n 1, 1) := by decide +kernel
theorem dX11_forgetMarks_3 : decode cX11_forgetMarks 3 = .ok (.iconst 4, 1) := by decide +kernel
theorem dX11_forgetMarks_4 : decode cX11_forgetMarks 4 = .ok (.if_icmp .ge 16, 3) := by decide +kernel
theorem dX11_forgetMarks_7 : decode cX11_forgetMarks 7 = .ok (.aload_n 0, 1) := by decide +kernel
theorem dX11_forgetMarks_8 : decode cX11_forgetMarks 8 = .ok (.getfield 24, 3) := by decide +kernel
theorem dX11_forgetMarks_11 : decode cX11_forgetMarks 11 = .ok (.iload_n 1, 1) := by decide +kernel
theorem dX11_forgetMarks_12 : decode cX11_forgetMarks 12 = .ok (.iconst 0, 1) := by decide +kernel
theorem dX11_forgetMarks_13 : decode cX11_forgetMarks 13 = .ok (.bastore, 1) := by decide +kernel
theorem dX11_forgetMarks_14 : decode cX11_forgetMarks 14 = .ok (.iinc 1 1, 3) := by decide +kernel
theorem dX11_forgetMarks_17 : decode cX11_forgetMarks 17 = .ok (.goto (-15), 3) := by decide +kernel
theorem dX11_forgetMarks_20 : decode cX11_forgetMarks 20 = .ok (.return_, 1) := by decide +kernel
set_option maxHeartbeats 4000000 in
set_option maxRecDepth 100000 in
theorem s_X11_forgetMarks {P : PP} {a0 : Nat} (I : IV P) (ha0 : At P a0 11) : CtrV yX11_forgetMarks cX11_forgetMarks 2 none ({ frames := 1, cells := 0, slots := 0, locals := 64 } : Room) 0 0 P [.ref a0] (fun P2 => IV P2 ∧ EK [15] P P2) := by
  refine enV (lv := [(0, .ref a0)]) (by decide) (Nat.le_of_ble_eq_true rfl) rfl (fun E D cy C Ci0 ret => ?_)
  have J2 : ∀ (n2 : Nat) (P2 : PP) (v2_1 : Int32), (4 - v2_1.toInt).toNat < n2 → (IV P2) → (EK [15] P P2) → (0 ≤ v2_1.toInt ∧ v2_1.toInt ≤ 4) → G E ({ frames := 1, cells := 0, slots := 0, locals := 64 } : Room) D cy 2 P2 0 0 2 [(0, .ref a0), (1, .int v2_1)] [] := by
    intro n2
    induction n2 with
    | zero => intro P2 v2_1 hm2 I2 X2 hv2_1; omega
    | succ n2 ih2 =>
      intro P2 v2_1 hm2 I2 X2 hv2_1
      have h16438 := X2.at ha0
      refine g_iload_n C dX11_forgetMarks_2 rfl 1 rfl ?_
      refine g_iconst (v := 4) C dX11_forgetMarks_3 (by decide) ?_
      refine b_icmp_ge C 20 dX11_forgetMarks_4 (by decide) (fun h16439 => ?_) (fun h16439 => ?_)
      · have h16439 : 4 ≤ v2_1.toInt := h16439
        exact ret _ _ _ _ _ dX11_forgetMarks_20 (by decide) (by decide) ⟨I2, X2⟩
      · have h16439 : v2_1.toInt < 4 := h16439
        refine g_aload_n C dX11_forgetMarks_7 rfl 0 rfl ?_
        obtain ⟨b16440, e16441, h16442⟩ := I2.fld (h16438) 3 15 4 rfl
        refine g_getR C fi_X11_24 rfl e16441 (h16438).1 (h16438).2 dX11_forgetMarks_8 ?_
        refine g_iload_n C dX11_forgetMarks_11 rfl 1 rfl ?_
        refine g_iconst (v := 0) C dX11_forgetMarks_12 (by decide) ?_
        refine g_zast (j := (v2_1.toInt.toNat)) C h16442.1 h16442.2.1 (ix_in h16442.2.2 (by omega)) (Or.inl rfl) dX11_forgetMarks_13 ?_
        refine gp (ks := [15]) (I2.setA h16442 (by decide)) (EK.setI h16442.2.1 (by decide)) (fun Y16443 Iy16444 Xy16445 => ?_)
        have Xz16446 : EK [15] P Y16443 := X2.tr (Xy16445.mono (by decide))
        have h16447 := Xy16445.at h16438
        refine s_iinc (lv0 := [(0, .ref a0)]) (m := 1) C dX11_forgetMarks_14 1 rfl (by decide) rfl (by decide) (by omega) (fun z16448 h16449 => ?_)
        have h16449 : z16448.toInt = v2_1.toInt + 1 := h16449
        refine g_goto C 2 dX11_forgetMarks_17 (by decide) ?_
        refine g_lv (lv' := [(0, .ref a0), (1, .int z16448)]) [1, 0] rfl ?_
        exact ih2 Y16443 z16448 (by omega) Iy16444 Xz16446 (by omega)
  refine g_iconst (v := 0) C dX11_forgetMarks_0 (by decide) ?_
  refine g_istore_n (lv' := [(1, .int 0), (0, .ref a0)]) C dX11_forgetMarks_1 rfl (by decide) rfl ?_
  refine g_lv (lv' := [(0, .ref a0), (1, .int 0)]) [1, 0] rfl ?_
  exact J2 _ P 0 (Nat.lt_succ_self _) I EK.rf (by decide)
theorem dX11_book_57 : decode cX11_book 57 = .ok (.iconst 1, 1) := by decide +kernel
theorem dX11_book_58 : decode cX11_book 58 = .ok (.ireturn, 1) := by decide +kernel
set_option maxHeartbeats 4000000 in
set_option maxRecDepth 100000 in
theorem s_X11_book {P : PP} {a0 : Nat} {a1 : Int32} {a2 : Int32} (I : IV P) (ha0 : At P a0 11) : CtrI yX11_book cX11_book 4 (some Jvm.ClassFile.FieldType.boolean) ({ frames := 3, cells := 0, slots := 0, locals := 192 } : Room) 0 0 P [.ref a0, .int a1, .int a2] (fun r P2 => IV P2 ∧ EK [1, 3, 6, 13, 15] P P2 ∧ (0 ≤ r.toInt ∧ r.toInt ≤ 1) ∧ (r.toInt = 0 ∨ (((0 : Int) ≤ a1.toInt ∧ a1.toInt ≤ (1 : Int))))) := by
  refine enI (lv := [(0, .ref a0), (1, .int a1), (2, .int a2)]) (by decide) (Nat.le_of_ble_eq_true rfl) rfl (fun E D cy C Ci0 ret => ?_)
  have J32 : ∀ (n32 : Nat) (P32 : PP) (v32_3 : Int32), (4 - v32_3.toInt).toNat < n32 → (IV P32) → (EK [1, 3, 6, 13, 15] P P32) → (0 ≤ a1.toInt ∧ a1.toInt ≤ 1) → (0 ≤ v32_3.toInt ∧ v32_3.toInt ≤ 4) → G E ({ frames := 3, cells := 0, slots := 0, locals := 192 } : Room) D cy 4 P32 0 0 32 [(0, .ref a0), (1, .int a1), (3, .int v32_3)] [] := by
    intro n32
    induction n32 with
    | zero => intro P32 v32_3 hm32 I32 X32 hv32_1 hv32_3; omega
    | succ n32 ih32 =>
      intro P32 v32_3 hm32 I32 X32 hv32_1 hv32_3
      have h16564 := X32.at ha0
      refine g_iload_n C dX11_book_32 rfl 2 rfl ?_
      refine g_iconst (v := 4) C dX11_book_33 (by decide) ?_
      refine b_icmp_ge C 53 dX11_book_34 (by decide) (fun h16565 => ?_) (fun h16565 => ?_)
      · have h16565 : 4 ≤ v32_3.toInt := h16565
        refine g_aload_n C dX11_book_53 rfl 0 rfl ?_
        refine g_callVV (rest := []) C mv_X11_94 [] (s_X11_forgetMarks I32 h16564) (h16564).1 (h16564).2 rfl rfl (by decide) (Nat.le_of_ble_eq_true rfl) (by decide) dX11_book_54 (fun Y16567 h16568 => ?_)
        obtain ⟨Iy16569, Xy16570⟩ := h16568
        have Xz16571 : EK [1, 3, 6, 13, 15] P Y16567 := X32.tr (Xy16570.mono (by decide))
        have h16572 := Xy16570.at h16564
        refine g_iconst (v := 1) C dX11_book_57 (by decide) ?_
        exact ret _ _ _ _ _ _ dX11_book_58 rfl (by decide) (by decide) ⟨Iy16569, Xz16571, (by decide), Or.inr (by omega)⟩
      · have h16565 : v32_3.toInt < 4 := h16565
        refine g_aload_n C dX11_book_37 rfl 0 rfl ?_
        obtain ⟨b16573, e16574, h16575⟩ := I32.fld (h16564) 1 19 4 rfl
        refine g_getR C fi_X11_17 rfl e16574 (h16564).1 (h16564).2 dX11_book_38 ?_
        refine g_iload_n C dX11_book_41 rfl 2 rfl ?_
        obtain ⟨b16576, e16577, h16578⟩ := I32.elm h16575 (by decide) (v32_3.toInt.toNat) (by omega)
        refine g_aldR C h16575.1 h16575.2.1 (by decide) (ix_in h16575.2.2 (by omega)) e16577 dX11_book_42 ?_
        refine g_iload_n C dX11_book_43 rfl 1 rfl ?_
        refine g_callVV (rest := []) C mv_X11_91 [.int a1] (s_X6_dropTouching I32 h16578) (h16578).1 (h16578).2 rfl rfl (by decide) (Nat.le_of_ble_eq_true rfl) (by decide) dX11_book_44 (fun Y16580 h16581 => ?_)
        obtain ⟨Iy16582, Xy16583⟩ := h16581
        have Xz16584 : EK [1, 3, 6, 13, 15] P Y16580 := X32.tr (Xy16583.mono (by decide))
        have h16585 := Xy16583.at h16564
        refine s_iinc (lv0 := [(0, .ref a0), (1, .int a1)]) (m := 1) C dX11_book_47 2 rfl (by decide) rfl (by decide) (by omega) (fun z16586 h16587 => ?_)
        have h16587 : z16586.toInt = v32_3.toInt + 1 := h16587
        refine g_goto C 32 dX11_book_50 (by decide) ?_
        refine g_lv (lv' := [(0, .ref a0), (1, .int a1), (3, .int z16586)]) [1, 2, 0] rfl ?_
        exact ih32 Y16580 z16586 (by omega) Iy16582 Xz16584 (by omega) (by omega)
  have J18 : G E ({ frames := 3, cells := 0, slots := 0, locals := 192 } : Room) D cy 4 P 0 0 18 [] [] := by
    refine g_iconst (v := 0) C dX11_book_18 (by decide) ?_
    exact ret _ _ _ _ _ _ dX11_book_19 rfl (by decide) (by decide) ⟨I, EK.rf, (by decide), Or.inl rfl⟩
  refine g_iload_n C dX11_book_0 rfl 1 rfl ?_
  refine g_callSI (b := 0) (ci := 0) (rest := []) C ms_X11_84 [.int a1] (s_X11_isBook I) rfl rfl (by decide) (Nat.le_of_ble_eq_true rfl) (by decide) dX11_book_1 (fun r16588 Y16589 h16590 => ?_)
  obtain ⟨rfl, h16590⟩ := h16590
  obtain ⟨h16590, hi16591⟩ := h16590
  have hi16591 : r16588.toInt = 0 ∨ (((0 : Int) ≤ a1.toInt ∧ a1.toInt ≤ (1 : Int))) := hi16591
  have h16590 : 0 ≤ r16588.toInt ∧ r16588.toInt ≤ 1 := h16590
  refine b_if_eq C 18 dX11_book_4 (by decide) (fun h16592 => ?_) (fun h16592 => ?_)
  · have h16592 : r16588.toInt = 0 := congrArg Int32.toInt h16592
    clear hi16591
    refine g_lv (lv' := []) [] rfl ?_
    exact J18 
  · have h16592 : r16588.toInt ≠ 0 := ti_ne h16592
    replace hi16591 := hi16591.resolve_left (by omega)
    refine g_iload_n C dX11_book_7 rfl 2 rfl ?_
    refine g_iconst (v := 1) C dX11_book_8 (by decide) ?_
    have u16594 := ti_rng a2
    refine b_icmp_lt C 18 dX11_book_9 (by decide) (fun h16593 => ?_) (fun h16593 => ?_)
    · have h16593 : a2.toInt < 1 := h16593
      refine g_lv (lv' := []) [] rfl ?_
      exact J18 
    · have h16593 : 1 ≤ a2.toInt := h16593
      refine g_iload_n C dX11_book_12 rfl 2 rfl ?_
      refine g_bipush (v := 16) C dX11_book_13 (by decide) ?_
      have u16596 := ti_rng a2
      refine b_icmp_le C 20 dX11_book_15 (by decide) (fun h16595 => ?_) (fun h16595 => ?_)
      · have h16595 : a2.toInt ≤ 16 := h16595
        refine g_aload_n C dX11_book_20 rfl 0 rfl ?_
        obtain ⟨b16597, e16598, h16599⟩ := I.fld (ha0) 0 17 2 rfl
        refine g_getR C fi_X11_11 rfl e16598 (ha0).1 (ha0).2 dX11_book_21 ?_
        refine g_iload_n C dX11_book_24 rfl 1 rfl ?_
        obtain ⟨b16600, e16601, h16602⟩ := I.elm h16599 (by decide) (a1.toInt.toNat) (by omega)
        refine g_aldR C h16599.1 h16599.2.1 (by decide) (ix_in h16599.2.2 (by omega)) e16601 dX11_book_25 ?_
        refine g_iload_n C dX11_book_26 rfl 2 rfl ?_
        refine g_callVV (rest := []) C mv_X11_88 [.int a2] (s_X1_tell I h16602 (by omega)) (h16602).1 (h16602).2 rfl rfl (by decide) (Nat.le_of_ble_eq_true rfl) (by decide) dX11_book_27 (fun Y16604 h16605 => ?_)
        obtain ⟨Iy16606, Xy16607⟩ := h16605
        have Xz16608 : EK [1, 3, 6, 13, 15] P Y16604 := Xy16607.mono (by decide)
        have h16609 := Xy16607.at ha0
        refine g_iconst (v := 0) C dX11_book_30 (by decide) ?_
        refine g_istore_n (lv' := [(3, .int 0), (0, .ref a0), (1, .int a1), (2, .int a2)]) C dX11_book_31 rfl (by decide) rfl ?_
        refine g_lv (lv' := [(0, .ref a0), (1, .int a1), (3, .int 0)]) [1, 2, 0] rfl ?_
        exact J32 _ Y16604 0 (Nat.lt_succ_self _) Iy16606 Xz16608 (by omega) (by decide)
      · have h16595 : 16 < a2.toInt := h16595
        refine g_lv (lv' := []) [] rfl ?_
        exact J18 
theorem dX11_chances_0 : decode cX11_chances 0 = .ok (.aload_n 0, 1) := by decide +kernel
theorem dX11_chances_1 : decode cX11_chances 1 = .ok (.iload_n 1, 1) := by decide +kernel
theorem dX11_chances_2 : decode cX11_chances 2 = .ok (.invokevirtual 97, 3) := by decide +kernel
theorem dX11_chances_5 : decode cX11_chances 5 = .ok (.ifCond .eq 19, 3) := by decide +kernel
theorem dX11_chances_8 : decode cX11_chances 8 = .ok (.iload_n 2, 1) := by decide +kernel
theorem dX11_chances_9 : decode cX11_chances 9 = .ok (.iload_n 3, 1) := by decide +kernel
theorem dX11_chances_10 : decode cX11_chances 10 = .ok (.invokestatic 289, 3) := by decide +kernel
theorem dX11_chances_13 : decode cX11_chances 13 = .ok (.ifCond .eq 11, 3) := by decide +kernel
theorem dX11_chances_16 : decode cX11_chances 16 = .ok (.iload 4, 2) := by decide +kernel
theorem dX11_chances_18 : decode cX11_chances 18 = .ok (.invokestatic 249, 3) := by decide +kernel
theorem dX11_chances_21 : decode cX11_chances 21 = .ok (.ifCond .ne 5, 3) := by decide +kernel
theorem dX11_chances_24 : decode cX11_chances 24 = .ok (.iconst (-1), 1) := by decide +kernel
theorem dX11_chances_25 : decode cX11_chances 25 = .ok (.ireturn, 1) := by decide +kernel
theorem dX11_chances_26 : decode cX11_chances 26 = .ok (.aload_n 0, 1) := by decide +kernel
theorem dX11_chances_27 : decode cX11_chances 27 = .ok (.getfield 60, 3) := by decide +kernel
theorem dX11_chances_30 : decode cX11_chances 30 = .ok (.aload_n 0, 1) := by decide +kernel
theorem dX11_chances_31 : decode cX11_chances 31 = .ok (.getfield 11, 3) := by decide +kernel
theorem dX11_chances_34 : decode cX11_chances 34 = .ok (.iload_n 1, 1) := by decide +kernel
theorem dX11_chances_35 : decode cX11_chances 35 = .ok (.aaload, 1) := by decide +kernel
theorem dX11_chances_36 : decode cX11_chances 36 = .ok (.iload_n 2, 1) := by decide +kernel
theorem dX11_chances_37 : decode cX11_chances 37 = .ok (.iload 4, 2) := by decide +kernel
theorem dX11_chances_39 : decode cX11_chances 39 = .ok (.iconst 0, 1) := by decide +kernel
theorem dX11_chances_40 : decode cX11_chances 40 = .ok (.invokevirtual 292, 3) := by decide +kernel
theorem dX11_chances_43 : decode cX11_chances 43 = .ok (.aload_n 0, 1) := by decide +kernel
theorem dX11_chances_44 : decode cX11_chances 44 = .ok (.getfield 60, 3) := by decide +kernel
theorem dX11_chances_47 : decode cX11_chances 47 = .ok (.getfield 296, 3) := by decide +kernel
theorem dX11_chances_50 : decode cX11_chances 50 = .ok (.iload_n 3, 1) := by decide +kernel
theorem dX11_chances_51 : decode cX11_chances 51 = .ok (.iaload, 1) := by decide +kernel
theorem dX11_chances_52 : decode cX11_chances 52 = .ok (.ireturn, 1) := by decide +kernel
set_option maxHeartbeats 4000000 in
set_option maxRecDepth 100000 in
theorem s_X11_chances {P : PP} {a0 : Nat} {a1 : Int32} {a2 : Int32} {a3 : Int32} {a4 : Int32} (I : IV P) (ha0 : At P a0 11) : CtrI yX11_chances cX11_chances 5 (some Jvm.ClassFile.FieldType.int) ({ frames := 16, cells := 0, slots := 0, locals := 1024 } : Room) 0 0 P [.ref a0, .int a1, .int a2, .int a3, .int a4] (fun r P2 => IV P2 ∧ EK [0, 1, 5, 8, 13] P P2 ∧ (True)) := by
  refine enI (lv := [(0, .ref a0), (1, .int a1), (2, .int a2), (3, .int a3), (4, .int a4)]) (by decide) (Nat.le_of_ble_eq_true rfl) rfl (fun E D cy C Ci0 ret => ?_)
  have J24 : G E ({ frames := 16, cells := 0, slots := 0, locals := 1024 } : Room) D cy 5 P 0 0 24 [] [] := by
    refine g_iconst (v := (-1)) C dX11_chances_24 (by decide) ?_
    exact ret _ _ _ _ _ _ dX11_chances_25 rfl (by decide) (by decide) ⟨I, EK.rf, trivial⟩
  refine g_aload_n C dX11_chances_0 rfl 0 rfl ?_
  refine g_iload_n C dX11_chances_1 rfl 1 rfl ?_
  refine g_callVI (rest := []) C mv_X11_97 [.int a1] (s_X11_isTold I ha0) (ha0).1 (ha0).2 rfl rfl (by decide) (Nat.le_of_ble_eq_true rfl) (by decide) dX11_chances_2 (fun r16647 Y16648 h16649 => ?_)
  obtain ⟨rfl, h16649⟩ := h16649
  obtain ⟨h16649, hi16650⟩ := h16649
  have hi16650 : r16647.toInt = 0 ∨ (((0 : Int) ≤ a1.toInt ∧ a1.toInt ≤ (1 : Int))) := hi16650
  have h16649 : 0 ≤ r16647.toInt ∧ r16647.toInt ≤ 1 := h16649
  refine b_if_eq C 24 dX11_chances_5 (by decide) (fun h16651 => ?_) (fun h16651 => ?_)
  · have h16651 : r16647.toInt = 0 := congrArg Int32.toInt h16651
    clear hi16650
    refine g_lv (lv' := []) [] rfl ?_
    exact J24 
  · have h16651 : r16647.toInt ≠ 0 := ti_ne h16651
    replace hi16650 := hi16650.resolve_left (by omega)
    refine g_iload_n C dX11_chances_8 rfl 2 rfl ?_
    refine g_iload_n C dX11_chances_9 rfl 3 rfl ?_
    refine g_callSI (b := 0) (ci := 0) (rest := []) C ms_X11_289 [.int a2, .int a3] (s_X11_isSetSize I) rfl rfl (by decide) (Nat.le_of_ble_eq_true rfl) (by decide) dX11_chances_10 (fun r16652 Y16653 h16654 => ?_)
    obtain ⟨rfl, h16654⟩ := h16654
    obtain ⟨h16654, hi16655⟩ := h16654
    have hi16655 : r16652.toInt = 0 ∨ (((1 : Int) ≤ a2.toInt ∧ a2.toInt ≤ (11 : Int)) ∧ ((0 : Int) ≤ a3.toInt ∧ a3.toInt ≤ (11 : Int))) := hi16655
    have h16654 : 0 ≤ r16652.toInt ∧ r16652.toInt ≤ 1 := h16654
    refine b_if_eq C 24 dX11_chances_13 (by decide) (fun h16656 => ?_) (fun h16656 => ?_)
    · have h16656 : r16652.toInt = 0 := congrArg Int32.toInt h16656
      clear hi16655
      refine g_lv (lv' := []) [] rfl ?_
      exact J24 
    · have h16656 : r16652.toInt ≠ 0 := ti_ne h16656
      replace hi16655 := hi16655.resolve_left (by omega)
      refine g_iload C dX11_chances_16 4 rfl ?_
      refine g_callSI (b := 0) (ci := 0) (rest := []) C ms_X11_249 [.int a4] (s_X11_isHow I) rfl rfl (by decide) (Nat.le_of_ble_eq_true rfl) (by decide) dX11_chances_18 (fun r16657 Y16658 h16659 => ?_)
      obtain ⟨rfl, h16659⟩ := h16659
      have h16659 : 0 ≤ r16657.toInt ∧ r16657.toInt ≤ 1 := h16659
      refine b_if_ne C 26 dX11_chances_21 (by decide) (fun h16660 => ?_) (fun h16660 => ?_)
      · have h16660 : r16657.toInt ≠ 0 := ti_ne h16660
        refine g_aload_n C dX11_chances_26 rfl 0 rfl ?_
        obtain ⟨b16661, e16662, h16663⟩ := I.fld (ha0) 10 8 0 rfl
        refine g_getR C fi_X11_60 rfl e16662 (ha0).1 (ha0).2 dX11_chances_27 ?_
        refine g_aload_n C dX11_chances_30 rfl 0 rfl ?_
        obtain ⟨b16664, e16665, h16666⟩ := I.fld (ha0) 0 17 2 rfl
        refine g_getR C fi_X11_11 rfl e16665 (ha0).1 (ha0).2 dX11_chances_31 ?_
        refine g_iload_n C dX11_chances_34 rfl 1 rfl ?_
        obtain ⟨b16667, e16668, h16669⟩ := I.elm h16666 (by decide) (a1.toInt.toNat) (by omega)
        refine g_aldR C h16666.1 h16666.2.1 (by decide) (ix_in h16666.2.2 (by omega)) e16668 dX11_chances_35 ?_
        refine g_iload_n C dX11_chances_36 rfl 2 rfl ?_
        refine g_iload C dX11_chances_37 4 rfl ?_
        refine g_iconst (v := 0) C dX11_chances_39 (by decide) ?_
        refine g_callVV (rest := []) C mv_X11_292 [.ref b16667, .int a2, .int a4, .int 0] (s_X8_tally I h16663.at h16669 (by omega) (by decide)) (h16663.at).1 (h16663.at).2 rfl rfl (by decide) (Nat.le_of_ble_eq_true rfl) (by decide) dX11_chances_40 (fun Y16671 h16672 => ?_)
        obtain ⟨Iy16673, Xy16674⟩ := h16672
        have Xz16675 : EK [0, 1, 5, 8, 13] P Y16671 := Xy16674.mono (by decide)
        have h16676 := Xy16674.at ha0
        refine g_aload_n C dX11_chances_43 rfl 0 rfl ?_
        obtain ⟨b16677, e16678, h16679⟩ := Iy16673.fld (h16676) 10 8 0 rfl
        refine g_getR C fi_X11_60 rfl e16678 (h16676).1 (h16676).2 dX11_chances_44 ?_
        obtain ⟨b16680, e16681, h16682⟩ := Iy16673.fld (h16679.at) 0 13 12 rfl
        refine g_getR C fi_X11_296 rfl e16681 (h16679.at).1 (h16679.at).2 dX11_chances_47 ?_
        refine g_iload_n C dX11_chances_50 rfl 3 rfl ?_
        refine g_iald (j := (a3.toInt.toNat)) C h16682.1 h16682.2.1 (ix_in h16682.2.2 (by omega)) dX11_chances_51 ?_
        refine g_topi (fun z16683 _ => ?_)
        exact ret _ _ _ _ _ _ dX11_chances_52 rfl (by decide) (by decide) ⟨Iy16673, Xz16675, trivial⟩
      · have h16660 : r16657.toInt = 0 := congrArg Int32.toInt h16660
        refine g_lv (lv' := []) [] rfl ?_
        exact J24 
theorem dX11_comes_0 : decode cX11_comes 0 = .ok (.iload_n 1, 1) := by decide +kernel
theorem dX11_comes_1 : decode cX11_comes 1 = .ok (.invokestatic 158, 3) := by decide +kernel
theorem dX11_comes_4 : decode cX11_comes 4 = .ok (.ifCond .eq 24, 3) := by decide +kernel
theorem dX11_comes_7 : decode cX11_comes 7 = .ok (.aload_n 0, 1) := by decide +kernel
theorem dX11_comes_8 : decode cX11_comes 8 = .ok (.iload_n 2, 1) := by decide +kernel
theorem dX11_comes_9 : decode cX11_comes 9 = .ok (.iload_n 3, 1) := by decide +kernel
theorem dX11_comes_10 : decode cX11_comes 10 = .ok (.invokevirtual 136, 3) := by decide +kernel
theorem dX11_isLeaflet_0 : decode cX11_isLeaflet 0 = .ok (.aload_n 0, 1) := by decide +kernel
theorem dX11_isLeaflet_1 : decode cX11_isLeaflet 1 = .ok (.iload_n 1, 1) := by decide +kernel
theorem dX11_isLeaflet_2 : decode cX11_isLeaflet 2 = .ok (.invokevirtual 97, 3) := by decide +kernel
theorem dX11_isLeaflet_5 : decode cX11_isLeaflet 5 = .ok (.ifCond .eq 14, 3) := by decide +kernel
theorem dX11_isLeaflet_8 : decode cX11_isLeaflet 8 = .ok (.iload_n 2, 1) := by decide +kernel
theorem dX11_isLeaflet_9 : decode cX11_isLeaflet 9 = .ok (.invokestatic 173, 3) := by decide +kernel
theorem dX11_isNumber_0 : decode cX11_isNumber 0 = .ok (.iload_n 0, 1) := by decide +kernel
theorem dX11_isNumber_1 : decode cX11_isNumber 1 = .ok (.ifCond .lt 14, 3) := by decide +kernel
theorem dX11_isNumber_4 : decode cX11_isNumber 4 = .ok (.iload_n 0, 1) := by decide +kernel
theorem dX11_isNumber_5 : decode cX11_isNumber 5 = .ok (.sipush 9999, 3) := by decide +kernel
theorem dX11_isNumber_8 : decode cX11_isNumber 8 = .ok (.if_icmp .gt 7, 3) := by decide +kernel
theorem dX11_isNumber_11 : decode cX11_isNumber 11 = .ok (.iconst 1, 1) := by decide +kernel
theorem dX11_isNumber_12 : decode cX11_isNumber 12 = .ok (.goto 4, 3) := by decide +kernel
theorem dX11_isNumber_15 : decode cX11_isNumber 15 = .ok (.iconst 0, 1) := by decide +kernel
theorem dX11_isNumber_16 : decode cX11_isNumber 16 = .ok (.ireturn, 1) := by decide +kernel
set_option maxHeartbeats 4000000 in
set_option maxRecDepth 100000 in
theorem s_X11_isNumber {P : PP} {a0 : Int32} (I : IV P) : CtrI yX11_isNumber cX11_isNumber 1 (some Jvm.ClassFile.FieldType.boolean) ({ frames := 1, cells := 0, slots := 0, locals := 64 } : Room) 0 0 P [.int a0] (fun r P2 => P = P2 ∧ (0 ≤ r.toInt ∧ r.toInt ≤ 1) ∧ (r.toInt = 0 ∨ (((0 : Int) ≤ a0.toInt ∧ a0.toInt ≤ (9999 : Int))))) := by
  refine enI (lv := [(0, .int a0)]) (by decide) (Nat.le_of_ble_eq_true rfl) rfl (fun E D cy C Ci0 ret => ?_)
  have J15 : G E ({ frames := 1, cells := 0, slots := 0, locals := 64 } : Room) D cy 1 P 0 0 15 [] [] := by
    refine g_iconst (v := 0) C dX11_isNumber_15 (by decide) ?_
    exact ret _ _ _ _ _ _ dX11_isNumber_16 rfl (by decide) (by decide) ⟨rfl, (by decide), Or.inl rfl⟩
  refine g_iload_n C dX11_isNumber_0 rfl 0 rfl ?_
  have u16699 := ti_rng a0
  refine b_if_lt C 15 dX11_isNumber_1 (by decide) (fun h16698 => ?_) (fun h16698 => ?_)
  · have h16698 : a0.toInt < 0 := h16698
    refine g_lv (lv' := []) [] rfl ?_
    exact J15 
  · have h16698 : 0 ≤ a0.toInt := h16698
    refine g_iload_n C dX11_isNumber_4 rfl 0 rfl ?_
    refine g_sipush (v := 9999) C dX11_isNumber_5 (by decide) ?_
    have u16701 := ti_rng a0
    refine b_icmp_gt C 15 dX11_isNumber_8 (by decide) (fun h16700 => ?_) (fun h16700 => ?_)
    · have h16700 : 9999 < a0.toInt := h16700
      refine g_lv (lv' := []) [] rfl ?_
      exact J15 
    · have h16700 : a0.toInt ≤ 9999 := h16700
      refine g_iconst (v := 1) C dX11_isNumber_11 (by decide) ?_
      refine g_goto C 16 dX11_isNumber_12 (by decide) ?_
      exact ret _ _ _ _ _ _ dX11_isNumber_16 rfl (by decide) (by decide) ⟨rfl, (by decide), Or.inr (by omega)⟩
theorem dX11_isLeaflet_12 : decode cX11_isLeaflet 12 = .ok (.ifCond .eq 7, 3) := by decide +kernel
theorem dX11_isLeaflet_15 : decode cX11_isLeaflet 15 = .ok (.iconst 1, 1) := by decide +kernel
theorem dX11_isLeaflet_16 : decode cX11_isLeaflet 16 = .ok (.goto 4, 3) := by decide +kernel
theorem dX11_isLeaflet_19 : decode cX11_isLeaflet 19 = .ok (.iconst 0, 1) := by decide +kernel
theorem dX11_isLeaflet_20 : decode cX11_isLeaflet 20 = .ok (.ireturn, 1) := by decide +kernel
set_option maxHeartbeats 4000000 in
set_option maxRecDepth 100000 in
theorem s_X11_isLeaflet {P : PP} {a0 : Nat} {a1 : Int32} {a2 : Int32} (I : IV P) (ha0 : At P a0 11) : CtrI yX11_isLeaflet cX11_isLeaflet 3 (some Jvm.ClassFile.FieldType.boolean) ({ frames := 3, cells := 0, slots := 0, locals := 192 } : Room) 0 0 P [.ref a0, .int a1, .int a2] (fun r P2 => P = P2 ∧ (0 ≤ r.toInt ∧ r.toInt ≤ 1) ∧ (r.toInt = 0 ∨ (((0 : Int) ≤ a1.toInt ∧ a1.toInt ≤ (1 : Int)) ∧ ((0 : Int) ≤ a2.toInt ∧ a2.toInt ≤ (9999 : Int))))) := by
  refine enI (lv := [(0, .ref a0), (1, .int a1), (2, .int a2)]) (by decide) (Nat.le_of_ble_eq_true rfl) rfl (fun E D cy C Ci0 ret => ?_)
  have J19 : G E ({ frames := 3, cells := 0, slots := 0, locals := 192 } : Room) D cy 3 P 0 0 19 [] [] := by
    refine g_iconst (v := 0) C dX11_isLeaflet_19 (by decide) ?_
    exact ret _ _ _ _ _ _ dX11_isLeaflet_20 rfl (by decide) (by decide) ⟨rfl, (by decide), Or.inl rfl⟩
  refine g_aload_n C dX11_isLeaflet_0 rfl 0 rfl ?_
  refine g_iload_n C dX11_isLeaflet_1 rfl 1 rfl ?_
  refine g_callVI (rest := []) C mv_X11_97 [.int a1] (s_X11_isTold I ha0) (ha0).1 (ha0).2 rfl rfl (by decide) (Nat.le_of_ble_eq_true rfl) (by decide) dX11_isLeaflet_2 (fun r16712 Y16713 h16714 => ?_)
  obtain ⟨rfl, h16714⟩ := h16714
  obtain ⟨h16714, hi16715⟩ := h16714
  have hi16715 : r16712.toInt = 0 ∨ (((0 : Int) ≤ a1.toInt ∧ a1.toInt ≤ (1 : Int))) := hi16715
  have h16714 : 0 ≤ r16712.toInt ∧ r16712.toInt ≤ 1 := h16714
  refine b_if_eq C 19 dX11_isLeaflet_5 (by decide) (fun h16716 => ?_) (fun h16716 => ?_)
  · have h16716 : r16712.toInt = 0 := congrArg Int32.toInt h16716
    clear hi16715
    refine g_lv (lv' := []) [] rfl ?_
    exact J19 
  · have h16716 : r16712.toInt ≠ 0 := ti_ne h16716
    replace hi16715 := hi16715.resolve_left (by omega)
    refine g_iload_n C dX11_isLeaflet_8 rfl 2 rfl ?_
    refine g_callSI (b := 0) (ci := 0) (rest := []) C ms_X11_173 [.int a2] (s_X11_isNumber I) rfl rfl (by decide) (Nat.le_of_ble_eq_true rfl) (by decide) dX11_isLeaflet_9 (fun r16717 Y16718 h16719 => ?_)
    obtain ⟨rfl, h16719⟩ := h16719
    obtain ⟨h16719, hi16720⟩ := h16719
    have hi16720 : r16717.toInt = 0 ∨ (((0 : Int) ≤ a2.toInt ∧ a2.toInt ≤ (9999 : Int))) := hi16720
    have h16719 : 0 ≤ r16717.toInt ∧ r16717.toInt ≤ 1 := h16719
    refine b_if_eq C 19 dX11_isLeaflet_12 (by decide) (fun h16721 => ?_) (fun h16721 => ?_)
    · have h16721 : r16717.toInt = 0 := congrArg Int32.toInt h16721
      clear hi16720
      refine g_lv (lv' := []) [] rfl ?_
      exact J19 
    · have h16721 : r16717.toInt ≠ 0 := ti_ne h16721
      replace hi16720 := hi16720.resolve_left (by omega)
      refine g_iconst (v := 1) C dX11_isLeaflet_15 (by decide) ?_
      refine g_goto C 20 dX11_isLeaflet_16 (by decide) ?_
      exact ret _ _ _ _ _ _ dX11_isLeaflet_20 rfl (by decide) (by decide) ⟨rfl, (by decide), Or.inr (by omega)⟩
theorem dX11_comes_13 : decode cX11_comes 13 = .ok (.ifCond .eq 15, 3) := by decide +kernel
theorem dX11_comes_16 : decode cX11_comes 16 = .ok (.iload 4, 2) := by decide +kernel
theorem dX11_comes_18 : decode cX11_comes 18 = .ok (.iconst 1, 1) := by decide +kernel
theorem dX11_comes_19 : decode cX11_comes 19 = .ok (.if_icmp .lt 9, 3) := by decide +kernel
theorem dX11_comes_22 : decode cX11_comes 22 = .ok (.iload 4, 2) := by decide +kernel
theorem dX11_comes_24 : decode cX11_comes 24 = .ok (.iconst 3, 1) := by decide +kernel
theorem dX11_comes_25 : decode cX11_comes 25 = .ok (.if_icmp .le 5, 3) := by decide +kernel
theorem dX11_comes_30 : decode cX11_comes 30 = .ok (.aload_n 0, 1) := by decide +kernel
theorem dX11_comes_31 : decode cX11_comes 31 = .ok (.getfield 17, 3) := by decide +kernel
theorem dX11_comes_34 : decode cX11_comes 34 = .ok (.iload_n 1, 1) := by decide +kernel
theorem dX11_comes_35 : decode cX11_comes 35 = .ok (.aaload, 1) := by decide +kernel
theorem dX11_comes_36 : decode cX11_comes 36 = .ok (.aload_n 0, 1) := by decide +kernel
theorem dX11_comes_37 : decode cX11_comes 37 = .ok (.getfield 11, 3) := by decide +kernel
theorem dX11_comes_40 : decode cX11_comes 40 = .ok (.iload_n 2, 1) := by decide +kernel
theorem dX11_comes_41 : decode cX11_comes 41 = .ok (.aaload, 1) := by decide +kernel
theorem dX11_comes_42 : decode cX11_comes 42 = .ok (.iload_n 3, 1) := by decide +kernel
theorem dX11_comes_43 : decode cX11_comes 43 = .ok (.iload 4, 2) := by decide +kernel
theorem dX11_comes_45 : decode cX11_comes 45 = .ok (.invokevirtual 161, 3) := by decide +kernel
theorem dX1_leafletPaper_0 : decode cX1_leafletPaper 0 = .ok (.aload_n 0, 1) := by decide +kernel
theorem dX1_leafletPaper_1 : decode cX1_leafletPaper 1 = .ok (.iload_n 1, 1) := by decide +kernel
theorem dX1_leafletPaper_2 : decode cX1_leafletPaper 2 = .ok (.invokevirtual 98, 3) := by decide +kernel
theorem dX1_leafletPaper_5 : decode cX1_leafletPaper 5 = .ok (.istore_n 3, 1) := by decide +kernel
theorem dX1_leafletPaper_6 : decode cX1_leafletPaper 6 = .ok (.aload_n 0, 1) := by decide +kernel
theorem dX1_leafletPaper_7 : decode cX1_leafletPaper 7 = .ok (.iload_n 3, 1) := by decide +kernel
theorem dX1_leafletPaper_8 : decode cX1_leafletPaper 8 = .ok (.invokevirtual 101, 3) := by decide +kernel
theorem dX1_sumOf_0 : decode cX1_sumOf 0 = .ok (.aload_n 0, 1) := by decide +kernel
theorem dX1_sumOf_1 : decode cX1_sumOf 1 = .ok (.iload_n 1, 1) := by decide +kernel
theorem dX1_sumOf_2 : decode cX1_sumOf 2 = .ok (.invokevirtual 56, 3) := by decide +kernel
theorem dX1_withoutHidden_0 : decode cX1_withoutHidden 0 = .ok (.iload_n 1, 1) := by decide +kernel
theorem dX1_withoutHidden_1 : decode cX1_withoutHidden 1 = .ok (.iconst 1, 1) := by decide +kernel
theorem dX1_withoutHidden_2 : decode cX1_withoutHidden 2 = .ok (.aload_n 0, 1) := by decide +kernel
theorem dX1_withoutHidden_3 : decode cX1_withoutHidden 3 = .ok (.getfield 33, 3) := by decide +kernel
theorem dX1_withoutHidden_6 : decode cX1_withoutHidden 6 = .ok (.ishl, 1) := by decide +kernel
theorem dX1_withoutHidden_7 : decode cX1_withoutHidden 7 = .ok (.iconst 1, 1) := by decide +kernel
theorem dX1_withoutHidden_8 : decode cX1_withoutHidden 8 = .ok (.isub, 1) := by decide +kernel
theorem dX1_withoutHidden_9 : decode cX1_withoutHidden 9 = .ok (.iand, 1) := by decide +kernel
theorem dX1_withoutHidden_10 : decode cX1_withoutHidden 10 = .ok (.istore_n 2, 1) := by decide +kernel
theorem dX1_withoutHidden_11 : decode cX1_withoutHidden 11 = .ok (.iconst 0, 1) := by decide +kernel
theorem dX1_withoutHidden_12 : decode cX1_withoutHidden 12 = .ok (.istore_n 3, 1) := by decide +kernel
theorem dX1_withoutHidden_13 : decode cX1_withoutHidden 13 = .ok (.iload_n 3, 1) := by decide +kernel
theorem dX1_withoutHidden_14 : decode cX1_withoutHidden 14 = .ok (.aload_n 0, 1) := by decide +kernel
theorem dX1_withoutHidden_15 : decode cX1_withoutHidden 15 = .ok (.getfield 18, 3) := by decide +kernel
theorem dX1_withoutHidden_18 : decode cX1_withoutHidden 18 = .ok (.getfield 46, 3) := by decide +kernel
theorem dX1_withoutHidden_21 : decode cX1_withoutHidden 21 = .ok (.if_icmp .ge 34, 3) := by decide +kernel
theorem dX1_withoutHidden_24 : decode cX1_withoutHidden 24 = .ok (.iload_n 1, 1) := by decide +kernel
theorem dX1_withoutHidden_25 : decode cX1_withoutHidden 25 = .ok (.aload_n 0, 1) := by decide +kernel
theorem dX1_withoutHidden_26 : decode cX1_withoutHidden 26 = .ok (.getfield 33, 3) := by decide +kernel
theorem dX1_withoutHidden_29 : decode cX1_withoutHidden 29 = .ok (.iload_n 3, 1) := by decide +kernel
theorem dX1_withoutHidden_30 : decode cX1_withoutHidden 30 = .ok (.iadd, 1) := by decide +kernel
theorem dX1_withoutHidden_31 : decode cX1_withoutHidden 31 = .ok (.ishr, 1) := by decide +kernel
theorem dX1_withoutHidden_32 : decode cX1_withoutHidden 32 = .ok (.iconst 1, 1) := by decide +kernel
theorem dX1_withoutHidden_33 : decode cX1_withoutHidden 33 = .ok (.iand, 1) := by decide +kernel
theorem dX1_withoutHidden_34 : decode cX1_withoutHidden 34 = .ok (.ifCond .eq 15, 3) := by decide +kernel
theorem dX1_withoutHidden_37 : decode cX1_withoutHidden 37 = .ok (.iload_n 2, 1) := by decide +kernel
theorem dX1_withoutHidden_38 : decode cX1_withoutHidden 38 = .ok (.aload_n 0, 1) := by decide +kernel
theorem dX1_withoutHidden_39 : decode cX1_withoutHidden 39 = .ok (.getfield 18, 3) := by decide +kernel
theorem dX1_withoutHidden_42 : decode cX1_withoutHidden 42 = .ok (.getfield 53, 3) := by decide +kernel
theorem dX1_withoutHidden_45 : decode cX1_withoutHidden 45 = .ok (.iload_n 3, 1) := by decide +kernel
theorem dX1_withoutHidden_46 : decode cX1_withoutHidden 46 = .ok (.iaload, 1) := by decide +kernel
theorem dX1_withoutHidden_47 : decode cX1_withoutHidden 47 = .ok (.ixor, 1) := by decide +kernel
theorem dX1_withoutHidden_48 : decode cX1_withoutHidden 48 = .ok (.istore_n 2, 1) := by decide +kernel
theorem dX1_withoutHidden_49 : decode cX1_withoutHidden 49 = .ok (.iinc 3 1, 3) := by decide +kernel
theorem dX1_withoutHidden_52 : decode cX1_withoutHidden 52 = .ok (.goto (-39), 3) := by decide +kernel
theorem dX1_withoutHidden_55 : decode cX1_withoutHidden 55 = .ok (.iload_n 2, 1) := by decide +kernel
theorem dX1_withoutHidden_56 : decode cX1_withoutHidden 56 = .ok (.ireturn, 1) := by decide +kernel
set_option maxHeartbeats 4000000 in
set_option maxRecDepth 100000 in
theorem s_X1_withoutHidden {P : PP} {a0 : Nat} {a1 : Int32} (I : IV P) (ha0 : At P a0 1) : CtrI yX1_withoutHidden cX1_withoutHidden 4 (some Jvm.ClassFile.FieldType.int) ({ frames := 1, cells := 0, slots := 0, locals := 64 } : Room) 0 0 P [.ref a0, .int a1] (fun r P2 => P = P2 ∧ (True)) := by
  refine enI (lv := [(0, .ref a0), (1, .int a1)]) (by decide) (Nat.le_of_ble_eq_true rfl) rfl (fun E D cy C Ci0 ret => ?_)
  have J13 : ∀ (n13 : Nat) (v13_2 : Int32) (v13_3 : Int32), (4 - v13_3.toInt).toNat < n13 → (0 ≤ v13_3.toInt ∧ v13_3.toInt ≤ 4) → G E ({ frames := 1, cells := 0, slots := 0, locals := 64 } : Room) D cy 4 P 0 0 13 [(0, .ref a0), (1, .int a1), (2, .int v13_2), (3, .int v13_3)] [] := by
    intro n13
    induction n13 with
    | zero => intro v13_2 v13_3 hm13 hv13_3; omega
    | succ n13 ih13 =>
      intro v13_2 v13_3 hm13 hv13_3
      have J49 : ∀ (v49_2 : Int32), (0 ≤ v13_3.toInt ∧ v13_3.toInt ≤ 3) → (∀ b, pR P a0 2 = some b → 1 ≤ (pI P b 2).toInt ∧ (pI P b 2).toInt ≤ 4) → G E ({ frames := 1, cells := 0, slots := 0, locals := 64 } : Room) D cy 4 P 0 0 49 [(0, .ref a0), (1, .int a1), (2, .int v49_2), (3, .int v13_3)] [] := by
        intro v49_2 hv49_3 hq49_0
        obtain ⟨b16877, e16878, h16879⟩ := I.fld (ha0) 2 3 0 rfl
        have hq49_0 := hq49_0 b16877 e16878
        refine s_iinc (lv0 := [(0, .ref a0), (1, .int a1), (2, .int v49_2)]) (m := 1) C dX1_withoutHidden_49 3 rfl (by decide) rfl (by decide) (by omega) (fun z16880 h16881 => ?_)
        have h16881 : z16880.toInt = v13_3.toInt + 1 := h16881
        refine g_goto C 13 dX1_withoutHidden_52 (by decide) ?_
        refine g_lv (lv' := [(0, .ref a0), (1, .int a1), (2, .int v49_2), (3, .int z16880)]) [1, 2, 3, 0] rfl ?_
        exact ih13 v49_2 z16880 (by omega) (by omega)
      refine g_iload_n C dX1_withoutHidden_13 rfl 3 rfl ?_
      refine g_aload_n C dX1_withoutHidden_14 rfl 0 rfl ?_
      obtain ⟨b16882, e16883, h16884⟩ := I.fld (ha0) 2 3 0 rfl
      refine g_getR C fi_X1_18 rfl e16883 (ha0).1 (ha0).2 dX1_withoutHidden_15 ?_
      refine g_getI C fi_X1_46 (by decide) (h16884.at).1 (h16884.at).2 dX1_withoutHidden_18 ?_
      have h16885 := I.rg (h16884.at) 2 rfl
      refine b_icmp_ge C 55 dX1_withoutHidden_21 (by decide) (fun h16886 => ?_) (fun h16886 => ?_)
      · have h16886 : (pI P b16882 2).toInt ≤ v13_3.toInt := h16886
        refine g_iload_n C dX1_withoutHidden_55 rfl 2 rfl ?_
        exact ret _ _ _ _ _ _ dX1_withoutHidden_56 rfl (by decide) (by decide) ⟨rfl, trivial⟩
      · have h16886 : v13_3.toInt < (pI P b16882 2).toInt := h16886
        refine g_iload_n C dX1_withoutHidden_24 rfl 1 rfl ?_
        refine g_aload_n C dX1_withoutHidden_25 rfl 0 rfl ?_
        refine g_getI C fi_X1_33 (by decide) (ha0).1 (ha0).2 dX1_withoutHidden_26 ?_
        have h16887 := I.rg (ha0) 5 rfl
        refine g_iload_n C dX1_withoutHidden_29 rfl 3 rfl ?_
        refine s_iadd C dX1_withoutHidden_30 (by show -2147483648 ≤ (pI P a0 5).toInt + v13_3.toInt ∧ (pI P a0 5).toInt + v13_3.toInt ≤ 2147483647; omega) (fun z16888 h16889 => ?_)
        have h16889 : z16888.toInt = (pI P a0 5).toInt + v13_3.toInt := h16889
        refine a_ishr C dX1_withoutHidden_31 (fun z16890 => ?_)
        refine g_iconst (v := 1) C dX1_withoutHidden_32 (by decide) ?_
        refine s_iand C dX1_withoutHidden_33 (by show 0 ≤ 1; omega) (fun z16892 h16893 => ?_)
        have h16893 : 0 ≤ z16892.toInt ∧ z16892.toInt ≤ 1 := h16893
        refine b_if_eq C 49 dX1_withoutHidden_34 (by decide) (fun h16894 => ?_) (fun h16894 => ?_)
        · have h16894 : z16892.toInt = 0 := congrArg Int32.toInt h16894
          exact J49 v13_2 (by omega) (fun b9 e9 => by rw [e16883] at e9; cases e9; omega)
        · have h16894 : z16892.toInt ≠ 0 := ti_ne h16894
          refine g_iload_n C dX1_withoutHidden_37 rfl 2 rfl ?_
          refine g_aload_n C dX1_withoutHidden_38 rfl 0 rfl ?_
          refine g_getR C fi_X1_18 rfl e16883 (ha0).1 (ha0).2 dX1_withoutHidden_39 ?_
          obtain ⟨b16895, e16896, h16897⟩ := I.fld (h16884.at) 1 13 4 rfl
          refine g_getR C fi_X1_53 rfl e16896 (h16884.at).1 (h16884.at).2 dX1_withoutHidden_42 ?_
          refine g_iload_n C dX1_withoutHidden_45 rfl 3 rfl ?_
          refine g_iald (j := (v13_3.toInt.toNat)) C h16897.1 h16897.2.1 (ix_in h16897.2.2 (by omega)) dX1_withoutHidden_46 ?_
          refine g_topi (fun z16898 _ => ?_)
          refine a_ixor C dX1_withoutHidden_47 (fun z16899 => ?_)
          refine g_istore_n (lv' := [(2, .int z16899), (0, .ref a0), (1, .int a1), (3, .int v13_3)]) C dX1_withoutHidden_48 rfl (by decide) rfl ?_
          refine g_lv (lv' := [(0, .ref a0), (1, .int a1), (2, .int z16899), (3, .int v13_3)]) [1, 2, 0, 3] rfl ?_
          exact J49 z16899 (by omega) (fun b9 e9 => by rw [e16883] at e9; cases e9; omega)
  refine g_iload_n C dX1_withoutHidden_0 rfl 1 rfl ?_
  refine g_iconst (v := 1) C dX1_withoutHidden_1 (by decide) ?_
  refine g_aload_n C dX1_withoutHidden_2 rfl 0 rfl ?_
  refine g_getI C fi_X1_33 (by decide) (ha0).1 (ha0).2 dX1_withoutHidden_3 ?_
  have h16901 := I.rg (ha0) 5 rfl
  refine a_ishl C dX1_withoutHidden_6 (fun z16902 => ?_)
  refine g_iconst (v := 1) C dX1_withoutHidden_7 (by decide) ?_
  refine a_isub C dX1_withoutHidden_8 (fun z16904 => ?_)
  refine a_iand C dX1_withoutHidden_9 (fun z16906 => ?_)
  refine g_istore_n (lv' := [(2, .int z16906), (0, .ref a0), (1, .int a1)]) C dX1_withoutHidden_10 rfl (by decide) rfl ?_
  refine g_iconst (v := 0) C dX1_withoutHidden_11 (by decide) ?_
  refine g_istore_n (lv' := [(3, .int 0), (2, .int z16906), (0, .ref a0), (1, .int a1)]) C dX1_withoutHidden_12 rfl (by decide) rfl ?_
  refine g_lv (lv' := [(0, .ref a0), (1, .int a1), (2, .int z16906), (3, .int 0)]) [2, 3, 1, 0] rfl ?_
  exact J13 _ z16906 0 (Nat.lt_succ_self _) (by decide)
theorem dX1_sumOf_5 : decode cX1_sumOf 5 = .ok (.istore_n 2, 1) := by decide +kernel
theorem dX1_sumOf_6 : decode cX1_sumOf 6 = .ok (.iconst 0, 1) := by decide +kernel
theorem dX1_sumOf_7 : decode cX1_sumOf 7 = .ok (.istore_n 3, 1) := by decide +kernel
theorem dX1_sumOf_8 : decode cX1_sumOf 8 = .ok (.iconst 0, 1) := by decide +kernel
theorem dX1_sumOf_9 : decode cX1_sumOf 9 = .ok (.istore 4, 2) := by decide +kernel
theorem dX1_sumOf_11 : decode cX1_sumOf 11 = .ok (.iload 4, 2) := by decide +kernel
theorem dX1_sumOf_13 : decode cX1_sumOf 13 = .ok (.aload_n 0, 1) := by decide +kernel
theorem dX1_sumOf_14 : decode cX1_sumOf 14 = .ok (.getfield 33, 3) := by decide +kernel
theorem dX1_sumOf_17 : decode cX1_sumOf 17 = .ok (.if_icmp .ge 28, 3) := by decide +kernel
theorem dX1_sumOf_20 : decode cX1_sumOf 20 = .ok (.iload_n 2, 1) := by decide +kernel
theorem dX1_sumOf_21 : decode cX1_sumOf 21 = .ok (.iload 4, 2) := by decide +kernel
theorem dX1_sumOf_23 : decode cX1_sumOf 23 = .ok (.ishr, 1) := by decide +kernel
theorem dX1_sumOf_24 : decode cX1_sumOf 24 = .ok (.iconst 1, 1) := by decide +kernel
theorem dX1_sumOf_25 : decode cX1_sumOf 25 = .ok (.iand, 1) := by decide +kernel
theorem dX1_sumOf_26 : decode cX1_sumOf 26 = .ok (.ifCond .eq 13, 3) := by decide +kernel
theorem dX1_sumOf_29 : decode cX1_sumOf 29 = .ok (.iload_n 3, 1) := by decide +kernel
theorem dX1_sumOf_30 : decode cX1_sumOf 30 = .ok (.aload_n 0, 1) := by decide +kernel
theorem dX1_sumOf_31 : decode cX1_sumOf 31 = .ok (.getfield 9, 3) := by decide +kernel
theorem dX1_sumOf_34 : decode cX1_sumOf 34 = .ok (.iload 4, 2) := by decide +kernel
theorem dX1_sumOf_36 : decode cX1_sumOf 36 = .ok (.iaload, 1) := by decide +kernel
theorem dX1_sumOf_37 : decode cX1_sumOf 37 = .ok (.ixor, 1) := by decide +kernel
theorem dX1_sumOf_38 : decode cX1_sumOf 38 = .ok (.istore_n 3, 1) := by decide +kernel
theorem dX1_sumOf_39 : decode cX1_sumOf 39 = .ok (.iinc 4 1, 3) := by decide +kernel
theorem dX1_sumOf_42 : decode cX1_sumOf 42 = .ok (.goto (-31), 3) := by decide +kernel
theorem dX1_sumOf_45 : decode cX1_sumOf 45 = .ok (.iload_n 3, 1) := by decide +kernel
theorem dX1_sumOf_46 : decode cX1_sumOf 46 = .ok (.ireturn, 1) := by decide +kernel
set_option maxHeartbeats 4000000 in
set_option maxRecDepth 100000 in
theorem s_X1_sumOf {P : PP} {a0 : Nat} {a1 : Int32} (I : IV P) (ha0 : At P a0 1) : CtrI yX1_sumOf cX1_sumOf 5 (some Jvm.ClassFile.FieldType.int) ({ frames := 2, cells := 0, slots := 0, locals := 128 } : Room) 0 0 P [.ref a0, .int a1] (fun r P2 => P = P2 ∧ (True)) := by
  refine enI (lv := [(0, .ref a0), (1, .int a1)]) (by decide) (Nat.le_of_ble_eq_true rfl) rfl (fun E D cy C Ci0 ret => ?_)
  have J11 : ∀ (n11 : Nat) (v11_2 : Int32) (v11_3 : Int32) (v11_4 : Int32), (16 - v11_4.toInt).toNat < n11 → (0 ≤ v11_4.toInt ∧ v11_4.toInt ≤ 16) → G E ({ frames := 2, cells := 0, slots := 0, locals := 128 } : Room) D cy 5 P 0 0 11 [(0, .ref a0), (2, .int v11_2), (3, .int v11_3), (4, .int v11_4)] [] := by
    intro n11
    induction n11 with
    | zero => intro v11_2 v11_3 v11_4 hm11 hv11_4; omega
    | succ n11 ih11 =>
      intro v11_2 v11_3 v11_4 hm11 hv11_4
      have J39 : ∀ (v39_3 : Int32), (0 ≤ v11_4.toInt ∧ v11_4.toInt ≤ 15) → (1 ≤ (pI P a0 5).toInt ∧ (pI P a0 5).toInt ≤ 16) → G E ({ frames := 2, cells := 0, slots := 0, locals := 128 } : Room) D cy 5 P 0 0 39 [(0, .ref a0), (2, .int v11_2), (3, .int v39_3), (4, .int v11_4)] [] := by
        intro v39_3 hv39_4 hq39_0
        refine s_iinc (lv0 := [(0, .ref a0), (2, .int v11_2), (3, .int v39_3)]) (m := 1) C dX1_sumOf_39 3 rfl (by decide) rfl (by decide) (by omega) (fun z17076 h17077 => ?_)
        have h17077 : z17076.toInt = v11_4.toInt + 1 := h17077
        refine g_goto C 11 dX1_sumOf_42 (by decide) ?_
        refine g_lv (lv' := [(0, .ref a0), (2, .int v11_2), (3, .int v39_3), (4, .int z17076)]) [1, 2, 3, 0] rfl ?_
        exact ih11 v11_2 v39_3 z17076 (by omega) (by omega)
      refine g_iload C dX1_sumOf_11 3 rfl ?_
      refine g_aload_n C dX1_sumOf_13 rfl 0 rfl ?_
      refine g_getI C fi_X1_33 (by decide) (ha0).1 (ha0).2 dX1_sumOf_14 ?_
      have h17078 := I.rg (ha0) 5 rfl
      refine b_icmp_ge C 45 dX1_sumOf_17 (by decide) (fun h17079 => ?_) (fun h17079 => ?_)
      · have h17079 : (pI P a0 5).toInt ≤ v11_4.toInt := h17079
        refine g_iload_n C dX1_sumOf_45 rfl 2 rfl ?_
        exact ret _ _ _ _ _ _ dX1_sumOf_46 rfl (by decide) (by decide) ⟨rfl, trivial⟩
      · have h17079 : v11_4.toInt < (pI P a0 5).toInt := h17079
        refine g_iload_n C dX1_sumOf_20 rfl 1 rfl ?_
        refine g_iload C dX1_sumOf_21 3 rfl ?_
        refine a_ishr C dX1_sumOf_23 (fun z17080 => ?_)
        refine g_iconst (v := 1) C dX1_sumOf_24 (by decide) ?_
        refine s_iand C dX1_sumOf_25 (by show 0 ≤ 1; omega) (fun z17082 h17083 => ?_)
        have h17083 : 0 ≤ z17082.toInt ∧ z17082.toInt ≤ 1 := h17083
        refine b_if_eq C 39 dX1_sumOf_26 (by decide) (fun h17084 => ?_) (fun h17084 => ?_)
        · have h17084 : z17082.toInt = 0 := congrArg Int32.toInt h17084
          exact J39 v11_3 (by omega) (by omega)
        · have h17084 : z17082.toInt ≠ 0 := ti_ne h17084
          refine g_iload_n C dX1_sumOf_29 rfl 2 rfl ?_
          refine g_aload_n C dX1_sumOf_30 rfl 0 rfl ?_
          obtain ⟨b17085, e17086, h17087⟩ := I.fld (ha0) 1 13 16 rfl
          refine g_getR C fi_X1_9 rfl e17086 (ha0).1 (ha0).2 dX1_sumOf_31 ?_
          refine g_iload C dX1_sumOf_34 3 rfl ?_
          refine g_iald (j := (v11_4.toInt.toNat)) C h17087.1 h17087.2.1 (ix_in h17087.2.2 (by omega)) dX1_sumOf_36 ?_
          refine g_topi (fun z17088 _ => ?_)
          refine a_ixor C dX1_sumOf_37 (fun z17089 => ?_)
          refine g_istore_n (lv' := [(3, .int z17089), (0, .ref a0), (2, .int v11_2), (4, .int v11_4)]) C dX1_sumOf_38 rfl (by decide) rfl ?_
          refine g_lv (lv' := [(0, .ref a0), (2, .int v11_2), (3, .int z17089), (4, .int v11_4)]) [1, 2, 0, 3] rfl ?_
          exact J39 z17089 (by omega) (by omega)
  refine g_aload_n C dX1_sumOf_0 rfl 0 rfl ?_
  refine g_iload_n C dX1_sumOf_1 rfl 1 rfl ?_
  refine g_callVI (rest := []) C mv_X1_56 [.int a1] (s_X1_withoutHidden I ha0) (ha0).1 (ha0).2 rfl rfl (by decide) (Nat.le_of_ble_eq_true rfl) (by decide) dX1_sumOf_2 (fun r17091 Y17092 h17093 => ?_)
  obtain ⟨rfl, h17093⟩ := h17093
  have h17093 : True := h17093
  refine g_istore_n (lv' := [(2, .int r17091), (0, .ref a0), (1, .int a1)]) C dX1_sumOf_5 rfl (by decide) rfl ?_
  refine g_iconst (v := 0) C dX1_sumOf_6 (by decide) ?_
  refine g_istore_n (lv' := [(3, .int 0), (2, .int r17091), (0, .ref a0), (1, .int a1)]) C dX1_sumOf_7 rfl (by decide) rfl ?_
  refine g_iconst (v := 0) C dX1_sumOf_8 (by decide) ?_
  refine g_istore (lv' := [(4, .int 0), (3, .int 0), (2, .int r17091), (0, .ref a0), (1, .int a1)]) C dX1_sumOf_9 (by decide) rfl ?_
  refine g_lv (lv' := [(0, .ref a0), (2, .int r17091), (3, .int 0), (4, .int 0)]) [3, 2, 1, 0] rfl ?_
  exact J11 _ r17091 0 0 (Nat.lt_succ_self _) (by decide)
theorem dX1_leafletPaper_11 : decode cX1_leafletPaper 11 = .ok (.istore 4, 2) := by decide +kernel
theorem dX1_leafletPaper_13 : decode cX1_leafletPaper 13 = .ok (.iload_n 2, 1) := by decide +kernel
theorem dX1_leafletPaper_14 : decode cX1_leafletPaper 14 = .ok (.iconst 1, 1) := by decide +kernel
theorem dX1_leafletPaper_15 : decode cX1_leafletPaper 15 = .ok (.iand, 1) := by decide +kernel
theorem dX1_leafletPaper_16 : decode cX1_leafletPaper 16 = .ok (.sipush 255, 3) := by decide +kernel
theorem dX1_leafletPaper_19 : decode cX1_leafletPaper 19 = .ok (.imul, 1) := by decide +kernel
theorem dX1_leafletPaper_20 : decode cX1_leafletPaper 20 = .ok (.iload_n 2, 1) := by decide +kernel
theorem dX1_leafletPaper_21 : decode cX1_leafletPaper 21 = .ok (.iconst 1, 1) := by decide +kernel
theorem dX1_leafletPaper_22 : decode cX1_leafletPaper 22 = .ok (.ishr, 1) := by decide +kernel
theorem dX1_leafletPaper_23 : decode cX1_leafletPaper 23 = .ok (.iconst 1, 1) := by decide +kernel
theorem dX1_leafletPaper_24 : decode cX1_leafletPaper 24 = .ok (.iand, 1) := by decide +kernel
theorem dX1_leafletPaper_25 : decode cX1_leafletPaper 25 = .ok (.ldc 104, 2) := by decide +kernel
theorem dX1_leafletPaper_27 : decode cX1_leafletPaper 27 = .ok (.imul, 1) := by decide +kernel
theorem dX1_leafletPaper_28 : decode cX1_leafletPaper 28 = .ok (.ior, 1) := by decide +kernel
theorem dX1_leafletPaper_29 : decode cX1_leafletPaper 29 = .ok (.istore 5, 2) := by decide +kernel
theorem dX1_leafletPaper_31 : decode cX1_leafletPaper 31 = .ok (.aload_n 0, 1) := by decide +kernel
theorem dX1_leafletPaper_32 : decode cX1_leafletPaper 32 = .ok (.iload_n 1, 1) := by decide +kernel
theorem dX1_leafletPaper_33 : decode cX1_leafletPaper 33 = .ok (.iload_n 3, 1) := by decide +kernel
theorem dX1_leafletPaper_34 : decode cX1_leafletPaper 34 = .ok (.iload 4, 2) := by decide +kernel
theorem dX1_leafletPaper_36 : decode cX1_leafletPaper 36 = .ok (.iload 5, 2) := by decide +kernel
theorem dX1_leafletPaper_38 : decode cX1_leafletPaper 38 = .ok (.iand, 1) := by decide +kernel
theorem dX1_leafletPaper_39 : decode cX1_leafletPaper 39 = .ok (.iload_n 2, 1) := by decide +kernel
theorem dX1_leafletPaper_40 : decode cX1_leafletPaper 40 = .ok (.aload_n 0, 1) := by decide +kernel
theorem dX1_leafletPaper_41 : decode cX1_leafletPaper 41 = .ok (.iload_n 1, 1) := by decide +kernel
theorem dX1_leafletPaper_42 : decode cX1_leafletPaper 42 = .ok (.iload 4, 2) := by decide +kernel
theorem dX1_leafletPaper_44 : decode cX1_leafletPaper 44 = .ok (.invokevirtual 105, 3) := by decide +kernel
theorem dX1_sealOf_0 : decode cX1_sealOf 0 = .ok (.aload_n 0, 1) := by decide +kernel
theorem dX1_sealOf_1 : decode cX1_sealOf 1 = .ok (.getfield 18, 3) := by decide +kernel
theorem dX1_sealOf_4 : decode cX1_sealOf 4 = .ok (.getfield 60, 3) := by decide +kernel
theorem dX1_sealOf_7 : decode cX1_sealOf 7 = .ok (.ifCond .ne 7, 3) := by decide +kernel
theorem dX1_sealOf_10 : decode cX1_sealOf 10 = .ok (.iconst 0, 1) := by decide +kernel
theorem dX1_sealOf_11 : decode cX1_sealOf 11 = .ok (.goto 23, 3) := by decide +kernel
theorem dX1_sealOf_14 : decode cX1_sealOf 14 = .ok (.iload_n 1, 1) := by decide +kernel
theorem dX1_sealOf_15 : decode cX1_sealOf 15 = .ok (.iconst 1, 1) := by decide +kernel
theorem dX1_sealOf_16 : decode cX1_sealOf 16 = .ok (.iadd, 1) := by decide +kernel
theorem dX1_sealOf_17 : decode cX1_sealOf 17 = .ok (.aload_n 0, 1) := by decide +kernel
theorem dX1_sealOf_18 : decode cX1_sealOf 18 = .ok (.getfield 18, 3) := by decide +kernel
theorem dX1_sealOf_21 : decode cX1_sealOf 21 = .ok (.getfield 60, 3) := by decide +kernel
theorem dX1_sealOf_24 : decode cX1_sealOf 24 = .ok (.imul, 1) := by decide +kernel
theorem dX1_sealOf_25 : decode cX1_sealOf 25 = .ok (.bipush 31, 2) := by decide +kernel
theorem dX1_sealOf_27 : decode cX1_sealOf 27 = .ok (.iload_n 2, 1) := by decide +kernel
theorem dX1_sealOf_28 : decode cX1_sealOf 28 = .ok (.imul, 1) := by decide +kernel
theorem dX1_sealOf_29 : decode cX1_sealOf 29 = .ok (.iadd, 1) := by decide +kernel
theorem dX1_sealOf_30 : decode cX1_sealOf 30 = .ok (.sipush 997, 3) := by decide +kernel
theorem dX1_sealOf_33 : decode cX1_sealOf 33 = .ok (.irem, 1) := by decide +kernel
theorem dX1_sealOf_34 : decode cX1_sealOf 34 = .ok (.ireturn, 1) := by decide +kernel
set_option maxHeartbeats 4000000 in
set_option maxRecDepth 100000 in
theorem s_X1_sealOf {P : PP} {a0 : Nat} {a1 : Int32} {a2 : Int32} (I : IV P) (ha0 : At P a0 1) : CtrI yX1_sealOf cX1_sealOf 3 (some Jvm.ClassFile.FieldType.int) ({ frames := 1, cells := 0, slots := 0, locals := 64 } : Room) 0 0 P [.ref a0, .int a1, .int a2] (fun r P2 => P = P2 ∧ (True)) := by
  refine enI (lv := [(0, .ref a0), (1, .int a1), (2, .int a2)]) (by decide) (Nat.le_of_ble_eq_true rfl) rfl (fun E D cy C Ci0 ret => ?_)
  refine g_aload_n C dX1_sealOf_0 rfl 0 rfl ?_
  obtain ⟨b17133, e17134, h17135⟩ := I.fld (ha0) 2 3 0 rfl
  refine g_getR C fi_X1_18 rfl e17134 (ha0).1 (ha0).2 dX1_sealOf_1 ?_
  refine g_getI C fi_X1_60 (by decide) (h17135.at).1 (h17135.at).2 dX1_sealOf_4 ?_
  have u17137 := ti_rng (pI P b17133 5)
  refine b_if_ne C 14 dX1_sealOf_7 (by decide) (fun h17136 => ?_) (fun h17136 => ?_)
  · have h17136 : (pI P b17133 5).toInt ≠ 0 := ti_ne h17136
    refine g_iload_n C dX1_sealOf_14 rfl 1 rfl ?_
    refine g_iconst (v := 1) C dX1_sealOf_15 (by decide) ?_
    refine a_iadd C dX1_sealOf_16 (fun z17138 => ?_)
    refine g_aload_n C dX1_sealOf_17 rfl 0 rfl ?_
    refine g_getR C fi_X1_18 rfl e17134 (ha0).1 (ha0).2 dX1_sealOf_18 ?_
    refine g_getI C fi_X1_60 (by decide) (h17135.at).1 (h17135.at).2 dX1_sealOf_21 ?_
    refine a_imul C dX1_sealOf_24 (fun z17140 => ?_)
    refine g_bipush (v := 31) C dX1_sealOf_25 (by decide) ?_
    refine g_iload_n C dX1_sealOf_27 rfl 2 rfl ?_
    refine a_imul C dX1_sealOf_28 (fun z17142 => ?_)
    refine a_iadd C dX1_sealOf_29 (fun z17144 => ?_)
    refine g_sipush (v := 997) C dX1_sealOf_30 (by decide) ?_
    refine a_irem C dX1_sealOf_33 (by show 997 ≠ 0; omega) (fun z17146 => ?_)
    exact ret _ _ _ _ _ _ dX1_sealOf_34 rfl (by decide) (by decide) ⟨rfl, trivial⟩
  · have h17136 : (pI P b17133 5).toInt = 0 := congrArg Int32.toInt h17136
    refine g_iconst (v := 0) C dX1_sealOf_10 (by decide) ?_
    refine g_goto C 34 dX1_sealOf_11 (by decide) ?_
    exact ret _ _ _ _ _ _ dX1_sealOf_34 rfl (by decide) (by decide) ⟨rfl, trivial⟩
theorem dX1_leafletPaper_47 : decode cX1_leafletPaper 47 = .ok (.invokevirtual 108, 3) := by decide +kernel
theorem dX1_paperOf_0 : decode cX1_paperOf 0 = .ok (.new 112, 3) := by decide +kernel
theorem dX1_paperOf_3 : decode cX1_paperOf 3 = .ok (.dup, 1) := by decide +kernel
theorem dX1_paperOf_4 : decode cX1_paperOf 4 = .ok (.aload_n 0, 1) := by decide +kernel
theorem dX1_paperOf_5 : decode cX1_paperOf 5 = .ok (.getfield 25, 3) := by decide +kernel
theorem dX1_paperOf_8 : decode cX1_paperOf 8 = .ok (.iload_n 1, 1) := by decide +kernel
theorem dX1_paperOf_9 : decode cX1_paperOf 9 = .ok (.iload_n 3, 1) := by decide +kernel
theorem dX1_paperOf_10 : decode cX1_paperOf 10 = .ok (.iload 4, 2) := by decide +kernel
theorem dX1_paperOf_12 : decode cX1_paperOf 12 = .ok (.iload 5, 2) := by decide +kernel
theorem dX1_paperOf_14 : decode cX1_paperOf 14 = .ok (.aload_n 0, 1) := by decide +kernel
theorem dX1_paperOf_15 : decode cX1_paperOf 15 = .ok (.getfield 25, 3) := by decide +kernel
theorem dX1_paperOf_18 : decode cX1_paperOf 18 = .ok (.ifCond .ne 7, 3) := by decide +kernel
theorem dX1_paperOf_21 : decode cX1_paperOf 21 = .ok (.iload_n 2, 1) := by decide +kernel
theorem dX1_paperOf_22 : decode cX1_paperOf 22 = .ok (.goto 4, 3) := by decide +kernel
theorem dX1_paperOf_25 : decode cX1_paperOf 25 = .ok (.iconst 0, 1) := by decide +kernel
theorem dX1_paperOf_26 : decode cX1_paperOf 26 = .ok (.aload_n 0, 1) := by decide +kernel
theorem dX1_paperOf_27 : decode cX1_paperOf 27 = .ok (.getfield 25, 3) := by decide +kernel
theorem dX1_paperOf_30 : decode cX1_paperOf 30 = .ok (.iconst 1, 1) := by decide +kernel
theorem dX1_paperOf_31 : decode cX1_paperOf 31 = .ok (.if_icmp .ne 7, 3) := by decide +kernel
theorem dX1_paperOf_34 : decode cX1_paperOf 34 = .ok (.iload_n 2, 1) := by decide +kernel
theorem dX1_paperOf_35 : decode cX1_paperOf 35 = .ok (.goto 4, 3) := by decide +kernel
theorem dX1_paperOf_38 : decode cX1_paperOf 38 = .ok (.iconst 0, 1) := by decide +kernel
theorem dX1_paperOf_39 : decode cX1_paperOf 39 = .ok (.invokespecial 114, 3) := by decide +kernel
theorem dX7_init_0 : decode cX7_init 0 = .ok (.aload_n 0, 1) := by decide +kernel
theorem dX7_init_1 : decode cX7_init 1 = .ok (.invokespecial 3, 3) := by decide +kernel
theorem dX7_init_4 : decode cX7_init 4 = .ok (.aload_n 0, 1) := by decide +kernel
theorem dX7_init_5 : decode cX7_init 5 = .ok (.iload_n 1, 1) := by decide +kernel
theorem dX7_init_6 : decode cX7_init 6 = .ok (.putfield 9, 3) := by decide +kernel
theorem dX7_init_9 : decode cX7_init 9 = .ok (.aload_n 0, 1) := by decide +kernel
theorem dX7_init_10 : decode cX7_init 10 = .ok (.iload_n 2, 1) := by decide +kernel
theorem dX7_init_11 : decode cX7_init 11 = .ok (.putfield 15, 3) := by decide +kernel
theorem dX7_init_14 : decode cX7_init 14 = .ok (.aload_n 0, 1) := by decide +kernel
theorem dX7_init_15 : decode cX7_init 15 = .ok (.iload_n 3, 1) := by decide +kernel
theorem dX7_init_16 : decode cX7_init 16 = .ok (.putfield 18, 3) := by decide +kernel
theorem dX7_init_19 : decode cX7_init 19 = .ok (.aload_n 0, 1) := by decide +kernel
theorem dX7_init_20 : decode cX7_init 20 = .ok (.iload 4, 2) := by decide +kernel
theorem dX7_init_22 : decode cX7_init 22 = .ok (.putfield 21, 3) := by decide +kernel
theorem dX7_init_25 : decode cX7_init 25 = .ok (.aload_n 0, 1) := by decide +kernel
theorem dX7_init_26 : decode cX7_init 26 = .ok (.iload 5, 2) := by decide +kernel
theorem dX7_init_28 : decode cX7_init 28 = .ok (.putfield 24, 3) := by decide +kernel
theorem dX7_init_31 : decode cX7_init 31 = .ok (.aload_n 0, 1) := by decide +kernel
theorem dX7_init_32 : decode cX7_init 32 = .ok (.iload 6, 2) := by decide +kernel
theorem dX7_init_34 : decode cX7_init 34 = .ok (.putfield 27, 3) := by decide +kernel
theorem dX7_init_37 : decode cX7_init 37 = .ok (.aload_n 0, 1) := by decide +kernel
theorem dX7_init_38 : decode cX7_init 38 = .ok (.iload 7, 2) := by decide +kernel
theorem dX7_init_40 : decode cX7_init 40 = .ok (.putfield 30, 3) := by decide +kernel
theorem dX7_init_43 : decode cX7_init 43 = .ok (.return_, 1) := by decide +kernel
set_option maxHeartbeats 4000000 in
set_option maxRecDepth 100000 in
theorem s_X7_init {P : PP} {a0 : Nat} {a1 : Int32} {a2 : Int32} {a3 : Int32} {a4 : Int32} {a5 : Int32} {a6 : Int32} {a7 : Int32} (I : IV P) (ha0 : At P a0 7) (ha1 : -1 ≤ a1.toInt ∧ a1.toInt ≤ 1) : CtrV yX7_init cX7_init 8 none ({ frames := 2, cells := 0, slots := 0, locals := 128 } : Room) 0 0 P [.ref a0, .int a1, .int a2, .int a3, .int a4, .int a5, .int a6, .int a7] (fun P2 => IV P2 ∧ EK [7] P P2) := by
  refine enV (lv := [(0, .ref a0), (1, .int a1), (2, .int a2), (3, .int a3), (4, .int a4), (5, .int a5), (6, .int a6), (7, .int a7)]) (by decide) (Nat.le_of_ble_eq_true rfl) rfl (fun E D cy C Ci0 ret => ?_)
  have Ci9 := Ci0 rfl
  refine g_aload_n C dX7_init_0 rfl 0 rfl ?_
  refine g_objInit C oi_X7_3 oi_inst oi_code (by decide) (by decide) (Nat.le_of_ble_eq_true rfl) dX7_init_1 ?_
  refine g_aload_n C dX7_init_4 rfl 0 rfl ?_
  refine g_iload_n C dX7_init_5 rfl 1 rfl ?_
  refine g_putFI C fi_X7_9 Ci9 ⟨_, rfl, rfl⟩ rfl (ha0).1 (ha0).2 dX7_init_6 ?_
  refine gpW (ks := [7]) (I.setI (ha0) (rgOk.of rfl (by omega))) (EK.setI (ha0).2 (by decide)) (fun Y17258 Iy17259 Xy17260 w17261 w17262 => ?_)
  have Xz17263 : EK [7] P Y17258 := Xy17260.mono (by decide)
  have h17264 := Xy17260.at ha0
  refine g_aload_n C dX7_init_9 rfl 0 rfl ?_
  refine g_iload_n C dX7_init_10 rfl 2 rfl ?_
  refine g_putFI C fi_X7_15 Ci9 ⟨_, rfl, rfl⟩ rfl (h17264).1 (h17264).2 dX7_init_11 ?_
  refine gpW (ks := [7]) (Iy17259.setI (h17264) (rgOk.none rfl)) (EK.setI (h17264).2 (by decide)) (fun Y17265 Iy17266 Xy17267 w17268 w17269 => ?_)
  have q17270 := w17268 0 (by decide)
  have Xz17271 : EK [7] P Y17265 := Xz17263.tr (Xy17267.mono (by decide))
  have h17272 := Xy17267.at h17264
  refine g_aload_n C dX7_init_14 rfl 0 rfl ?_
  refine g_iload_n C dX7_init_15 rfl 3 rfl ?_
  refine g_putFI C fi_X7_18 Ci9 ⟨_, rfl, rfl⟩ rfl (h17272).1 (h17272).2 dX7_init_16 ?_
  refine gpW (ks := [7]) (Iy17266.setI (h17272) (rgOk.none rfl)) (EK.setI (h17272).2 (by decide)) (fun Y17273 Iy17274 Xy17275 w17276 w17277 => ?_)
  have q17278 := w17276 0 (by decide)
  have q17279 := w17276 1 (by decide)
  have Xz17280 : EK [7] P Y17273 := Xz17271.tr (Xy17275.mono (by decide))
  have h17281 := Xy17275.at h17272
  refine g_aload_n C dX7_init_19 rfl 0 rfl ?_
  refine g_iload C dX7_init_20 4 rfl ?_
  refine g_putFI C fi_X7_21 Ci9 ⟨_, rfl, rfl⟩ rfl (h17281).1 (h17281).2 dX7_init_22 ?_
  refine gpW (ks := [7]) (Iy17274.setI (h17281) (rgOk.none rfl)) (EK.setI (h17281).2 (by decide)) (fun Y17282 Iy17283 Xy17284 w17285 w17286 => ?_)
  have q17287 := w17285 0 (by decide)
  have q17288 := w17285 1 (by decide)
  have q17289 := w17285 2 (by decide)
  have Xz17290 : EK [7] P Y17282 := Xz17280.tr (Xy17284.mono (by decide))
  have h17291 := Xy17284.at h17281
  refine g_aload_n C dX7_init_25 rfl 0 rfl ?_
  refine g_iload C dX7_init_26 5 rfl ?_
  refine g_putFI C fi_X7_24 Ci9 ⟨_, rfl, rfl⟩ rfl (h17291).1 (h17291).2 dX7_init_28 ?_
  refine gpW (ks := [7]) (Iy17283.setI (h17291) (rgOk.none rfl)) (EK.setI (h17291).2 (by decide)) (fun Y17292 Iy17293 Xy17294 w17295 w17296 => ?_)
  have q17297 := w17295 0 (by decide)
  have q17298 := w17295 1 (by decide)
  have q17299 := w17295 2 (by decide)
  have q17300 := w17295 3 (by decide)
  have Xz17301 : EK [7] P Y17292 := Xz17290.tr (Xy17294.mono (by decide))
  have h17302 := Xy17294.at h17291
  refine g_aload_n C dX7_init_31 rfl 0 rfl ?_
  refine g_iload C dX7_init_32 6 rfl ?_
  refine g_putFI C fi_X7_27 Ci9 ⟨_, rfl, rfl⟩ rfl (h17302).1 (h17302).2 dX7_init_34 ?_
  refine gpW (ks := [7]) (Iy17293.setI (h17302) (rgOk.none rfl)) (EK.setI (h17302).2 (by decide)) (fun Y17303 Iy17304 Xy17305 w17306 w17307 => ?_)
  have q17308 := w17306 0 (by decide)
  have q17309 := w17306 1 (by decide)
  have q17310 := w17306 2 (by decide)
  have q17311 := w17306 3 (by decide)
  have q17312 := w17306 4 (by decide)
  have Xz17313 : EK [7] P Y17303 := Xz17301.tr (Xy17305.mono (by decide))
  have h17314 := Xy17305.at h17302
  refine g_aload_n C dX7_init_37 rfl 0 rfl ?_
  refine g_iload C dX7_init_38 7 rfl ?_
  refine g_putFI C fi_X7_30 Ci9 ⟨_, rfl, rfl⟩ rfl (h17314).1 (h17314).2 dX7_init_40 ?_
  refine gpW (ks := [7]) (Iy17304.setI (h17314) (rgOk.none rfl)) (EK.setI (h17314).2 (by decide)) (fun Y17315 Iy17316 Xy17317 w17318 w17319 => ?_)
  have q17320 := w17318 0 (by decide)
  have q17321 := w17318 1 (by decide)
  have q17322 := w17318 2 (by decide)
  have q17323 := w17318 3 (by decide)
  have q17324 := w17318 4 (by decide)
  have q17325 := w17318 5 (by decide)
  have Xz17326 : EK [7] P Y17315 := Xz17313.tr (Xy17317.mono (by decide))
  have h17327 := Xy17317.at h17314
  exact ret _ _ _ _ _ dX7_init_43 (by decide) (by decide) ⟨Iy17316, Xz17326⟩
theorem dX1_paperOf_42 : decode cX1_paperOf 42 = .ok (.areturn, 1) := by decide +kernel
set_option maxHeartbeats 4000000 in
set_option maxRecDepth 100000 in
theorem s_X1_paperOf {P : PP} {a0 : Nat} {a1 : Int32} {a2 : Int32} {a3 : Int32} {a4 : Int32} {a5 : Int32} (I : IV P) (ha0 : At P a0 1) : CtrQ yX1_paperOf cX1_paperOf 6 (some (Jvm.ClassFile.FieldType.object "ThousandLeaflets$Paper")) ({ frames := 3, cells := 1, slots := 7, locals := 192 } : Room) 1 7 P [.ref a0, .int a1, .int a2, .int a3, .int a4, .int a5] (fun r P2 => IV P2 ∧ EK [7] P P2 ∧ (∃ b, r = some b ∧ At P2 b 7)) := by
  refine enQ (lv := [(0, .ref a0), (1, .int a1), (2, .int a2), (3, .int a3), (4, .int a4), (5, .int a5)]) (by decide) (by first | exact Or.inl ⟨_, rfl⟩ | exact Or.inr ⟨_, rfl⟩) (Nat.le_of_ble_eq_true rfl) rfl (fun E D cy C Ci0 ret => ?_)
  have J39 : ∀ (P39 : PP) (v39_s0 : Int32) (v39_s1 : Int32) (v39_s6 : Int32) (b39_s7 : Nat) (b39_s8 : Nat), (IV P39) → (EK [7] P P39) → (0 ≤ v39_s6.toInt ∧ v39_s6.toInt ≤ 1) → (At P39 b39_s7 7) → (At P39 b39_s8 7) → (0 ≤ (pI P39 a0 0).toInt ∧ (pI P39 a0 0).toInt ≤ 1) → G E ({ frames := 3, cells := 1, slots := 7, locals := 192 } : Room) D cy 6 P39 1 7 39 [] [.int v39_s0, .int v39_s1, .int a5, .int a4, .int a3, .int a1, .int v39_s6, .ref b39_s7, .ref b39_s8] := by
    intro P39 v39_s0 v39_s1 v39_s6 b39_s7 b39_s8 I39 X39 hv39_s6 hb39_s7 hb39_s8 hq39_0
    have h17350 := X39.at ha0
    refine g_callCV (ci := 0) (ret := none) (rest := [.ref b39_s8]) C mi_X1_114 [.int v39_s6, .int a1, .int a3, .int a4, .int a5, .int v39_s1, .int v39_s0] (s_X7_init I39 hb39_s7 (by omega)) rfl rfl (by decide) (Nat.le_of_ble_eq_true rfl) (by decide) dX1_paperOf_39 (fun Y17352 h17353 => ?_)
    obtain ⟨Iy17354, Xy17355⟩ := h17353
    have q17356 := Xy17355.keep h17350 (by decide) 0
    have Xz17357 : EK [7] P Y17352 := X39.tr (Xy17355.mono (by decide))
    have h17358 := Xy17355.at h17350
    have h17359 := Xy17355.at hb39_s8
    exact ret _ _ _ _ _ (some b39_s8) dX1_paperOf_42 (by decide) (by decide) ⟨Iy17354, Xz17357, ⟨_, rfl, h17359⟩⟩
  have J26 : ∀ (P26 : PP) (v26_s0 : Int32) (v26_s5 : Int32) (b26_s6 : Nat) (b26_s7 : Nat), (IV P26) → (EK [7] P P26) → (0 ≤ v26_s5.toInt ∧ v26_s5.toInt ≤ 1) → (At P26 b26_s6 7) → (At P26 b26_s7 7) → (0 ≤ (pI P26 a0 0).toInt ∧ (pI P26 a0 0).toInt ≤ 1) → G E ({ frames := 3, cells := 1, slots := 7, locals := 192 } : Room) D cy 6 P26 1 7 26 [(0, .ref a0), (2, .int a2)] [.int v26_s0, .int a5, .int a4, .int a3, .int a1, .int v26_s5, .ref b26_s6, .ref b26_s7] := by
    intro P26 v26_s0 v26_s5 b26_s6 b26_s7 I26 X26 hv26_s5 hb26_s6 hb26_s7 hq26_0
    have h17360 := X26.at ha0
    refine g_aload_n C dX1_paperOf_26 rfl 0 rfl ?_
    refine g_getI C fi_X1_25 (by decide) (h17360).1 (h17360).2 dX1_paperOf_27 ?_
    refine g_iconst (v := 1) C dX1_paperOf_30 (by decide) ?_
    refine b_icmp_ne C 38 dX1_paperOf_31 (by decide) (fun h17361 => ?_) (fun h17361 => ?_)
    · have h17361 : (pI P26 a0 0).toInt ≠ 1 := ti_ne h17361
      refine g_iconst (v := 0) C dX1_paperOf_38 (by decide) ?_
      refine g_lv (lv' := []) [] rfl ?_
      exact J39 P26 0 v26_s0 v26_s5 b26_s6 b26_s7 I26 X26 (by omega) hb26_s6 hb26_s7 (by omega)
    · have h17361 : (pI P26 a0 0).toInt = 1 := congrArg Int32.toInt h17361
      refine g_iload_n C dX1_paperOf_34 rfl 1 rfl ?_
      refine g_goto C 39 dX1_paperOf_35 (by decide) ?_
      refine g_lv (lv' := []) [] rfl ?_
      exact J39 P26 a2 v26_s0 v26_s5 b26_s6 b26_s7 I26 X26 (by omega) hb26_s6 hb26_s7 (by omega)
  refine g_new C ni_X1_112 (by decide) (by decide) dX1_paperOf_0 (fun q17362 h17363 => ?_)
  have h17364 := At.new (P := P) (q := q17362) (kd := 7) (n := 0)
  obtain ⟨Y17365, eY17365⟩ : ∃ Z : PP, Z = pNw P q17362 7 0 := ⟨_, rfl⟩
  rw [← eY17365] at h17364 ⊢
  have Iy17366 : IV Y17365 := by rw [eY17365]; exact I.newP h17363
  have Xy17367 : EK [] P Y17365 := by rw [eY17365]; exact EK.new h17363
  clear eY17365
  have Xz17368 : EK [7] P Y17365 := Xy17367.mono (by decide)
  have h17369 := Xy17367.at ha0
  refine g_dup C dX1_paperOf_3 rfl ?_
  refine g_aload_n C dX1_paperOf_4 rfl 0 rfl ?_
  refine g_getI C fi_X1_25 (by decide) (h17369).1 (h17369).2 dX1_paperOf_5 ?_
  have h17370 := Iy17366.rg (h17369) 0 rfl
  refine g_iload_n C dX1_paperOf_8 rfl 1 rfl ?_
  refine g_iload_n C dX1_paperOf_9 rfl 3 rfl ?_
  refine g_iload C dX1_paperOf_10 4 rfl ?_
  refine g_iload C dX1_paperOf_12 5 rfl ?_
  refine g_aload_n C dX1_paperOf_14 rfl 0 rfl ?_
  refine g_getI C fi_X1_25 (by decide) (h17369).1 (h17369).2 dX1_paperOf_15 ?_
  refine b_if_ne C 25 dX1_paperOf_18 (by decide) (fun h17371 => ?_) (fun h17371 => ?_)
  · have h17371 : (pI Y17365 a0 0).toInt ≠ 0 := ti_ne h17371
    refine g_iconst (v := 0) C dX1_paperOf_25 (by decide) ?_
    refine g_lv (lv' := [(0, .ref a0), (2, .int a2)]) [0, 2] rfl ?_
    exact J26 Y17365 0 (pI Y17365 a0 0) q17362 q17362 Iy17366 Xz17368 (by omega) h17364 h17364 (by omega)
  · have h17371 : (pI Y17365 a0 0).toInt = 0 := congrArg Int32.toInt h17371
    refine g_iload_n C dX1_paperOf_21 rfl 2 rfl ?_
    refine g_goto C 26 dX1_paperOf_22 (by decide) ?_
    refine g_lv (lv' := [(0, .ref a0), (2, .int a2)]) [0, 2] rfl ?_
    exact J26 Y17365 a2 (pI Y17365 a0 0) q17362 q17362 Iy17366 Xz17368 (by omega) h17364 h17364 (by omega)
theorem dX1_leafletPaper_50 : decode cX1_leafletPaper 50 = .ok (.areturn, 1) := by decide +kernel
set_option maxHeartbeats 4000000 in
set_option maxRecDepth 100000 in
theorem s_X1_leafletPaper {P : PP} {a0 : Nat} {a1 : Int32} {a2 : Int32} (I : IV P) (ha0 : At P a0 1) : CtrQ yX1_leafletPaper cX1_leafletPaper 6 (some (Jvm.ClassFile.FieldType.object "ThousandLeaflets$Paper")) ({ frames := 5, cells := 1, slots := 7, locals := 320 } : Room) 1 7 P [.ref a0, .int a1, .int a2] (fun r P2 => IV P2 ∧ EK [1, 7, 13] P P2 ∧ (∃ b, r = some b ∧ At P2 b 7)) := by
  refine enQ (lv := [(0, .ref a0), (1, .int a1), (2, .int a2)]) (by decide) (by first | exact Or.inl ⟨_, rfl⟩ | exact Or.inr ⟨_, rfl⟩) (Nat.le_of_ble_eq_true rfl) rfl (fun E D cy C Ci0 ret => ?_)
  refine g_aload_n C dX1_leafletPaper_0 rfl 0 rfl ?_
  refine g_iload_n C dX1_leafletPaper_1 rfl 1 rfl ?_
  refine g_callVI (rest := []) C mv_X1_98 [.int a1] (s_X1_pagesOf I ha0) (ha0).1 (ha0).2 rfl rfl (by decide) (Nat.le_of_ble_eq_true rfl) (by decide) dX1_leafletPaper_2 (fun r17408 Y17409 h17410 => ?_)
  obtain ⟨Iy17411, Xy17412, h17410⟩ := h17410
  have Xz17413 : EK [1, 7, 13] P Y17409 := Xy17412.mono (by decide)
  have h17414 := Xy17412.at ha0
  have h17410 : True := h17410
  refine g_istore_n (lv' := [(3, .int r17408), (0, .ref a0), (1, .int a1), (2, .int a2)]) C dX1_leafletPaper_5 rfl (by decide) rfl ?_
  refine g_aload_n C dX1_leafletPaper_6 rfl 1 rfl ?_
  refine g_iload_n C dX1_leafletPaper_7 rfl 0 rfl ?_
  refine g_callVI (rest := []) C mv_X1_101 [.int r17408] (s_X1_sumOf Iy17411 h17414) (h17414).1 (h17414).2 rfl rfl (by decide) (Nat.le_of_ble_eq_true rfl) (by decide) dX1_leafletPaper_8 (fun r17415 Y17416 h17417 => ?_)
  obtain ⟨rfl, h17417⟩ := h17417
  have h17417 : True := h17417
  refine g_istore (lv' := [(4, .int r17415), (3, .int r17408), (0, .ref a0), (1, .int a1), (2, .int a2)]) C dX1_leafletPaper_11 (by decide) rfl ?_
  refine g_iload_n C dX1_leafletPaper_13 rfl 4 rfl ?_
  refine g_iconst (v := 1) C dX1_leafletPaper_14 (by decide) ?_
  refine s_iand C dX1_leafletPaper_15 (by show 0 ≤ 1; omega) (fun z17418 h17419 => ?_)
  have h17419 : 0 ≤ z17418.toInt ∧ z17418.toInt ≤ 1 := h17419
  refine g_sipush (v := 255) C dX1_leafletPaper_16 (by decide) ?_
  refine s_imul C dX1_leafletPaper_19 (by show -2147483648 ≤ z17418.toInt * 255 ∧ z17418.toInt * 255 ≤ 2147483647; omega) (fun z17420 h17421 => ?_)
  have h17421 : z17420.toInt = z17418.toInt * 255 := h17421
  refine g_iload_n C dX1_leafletPaper_20 rfl 4 rfl ?_
  refine g_iconst (v := 1) C dX1_leafletPaper_21 (by decide) ?_
  refine a_ishr C dX1_leafletPaper_22 (fun z17422 => ?_)
  refine g_iconst (v := 1) C dX1_leafletPaper_23 (by decide) ?_
  refine s_iand C dX1_leafletPaper_24 (by show 0 ≤ 1; omega) (fun z17424 h17425 => ?_)
  have h17425 : 0 ≤ z17424.toInt ∧ z17424.toInt ≤ 1 := h17425
  refine g_ldc (v := 65280) C kc_X1_104 dX1_leafletPaper_25 ?_
  refine s_imul C dX1_leafletPaper_27 (by show -2147483648 ≤ z17424.toInt * 65280 ∧ z17424.toInt * 65280 ≤ 2147483647; omega) (fun z17426 h17427 => ?_)
  have h17427 : z17426.toInt = z17424.toInt * 65280 := h17427
  refine a_ior C dX1_leafletPaper_28 (fun z17428 => ?_)
  refine g_istore (lv' := [(5, .int z17428), (4, .int r17415), (3, .int r17408), (0, .ref a0), (1, .int a1), (2, .int a2)]) C dX1_leafletPaper_29 (by decide) rfl ?_
  refine g_aload_n C dX1_leafletPaper_31 rfl 3 rfl ?_
  refine g_iload_n C dX1_leafletPaper_32 rfl 4 rfl ?_
  refine g_iload_n C dX1_leafletPaper_33 rfl 2 rfl ?_
  refine g_iload C dX1_leafletPaper_34 1 rfl ?_
  refine g_iload C dX1_leafletPaper_36 0 rfl ?_
  refine a_iand C dX1_leafletPaper_38 (fun z17430 => ?_)
  refine g_iload_n C dX1_leafletPaper_39 rfl 5 rfl ?_
  refine g_aload_n C dX1_leafletPaper_40 rfl 3 rfl ?_
  refine g_iload_n C dX1_leafletPaper_41 rfl 4 rfl ?_
  refine g_iload C dX1_leafletPaper_42 1 rfl ?_
  refine g_callVI (rest := [.int a2, .int z17430, .int r17408, .int a1, .ref a0]) C mv_X1_105 [.int a1, .int r17415] (s_X1_sealOf Iy17411 h17414) (h17414).1 (h17414).2 rfl rfl (by decide) (Nat.le_of_ble_eq_true rfl) (by decide) dX1_leafletPaper_44 (fun r17432 Y17433 h17434 => ?_)
  obtain ⟨rfl, h17434⟩ := h17434
  have h17434 : True := h17434
  refine g_callVQ (rest := []) C mv_X1_108 [.int a1, .int r17408, .int z17430, .int a2, .int r17432] (s_X1_paperOf Iy17411 h17414) (h17414).1 (h17414).2 rfl rfl (by decide) (Nat.le_of_ble_eq_true rfl) (by decide) dX1_leafletPaper_47 (fun r17435 Y17436 h17437 => ?_)
  obtain ⟨Iy17438, Xy17439, h17437⟩ := h17437
  have Xz17440 : EK [1, 7, 13] P Y17436 := Xz17413.tr (Xy17439.mono (by decide))
  have h17441 := Xy17439.at h17414
  obtain ⟨b17443, rfl, h17437⟩ := h17437
  show G _ _ _ _ _ _ _ _ _ _ (.ref b17443 :: _)
  exact ret _ _ _ _ _ (some b17443) dX1_leafletPaper_50 (by decide) (by decide) ⟨Iy17438, Xz17440, ⟨_, rfl, h17437⟩⟩
theorem dX11_comes_48 : decode cX11_comes 48 = .ok (.invokevirtual 165, 3) := by decide +kernel
theorem dX6_put_0 : decode cX6_put 0 = .ok (.aload_n 0, 1) := by decide +kernel
theorem dX6_put_1 : decode cX6_put 1 = .ok (.getfield 17, 3) := by decide +kernel
theorem dX6_put_4 : decode cX6_put 4 = .ok (.bipush 40, 2) := by decide +kernel
theorem dX6_put_6 : decode cX6_put 6 = .ok (.if_icmp .ge 20, 3) := by decide +kernel
theorem dX6_put_9 : decode cX6_put 9 = .ok (.aload_n 1, 1) := by decide +kernel
theorem dX6_put_10 : decode cX6_put 10 = .ok (.getfield 21, 3) := by decide +kernel
theorem dX6_put_13 : decode cX6_put 13 = .ok (.iconst (-1), 1) := by decide +kernel
theorem dX6_put_14 : decode cX6_put 14 = .ok (.if_icmp .ne 14, 3) := by decide +kernel
theorem dX6_put_17 : decode cX6_put 17 = .ok (.aload_n 0, 1) := by decide +kernel
theorem dX6_put_18 : decode cX6_put 18 = .ok (.invokevirtual 24, 3) := by decide +kernel
theorem dX6_unnamed_0 : decode cX6_unnamed 0 = .ok (.iconst 0, 1) := by decide +kernel
theorem dX6_unnamed_1 : decode cX6_unnamed 1 = .ok (.istore_n 1, 1) := by decide +kernel
theorem dX6_unnamed_2 : decode cX6_unnamed 2 = .ok (.iconst 0, 1) := by decide +kernel
theorem dX6_unnamed_3 : decode cX6_unnamed 3 = .ok (.istore_n 2, 1) := by decide +kernel
theorem dX6_unnamed_4 : decode cX6_unnamed 4 = .ok (.iload_n 2, 1) := by decide +kernel
theorem dX6_unnamed_5 : decode cX6_unnamed 5 = .ok (.aload_n 0, 1) := by decide +kernel
theorem dX6_unnamed_6 : decode cX6_unnamed 6 = .ok (.getfield 17, 3) := by decide +kernel
theorem dX6_unnamed_9 : decode cX6_unnamed 9 = .ok (.if_icmp .ge 31, 3) := by decide +kernel
theorem dX6_unnamed_12 : decode cX6_unnamed 12 = .ok (.aload_n 0, 1) := by decide +kernel
theorem dX6_unnamed_13 : decode cX6_unnamed 13 = .ok (.getfield 11, 3) := by decide +kernel
theorem dX6_unnamed_16 : decode cX6_unnamed 16 = .ok (.iload_n 2, 1) := by decide +kernel
theorem dX6_unnamed_17 : decode cX6_unnamed 17 = .ok (.aaload, 1) := by decide +kernel
theorem dX6_unnamed_18 : decode cX6_unnamed 18 = .ok (.astore_n 3, 1) := by decide +kernel
theorem dX6_unnamed_19 : decode cX6_unnamed 19 = .ok (.aload_n 3, 1) := by decide +kernel
theorem dX6_unnamed_20 : decode cX6_unnamed 20 = .ok (.ifnull 14, 3) := by decide +kernel
theorem dX6_unnamed_23 : decode cX6_unnamed 23 = .ok (.aload_n 3, 1) := by decide +kernel
theorem dX6_unnamed_24 : decode cX6_unnamed 24 = .ok (.getfield 21, 3) := by decide +kernel
theorem dX6_unnamed_27 : decode cX6_unnamed 27 = .ok (.iconst (-1), 1) := by decide +kernel
theorem dX6_unnamed_28 : decode cX6_unnamed 28 = .ok (.if_icmp .ne 6, 3) := by decide +kernel
theorem dX6_unnamed_31 : decode cX6_unnamed 31 = .ok (.iinc 1 1, 3) := by decide +kernel
theorem dX6_unnamed_34 : decode cX6_unnamed 34 = .ok (.iinc 2 1, 3) := by decide +kernel
theorem dX6_unnamed_37 : decode cX6_unnamed 37 = .ok (.goto (-33), 3) := by decide +kernel
theorem dX6_unnamed_40 : decode cX6_unnamed 40 = .ok (.iload_n 1, 1) := by decide +kernel
theorem dX6_unnamed_41 : decode cX6_unnamed 41 = .ok (.ireturn, 1) := by decide +kernel
set_option maxHeartbeats 4000000 in
set_option maxRecDepth 100000 in
theorem s_X6_unnamed {P : PP} {a0 : Nat} (I : IV P) (ha0 : At P a0 6) : CtrI yX6_unnamed cX6_unnamed 4 (some Jvm.ClassFile.FieldType.int) ({ frames := 1, cells := 0, slots := 0, locals := 64 } : Room) 0 0 P [.ref a0] (fun r P2 => P = P2 ∧ (True)) := by
  refine enI (lv := [(0, .ref a0)]) (by decide) (Nat.le_of_ble_eq_true rfl) rfl (fun E D cy C Ci0 ret => ?_)
  have J4 : ∀ (n4 : Nat) (v4_1 : Int32) (v4_2 : Int32), (40 - v4_2.toInt).toNat < n4 → (0 ≤ v4_2.toInt ∧ v4_2.toInt ≤ 40) → G E ({ frames := 1, cells := 0, slots := 0, locals := 64 } : Room) D cy 4 P 0 0 4 [(0, .ref a0), (1, .int v4_1), (2, .int v4_2)] [] := by
    intro n4
    induction n4 with
    | zero => intro v4_1 v4_2 hm4 hv4_2; omega
    | succ n4 ih4 =>
      intro v4_1 v4_2 hm4 hv4_2
      have J34 : ∀ (v34_1 : Int32), (0 ≤ v4_2.toInt ∧ v4_2.toInt ≤ 39) → (1 ≤ (pI P a0 1).toInt ∧ (pI P a0 1).toInt ≤ 40) → G E ({ frames := 1, cells := 0, slots := 0, locals := 64 } : Room) D cy 4 P 0 0 34 [(0, .ref a0), (1, .int v34_1), (2, .int v4_2)] [] := by
        intro v34_1 hv34_2 hq34_0
        refine s_iinc (lv0 := [(0, .ref a0), (1, .int v34_1)]) (m := 1) C dX6_unnamed_34 2 rfl (by decide) rfl (by decide) (by omega) (fun z17958 h17959 => ?_)
        have h17959 : z17958.toInt = v4_2.toInt + 1 := h17959
        refine g_goto C 4 dX6_unnamed_37 (by decide) ?_
        refine g_lv (lv' := [(0, .ref a0), (1, .int v34_1), (2, .int z17958)]) [1, 2, 0] rfl ?_
        exact ih4 v34_1 z17958 (by omega) (by omega)
      refine g_iload_n C dX6_unnamed_4 rfl 2 rfl ?_
      refine g_aload_n C dX6_unnamed_5 rfl 0 rfl ?_
      refine g_getI C fi_X6_17 (by decide) (ha0).1 (ha0).2 dX6_unnamed_6 ?_
      have h17960 := I.rg (ha0) 1 rfl
      refine b_icmp_ge C 40 dX6_unnamed_9 (by decide) (fun h17961 => ?_) (fun h17961 => ?_)
      · have h17961 : (pI P a0 1).toInt ≤ v4_2.toInt := h17961
        refine g_iload_n C dX6_unnamed_40 rfl 1 rfl ?_
        exact ret _ _ _ _ _ _ dX6_unnamed_41 rfl (by decide) (by decide) ⟨rfl, trivial⟩
      · have h17961 : v4_2.toInt < (pI P a0 1).toInt := h17961
        refine g_aload_n C dX6_unnamed_12 rfl 0 rfl ?_
        obtain ⟨b17962, e17963, h17964⟩ := I.fld (ha0) 0 20 40 rfl
        refine g_getR C fi_X6_11 rfl e17963 (ha0).1 (ha0).2 dX6_unnamed_13 ?_
        refine g_iload_n C dX6_unnamed_16 rfl 2 rfl ?_
        refine g_aldQ (j := (v4_2.toInt.toNat)) C h17964.1 h17964.2.1 (by decide) (ix_in h17964.2.2 (by omega)) dX6_unnamed_17 ?_
        rcases I.pap h17964 (v4_2.toInt.toNat) with e17966 | ⟨b17965, e17966, h17967⟩
        · rw [e17966]
          show G _ _ _ _ _ _ _ _ _ _ (.null :: _)
          refine g_astore_nN (lv' := [(3, .null), (0, .ref a0), (1, .int v4_1), (2, .int v4_2)]) C dX6_unnamed_18 rfl (by decide) rfl ?_
          refine g_aload_nN C dX6_unnamed_19 rfl 0 rfl ?_
          refine g_ifnullN C 34 dX6_unnamed_20 (by decide) ?_
          refine g_lv (lv' := [(0, .ref a0), (1, .int v4_1), (2, .int v4_2)]) [1, 2, 3] rfl ?_
          exact J34 v4_1 (by omega) (by omega)
        · rw [e17966]
          show G _ _ _ _ _ _ _ _ _ _ (.ref b17965 :: _)
          refine g_astore_n (lv' := [(3, .ref b17965), (0, .ref a0), (1, .int v4_1), (2, .int v4_2)]) C dX6_unnamed_18 rfl (by decide) rfl ?_
          refine g_aload_n C dX6_unnamed_19 rfl 0 rfl ?_
          refine g_ifnull C dX6_unnamed_20 ?_
          refine g_aload_n C dX6_unnamed_23 rfl 0 rfl ?_
          refine g_getI C fi_X6_21 (by decide) (h17967).1 (h17967).2 dX6_unnamed_24 ?_
          have h17968 := I.rg (h17967) 0 rfl
          refine g_iconst (v := (-1)) C dX6_unnamed_27 (by decide) ?_
          refine b_icmp_ne C 34 dX6_unnamed_28 (by decide) (fun h17969 => ?_) (fun h17969 => ?_)
          · have h17969 : (pI P b17965 0).toInt ≠ (-1) := ti_ne h17969
            refine g_lv (lv' := [(0, .ref a0), (1, .int v4_1), (2, .int v4_2)]) [1, 2, 3] rfl ?_
            exact J34 v4_1 (by omega) (by omega)
          · have h17969 : (pI P b17965 0).toInt = (-1) := congrArg Int32.toInt h17969
            refine a_iinc (lv0 := [(3, .ref b17965), (0, .ref a0), (2, .int v4_2)]) C dX6_unnamed_31 2 rfl (by decide) rfl (fun z17970 => ?_)
            refine g_lv (lv' := [(0, .ref a0), (1, .int z17970), (2, .int v4_2)]) [2, 0, 3] rfl ?_
            exact J34 z17970 (by omega) (by omega)
  refine g_iconst (v := 0) C dX6_unnamed_0 (by decide) ?_
  refine g_istore_n (lv' := [(1, .int 0), (0, .ref a0)]) C dX6_unnamed_1 rfl (by decide) rfl ?_
  refine g_iconst (v := 0) C dX6_unnamed_2 (by decide) ?_
  refine g_istore_n (lv' := [(2, .int 0), (1, .int 0), (0, .ref a0)]) C dX6_unnamed_3 rfl (by decide) rfl ?_
  refine g_lv (lv' := [(0, .ref a0), (1, .int 0), (2, .int 0)]) [2, 1, 0] rfl ?_
  exact J4 _ 0 0 (Nat.lt_succ_self _) (by decide)
theorem dX6_put_21 : decode cX6_put 21 = .ok (.bipush 6, 2) := by decide +kernel
theorem dX6_put_23 : decode cX6_put 23 = .ok (.if_icmp .lt 5, 3) := by decide +kernel
theorem dX6_put_26 : decode cX6_put 26 = .ok (.iconst (-1), 1) := by decide +kernel
theorem dX6_put_27 : decode cX6_put 27 = .ok (.ireturn, 1) := by decide +kernel
theorem dX6_put_28 : decode cX6_put 28 = .ok (.aload_n 0, 1) := by decide +kernel
theorem dX6_put_29 : decode cX6_put 29 = .ok (.getfield 11, 3) := by decide +kernel
theorem dX6_put_32 : decode cX6_put 32 = .ok (.aload_n 0, 1) := by decide +kernel
theorem dX6_put_33 : decode cX6_put 33 = .ok (.getfield 17, 3) := by decide +kernel
theorem dX6_put_36 : decode cX6_put 36 = .ok (.aload_n 1, 1) := by decide +kernel
theorem dX6_put_37 : decode cX6_put 37 = .ok (.aastore, 1) := by decide +kernel
theorem dX6_put_38 : decode cX6_put 38 = .ok (.aload_n 0, 1) := by decide +kernel
theorem dX6_put_39 : decode cX6_put 39 = .ok (.dup, 1) := by decide +kernel
theorem dX6_put_40 : decode cX6_put 40 = .ok (.getfield 17, 3) := by decide +kernel
theorem dX6_put_43 : decode cX6_put 43 = .ok (.iconst 1, 1) := by decide +kernel
theorem dX6_put_44 : decode cX6_put 44 = .ok (.iadd, 1) := by decide +kernel
theorem dX6_put_45 : decode cX6_put 45 = .ok (.putfield 17, 3) := by decide +kernel
theorem dX6_put_48 : decode cX6_put 48 = .ok (.aload_n 0, 1) := by decide +kernel
theorem dX6_put_49 : decode cX6_put 49 = .ok (.getfield 17, 3) := by decide +kernel
theorem dX6_put_52 : decode cX6_put 52 = .ok (.iconst 1, 1) := by decide +kernel
theorem dX6_put_53 : decode cX6_put 53 = .ok (.isub, 1) := by decide +kernel
theorem dX6_put_54 : decode cX6_put 54 = .ok (.ireturn, 1) := by decide +kernel
set_option maxHeartbeats 4000000 in
set_option maxRecDepth 100000 in
theorem s_X6_put {P : PP} {a0 : Nat} {a1 : Nat} (I : IV P) (ha0 : At P a0 6) (ha1 : At P a1 7) : CtrI yX6_put cX6_put 2 (some Jvm.ClassFile.FieldType.int) ({ frames := 2, cells := 0, slots := 0, locals := 128 } : Room) 0 0 P [.ref a0, .ref a1] (fun r P2 => IV P2 ∧ EK [6] P P2 ∧ (-1 ≤ r.toInt ∧ r.toInt ≤ 39)) := by
  refine enI (lv := [(0, .ref a0), (1, .ref a1)]) (by decide) (Nat.le_of_ble_eq_true rfl) rfl (fun E D cy C Ci0 ret => ?_)
  have J28 : (0 ≤ (pI P a0 1).toInt ∧ (pI P a0 1).toInt ≤ 39) → (-1 ≤ (pI P a1 0).toInt ∧ (pI P a1 0).toInt ≤ 1) → G E ({ frames := 2, cells := 0, slots := 0, locals := 128 } : Room) D cy 2 P 0 0 28 [(0, .ref a0), (1, .ref a1)] [] := by
    intro hq28_0 hq28_1
    refine g_aload_n C dX6_put_28 rfl 0 rfl ?_
    obtain ⟨b18005, e18006, h18007⟩ := I.fld (ha0) 0 20 40 rfl
    refine g_getR C fi_X6_11 rfl e18006 (ha0).1 (ha0).2 dX6_put_29 ?_
    refine g_aload_n C dX6_put_32 rfl 0 rfl ?_
    refine g_getI C fi_X6_17 (by decide) (ha0).1 (ha0).2 dX6_put_33 ?_
    refine g_aload_n C dX6_put_36 rfl 1 rfl ?_
    refine g_astR (j := ((pI P a0 1).toInt.toNat)) C h18007.1 h18007.2.1 (by decide) (ix_in h18007.2.2 (by omega)) (ha1).1 (ha1).2 (by decide) rfl rfl dX6_put_37 ?_
    refine gp (ks := []) (I.setP h18007 (fun _ z => by cases z; exact ha1)) (EK.setR h18007.2.1 (by decide)) (fun Y18008 Iy18009 Xy18010 => ?_)
    have q18011 := Xy18010.keep ha0 (by decide) 1
    have q18012 := Xy18010.keep ha1 (by decide) 0
    have Xz18013 : EK [6] P Y18008 := Xy18010.mono (by decide)
    have h18014 := Xy18010.at ha0
    have h18015 := Xy18010.at ha1
    refine g_aload_n C dX6_put_38 rfl 0 rfl ?_
    refine g_dup C dX6_put_39 rfl ?_
    refine g_getI C fi_X6_17 (by decide) (h18014).1 (h18014).2 dX6_put_40 ?_
    refine g_iconst (v := 1) C dX6_put_43 (by decide) ?_
    refine s_iadd C dX6_put_44 (by show -2147483648 ≤ (pI Y18008 a0 1).toInt + 1 ∧ (pI Y18008 a0 1).toInt + 1 ≤ 2147483647; omega) (fun z18016 h18017 => ?_)
    have h18017 : z18016.toInt = (pI Y18008 a0 1).toInt + 1 := h18017
    refine g_putI C fi_X6_17 rfl (h18014).1 (h18014).2 dX6_put_45 ?_
    refine gpW (ks := [6]) (Iy18009.setI (h18014) (rgOk.of rfl (by omega))) (EK.setI (h18014).2 (by decide)) (fun Y18018 Iy18019 Xy18020 w18021 w18022 => ?_)
    have q18023 := Xy18020.keep h18015 (by decide) 0
    have Xz18024 : EK [6] P Y18018 := Xz18013.tr (Xy18020.mono (by decide))
    have h18025 := Xy18020.at h18014
    have h18026 := Xy18020.at h18015
    refine g_aload_n C dX6_put_48 rfl 0 rfl ?_
    refine g_getI C fi_X6_17 (by decide) (h18025).1 (h18025).2 dX6_put_49 ?_
    refine g_iconst (v := 1) C dX6_put_52 (by decide) ?_
    refine s_isub C dX6_put_53 (by show -2147483648 ≤ (pI Y18018 a0 1).toInt - 1 ∧ (pI Y18018 a0 1).toInt - 1 ≤ 2147483647; omega) (fun z18027 h18028 => ?_)
    have h18028 : z18027.toInt = (pI Y18018 a0 1).toInt - 1 := h18028
    exact ret _ _ _ _ _ _ dX6_put_54 rfl (by decide) (by decide) ⟨Iy18019, Xz18024, (by omega)⟩
  have J26 : (0 ≤ (pI P a0 1).toInt ∧ (pI P a0 1).toInt ≤ 40) → G E ({ frames := 2, cells := 0, slots := 0, locals := 128 } : Room) D cy 2 P 0 0 26 [] [] := by
    intro hq26_0
    refine g_iconst (v := (-1)) C dX6_put_26 (by decide) ?_
    exact ret _ _ _ _ _ _ dX6_put_27 rfl (by decide) (by decide) ⟨I, EK.rf, (by decide)⟩
  refine g_aload_n C dX6_put_0 rfl 0 rfl ?_
  refine g_getI C fi_X6_17 (by decide) (ha0).1 (ha0).2 dX6_put_1 ?_
  have h18029 := I.rg (ha0) 1 rfl
  refine g_bipush (v := 40) C dX6_put_4 (by decide) ?_
  refine b_icmp_ge C 26 dX6_put_6 (by decide) (fun h18030 => ?_) (fun h18030 => ?_)
  · have h18030 : 40 ≤ (pI P a0 1).toInt := h18030
    refine g_lv (lv' := []) [] rfl ?_
    exact J26 (by omega)
  · have h18030 : (pI P a0 1).toInt < 40 := h18030
    refine g_aload_n C dX6_put_9 rfl 1 rfl ?_
    refine g_getI C fi_X6_21 (by decide) (ha1).1 (ha1).2 dX6_put_10 ?_
    have h18031 := I.rg (ha1) 0 rfl
    refine g_iconst (v := (-1)) C dX6_put_13 (by decide) ?_
    refine b_icmp_ne C 28 dX6_put_14 (by decide) (fun h18032 => ?_) (fun h18032 => ?_)
    · have h18032 : (pI P a1 0).toInt ≠ (-1) := ti_ne h18032
      exact J28 (by omega) (by omega)
    · have h18032 : (pI P a1 0).toInt = (-1) := congrArg Int32.toInt h18032
      refine g_aload_n C dX6_put_17 rfl 0 rfl ?_
      refine g_callVI (rest := []) C mv_X6_24 [] (s_X6_unnamed I ha0) (ha0).1 (ha0).2 rfl rfl (by decide) (Nat.le_of_ble_eq_true rfl) (by decide) dX6_put_18 (fun r18033 Y18034 h18035 => ?_)
      obtain ⟨rfl, h18035⟩ := h18035
      have h18035 : True := h18035
      refine g_bipush (v := 6) C dX6_put_21 (by decide) ?_
      have u18037 := ti_rng r18033
      refine b_icmp_lt C 28 dX6_put_23 (by decide) (fun h18036 => ?_) (fun h18036 => ?_)
      · have h18036 : r18033.toInt < 6 := h18036
        exact J28 (by omega) (by omega)
      · have h18036 : 6 ≤ r18033.toInt := h18036
        refine g_lv (lv' := []) [] rfl ?_
        exact J26 (by omega)
theorem dX11_comes_28 : decode cX11_comes 28 = .ok (.iconst (-1), 1) := by decide +kernel
theorem dX11_comes_29 : decode cX11_comes 29 = .ok (.ireturn, 1) := by decide +kernel
theorem dX11_comes_51 : decode cX11_comes 51 = .ok (.ireturn, 1) := by decide +kernel
set_option maxHeartbeats 4000000 in
set_option maxRecDepth 100000 in
theorem s_X11_comes {P : PP} {a0 : Nat} {a1 : Int32} {a2 : Int32} {a3 : Int32} {a4 : Int32} (I : IV P) (ha0 : At P a0 11) : CtrI yX11_comes cX11_comes 5 (some Jvm.ClassFile.FieldType.int) ({ frames := 6, cells := 1, slots := 7, locals := 384 } : Room) 1 7 P [.ref a0, .int a1, .int a2, .int a3, .int a4] (fun r P2 => IV P2 ∧ EK [1, 6, 7, 13] P P2 ∧ (-1 ≤ r.toInt ∧ r.toInt ≤ 39)) := by
  refine enI (lv := [(0, .ref a0), (1, .int a1), (2, .int a2), (3, .int a3), (4, .int a4)]) (by decide) (Nat.le_of_ble_eq_true rfl) rfl (fun E D cy C Ci0 ret => ?_)
  have J28 : G E ({ frames := 6, cells := 1, slots := 7, locals := 384 } : Room) D cy 5 P 0 0 28 [] [] := by
    refine g_iconst (v := (-1)) C dX11_comes_28 (by decide) ?_
    exact ret _ _ _ _ _ _ dX11_comes_29 rfl (by decide) (by decide) ⟨I, EK.rf, (by decide)⟩
  refine g_iload_n C dX11_comes_0 rfl 1 rfl ?_
  refine g_callSI (b := 0) (ci := 0) (rest := []) C ms_X11_158 [.int a1] (s_X11_isQuarter I) rfl rfl (by decide) (Nat.le_of_ble_eq_true rfl) (by decide) dX11_comes_1 (fun r18081 Y18082 h18083 => ?_)
  obtain ⟨rfl, h18083⟩ := h18083
  obtain ⟨h18083, hi18084⟩ := h18083
  have hi18084 : r18081.toInt = 0 ∨ (((0 : Int) ≤ a1.toInt ∧ a1.toInt ≤ (3 : Int))) := hi18084
  have h18083 : 0 ≤ r18081.toInt ∧ r18081.toInt ≤ 1 := h18083
  refine b_if_eq C 28 dX11_comes_4 (by decide) (fun h18085 => ?_) (fun h18085 => ?_)
  · have h18085 : r18081.toInt = 0 := congrArg Int32.toInt h18085
    clear hi18084
    refine g_lv (lv' := []) [] rfl ?_
    exact J28 
  · have h18085 : r18081.toInt ≠ 0 := ti_ne h18085
    replace hi18084 := hi18084.resolve_left (by omega)
    refine g_aload_n C dX11_comes_7 rfl 0 rfl ?_
    refine g_iload_n C dX11_comes_8 rfl 2 rfl ?_
    refine g_iload_n C dX11_comes_9 rfl 3 rfl ?_
    refine g_callVI (rest := []) C mv_X11_136 [.int a2, .int a3] (s_X11_isLeaflet I ha0) (ha0).1 (ha0).2 rfl rfl (by decide) (Nat.le_of_ble_eq_true rfl) (by decide) dX11_comes_10 (fun r18086 Y18087 h18088 => ?_)
    obtain ⟨rfl, h18088⟩ := h18088
    obtain ⟨h18088, hi18089⟩ := h18088
    have hi18089 : r18086.toInt = 0 ∨ (((0 : Int) ≤ a2.toInt ∧ a2.toInt ≤ (1 : Int)) ∧ ((0 : Int) ≤ a3.toInt ∧ a3.toInt ≤ (9999 : Int))) := hi18089
    have h18088 : 0 ≤ r18086.toInt ∧ r18086.toInt ≤ 1 := h18088
    refine b_if_eq C 28 dX11_comes_13 (by decide) (fun h18090 => ?_) (fun h18090 => ?_)
    · have h18090 : r18086.toInt = 0 := congrArg Int32.toInt h18090
      clear hi18089
      refine g_lv (lv' := []) [] rfl ?_
      exact J28 
    · have h18090 : r18086.toInt ≠ 0 := ti_ne h18090
      replace hi18089 := hi18089.resolve_left (by omega)
      refine g_iload C dX11_comes_16 4 rfl ?_
      refine g_iconst (v := 1) C dX11_comes_18 (by decide) ?_
      have u18092 := ti_rng a4
      refine b_icmp_lt C 28 dX11_comes_19 (by decide) (fun h18091 => ?_) (fun h18091 => ?_)
      · have h18091 : a4.toInt < 1 := h18091
        refine g_lv (lv' := []) [] rfl ?_
        exact J28 
      · have h18091 : 1 ≤ a4.toInt := h18091
        refine g_iload C dX11_comes_22 4 rfl ?_
        refine g_iconst (v := 3) C dX11_comes_24 (by decide) ?_
        have u18094 := ti_rng a4
        refine b_icmp_le C 30 dX11_comes_25 (by decide) (fun h18093 => ?_) (fun h18093 => ?_)
        · have h18093 : a4.toInt ≤ 3 := h18093
          refine g_aload_n C dX11_comes_30 rfl 0 rfl ?_
          obtain ⟨b18095, e18096, h18097⟩ := I.fld (ha0) 1 19 4 rfl
          refine g_getR C fi_X11_17 rfl e18096 (ha0).1 (ha0).2 dX11_comes_31 ?_
          refine g_iload_n C dX11_comes_34 rfl 1 rfl ?_
          obtain ⟨b18098, e18099, h18100⟩ := I.elm h18097 (by decide) (a1.toInt.toNat) (by omega)
          refine g_aldR C h18097.1 h18097.2.1 (by decide) (ix_in h18097.2.2 (by omega)) e18099 dX11_comes_35 ?_
          refine g_aload_n C dX11_comes_36 rfl 0 rfl ?_
          obtain ⟨b18101, e18102, h18103⟩ := I.fld (ha0) 0 17 2 rfl
          refine g_getR C fi_X11_11 rfl e18102 (ha0).1 (ha0).2 dX11_comes_37 ?_
          refine g_iload_n C dX11_comes_40 rfl 2 rfl ?_
          obtain ⟨b18104, e18105, h18106⟩ := I.elm h18103 (by decide) (a2.toInt.toNat) (by omega)
          refine g_aldR C h18103.1 h18103.2.1 (by decide) (ix_in h18103.2.2 (by omega)) e18105 dX11_comes_41 ?_
          refine g_iload_n C dX11_comes_42 rfl 3 rfl ?_
          refine g_iload C dX11_comes_43 4 rfl ?_
          refine g_callVQ (rest := [.ref b18098]) C mv_X11_161 [.int a3, .int a4] (s_X1_leafletPaper I h18106) (h18106).1 (h18106).2 rfl rfl (by decide) (Nat.le_of_ble_eq_true rfl) (by decide) dX11_comes_45 (fun r18107 Y18108 h18109 => ?_)
          obtain ⟨Iy18110, Xy18111, h18109⟩ := h18109
          have Xz18112 : EK [1, 6, 7, 13] P Y18108 := Xy18111.mono (by decide)
          have h18113 := Xy18111.at ha0
          have h18114 := Xy18111.at h18100
          obtain ⟨b18116, rfl, h18109⟩ := h18109
          show G _ _ _ _ _ _ _ _ _ _ (.ref b18116 :: _)
          refine g_callVI (rest := []) C mv_X11_165 [.ref b18116] (s_X6_put Iy18110 h18114 h18109) (h18114).1 (h18114).2 rfl rfl (by decide) (Nat.le_of_ble_eq_true rfl) (by decide) dX11_comes_48 (fun r18117 Y18118 h18119 => ?_)
          obtain ⟨Iy18120, Xy18121, h18119⟩ := h18119
          have Xz18122 : EK [1, 6, 7, 13] P Y18118 := Xz18112.tr (Xy18121.mono (by decide))
          have h18123 := Xy18121.at h18113
          have h18119 : -1 ≤ r18117.toInt ∧ r18117.toInt ≤ 39 := h18119
          exact ret _ _ _ _ _ _ dX11_comes_51 rfl (by decide) (by decide) ⟨Iy18120, Xz18122, (by omega)⟩
        · have h18093 : 3 < a4.toInt := h18093
          refine g_lv (lv' := []) [] rfl ?_
          exact J28 
theorem dX11_count_0 : decode cX11_count 0 = .ok (.iload_n 1, 1) := by decide +kernel
theorem dX11_count_1 : decode cX11_count 1 = .ok (.invokestatic 158, 3) := by decide +kernel
theorem dX11_count_4 : decode cX11_count 4 = .ok (.ifCond .eq 13, 3) := by decide +kernel
theorem dX11_count_7 : decode cX11_count 7 = .ok (.aload_n 0, 1) := by decide +kernel
theorem dX11_count_8 : decode cX11_count 8 = .ok (.getfield 17, 3) := by decide +kernel
theorem dX11_count_11 : decode cX11_count 11 = .ok (.iload_n 1, 1) := by decide +kernel
theorem dX11_count_12 : decode cX11_count 12 = .ok (.aaload, 1) := by decide +kernel
theorem dX11_count_13 : decode cX11_count 13 = .ok (.getfield 336, 3) := by decide +kernel
theorem dX11_count_16 : decode cX11_count 16 = .ok (.ireturn, 1) := by decide +kernel
theorem dX11_count_17 : decode cX11_count 17 = .ok (.iload_n 1, 1) := by decide +kernel
theorem dX11_count_18 : decode cX11_count 18 = .ok (.tableswitch 75 4 8 #[34, 44, 54, 65, 70], 34) := by decide +kernel
theorem dX11_count_52 : decode cX11_count 52 = .ok (.aload_n 0, 1) := by decide +kernel
theorem dX11_count_53 : decode cX11_count 53 = .ok (.getfield 11, 3) := by decide +kernel
theorem dX11_count_56 : decode cX11_count 56 = .ok (.iconst 0, 1) := by decide +kernel
theorem dX11_count_57 : decode cX11_count 57 = .ok (.aaload, 1) := by decide +kernel
theorem dX11_count_58 : decode cX11_count 58 = .ok (.invokevirtual 233, 3) := by decide +kernel
theorem dX11_count_61 : decode cX11_count 61 = .ok (.ireturn, 1) := by decide +kernel
theorem dX11_count_62 : decode cX11_count 62 = .ok (.aload_n 0, 1) := by decide +kernel
theorem dX11_count_63 : decode cX11_count 63 = .ok (.getfield 11, 3) := by decide +kernel
theorem dX11_count_66 : decode cX11_count 66 = .ok (.iconst 1, 1) := by decide +kernel
theorem dX11_count_67 : decode cX11_count 67 = .ok (.aaload, 1) := by decide +kernel
theorem dX11_count_68 : decode cX11_count 68 = .ok (.invokevirtual 233, 3) := by decide +kernel
theorem dX11_count_71 : decode cX11_count 71 = .ok (.ireturn, 1) := by decide +kernel
theorem dX11_count_72 : decode cX11_count 72 = .ok (.aload_n 0, 1) := by decide +kernel
theorem dX11_count_73 : decode cX11_count 73 = .ok (.getfield 41, 3) := by decide +kernel
theorem dX11_count_76 : decode cX11_count 76 = .ok (.getfield 111, 3) := by decide +kernel
theorem dX11_count_79 : decode cX11_count 79 = .ok (.getfield 121, 3) := by decide +kernel
theorem dX11_count_82 : decode cX11_count 82 = .ok (.ireturn, 1) := by decide +kernel
theorem dX11_count_83 : decode cX11_count 83 = .ok (.aload_n 0, 1) := by decide +kernel
theorem dX11_count_84 : decode cX11_count 84 = .ok (.getfield 348, 3) := by decide +kernel
theorem dX11_count_87 : decode cX11_count 87 = .ok (.ireturn, 1) := by decide +kernel
theorem dX11_count_88 : decode cX11_count 88 = .ok (.aload_n 0, 1) := by decide +kernel
theorem dX11_count_89 : decode cX11_count 89 = .ok (.invokevirtual 330, 3) := by decide +kernel
theorem dX11_count_92 : decode cX11_count 92 = .ok (.ireturn, 1) := by decide +kernel
theorem dX11_count_93 : decode cX11_count 93 = .ok (.iconst (-1), 1) := by decide +kernel
theorem dX11_count_94 : decode cX11_count 94 = .ok (.ireturn, 1) := by decide +kernel
set_option maxHeartbeats 4000000 in
set_option maxRecDepth 100000 in
theorem s_X11_count {P : PP} {a0 : Nat} {a1 : Int32} (I : IV P) (ha0 : At P a0 11) : CtrI yX11_count cX11_count 2 (some Jvm.ClassFile.FieldType.int) ({ frames := 2, cells := 0, slots := 0, locals := 128 } : Room) 0 0 P [.ref a0, .int a1] (fun r P2 => P = P2 ∧ (True)) := by
  refine enI (lv := [(0, .ref a0), (1, .int a1)]) (by decide) (Nat.le_of_ble_eq_true rfl) rfl (fun E D cy C Ci0 ret => ?_)
  refine g_iload_n C dX11_count_0 rfl 1 rfl ?_
  refine g_callSI (b := 0) (ci := 0) (rest := []) C ms_X11_158 [.int a1] (s_X11_isQuarter I) rfl rfl (by decide) (Nat.le_of_ble_eq_true rfl) (by decide) dX11_count_1 (fun r18166 Y18167 h18168 => ?_)
  obtain ⟨rfl, h18168⟩ := h18168
  obtain ⟨h18168, hi18169⟩ := h18168
  have hi18169 : r18166.toInt = 0 ∨ (((0 : Int) ≤ a1.toInt ∧ a1.toInt ≤ (3 : Int))) := hi18169
  have h18168 : 0 ≤ r18166.toInt ∧ r18166.toInt ≤ 1 := h18168
  refine b_if_eq C 17 dX11_count_4 (by decide) (fun h18170 => ?_) (fun h18170 => ?_)
  · have h18170 : r18166.toInt = 0 := congrArg Int32.toInt h18170
    clear hi18169
    refine g_iload_n C dX11_count_17 rfl 1 rfl ?_
    by_cases h18171 : a1.toInt < 4 ∨ 8 < a1.toInt
    · refine g_tableOut C 93 dX11_count_18 h18171 (by decide) ?_
      refine g_iconst (v := (-1)) C dX11_count_93 (by decide) ?_
      exact ret _ _ _ _ _ _ dX11_count_94 rfl (by decide) (by decide) ⟨rfl, trivial⟩
    · rcases (show a1.toInt = 4 ∨ a1.toInt = 5 ∨ a1.toInt = 6 ∨ a1.toInt = 7 ∨ a1.toInt = 8 by omega) with h18172 | h18172 | h18172 | h18172 | h18172
      · refine g_tableIn C 52 dX11_count_18 (by omega) (by omega) (by rw [h18172]; rfl) (by decide) ?_
        refine g_aload_n C dX11_count_52 rfl 0 rfl ?_
        obtain ⟨b18173, e18174, h18175⟩ := I.fld (ha0) 0 17 2 rfl
        refine g_getR C fi_X11_11 rfl e18174 (ha0).1 (ha0).2 dX11_count_53 ?_
        refine g_iconst (v := 0) C dX11_count_56 (by decide) ?_
        obtain ⟨b18176, e18177, h18178⟩ := I.elm h18175 (by decide) 0 (by decide)
        refine g_aldR C h18175.1 h18175.2.1 (by decide) (IX.litn (j := 0) h18175.2.2 rfl (by decide) (by decide)) e18177 dX11_count_57 ?_
        refine g_callVI (rest := []) C mv_X11_233 [] (s_X1_all I h18178) (h18178).1 (h18178).2 rfl rfl (by decide) (Nat.le_of_ble_eq_true rfl) (by decide) dX11_count_58 (fun r18179 Y18180 h18181 => ?_)
        obtain ⟨rfl, h18181⟩ := h18181
        have h18181 : 0 ≤ r18179.toInt ∧ r18179.toInt ≤ 20 := h18181
        exact ret _ _ _ _ _ _ dX11_count_61 rfl (by decide) (by decide) ⟨rfl, trivial⟩
      · refine g_tableIn C 62 dX11_count_18 (by omega) (by omega) (by rw [h18172]; rfl) (by decide) ?_
        refine g_aload_n C dX11_count_62 rfl 0 rfl ?_
        obtain ⟨b18182, e18183, h18184⟩ := I.fld (ha0) 0 17 2 rfl
        refine g_getR C fi_X11_11 rfl e18183 (ha0).1 (ha0).2 dX11_count_63 ?_
        refine g_iconst (v := 1) C dX11_count_66 (by decide) ?_
        obtain ⟨b18185, e18186, h18187⟩ := I.elm h18184 (by decide) 1 (by decide)
        refine g_aldR C h18184.1 h18184.2.1 (by decide) (IX.litn (j := 1) h18184.2.2 rfl (by decide) (by decide)) e18186 dX11_count_67 ?_
        refine g_callVI (rest := []) C mv_X11_233 [] (s_X1_all I h18187) (h18187).1 (h18187).2 rfl rfl (by decide) (Nat.le_of_ble_eq_true rfl) (by decide) dX11_count_68 (fun r18188 Y18189 h18190 => ?_)
        obtain ⟨rfl, h18190⟩ := h18190
        have h18190 : 0 ≤ r18188.toInt ∧ r18188.toInt ≤ 20 := h18190
        exact ret _ _ _ _ _ _ dX11_count_71 rfl (by decide) (by decide) ⟨rfl, trivial⟩
      · refine g_tableIn C 72 dX11_count_18 (by omega) (by omega) (by rw [h18172]; rfl) (by decide) ?_
        refine g_aload_n C dX11_count_72 rfl 0 rfl ?_
        obtain ⟨b18191, e18192, h18193⟩ := I.fld (ha0) 7 4 0 rfl
        refine g_getR C fi_X11_41 rfl e18192 (ha0).1 (ha0).2 dX11_count_73 ?_
        obtain ⟨b18194, e18195, h18196⟩ := I.fld (h18193.at) 0 9 0 rfl
        refine g_getR C fi_X11_111 rfl e18195 (h18193.at).1 (h18193.at).2 dX11_count_76 ?_
        refine g_getI C fi_X11_121 (by decide) (h18196.at).1 (h18196.at).2 dX11_count_79 ?_
        have h18197 := I.rg (h18196.at) 1 rfl
        exact ret _ _ _ _ _ _ dX11_count_82 rfl (by decide) (by decide) ⟨rfl, trivial⟩
      · refine g_tableIn C 83 dX11_count_18 (by omega) (by omega) (by rw [h18172]; rfl) (by decide) ?_
        refine g_aload_n C dX11_count_83 rfl 0 rfl ?_
        refine g_getI C fi_X11_348 (by decide) (ha0).1 (ha0).2 dX11_count_84 ?_
        exact ret _ _ _ _ _ _ dX11_count_87 rfl (by decide) (by decide) ⟨rfl, trivial⟩
      · refine g_tableIn C 88 dX11_count_18 (by omega) (by omega) (by rw [h18172]; rfl) (by decide) ?_
        refine g_aload_n C dX11_count_88 rfl 0 rfl ?_
        refine g_callVI (rest := []) C mv_X11_330 [] (s_X11_allHouses I ha0) (ha0).1 (ha0).2 rfl rfl (by decide) (Nat.le_of_ble_eq_true rfl) (by decide) dX11_count_89 (fun r18198 Y18199 h18200 => ?_)
        obtain ⟨rfl, h18200⟩ := h18200
        have h18200 : True := h18200
        exact ret _ _ _ _ _ _ dX11_count_92 rfl (by decide) (by decide) ⟨rfl, trivial⟩
  · have h18170 : r18166.toInt ≠ 0 := ti_ne h18170
    replace hi18169 := hi18169.resolve_left (by omega)
    refine g_aload_n C dX11_count_7 rfl 0 rfl ?_
    obtain ⟨b18201, e18202, h18203⟩ := I.fld (ha0) 1 19 4 rfl
    refine g_getR C fi_X11_17 rfl e18202 (ha0).1 (ha0).2 dX11_count_8 ?_
    refine g_iload_n C dX11_count_11 rfl 1 rfl ?_
    obtain ⟨b18204, e18205, h18206⟩ := I.elm h18203 (by decide) (a1.toInt.toNat) (by omega)
    refine g_aldR C h18203.1 h18203.2.1 (by decide) (ix_in h18203.2.2 (by omega)) e18205 dX11_count_12 ?_
    refine g_getI C fi_X11_336 (by decide) (h18206).1 (h18206).2 dX11_count_13 ?_
    have h18207 := I.rg (h18206) 1 rfl
    exact ret _ _ _ _ _ _ dX11_count_16 rfl (by decide) (by decide) ⟨rfl, trivial⟩
theorem dX11_degree_0 : decode cX11_degree 0 = .ok (.aload_n 0, 1) := by decide +kernel
theorem dX11_degree_1 : decode cX11_degree 1 = .ok (.iload_n 1, 1) := by decide +kernel
theorem dX11_degree_2 : decode cX11_degree 2 = .ok (.invokevirtual 97, 3) := by decide +kernel
theorem dX11_degree_5 : decode cX11_degree 5 = .ok (.ifCond .eq 19, 3) := by decide +kernel
theorem dX11_degree_8 : decode cX11_degree 8 = .ok (.iload_n 2, 1) := by decide +kernel
theorem dX11_degree_9 : decode cX11_degree 9 = .ok (.iload_n 3, 1) := by decide +kernel
theorem dX11_degree_10 : decode cX11_degree 10 = .ok (.invokestatic 289, 3) := by decide +kernel
theorem dX11_degree_13 : decode cX11_degree 13 = .ok (.ifCond .eq 11, 3) := by decide +kernel
theorem dX11_degree_16 : decode cX11_degree 16 = .ok (.iload 4, 2) := by decide +kernel
theorem dX11_degree_18 : decode cX11_degree 18 = .ok (.invokestatic 249, 3) := by decide +kernel
theorem dX11_degree_21 : decode cX11_degree 21 = .ok (.ifCond .ne 5, 3) := by decide +kernel
theorem dX11_degree_24 : decode cX11_degree 24 = .ok (.iconst (-1), 1) := by decide +kernel
theorem dX11_degree_25 : decode cX11_degree 25 = .ok (.ireturn, 1) := by decide +kernel
theorem dX11_degree_26 : decode cX11_degree 26 = .ok (.aload_n 0, 1) := by decide +kernel
theorem dX11_degree_27 : decode cX11_degree 27 = .ok (.getfield 11, 3) := by decide +kernel
theorem dX11_degree_30 : decode cX11_degree 30 = .ok (.iload_n 1, 1) := by decide +kernel
theorem dX11_degree_31 : decode cX11_degree 31 = .ok (.aaload, 1) := by decide +kernel
theorem dX11_degree_32 : decode cX11_degree 32 = .ok (.astore 5, 2) := by decide +kernel
theorem dX11_degree_34 : decode cX11_degree 34 = .ok (.iconst 1, 1) := by decide +kernel
theorem dX11_degree_35 : decode cX11_degree 35 = .ok (.istore 6, 2) := by decide +kernel
theorem dX11_degree_37 : decode cX11_degree 37 = .ok (.iconst 0, 1) := by decide +kernel
theorem dX11_degree_38 : decode cX11_degree 38 = .ok (.istore 7, 2) := by decide +kernel
theorem dX11_degree_40 : decode cX11_degree 40 = .ok (.iload_n 3, 1) := by decide +kernel
theorem dX11_degree_41 : decode cX11_degree 41 = .ok (.aload 5, 2) := by decide +kernel
theorem dX11_degree_43 : decode cX11_degree 43 = .ok (.getfield 100, 3) := by decide +kernel
theorem dX11_degree_46 : decode cX11_degree 46 = .ok (.if_icmp .ge 7, 3) := by decide +kernel
theorem dX11_degree_49 : decode cX11_degree 49 = .ok (.iconst 0, 1) := by decide +kernel
theorem dX11_degree_50 : decode cX11_degree 50 = .ok (.goto 8, 3) := by decide +kernel
theorem dX11_degree_53 : decode cX11_degree 53 = .ok (.aload 5, 2) := by decide +kernel
theorem dX11_degree_55 : decode cX11_degree 55 = .ok (.invokevirtual 233, 3) := by decide +kernel
theorem dX11_degree_58 : decode cX11_degree 58 = .ok (.istore 8, 2) := by decide +kernel
theorem dX11_degree_60 : decode cX11_degree 60 = .ok (.iconst 1, 1) := by decide +kernel
theorem dX11_degree_61 : decode cX11_degree 61 = .ok (.istore 9, 2) := by decide +kernel
theorem dX11_degree_63 : decode cX11_degree 63 = .ok (.iload 9, 2) := by decide +kernel
theorem dX11_degree_65 : decode cX11_degree 65 = .ok (.iload 8, 2) := by decide +kernel
theorem dX11_degree_67 : decode cX11_degree 67 = .ok (.if_icmp .gt 52, 3) := by decide +kernel
theorem dX11_degree_70 : decode cX11_degree 70 = .ok (.aload_n 0, 1) := by decide +kernel
theorem dX11_degree_71 : decode cX11_degree 71 = .ok (.getfield 60, 3) := by decide +kernel
theorem dX11_degree_74 : decode cX11_degree 74 = .ok (.aload 5, 2) := by decide +kernel
theorem dX11_degree_76 : decode cX11_degree 76 = .ok (.iload_n 2, 1) := by decide +kernel
theorem dX11_degree_77 : decode cX11_degree 77 = .ok (.iload 4, 2) := by decide +kernel
theorem dX11_degree_79 : decode cX11_degree 79 = .ok (.iload 9, 2) := by decide +kernel
theorem dX11_degree_81 : decode cX11_degree 81 = .ok (.invokevirtual 292, 3) := by decide +kernel
theorem dX11_degree_84 : decode cX11_degree 84 = .ok (.aload_n 0, 1) := by decide +kernel
theorem dX11_degree_85 : decode cX11_degree 85 = .ok (.getfield 60, 3) := by decide +kernel
theorem dX11_degree_88 : decode cX11_degree 88 = .ok (.getfield 296, 3) := by decide +kernel
theorem dX11_degree_91 : decode cX11_degree 91 = .ok (.iload_n 3, 1) := by decide +kernel
theorem dX11_degree_92 : decode cX11_degree 92 = .ok (.iaload, 1) := by decide +kernel
theorem dX11_degree_93 : decode cX11_degree 93 = .ok (.iload 7, 2) := by decide +kernel
theorem dX11_degree_95 : decode cX11_degree 95 = .ok (.if_icmp .le 18, 3) := by decide +kernel
theorem dX11_degree_98 : decode cX11_degree 98 = .ok (.aload_n 0, 1) := by decide +kernel
theorem dX11_degree_99 : decode cX11_degree 99 = .ok (.getfield 60, 3) := by decide +kernel
theorem dX11_degree_102 : decode cX11_degree 102 = .ok (.getfield 296, 3) := by decide +kernel
theorem dX11_degree_105 : decode cX11_degree 105 = .ok (.iload_n 3, 1) := by decide +kernel
theorem dX11_degree_106 : decode cX11_degree 106 = .ok (.iaload, 1) := by decide +kernel
theorem dX11_degree_107 : decode cX11_degree 107 = .ok (.istore 7, 2) := by decide +kernel
theorem dX11_degree_109 : decode cX11_degree 109 = .ok (.iload 9, 2) := by decide +kernel
theorem dX11_degree_111 : decode cX11_degree 111 = .ok (.istore 6, 2) := by decide +kernel
theorem dX11_degree_113 : decode cX11_degree 113 = .ok (.iinc 9 1, 3) := by decide +kernel
theorem dX11_degree_116 : decode cX11_degree 116 = .ok (.goto (-53), 3) := by decide +kernel
theorem dX11_degree_119 : decode cX11_degree 119 = .ok (.iload 6, 2) := by decide +kernel
theorem dX11_degree_121 : decode cX11_degree 121 = .ok (.ireturn, 1) := by decide +kernel
set_option maxHeartbeats 4000000 in
set_option maxRecDepth 100000 in
theorem s_X11_degree {P : PP} {a0 : Nat} {a1 : Int32} {a2 : Int32} {a3 : Int32} {a4 : Int32} (I : IV P) (ha0 : At P a0 11) : CtrI yX11_degree cX11_degree 10 (some Jvm.ClassFile.FieldType.int) ({ frames := 16, cells := 0, slots := 0, locals := 1024 } : Room) 0 0 P [.ref a0, .int a1, .int a2, .int a3, .int a4] (fun r P2 => IV P2 ∧ EK [0, 1, 5, 8, 13] P P2 ∧ (-1 ≤ r.toInt ∧ r.toInt ≤ 20)) := by
  refine enI (lv := [(0, .ref a0), (1, .int a1), (2, .int a2), (3, .int a3), (4, .int a4)]) (by decide) (Nat.le_of_ble_eq_true rfl) rfl (fun E D cy C Ci0 ret => ?_)
  have J63 : ∀ (n63 : Nat) (P63 : PP) (b63_5 : Nat) (v63_6 : Int32) (v63_7 : Int32) (v63_8 : Int32) (v63_9 : Int32), (21 - v63_9.toInt).toNat < n63 → (IV P63) → (EK [0, 1, 5, 8, 13] P P63) → (1 ≤ a2.toInt ∧ a2.toInt ≤ 11) → (0 ≤ a3.toInt ∧ a3.toInt ≤ 11) → (At P63 b63_5 1) → (1 ≤ v63_6.toInt ∧ v63_6.toInt ≤ 20) → (0 ≤ v63_8.toInt ∧ v63_8.toInt ≤ 20) → (1 ≤ v63_9.toInt ∧ v63_9.toInt ≤ 21) → G E ({ frames := 16, cells := 0, slots := 0, locals := 1024 } : Room) D cy 10 P63 0 0 63 [(0, .ref a0), (2, .int a2), (3, .int a3), (4, .int a4), (5, .ref b63_5), (6, .int v63_6), (7, .int v63_7), (8, .int v63_8), (9, .int v63_9)] [] := by
    intro n63
    induction n63 with
    | zero => intro P63 b63_5 v63_6 v63_7 v63_8 v63_9 hm63 I63 X63 hv63_2 hv63_3 hb63_5 hv63_6 hv63_8 hv63_9; omega
    | succ n63 ih63 =>
      intro P63 b63_5 v63_6 v63_7 v63_8 v63_9 hm63 I63 X63 hv63_2 hv63_3 hb63_5 hv63_6 hv63_8 hv63_9
      have h18579 := X63.at ha0
      have J113 : ∀ (P113 : PP) (b113_5 : Nat) (v113_6 : Int32) (v113_7 : Int32), (IV P113) → (EK [0, 1, 5, 8, 13] P P113) → (1 ≤ a2.toInt ∧ a2.toInt ≤ 11) → (0 ≤ a3.toInt ∧ a3.toInt ≤ 11) → (At P113 b113_5 1) → (1 ≤ v113_6.toInt ∧ v113_6.toInt ≤ 20) → (1 ≤ v63_8.toInt ∧ v63_8.toInt ≤ 20) → (1 ≤ v63_9.toInt ∧ v63_9.toInt ≤ 20) → G E ({ frames := 16, cells := 0, slots := 0, locals := 1024 } : Room) D cy 10 P113 0 0 113 [(0, .ref a0), (2, .int a2), (3, .int a3), (4, .int a4), (5, .ref b113_5), (6, .int v113_6), (7, .int v113_7), (8, .int v63_8), (9, .int v63_9)] [] := by
        intro P113 b113_5 v113_6 v113_7 I113 X113 hv113_2 hv113_3 hb113_5 hv113_6 hv113_8 hv113_9
        have h18580 := X113.at ha0
        refine s_iinc (lv0 := [(0, .ref a0), (2, .int a2), (3, .int a3), (4, .int a4), (5, .ref b113_5), (6, .int v113_6), (7, .int v113_7), (8, .int v63_8)]) (m := 1) C dX11_degree_113 8 rfl (by decide) rfl (by decide) (by omega) (fun z18581 h18582 => ?_)
        have h18582 : z18581.toInt = v63_9.toInt + 1 := h18582
        refine g_goto C 63 dX11_degree_116 (by decide) ?_
        refine g_lv (lv' := [(0, .ref a0), (2, .int a2), (3, .int a3), (4, .int a4), (5, .ref b113_5), (6, .int v113_6), (7, .int v113_7), (8, .int v63_8), (9, .int z18581)]) [1, 2, 3, 4, 5, 6, 7, 8, 0] rfl ?_
        exact ih63 P113 b113_5 v113_6 v113_7 v63_8 z18581 (by omega) I113 X113 (by omega) (by omega) hb113_5 (by omega) (by omega) (by omega)
      refine g_iload C dX11_degree_63 8 rfl ?_
      refine g_iload C dX11_degree_65 7 rfl ?_
      refine b_icmp_gt C 119 dX11_degree_67 (by decide) (fun h18583 => ?_) (fun h18583 => ?_)
      · have h18583 : v63_8.toInt < v63_9.toInt := h18583
        refine g_iload C dX11_degree_119 5 rfl ?_
        exact ret _ _ _ _ _ _ dX11_degree_121 rfl (by decide) (by decide) ⟨I63, X63, (by omega)⟩
      · have h18583 : v63_9.toInt ≤ v63_8.toInt := h18583
        refine g_aload_n C dX11_degree_70 rfl 0 rfl ?_
        obtain ⟨b18584, e18585, h18586⟩ := I63.fld (h18579) 10 8 0 rfl
        refine g_getR C fi_X11_60 rfl e18585 (h18579).1 (h18579).2 dX11_degree_71 ?_
        refine g_aload C dX11_degree_74 4 rfl ?_
        refine g_iload_n C dX11_degree_76 rfl 1 rfl ?_
        refine g_iload C dX11_degree_77 3 rfl ?_
        refine g_iload C dX11_degree_79 8 rfl ?_
        refine g_callVV (rest := []) C mv_X11_292 [.ref b63_5, .int a2, .int a4, .int v63_9] (s_X8_tally I63 h18586.at hb63_5 (by omega) (by omega)) (h18586.at).1 (h18586.at).2 rfl rfl (by decide) (Nat.le_of_ble_eq_true rfl) (by decide) dX11_degree_81 (fun Y18588 h18589 => ?_)
        obtain ⟨Iy18590, Xy18591⟩ := h18589
        have Xz18592 : EK [0, 1, 5, 8, 13] P Y18588 := X63.tr (Xy18591.mono (by decide))
        have h18593 := Xy18591.at h18579
        have h18594 := Xy18591.at hb63_5
        refine g_aload_n C dX11_degree_84 rfl 0 rfl ?_
        obtain ⟨b18595, e18596, h18597⟩ := Iy18590.fld (h18593) 10 8 0 rfl
        refine g_getR C fi_X11_60 rfl e18596 (h18593).1 (h18593).2 dX11_degree_85 ?_
        obtain ⟨b18598, e18599, h18600⟩ := Iy18590.fld (h18597.at) 0 13 12 rfl
        refine g_getR C fi_X11_296 rfl e18599 (h18597.at).1 (h18597.at).2 dX11_degree_88 ?_
        refine g_iload_n C dX11_degree_91 rfl 2 rfl ?_
        refine g_iald (j := (a3.toInt.toNat)) C h18600.1 h18600.2.1 (ix_in h18600.2.2 (by omega)) dX11_degree_92 ?_
        refine g_topi (fun z18601 _ => ?_)
        refine g_iload C dX11_degree_93 6 rfl ?_
        have u18603 := ti_rng z18601
        have u18604 := ti_rng v63_7
        refine b_icmp_le C 113 dX11_degree_95 (by decide) (fun h18602 => ?_) (fun h18602 => ?_)
        · have h18602 : z18601.toInt ≤ v63_7.toInt := h18602
          exact J113 Y18588 b63_5 v63_6 v63_7 Iy18590 Xz18592 (by omega) (by omega) h18594 (by omega) (by omega) (by omega)
        · have h18602 : v63_7.toInt < z18601.toInt := h18602
          refine g_aload_n C dX11_degree_98 rfl 0 rfl ?_
          refine g_getR C fi_X11_60 rfl e18596 (h18593).1 (h18593).2 dX11_degree_99 ?_
          refine g_getR C fi_X11_296 rfl e18599 (h18597.at).1 (h18597.at).2 dX11_degree_102 ?_
          refine g_iload_n C dX11_degree_105 rfl 2 rfl ?_
          refine g_iald (j := (a3.toInt.toNat)) C h18600.1 h18600.2.1 (ix_in h18600.2.2 (by omega)) dX11_degree_106 ?_
          refine g_topi (fun z18605 _ => ?_)
          refine g_istore (lv' := [(7, .int z18605), (0, .ref a0), (2, .int a2), (3, .int a3), (4, .int a4), (5, .ref b63_5), (6, .int v63_6), (8, .int v63_8), (9, .int v63_9)]) C dX11_degree_107 (by decide) rfl ?_
          refine g_iload C dX11_degree_109 8 rfl ?_
          refine g_istore (lv' := [(6, .int v63_9), (7, .int z18605), (0, .ref a0), (2, .int a2), (3, .int a3), (4, .int a4), (5, .ref b63_5), (8, .int v63_8), (9, .int v63_9)]) C dX11_degree_111 (by decide) rfl ?_
          refine g_lv (lv' := [(0, .ref a0), (2, .int a2), (3, .int a3), (4, .int a4), (5, .ref b63_5), (6, .int v63_9), (7, .int z18605), (8, .int v63_8), (9, .int v63_9)]) [2, 3, 4, 5, 6, 0, 1, 7, 8] rfl ?_
          exact J113 Y18588 b63_5 v63_9 z18605 Iy18590 Xz18592 (by omega) (by omega) h18594 (by omega) (by omega) (by omega)
  have J58 : ∀ (b58_5 : Nat) (v58_s0 : Int32), (1 ≤ a2.toInt ∧ a2.toInt ≤ 11) → (0 ≤ a3.toInt ∧ a3.toInt ≤ 11) → (At P b58_5 1) → (0 ≤ v58_s0.toInt ∧ v58_s0.toInt ≤ 20) → (0 ≤ (pI P b58_5 5).toInt ∧ (pI P b58_5 5).toInt ≤ 16) → G E ({ frames := 16, cells := 0, slots := 0, locals := 1024 } : Room) D cy 10 P 0 0 58 [(0, .ref a0), (2, .int a2), (3, .int a3), (4, .int a4), (5, .ref b58_5), (6, .int 1), (7, .int 0)] [.int v58_s0] := by
    intro b58_5 v58_s0 hv58_2 hv58_3 hb58_5 hv58_s0 hq58_0
    refine g_istore (lv' := [(8, .int v58_s0), (0, .ref a0), (2, .int a2), (3, .int a3), (4, .int a4), (5, .ref b58_5), (6, .int 1), (7, .int 0)]) C dX11_degree_58 (by decide) rfl ?_
    refine g_iconst (v := 1) C dX11_degree_60 (by decide) ?_
    refine g_istore (lv' := [(9, .int 1), (8, .int v58_s0), (0, .ref a0), (2, .int a2), (3, .int a3), (4, .int a4), (5, .ref b58_5), (6, .int 1), (7, .int 0)]) C dX11_degree_61 (by decide) rfl ?_
    refine g_lv (lv' := [(0, .ref a0), (2, .int a2), (3, .int a3), (4, .int a4), (5, .ref b58_5), (6, .int 1), (7, .int 0), (8, .int v58_s0), (9, .int 1)]) [2, 3, 4, 5, 6, 7, 8, 1, 0] rfl ?_
    exact J63 _ P b58_5 1 0 v58_s0 1 (Nat.lt_succ_self _) I EK.rf (by omega) (by omega) hb58_5 (by decide) (by omega) (by decide)
  have J24 : G E ({ frames := 16, cells := 0, slots := 0, locals := 1024 } : Room) D cy 10 P 0 0 24 [] [] := by
    refine g_iconst (v := (-1)) C dX11_degree_24 (by decide) ?_
    exact ret _ _ _ _ _ _ dX11_degree_25 rfl (by decide) (by decide) ⟨I, EK.rf, (by decide)⟩
  refine g_aload_n C dX11_degree_0 rfl 0 rfl ?_
  refine g_iload_n C dX11_degree_1 rfl 1 rfl ?_
  refine g_callVI (rest := []) C mv_X11_97 [.int a1] (s_X11_isTold I ha0) (ha0).1 (ha0).2 rfl rfl (by decide) (Nat.le_of_ble_eq_true rfl) (by decide) dX11_degree_2 (fun r18606 Y18607 h18608 => ?_)
  obtain ⟨rfl, h18608⟩ := h18608
  obtain ⟨h18608, hi18609⟩ := h18608
  have hi18609 : r18606.toInt = 0 ∨ (((0 : Int) ≤ a1.toInt ∧ a1.toInt ≤ (1 : Int))) := hi18609
  have h18608 : 0 ≤ r18606.toInt ∧ r18606.toInt ≤ 1 := h18608
  refine b_if_eq C 24 dX11_degree_5 (by decide) (fun h18610 => ?_) (fun h18610 => ?_)
  · have h18610 : r18606.toInt = 0 := congrArg Int32.toInt h18610
    clear hi18609
    refine g_lv (lv' := []) [] rfl ?_
    exact J24 
  · have h18610 : r18606.toInt ≠ 0 := ti_ne h18610
    replace hi18609 := hi18609.resolve_left (by omega)
    refine g_iload_n C dX11_degree_8 rfl 2 rfl ?_
    refine g_iload_n C dX11_degree_9 rfl 3 rfl ?_
    refine g_callSI (b := 0) (ci := 0) (rest := []) C ms_X11_289 [.int a2, .int a3] (s_X11_isSetSize I) rfl rfl (by decide) (Nat.le_of_ble_eq_true rfl) (by decide) dX11_degree_10 (fun r18611 Y18612 h18613 => ?_)
    obtain ⟨rfl, h18613⟩ := h18613
    obtain ⟨h18613, hi18614⟩ := h18613
    have hi18614 : r18611.toInt = 0 ∨ (((1 : Int) ≤ a2.toInt ∧ a2.toInt ≤ (11 : Int)) ∧ ((0 : Int) ≤ a3.toInt ∧ a3.toInt ≤ (11 : Int))) := hi18614
    have h18613 : 0 ≤ r18611.toInt ∧ r18611.toInt ≤ 1 := h18613
    refine b_if_eq C 24 dX11_degree_13 (by decide) (fun h18615 => ?_) (fun h18615 => ?_)
    · have h18615 : r18611.toInt = 0 := congrArg Int32.toInt h18615
      clear hi18614
      refine g_lv (lv' := []) [] rfl ?_
      exact J24 
    · have h18615 : r18611.toInt ≠ 0 := ti_ne h18615
      replace hi18614 := hi18614.resolve_left (by omega)
      refine g_iload C dX11_degree_16 4 rfl ?_
      refine g_callSI (b := 0) (ci := 0) (rest := []) C ms_X11_249 [.int a4] (s_X11_isHow I) rfl rfl (by decide) (Nat.le_of_ble_eq_true rfl) (by decide) dX11_degree_18 (fun r18616 Y18617 h18618 => ?_)
      obtain ⟨rfl, h18618⟩ := h18618
      have h18618 : 0 ≤ r18616.toInt ∧ r18616.toInt ≤ 1 := h18618
      refine b_if_ne C 26 dX11_degree_21 (by decide) (fun h18619 => ?_) (fun h18619 => ?_)
      · have h18619 : r18616.toInt ≠ 0 := ti_ne h18619
        refine g_aload_n C dX11_degree_26 rfl 0 rfl ?_
        obtain ⟨b18620, e18621, h18622⟩ := I.fld (ha0) 0 17 2 rfl
        refine g_getR C fi_X11_11 rfl e18621 (ha0).1 (ha0).2 dX11_degree_27 ?_
        refine g_iload_n C dX11_degree_30 rfl 1 rfl ?_
        obtain ⟨b18623, e18624, h18625⟩ := I.elm h18622 (by decide) (a1.toInt.toNat) (by omega)
        refine g_aldR C h18622.1 h18622.2.1 (by decide) (ix_in h18622.2.2 (by omega)) e18624 dX11_degree_31 ?_
        refine g_astore (lv' := [(5, .ref b18623), (0, .ref a0), (1, .int a1), (2, .int a2), (3, .int a3), (4, .int a4)]) C dX11_degree_32 (by decide) rfl ?_
        refine g_iconst (v := 1) C dX11_degree_34 (by decide) ?_
        refine g_istore (lv' := [(6, .int 1), (5, .ref b18623), (0, .ref a0), (1, .int a1), (2, .int a2), (3, .int a3), (4, .int a4)]) C dX11_degree_35 (by decide) rfl ?_
        refine g_iconst (v := 0) C dX11_degree_37 (by decide) ?_
        refine g_istore (lv' := [(7, .int 0), (6, .int 1), (5, .ref b18623), (0, .ref a0), (1, .int a1), (2, .int a2), (3, .int a3), (4, .int a4)]) C dX11_degree_38 (by decide) rfl ?_
        refine g_iload_n C dX11_degree_40 rfl 6 rfl ?_
        refine g_aload C dX11_degree_41 2 rfl ?_
        refine g_getI C fi_X11_100 (by decide) (h18625).1 (h18625).2 dX11_degree_43 ?_
        have h18626 := I.rg (h18625) 5 rfl
        refine b_icmp_ge C 53 dX11_degree_46 (by decide) (fun h18627 => ?_) (fun h18627 => ?_)
        · have h18627 : (pI P b18623 5).toInt ≤ a3.toInt := h18627
          refine g_aload C dX11_degree_53 2 rfl ?_
          refine g_callVI (rest := []) C mv_X11_233 [] (s_X1_all I h18625) (h18625).1 (h18625).2 rfl rfl (by decide) (Nat.le_of_ble_eq_true rfl) (by decide) dX11_degree_55 (fun r18628 Y18629 h18630 => ?_)
          obtain ⟨rfl, h18630⟩ := h18630
          have h18630 : 0 ≤ r18628.toInt ∧ r18628.toInt ≤ 20 := h18630
          refine g_lv (lv' := [(0, .ref a0), (2, .int a2), (3, .int a3), (4, .int a4), (5, .ref b18623), (6, .int 1), (7, .int 0)]) [3, 5, 6, 7, 2, 1, 0] rfl ?_
          exact J58 b18623 r18628 (by omega) (by omega) h18625 (by omega) (by omega)
        · have h18627 : a3.toInt < (pI P b18623 5).toInt := h18627
          refine g_iconst (v := 0) C dX11_degree_49 (by decide) ?_
          refine g_goto C 58 dX11_degree_50 (by decide) ?_
          refine g_lv (lv' := [(0, .ref a0), (2, .int a2), (3, .int a3), (4, .int a4), (5, .ref b18623), (6, .int 1), (7, .int 0)]) [3, 5, 6, 7, 2, 1, 0] rfl ?_
          exact J58 b18623 0 (by omega) (by omega) h18625 (by decide) (by omega)
      · have h18619 : r18616.toInt = 0 := congrArg Int32.toInt h18619
        refine g_lv (lv' := []) [] rfl ?_
        exact J24 
theorem dX11_doubles_0 : decode cX11_doubles 0 = .ok (.iload_n 1, 1) := by decide +kernel
theorem dX11_doubles_1 : decode cX11_doubles 1 = .ok (.invokestatic 158, 3) := by decide +kernel
theorem dX11_doubles_4 : decode cX11_doubles 4 = .ok (.ifCond .eq 18, 3) := by decide +kernel
theorem dX11_doubles_7 : decode cX11_doubles 7 = .ok (.aload_n 0, 1) := by decide +kernel
theorem dX11_doubles_8 : decode cX11_doubles 8 = .ok (.iload_n 2, 1) := by decide +kernel
theorem dX11_doubles_9 : decode cX11_doubles 9 = .ok (.invokevirtual 97, 3) := by decide +kernel
theorem dX11_doubles_12 : decode cX11_doubles 12 = .ok (.ifCond .eq 10, 3) := by decide +kernel
theorem dX11_doubles_15 : decode cX11_doubles 15 = .ok (.iload_n 3, 1) := by decide +kernel
theorem dX11_doubles_16 : decode cX11_doubles 16 = .ok (.invokestatic 213, 3) := by decide +kernel
theorem dX11_isOctet_0 : decode cX11_isOctet 0 = .ok (.iload_n 0, 1) := by decide +kernel
theorem dX11_isOctet_1 : decode cX11_isOctet 1 = .ok (.ifCond .lt 12, 3) := by decide +kernel
theorem dX11_isOctet_4 : decode cX11_isOctet 4 = .ok (.iload_n 0, 1) := by decide +kernel
theorem dX11_isOctet_5 : decode cX11_isOctet 5 = .ok (.iconst 2, 1) := by decide +kernel
theorem dX11_isOctet_6 : decode cX11_isOctet 6 = .ok (.if_icmp .ge 7, 3) := by decide +kernel
theorem dX11_isOctet_9 : decode cX11_isOctet 9 = .ok (.iconst 1, 1) := by decide +kernel
theorem dX11_isOctet_10 : decode cX11_isOctet 10 = .ok (.goto 4, 3) := by decide +kernel
theorem dX11_isOctet_13 : decode cX11_isOctet 13 = .ok (.iconst 0, 1) := by decide +kernel
theorem dX11_isOctet_14 : decode cX11_isOctet 14 = .ok (.ireturn, 1) := by decide +kernel
set_option maxHeartbeats 4000000 in
set_option maxRecDepth 100000 in
theorem s_X11_isOctet {P : PP} {a0 : Int32} (I : IV P) : CtrI yX11_isOctet cX11_isOctet 1 (some Jvm.ClassFile.FieldType.boolean) ({ frames := 1, cells := 0, slots := 0, locals := 64 } : Room) 0 0 P [.int a0] (fun r P2 => P = P2 ∧ (0 ≤ r.toInt ∧ r.toInt ≤ 1) ∧ (r.toInt = 0 ∨ (((0 : Int) ≤ a0.toInt ∧ a0.toInt ≤ (1 : Int))))) := by
  refine enI (lv := [(0, .int a0)]) (by decide) (Nat.le_of_ble_eq_true rfl) rfl (fun E D cy C Ci0 ret => ?_)
  have J13 : G E ({ frames := 1, cells := 0, slots := 0, locals := 64 } : Room) D cy 1 P 0 0 13 [] [] := by
    refine g_iconst (v := 0) C dX11_isOctet_13 (by decide) ?_
    exact ret _ _ _ _ _ _ dX11_isOctet_14 rfl (by decide) (by decide) ⟨rfl, (by decide), Or.inl rfl⟩
  refine g_iload_n C dX11_isOctet_0 rfl 0 rfl ?_
  have u18646 := ti_rng a0
  refine b_if_lt C 13 dX11_isOctet_1 (by decide) (fun h18645 => ?_) (fun h18645 => ?_)
  · have h18645 : a0.toInt < 0 := h18645
    refine g_lv (lv' := []) [] rfl ?_
    exact J13 
  · have h18645 : 0 ≤ a0.toInt := h18645
    refine g_iload_n C dX11_isOctet_4 rfl 0 rfl ?_
    refine g_iconst (v := 2) C dX11_isOctet_5 (by decide) ?_
    have u18648 := ti_rng a0
    refine b_icmp_ge C 13 dX11_isOctet_6 (by decide) (fun h18647 => ?_) (fun h18647 => ?_)
    · have h18647 : 2 ≤ a0.toInt := h18647
      refine g_lv (lv' := []) [] rfl ?_
      exact J13 
    · have h18647 : a0.toInt < 2 := h18647
      refine g_iconst (v := 1) C dX11_isOctet_9 (by decide) ?_
      refine g_goto C 14 dX11_isOctet_10 (by decide) ?_
      exact ret _ _ _ _ _ _ dX11_isOctet_14 rfl (by decide) (by decide) ⟨rfl, (by decide), Or.inr (by omega)⟩
