theorem dX11_average_34 : decode cX11_average 34 = .ok (.ldc2_w 302, 3) := by decide +kernel
theorem dX11_average_37 : decode cX11_average 37 = .ok (.lreturn, 1) := by decide +kernel
theorem dX11_average_54 : decode cX11_average 54 = .ok (.aload_n 0, 1) := by decide +kernel
theorem dX11_average_55 : decode cX11_average 55 = .ok (.getfield 60, 3) := by decide +kernel
theorem dX11_average_58 : decode cX11_average 58 = .ok (.getfield 296, 3) := by decide +kernel
theorem dX11_average_61 : decode cX11_average 61 = .ok (.iload_n 2, 1) := by decide +kernel
theorem dX11_average_62 : decode cX11_average 62 = .ok (.iaload, 1) := by decide +kernel
theorem dX11_average_63 : decode cX11_average 63 = .ok (.ifCond .ne 7, 3) := by decide +kernel
theorem dX11_average_66 : decode cX11_average 66 = .ok (.ldc2_w 302, 3) := by decide +kernel
theorem dX11_average_69 : decode cX11_average 69 = .ok (.lreturn, 1) := by decide +kernel
theorem dX11_average_70 : decode cX11_average 70 = .ok (.lconst 0, 1) := by decide +kernel
theorem dX11_average_71 : decode cX11_average 71 = .ok (.lstore 5, 2) := by decide +kernel
theorem dX11_average_73 : decode cX11_average 73 = .ok (.lconst 1, 1) := by decide +kernel
theorem dX11_average_74 : decode cX11_average 74 = .ok (.lstore 7, 2) := by decide +kernel
theorem dX11_average_76 : decode cX11_average 76 = .ok (.iconst 0, 1) := by decide +kernel
theorem dX11_average_77 : decode cX11_average 77 = .ok (.istore 9, 2) := by decide +kernel
theorem dX11_average_79 : decode cX11_average 79 = .ok (.iload 9, 2) := by decide +kernel
theorem dX11_average_81 : decode cX11_average 81 = .ok (.iload_n 2, 1) := by decide +kernel
theorem dX11_average_82 : decode cX11_average 82 = .ok (.if_icmp .ge 80, 3) := by decide +kernel
theorem dX11_average_85 : decode cX11_average 85 = .ok (.iload_n 2, 1) := by decide +kernel
theorem dX11_average_86 : decode cX11_average 86 = .ok (.iload 9, 2) := by decide +kernel
theorem dX11_average_88 : decode cX11_average 88 = .ok (.invokestatic 299, 3) := by decide +kernel
theorem dX11_average_91 : decode cX11_average 91 = .ok (.i2l, 1) := by decide +kernel
theorem dX11_average_92 : decode cX11_average 92 = .ok (.lstore 10, 2) := by decide +kernel
theorem dX11_average_94 : decode cX11_average 94 = .ok (.lload 5, 2) := by decide +kernel
theorem dX11_average_96 : decode cX11_average 96 = .ok (.lload 10, 2) := by decide +kernel
theorem dX11_average_98 : decode cX11_average 98 = .ok (.lmul, 1) := by decide +kernel
theorem dX11_average_99 : decode cX11_average 99 = .ok (.lload 7, 2) := by decide +kernel
theorem dX11_average_101 : decode cX11_average 101 = .ok (.lload 10, 2) := by decide +kernel
theorem dX11_average_103 : decode cX11_average 103 = .ok (.aload_n 0, 1) := by decide +kernel
theorem dX11_average_104 : decode cX11_average 104 = .ok (.getfield 60, 3) := by decide +kernel
theorem dX11_average_107 : decode cX11_average 107 = .ok (.getfield 296, 3) := by decide +kernel
theorem dX11_average_110 : decode cX11_average 110 = .ok (.iload 9, 2) := by decide +kernel
theorem dX11_average_112 : decode cX11_average 112 = .ok (.iaload, 1) := by decide +kernel
theorem dX11_average_113 : decode cX11_average 113 = .ok (.i2l, 1) := by decide +kernel
theorem dX11_average_114 : decode cX11_average 114 = .ok (.lsub, 1) := by decide +kernel
theorem dX11_average_115 : decode cX11_average 115 = .ok (.lmul, 1) := by decide +kernel
theorem dX11_average_116 : decode cX11_average 116 = .ok (.ladd, 1) := by decide +kernel
theorem dX11_average_117 : decode cX11_average 117 = .ok (.lstore 5, 2) := by decide +kernel
theorem dX11_average_119 : decode cX11_average 119 = .ok (.lload 7, 2) := by decide +kernel
theorem dX11_average_121 : decode cX11_average 121 = .ok (.lload 10, 2) := by decide +kernel
theorem dX11_average_123 : decode cX11_average 123 = .ok (.lmul, 1) := by decide +kernel
theorem dX11_average_124 : decode cX11_average 124 = .ok (.lstore 7, 2) := by decide +kernel
theorem dX11_average_126 : decode cX11_average 126 = .ok (.lload 5, 2) := by decide +kernel
theorem dX11_average_128 : decode cX11_average 128 = .ok (.lload 7, 2) := by decide +kernel
theorem dX11_average_130 : decode cX11_average 130 = .ok (.invokestatic 304, 3) := by decide +kernel
theorem dX11_commonDivisor_0 : decode cX11_commonDivisor 0 = .ok (.lload_n 0, 1) := by decide +kernel
theorem dX11_commonDivisor_1 : decode cX11_commonDivisor 1 = .ok (.lstore 4, 2) := by decide +kernel
theorem dX11_commonDivisor_3 : decode cX11_commonDivisor 3 = .ok (.lload_n 2, 1) := by decide +kernel
theorem dX11_commonDivisor_4 : decode cX11_commonDivisor 4 = .ok (.lstore 6, 2) := by decide +kernel
theorem dX11_commonDivisor_6 : decode cX11_commonDivisor 6 = .ok (.iconst 0, 1) := by decide +kernel
theorem dX11_commonDivisor_7 : decode cX11_commonDivisor 7 = .ok (.istore 8, 2) := by decide +kernel
theorem dX11_commonDivisor_9 : decode cX11_commonDivisor 9 = .ok (.iload 8, 2) := by decide +kernel
theorem dX11_commonDivisor_11 : decode cX11_commonDivisor 11 = .ok (.bipush 100, 2) := by decide +kernel
theorem dX11_commonDivisor_13 : decode cX11_commonDivisor 13 = .ok (.if_icmp .ge 31, 3) := by decide +kernel
theorem dX11_commonDivisor_16 : decode cX11_commonDivisor 16 = .ok (.lload 6, 2) := by decide +kernel
theorem dX11_commonDivisor_18 : decode cX11_commonDivisor 18 = .ok (.lconst 0, 1) := by decide +kernel
theorem dX11_commonDivisor_19 : decode cX11_commonDivisor 19 = .ok (.lcmp, 1) := by decide +kernel
theorem dX11_commonDivisor_20 : decode cX11_commonDivisor 20 = .ok (.ifCond .eq 24, 3) := by decide +kernel
theorem dX11_commonDivisor_23 : decode cX11_commonDivisor 23 = .ok (.lload 4, 2) := by decide +kernel
theorem dX11_commonDivisor_25 : decode cX11_commonDivisor 25 = .ok (.lload 6, 2) := by decide +kernel
theorem dX11_commonDivisor_27 : decode cX11_commonDivisor 27 = .ok (.lrem, 1) := by decide +kernel
theorem dX11_commonDivisor_28 : decode cX11_commonDivisor 28 = .ok (.lstore 9, 2) := by decide +kernel
theorem dX11_commonDivisor_30 : decode cX11_commonDivisor 30 = .ok (.lload 6, 2) := by decide +kernel
theorem dX11_commonDivisor_32 : decode cX11_commonDivisor 32 = .ok (.lstore 4, 2) := by decide +kernel
theorem dX11_commonDivisor_34 : decode cX11_commonDivisor 34 = .ok (.lload 9, 2) := by decide +kernel
theorem dX11_commonDivisor_36 : decode cX11_commonDivisor 36 = .ok (.lstore 6, 2) := by decide +kernel
theorem dX11_commonDivisor_38 : decode cX11_commonDivisor 38 = .ok (.iinc 8 1, 3) := by decide +kernel
theorem dX11_commonDivisor_41 : decode cX11_commonDivisor 41 = .ok (.goto (-32), 3) := by decide +kernel
theorem dX11_commonDivisor_44 : decode cX11_commonDivisor 44 = .ok (.lload 4, 2) := by decide +kernel
theorem dX11_commonDivisor_46 : decode cX11_commonDivisor 46 = .ok (.lreturn, 1) := by decide +kernel
set_option maxHeartbeats 4000000 in
set_option maxRecDepth 100000 in
theorem s_X11_commonDivisor {P : PP} {a0 : Int64} {a1 : Int64} (I : IV P) : CtrL yX11_commonDivisor cX11_commonDivisor 11 (some Jvm.ClassFile.FieldType.long) ({ frames := 1, cells := 0, slots := 0, locals := 64 } : Room) 0 0 P [.long a0, .long a1] (fun r P2 => P = P2 ∧ (True)) := by
  refine enL (lv := [(0, .long a0), (2, .long a1)]) (by decide) (Nat.le_of_ble_eq_true rfl) rfl (fun E D cy C Ci0 ret => ?_)
  have J44 : ∀ (l44_4 : Int64), G E ({ frames := 1, cells := 0, slots := 0, locals := 64 } : Room) D cy 11 P 0 0 44 [(4, .long l44_4)] [] := by
    intro l44_4
    refine g_lload C dX11_commonDivisor_44 0 rfl ?_
    exact ret _ _ _ _ _ _ dX11_commonDivisor_46 (by decide) (by decide) ⟨rfl, trivial⟩
  have J9 : ∀ (n9 : Nat) (l9_4 : Int64) (l9_6 : Int64) (v9_8 : Int32), (100 - v9_8.toInt).toNat < n9 → (0 ≤ v9_8.toInt ∧ v9_8.toInt ≤ 100) → G E ({ frames := 1, cells := 0, slots := 0, locals := 64 } : Room) D cy 11 P 0 0 9 [(4, .long l9_4), (6, .long l9_6), (8, .int v9_8)] [] := by
    intro n9
    induction n9 with
    | zero => intro l9_4 l9_6 v9_8 hm9 hv9_8; omega
    | succ n9 ih9 =>
      intro l9_4 l9_6 v9_8 hm9 hv9_8
      refine g_iload C dX11_commonDivisor_9 2 rfl ?_
      refine g_bipush (v := 100) C dX11_commonDivisor_11 (by decide) ?_
      refine b_icmp_ge C 44 dX11_commonDivisor_13 (by decide) (fun h13480 => ?_) (fun h13480 => ?_)
      · have h13480 : 100 ≤ v9_8.toInt := h13480
        refine g_lv (lv' := [(4, .long l9_4)]) [0] rfl ?_
        exact J44 l9_4
      · have h13480 : v9_8.toInt < 100 := h13480
        refine g_lload C dX11_commonDivisor_16 1 rfl ?_
        refine g_lconst (v := 0) C dX11_commonDivisor_18 (by decide) ?_
        refine a_lcmp0 C dX11_commonDivisor_19 (fun z13481 h13482 => ?_)
        have u13484 := ti_rng z13481
        refine b_if_eq C 44 dX11_commonDivisor_20 (by decide) (fun h13483 => ?_) (fun h13483 => ?_)
        · have h13483 : z13481.toInt = 0 := congrArg Int32.toInt h13483
          refine g_lv (lv' := [(4, .long l9_4)]) [0] rfl ?_
          exact J44 l9_4
        · have h13483 : z13481.toInt ≠ 0 := ti_ne h13483
          have hz_l9_6 := h13482 h13483
          refine g_lload C dX11_commonDivisor_23 0 rfl ?_
          refine g_lload C dX11_commonDivisor_25 1 rfl ?_
          refine a_lrem C dX11_commonDivisor_27 hz_l9_6 (fun l13485 => ?_)
          refine g_lstore (lv' := [(9, .long l13485), (4, .long l9_4), (6, .long l9_6), (8, .int v9_8)]) C dX11_commonDivisor_28 (by decide) rfl ?_
          refine g_lload C dX11_commonDivisor_30 2 rfl ?_
          refine g_lstore (lv' := [(4, .long l9_6), (9, .long l13485), (6, .long l9_6), (8, .int v9_8)]) C dX11_commonDivisor_32 (by decide) rfl ?_
          refine g_lload C dX11_commonDivisor_34 1 rfl ?_
          refine g_lstore (lv' := [(6, .long l13485), (4, .long l9_6), (9, .long l13485), (8, .int v9_8)]) C dX11_commonDivisor_36 (by decide) rfl ?_
          refine s_iinc (lv0 := [(6, .long l13485), (4, .long l9_6), (9, .long l13485)]) (m := 1) C dX11_commonDivisor_38 3 rfl (by decide) rfl (by decide) (by omega) (fun z13486 h13487 => ?_)
          have h13487 : z13486.toInt = v9_8.toInt + 1 := h13487
          refine g_goto C 9 dX11_commonDivisor_41 (by decide) ?_
          refine g_lv (lv' := [(4, .long l9_6), (6, .long l13485), (8, .int z13486)]) [2, 1, 0] rfl ?_
          exact ih9 l9_6 l13485 z13486 (by omega) (by omega)
  refine g_lload_n C dX11_commonDivisor_0 rfl 0 rfl ?_
  refine g_lstore (lv' := [(4, .long a0), (0, .long a0), (2, .long a1)]) C dX11_commonDivisor_1 (by decide) rfl ?_
  refine g_lload_n C dX11_commonDivisor_3 rfl 2 rfl ?_
  refine g_lstore (lv' := [(6, .long a1), (4, .long a0), (0, .long a0), (2, .long a1)]) C dX11_commonDivisor_4 (by decide) rfl ?_
  refine g_iconst (v := 0) C dX11_commonDivisor_6 (by decide) ?_
  refine g_istore (lv' := [(8, .int 0), (6, .long a1), (4, .long a0), (0, .long a0), (2, .long a1)]) C dX11_commonDivisor_7 (by decide) rfl ?_
  refine g_lv (lv' := [(4, .long a0), (6, .long a1), (8, .int 0)]) [2, 1, 0] rfl ?_
  exact J9 _ a0 a1 0 (Nat.lt_succ_self _) (by decide)
theorem dX11_average_133 : decode cX11_average 133 = .ok (.lstore 12, 2) := by decide +kernel
theorem dX11_average_135 : decode cX11_average 135 = .ok (.lload 12, 2) := by decide +kernel
theorem dX11_average_137 : decode cX11_average 137 = .ok (.lconst 1, 1) := by decide +kernel
theorem dX11_average_138 : decode cX11_average 138 = .ok (.lcmp, 1) := by decide +kernel
theorem dX11_average_139 : decode cX11_average 139 = .ok (.ifCond .le 17, 3) := by decide +kernel
theorem dX11_average_142 : decode cX11_average 142 = .ok (.lload 5, 2) := by decide +kernel
theorem dX11_average_144 : decode cX11_average 144 = .ok (.lload 12, 2) := by decide +kernel
theorem dX11_average_146 : decode cX11_average 146 = .ok (.ldiv, 1) := by decide +kernel
theorem dX11_average_147 : decode cX11_average 147 = .ok (.lstore 5, 2) := by decide +kernel
theorem dX11_average_149 : decode cX11_average 149 = .ok (.lload 7, 2) := by decide +kernel
theorem dX11_average_151 : decode cX11_average 151 = .ok (.lload 12, 2) := by decide +kernel
theorem dX11_average_153 : decode cX11_average 153 = .ok (.ldiv, 1) := by decide +kernel
theorem dX11_average_154 : decode cX11_average 154 = .ok (.lstore 7, 2) := by decide +kernel
theorem dX11_average_156 : decode cX11_average 156 = .ok (.iinc 9 1, 3) := by decide +kernel
theorem dX11_average_159 : decode cX11_average 159 = .ok (.goto (-80), 3) := by decide +kernel
theorem dX11_average_162 : decode cX11_average 162 = .ok (.iload 4, 2) := by decide +kernel
theorem dX11_average_164 : decode cX11_average 164 = .ok (.ifCond .ne 8, 3) := by decide +kernel
theorem dX11_average_167 : decode cX11_average 167 = .ok (.lload 5, 2) := by decide +kernel
theorem dX11_average_169 : decode cX11_average 169 = .ok (.goto 5, 3) := by decide +kernel
theorem dX11_average_172 : decode cX11_average 172 = .ok (.lload 7, 2) := by decide +kernel
theorem dX11_average_174 : decode cX11_average 174 = .ok (.lreturn, 1) := by decide +kernel
set_option maxHeartbeats 4000000 in
set_option maxRecDepth 100000 in
theorem s_X11_average {P : PP} {a0 : Nat} {a1 : Int32} {a2 : Int32} {a3 : Int32} {a4 : Int32} (I : IV P) (ha0 : At P a0 11) : CtrL yX11_average cX11_average 14 (some Jvm.ClassFile.FieldType.long) ({ frames := 16, cells := 0, slots := 0, locals := 1024 } : Room) 0 0 P [.ref a0, .int a1, .int a2, .int a3, .int a4] (fun r P2 => IV P2 ∧ EK [0, 1, 5, 8, 13] P P2 ∧ (True)) := by
  refine enL (lv := [(0, .ref a0), (1, .int a1), (2, .int a2), (3, .int a3), (4, .int a4)]) (by decide) (Nat.le_of_ble_eq_true rfl) rfl (fun E D cy C Ci0 ret => ?_)
  have J79 : ∀ (n79 : Nat) (P79 : PP) (l79_5 : Int64) (l79_7 : Int64) (v79_9 : Int32), (11 - v79_9.toInt).toNat < n79 → (IV P79) → (EK [0, 1, 5, 8, 13] P P79) → (1 ≤ a2.toInt ∧ a2.toInt ≤ 11) → (0 ≤ a4.toInt ∧ a4.toInt ≤ 1) → (0 ≤ v79_9.toInt ∧ v79_9.toInt ≤ 11) → G E ({ frames := 16, cells := 0, slots := 0, locals := 1024 } : Room) D cy 14 P79 0 0 79 [(0, .ref a0), (2, .int a2), (4, .int a4), (5, .long l79_5), (7, .long l79_7), (9, .int v79_9)] [] := by
    intro n79
    induction n79 with
    | zero => intro P79 l79_5 l79_7 v79_9 hm79 I79 X79 hv79_2 hv79_4 hv79_9; omega
    | succ n79 ih79 =>
      intro P79 l79_5 l79_7 v79_9 hm79 I79 X79 hv79_2 hv79_4 hv79_9
      have h13820 := X79.at ha0
      have J156 : ∀ (l156_5 : Int64) (l156_7 : Int64), (1 ≤ a2.toInt ∧ a2.toInt ≤ 11) → (0 ≤ a4.toInt ∧ a4.toInt ≤ 1) → (0 ≤ v79_9.toInt ∧ v79_9.toInt ≤ 10) → G E ({ frames := 16, cells := 0, slots := 0, locals := 1024 } : Room) D cy 14 P79 0 0 156 [(0, .ref a0), (2, .int a2), (4, .int a4), (5, .long l156_5), (7, .long l156_7), (9, .int v79_9)] [] := by
        intro l156_5 l156_7 hv156_2 hv156_4 hv156_9
        have h13821 := X79.at ha0
        refine s_iinc (lv0 := [(0, .ref a0), (2, .int a2), (4, .int a4), (5, .long l156_5), (7, .long l156_7)]) (m := 1) C dX11_average_156 5 rfl (by decide) rfl (by decide) (by omega) (fun z13822 h13823 => ?_)
        have h13823 : z13822.toInt = v79_9.toInt + 1 := h13823
        refine g_goto C 79 dX11_average_159 (by decide) ?_
        refine g_lv (lv' := [(0, .ref a0), (2, .int a2), (4, .int a4), (5, .long l156_5), (7, .long l156_7), (9, .int z13822)]) [1, 2, 3, 4, 5, 0] rfl ?_
        exact ih79 P79 l156_5 l156_7 z13822 (by omega) I79 X79 (by omega) (by omega) (by omega)
      refine g_iload C dX11_average_79 5 rfl ?_
      refine g_iload_n C dX11_average_81 rfl 1 rfl ?_
      refine b_icmp_ge C 162 dX11_average_82 (by decide) (fun h13824 => ?_) (fun h13824 => ?_)
      · have h13824 : a2.toInt ≤ v79_9.toInt := h13824
        refine g_iload C dX11_average_162 2 rfl ?_
        refine b_if_ne C 172 dX11_average_164 (by decide) (fun h13825 => ?_) (fun h13825 => ?_)
        · have h13825 : a4.toInt ≠ 0 := ti_ne h13825
          refine g_lload C dX11_average_172 4 rfl ?_
          exact ret _ _ _ _ _ _ dX11_average_174 (by decide) (by decide) ⟨I79, X79, trivial⟩
        · have h13825 : a4.toInt = 0 := congrArg Int32.toInt h13825
          refine g_lload C dX11_average_167 3 rfl ?_
          refine g_goto C 174 dX11_average_169 (by decide) ?_
          exact ret _ _ _ _ _ _ dX11_average_174 (by decide) (by decide) ⟨I79, X79, trivial⟩
      · have h13824 : v79_9.toInt < a2.toInt := h13824
        refine g_iload_n C dX11_average_85 rfl 1 rfl ?_
        refine g_iload C dX11_average_86 5 rfl ?_
        refine g_callSI (b := 0) (ci := 0) (rest := []) C ms_X11_299 [.int a2, .int v79_9] (s_X11_choose I79 (by omega) (by omega)) rfl rfl (by decide) (Nat.le_of_ble_eq_true rfl) (by decide) dX11_average_88 (fun r13826 Y13827 h13828 => ?_)
        obtain ⟨rfl, h13828⟩ := h13828
        have h13828 : True := h13828
        refine a_i2l C dX11_average_91 (fun l13829 => ?_)
        refine g_lstore (lv' := [(10, .long l13829), (0, .ref a0), (2, .int a2), (4, .int a4), (5, .long l79_5), (7, .long l79_7), (9, .int v79_9)]) C dX11_average_92 (by decide) rfl ?_
        refine g_lload C dX11_average_94 4 rfl ?_
        refine g_lload C dX11_average_96 0 rfl ?_
        refine a_lmul C dX11_average_98 (fun l13830 => ?_)
        refine g_lload C dX11_average_99 5 rfl ?_
        refine g_lload C dX11_average_101 0 rfl ?_
        refine g_aload_n C dX11_average_103 rfl 1 rfl ?_
        obtain ⟨b13831, e13832, h13833⟩ := I79.fld (h13820) 10 8 0 rfl
        refine g_getR C fi_X11_60 rfl e13832 (h13820).1 (h13820).2 dX11_average_104 ?_
        obtain ⟨b13834, e13835, h13836⟩ := I79.fld (h13833.at) 0 13 12 rfl
        refine g_getR C fi_X11_296 rfl e13835 (h13833.at).1 (h13833.at).2 dX11_average_107 ?_
        refine g_iload C dX11_average_110 6 rfl ?_
        refine g_iald (j := (v79_9.toInt.toNat)) C h13836.1 h13836.2.1 (ix_in h13836.2.2 (by omega)) dX11_average_112 ?_
        refine g_topi (fun z13837 _ => ?_)
        refine a_i2l C dX11_average_113 (fun l13838 => ?_)
        refine a_lsub C dX11_average_114 (fun l13839 => ?_)
        refine a_lmul C dX11_average_115 (fun l13840 => ?_)
        refine a_ladd C dX11_average_116 (fun l13841 => ?_)
        refine g_lstore (lv' := [(5, .long l13841), (10, .long l13829), (0, .ref a0), (2, .int a2), (4, .int a4), (7, .long l79_7), (9, .int v79_9)]) C dX11_average_117 (by decide) rfl ?_
        refine g_lload C dX11_average_119 5 rfl ?_
        refine g_lload C dX11_average_121 1 rfl ?_
        refine a_lmul C dX11_average_123 (fun l13842 => ?_)
        refine g_lstore (lv' := [(7, .long l13842), (5, .long l13841), (10, .long l13829), (0, .ref a0), (2, .int a2), (4, .int a4), (9, .int v79_9)]) C dX11_average_124 (by decide) rfl ?_
        refine g_lload C dX11_average_126 1 rfl ?_
        refine g_lload C dX11_average_128 0 rfl ?_
        refine g_callSL (b := 0) (ci := 0) (rest := []) C ms_X11_304 [.long l13841, .long l13842] (s_X11_commonDivisor I79) rfl rfl (by decide) (Nat.le_of_ble_eq_true rfl) (by decide) dX11_average_130 (fun r13843 Y13844 h13845 => ?_)
        obtain ⟨rfl, h13845⟩ := h13845
        refine g_lstore (lv' := [(12, .long r13843), (7, .long l13842), (5, .long l13841), (10, .long l13829), (0, .ref a0), (2, .int a2), (4, .int a4), (9, .int v79_9)]) C dX11_average_133 (by decide) rfl ?_
        refine g_lload C dX11_average_135 0 rfl ?_
        refine g_lconst (v := 1) C dX11_average_137 (by decide) ?_
        refine a_lcmp1 C dX11_average_138 (fun z13846 h13847 => ?_)
        have u13849 := ti_rng z13846
        refine b_if_le C 156 dX11_average_139 (by decide) (fun h13848 => ?_) (fun h13848 => ?_)
        · have h13848 : z13846.toInt ≤ 0 := h13848
          refine g_lv (lv' := [(0, .ref a0), (2, .int a2), (4, .int a4), (5, .long l13841), (7, .long l13842), (9, .int v79_9)]) [4, 5, 6, 2, 1, 7] rfl ?_
          exact J156 l13841 l13842 (by omega) (by omega) (by omega)
        · have h13848 : 0 < z13846.toInt := h13848
          have hz_r13843 := h13847 h13848
          refine g_lload C dX11_average_142 2 rfl ?_
          refine g_lload C dX11_average_144 0 rfl ?_
          refine a_ldiv C dX11_average_146 hz_r13843 (fun l13850 => ?_)
          refine g_lstore (lv' := [(5, .long l13850), (12, .long r13843), (7, .long l13842), (10, .long l13829), (0, .ref a0), (2, .int a2), (4, .int a4), (9, .int v79_9)]) C dX11_average_147 (by decide) rfl ?_
          refine g_lload C dX11_average_149 2 rfl ?_
          refine g_lload C dX11_average_151 1 rfl ?_
          refine a_ldiv C dX11_average_153 hz_r13843 (fun l13851 => ?_)
          refine g_lstore (lv' := [(7, .long l13851), (5, .long l13850), (12, .long r13843), (10, .long l13829), (0, .ref a0), (2, .int a2), (4, .int a4), (9, .int v79_9)]) C dX11_average_154 (by decide) rfl ?_
          refine g_lv (lv' := [(0, .ref a0), (2, .int a2), (4, .int a4), (5, .long l13850), (7, .long l13851), (9, .int v79_9)]) [4, 5, 6, 1, 0, 7] rfl ?_
          exact J156 l13850 l13851 (by omega) (by omega) (by omega)
  have J34 : G E ({ frames := 16, cells := 0, slots := 0, locals := 1024 } : Room) D cy 14 P 0 0 34 [] [] := by
    refine g_ldc2 (v := -1) C kl_X11_302 dX11_average_34 ?_
    refine g_topl (fun l13852 _ => ?_)
    exact ret _ _ _ _ _ _ dX11_average_37 (by decide) (by decide) ⟨I, EK.rf, trivial⟩
  refine g_aload_n C dX11_average_0 rfl 0 rfl ?_
  refine g_iload_n C dX11_average_1 rfl 1 rfl ?_
  refine g_callVI (rest := []) C mv_X11_97 [.int a1] (s_X11_isTold I ha0) (ha0).1 (ha0).2 rfl rfl (by decide) (Nat.le_of_ble_eq_true rfl) (by decide) dX11_average_2 (fun r13853 Y13854 h13855 => ?_)
  obtain ⟨rfl, h13855⟩ := h13855
  obtain ⟨h13855, hi13856⟩ := h13855
  have hi13856 : r13853.toInt = 0 ∨ (((0 : Int) ≤ a1.toInt ∧ a1.toInt ≤ (1 : Int))) := hi13856
  have h13855 : 0 ≤ r13853.toInt ∧ r13853.toInt ≤ 1 := h13855
  refine b_if_eq C 34 dX11_average_5 (by decide) (fun h13857 => ?_) (fun h13857 => ?_)
  · have h13857 : r13853.toInt = 0 := congrArg Int32.toInt h13857
    clear hi13856
    refine g_lv (lv' := []) [] rfl ?_
    exact J34 
  · have h13857 : r13853.toInt ≠ 0 := ti_ne h13857
    replace hi13856 := hi13856.resolve_left (by omega)
    refine g_iload_n C dX11_average_8 rfl 2 rfl ?_
    refine g_iconst (v := 0) C dX11_average_9 (by decide) ?_
    refine g_callSI (b := 0) (ci := 0) (rest := []) C ms_X11_289 [.int a2, .int 0] (s_X11_isSetSize I) rfl rfl (by decide) (Nat.le_of_ble_eq_true rfl) (by decide) dX11_average_10 (fun r13858 Y13859 h13860 => ?_)
    obtain ⟨rfl, h13860⟩ := h13860
    obtain ⟨h13860, hi13861⟩ := h13860
    have hi13861 : r13858.toInt = 0 ∨ (((1 : Int) ≤ a2.toInt ∧ a2.toInt ≤ (11 : Int)) ∧ ((0 : Int) ≤ 0 ∧ 0 ≤ (11 : Int))) := hi13861
    have h13860 : 0 ≤ r13858.toInt ∧ r13858.toInt ≤ 1 := h13860
    refine b_if_eq C 34 dX11_average_13 (by decide) (fun h13862 => ?_) (fun h13862 => ?_)
    · have h13862 : r13858.toInt = 0 := congrArg Int32.toInt h13862
      clear hi13861
      refine g_lv (lv' := []) [] rfl ?_
      exact J34 
    · have h13862 : r13858.toInt ≠ 0 := ti_ne h13862
      replace hi13861 := hi13861.resolve_left (by omega)
      refine g_iload_n C dX11_average_16 rfl 3 rfl ?_
      refine g_callSI (b := 0) (ci := 0) (rest := []) C ms_X11_249 [.int a3] (s_X11_isHow I) rfl rfl (by decide) (Nat.le_of_ble_eq_true rfl) (by decide) dX11_average_17 (fun r13863 Y13864 h13865 => ?_)
      obtain ⟨rfl, h13865⟩ := h13865
      have h13865 : 0 ≤ r13863.toInt ∧ r13863.toInt ≤ 1 := h13865
      refine b_if_eq C 34 dX11_average_20 (by decide) (fun h13866 => ?_) (fun h13866 => ?_)
      · have h13866 : r13863.toInt = 0 := congrArg Int32.toInt h13866
        refine g_lv (lv' := []) [] rfl ?_
        exact J34 
      · have h13866 : r13863.toInt ≠ 0 := ti_ne h13866
        refine g_iload C dX11_average_23 4 rfl ?_
        have u13868 := ti_rng a4
        refine b_if_lt C 34 dX11_average_25 (by decide) (fun h13867 => ?_) (fun h13867 => ?_)
        · have h13867 : a4.toInt < 0 := h13867
          refine g_lv (lv' := []) [] rfl ?_
          exact J34 
        · have h13867 : 0 ≤ a4.toInt := h13867
          refine g_iload C dX11_average_28 4 rfl ?_
          refine g_iconst (v := 1) C dX11_average_30 (by decide) ?_
          have u13870 := ti_rng a4
          refine b_icmp_le C 38 dX11_average_31 (by decide) (fun h13869 => ?_) (fun h13869 => ?_)
          · have h13869 : a4.toInt ≤ 1 := h13869
            refine g_aload_n C dX11_average_38 rfl 0 rfl ?_
            obtain ⟨b13871, e13872, h13873⟩ := I.fld (ha0) 10 8 0 rfl
            refine g_getR C fi_X11_60 rfl e13872 (ha0).1 (ha0).2 dX11_average_39 ?_
            refine g_aload_n C dX11_average_42 rfl 0 rfl ?_
            obtain ⟨b13874, e13875, h13876⟩ := I.fld (ha0) 0 17 2 rfl
            refine g_getR C fi_X11_11 rfl e13875 (ha0).1 (ha0).2 dX11_average_43 ?_
            refine g_iload_n C dX11_average_46 rfl 1 rfl ?_
            obtain ⟨b13877, e13878, h13879⟩ := I.elm h13876 (by decide) (a1.toInt.toNat) (by omega)
            refine g_aldR C h13876.1 h13876.2.1 (by decide) (ix_in h13876.2.2 (by omega)) e13878 dX11_average_47 ?_
            refine g_iload_n C dX11_average_48 rfl 2 rfl ?_
            refine g_iload_n C dX11_average_49 rfl 3 rfl ?_
            refine g_iconst (v := 0) C dX11_average_50 (by decide) ?_
            refine g_callVV (rest := []) C mv_X11_292 [.ref b13877, .int a2, .int a3, .int 0] (s_X8_tally I h13873.at h13879 (by omega) (by decide)) (h13873.at).1 (h13873.at).2 rfl rfl (by decide) (Nat.le_of_ble_eq_true rfl) (by decide) dX11_average_51 (fun Y13881 h13882 => ?_)
            obtain ⟨Iy13883, Xy13884⟩ := h13882
            have Xz13885 : EK [0, 1, 5, 8, 13] P Y13881 := Xy13884.mono (by decide)
            have h13886 := Xy13884.at ha0
            refine g_aload_n C dX11_average_54 rfl 0 rfl ?_
            obtain ⟨b13887, e13888, h13889⟩ := Iy13883.fld (h13886) 10 8 0 rfl
            refine g_getR C fi_X11_60 rfl e13888 (h13886).1 (h13886).2 dX11_average_55 ?_
            obtain ⟨b13890, e13891, h13892⟩ := Iy13883.fld (h13889.at) 0 13 12 rfl
            refine g_getR C fi_X11_296 rfl e13891 (h13889.at).1 (h13889.at).2 dX11_average_58 ?_
            refine g_iload_n C dX11_average_61 rfl 2 rfl ?_
            refine g_iald (j := (a2.toInt.toNat)) C h13892.1 h13892.2.1 (ix_in h13892.2.2 (by omega)) dX11_average_62 ?_
            refine g_topi (fun z13893 _ => ?_)
            have u13895 := ti_rng z13893
            refine b_if_ne C 70 dX11_average_63 (by decide) (fun h13894 => ?_) (fun h13894 => ?_)
            · have h13894 : z13893.toInt ≠ 0 := ti_ne h13894
              refine g_lconst (v := 0) C dX11_average_70 (by decide) ?_
              refine g_lstore (lv' := [(5, .long 0), (0, .ref a0), (1, .int a1), (2, .int a2), (3, .int a3), (4, .int a4)]) C dX11_average_71 (by decide) rfl ?_
              refine g_lconst (v := 1) C dX11_average_73 (by decide) ?_
              refine g_lstore (lv' := [(7, .long 1), (5, .long 0), (0, .ref a0), (1, .int a1), (2, .int a2), (3, .int a3), (4, .int a4)]) C dX11_average_74 (by decide) rfl ?_
              refine g_iconst (v := 0) C dX11_average_76 (by decide) ?_
              refine g_istore (lv' := [(9, .int 0), (7, .long 1), (5, .long 0), (0, .ref a0), (1, .int a1), (2, .int a2), (3, .int a3), (4, .int a4)]) C dX11_average_77 (by decide) rfl ?_
              refine g_lv (lv' := [(0, .ref a0), (2, .int a2), (4, .int a4), (5, .long 0), (7, .long 1), (9, .int 0)]) [3, 5, 7, 2, 1, 0] rfl ?_
              exact J79 _ Y13881 0 1 0 (Nat.lt_succ_self _) Iy13883 Xz13885 (by omega) (by omega) (by decide)
            · have h13894 : z13893.toInt = 0 := congrArg Int32.toInt h13894
              refine g_ldc2 (v := -1) C kl_X11_302 dX11_average_66 ?_
              refine g_topl (fun l13896 _ => ?_)
              exact ret _ _ _ _ _ _ dX11_average_69 (by decide) (by decide) ⟨Iy13883, Xz13885, trivial⟩
          · have h13869 : 1 < a4.toInt := h13869
            refine g_lv (lv' := []) [] rfl ?_
            exact J34 
theorem dX11_away_0 : decode cX11_away 0 = .ok (.aload_n 0, 1) := by decide +kernel
theorem dX11_away_1 : decode cX11_away 1 = .ok (.iload_n 1, 1) := by decide +kernel
theorem dX11_away_2 : decode cX11_away 2 = .ok (.iload_n 2, 1) := by decide +kernel
theorem dX11_away_3 : decode cX11_away 3 = .ok (.invokevirtual 185, 3) := by decide +kernel
theorem dX11_away_6 : decode cX11_away 6 = .ok (.ifnonnull 5, 3) := by decide +kernel
theorem dX11_away_9 : decode cX11_away 9 = .ok (.iconst 0, 1) := by decide +kernel
theorem dX11_away_10 : decode cX11_away 10 = .ok (.ireturn, 1) := by decide +kernel
theorem dX11_away_11 : decode cX11_away 11 = .ok (.aload_n 0, 1) := by decide +kernel
theorem dX11_away_12 : decode cX11_away 12 = .ok (.getfield 17, 3) := by decide +kernel
theorem dX11_away_15 : decode cX11_away 15 = .ok (.iload_n 1, 1) := by decide +kernel
theorem dX11_away_16 : decode cX11_away 16 = .ok (.aaload, 1) := by decide +kernel
theorem dX11_away_17 : decode cX11_away 17 = .ok (.iload_n 2, 1) := by decide +kernel
theorem dX11_away_18 : decode cX11_away 18 = .ok (.invokevirtual 210, 3) := by decide +kernel
theorem dX6_drop_0 : decode cX6_drop 0 = .ok (.iload_n 1, 1) := by decide +kernel
theorem dX6_drop_1 : decode cX6_drop 1 = .ok (.ifCond .lt 11, 3) := by decide +kernel
theorem dX6_drop_4 : decode cX6_drop 4 = .ok (.iload_n 1, 1) := by decide +kernel
theorem dX6_drop_5 : decode cX6_drop 5 = .ok (.aload_n 0, 1) := by decide +kernel
theorem dX6_drop_6 : decode cX6_drop 6 = .ok (.getfield 17, 3) := by decide +kernel
theorem dX6_drop_9 : decode cX6_drop 9 = .ok (.if_icmp .lt 4, 3) := by decide +kernel
theorem dX6_drop_12 : decode cX6_drop 12 = .ok (.return_, 1) := by decide +kernel
theorem dX6_drop_13 : decode cX6_drop 13 = .ok (.iload_n 1, 1) := by decide +kernel
theorem dX6_drop_14 : decode cX6_drop 14 = .ok (.iconst 1, 1) := by decide +kernel
theorem dX6_drop_15 : decode cX6_drop 15 = .ok (.iadd, 1) := by decide +kernel
theorem dX6_drop_16 : decode cX6_drop 16 = .ok (.istore_n 2, 1) := by decide +kernel
theorem dX6_drop_17 : decode cX6_drop 17 = .ok (.iload_n 2, 1) := by decide +kernel
theorem dX6_drop_18 : decode cX6_drop 18 = .ok (.aload_n 0, 1) := by decide +kernel
theorem dX6_drop_19 : decode cX6_drop 19 = .ok (.getfield 17, 3) := by decide +kernel
theorem dX6_drop_22 : decode cX6_drop 22 = .ok (.if_icmp .ge 23, 3) := by decide +kernel
theorem dX6_drop_25 : decode cX6_drop 25 = .ok (.aload_n 0, 1) := by decide +kernel
theorem dX6_drop_26 : decode cX6_drop 26 = .ok (.getfield 11, 3) := by decide +kernel
theorem dX6_drop_29 : decode cX6_drop 29 = .ok (.iload_n 2, 1) := by decide +kernel
theorem dX6_drop_30 : decode cX6_drop 30 = .ok (.iconst 1, 1) := by decide +kernel
theorem dX6_drop_31 : decode cX6_drop 31 = .ok (.isub, 1) := by decide +kernel
theorem dX6_drop_32 : decode cX6_drop 32 = .ok (.aload_n 0, 1) := by decide +kernel
theorem dX6_drop_33 : decode cX6_drop 33 = .ok (.getfield 11, 3) := by decide +kernel
theorem dX6_drop_36 : decode cX6_drop 36 = .ok (.iload_n 2, 1) := by decide +kernel
theorem dX6_drop_37 : decode cX6_drop 37 = .ok (.aaload, 1) := by decide +kernel
theorem dX6_drop_38 : decode cX6_drop 38 = .ok (.aastore, 1) := by decide +kernel
theorem dX6_drop_39 : decode cX6_drop 39 = .ok (.iinc 2 1, 3) := by decide +kernel
theorem dX6_drop_42 : decode cX6_drop 42 = .ok (.goto (-25), 3) := by decide +kernel
theorem dX6_drop_45 : decode cX6_drop 45 = .ok (.aload_n 0, 1) := by decide +kernel
theorem dX6_drop_46 : decode cX6_drop 46 = .ok (.dup, 1) := by decide +kernel
theorem dX6_drop_47 : decode cX6_drop 47 = .ok (.getfield 17, 3) := by decide +kernel
theorem dX6_drop_50 : decode cX6_drop 50 = .ok (.iconst 1, 1) := by decide +kernel
theorem dX6_drop_51 : decode cX6_drop 51 = .ok (.isub, 1) := by decide +kernel
theorem dX6_drop_52 : decode cX6_drop 52 = .ok (.putfield 17, 3) := by decide +kernel
theorem dX6_drop_55 : decode cX6_drop 55 = .ok (.return_, 1) := by decide +kernel
set_option maxHeartbeats 4000000 in
set_option maxRecDepth 100000 in
theorem s_X6_drop {P : PP} {a0 : Nat} {a1 : Int32} (I : IV P) (ha0 : At P a0 6) : CtrV yX6_drop cX6_drop 3 none ({ frames := 1, cells := 0, slots := 0, locals := 64 } : Room) 0 0 P [.ref a0, .int a1] (fun P2 => IV P2 ∧ EK [6] P P2) := by
  refine enV (lv := [(0, .ref a0), (1, .int a1)]) (by decide) (Nat.le_of_ble_eq_true rfl) rfl (fun E D cy C Ci0 ret => ?_)
  have J17 : ∀ (n17 : Nat) (P17 : PP) (v17_2 : Int32), (40 - v17_2.toInt).toNat < n17 → (IV P17) → (EK [6] P P17) → (1 ≤ v17_2.toInt ∧ v17_2.toInt ≤ 40) → (1 ≤ (pI P17 a0 1).toInt ∧ (pI P17 a0 1).toInt ≤ 40) → G E ({ frames := 1, cells := 0, slots := 0, locals := 64 } : Room) D cy 3 P17 0 0 17 [(0, .ref a0), (2, .int v17_2)] [] := by
    intro n17
    induction n17 with
    | zero => intro P17 v17_2 hm17 I17 X17 hv17_2 hq17_0; omega
    | succ n17 ih17 =>
      intro P17 v17_2 hm17 I17 X17 hv17_2 hq17_0
      have h13984 := X17.at ha0
      refine g_iload_n C dX6_drop_17 rfl 1 rfl ?_
      refine g_aload_n C dX6_drop_18 rfl 0 rfl ?_
      refine g_getI C fi_X6_17 (by decide) (h13984).1 (h13984).2 dX6_drop_19 ?_
      refine b_icmp_ge C 45 dX6_drop_22 (by decide) (fun h13985 => ?_) (fun h13985 => ?_)
      · have h13985 : (pI P17 a0 1).toInt ≤ v17_2.toInt := h13985
        refine g_aload_n C dX6_drop_45 rfl 0 rfl ?_
        refine g_dup C dX6_drop_46 rfl ?_
        refine g_getI C fi_X6_17 (by decide) (h13984).1 (h13984).2 dX6_drop_47 ?_
        refine g_iconst (v := 1) C dX6_drop_50 (by decide) ?_
        refine s_isub C dX6_drop_51 (by show -2147483648 ≤ (pI P17 a0 1).toInt - 1 ∧ (pI P17 a0 1).toInt - 1 ≤ 2147483647; omega) (fun z13986 h13987 => ?_)
        have h13987 : z13986.toInt = (pI P17 a0 1).toInt - 1 := h13987
        refine g_putI C fi_X6_17 rfl (h13984).1 (h13984).2 dX6_drop_52 ?_
        refine gpW (ks := [6]) (I17.setI (h13984) (rgOk.of rfl (by omega))) (EK.setI (h13984).2 (by decide)) (fun Y13988 Iy13989 Xy13990 w13991 w13992 => ?_)
        have Xz13993 : EK [6] P Y13988 := X17.tr (Xy13990.mono (by decide))
        have h13994 := Xy13990.at h13984
        exact ret _ _ _ _ _ dX6_drop_55 (by decide) (by decide) ⟨Iy13989, Xz13993⟩
      · have h13985 : v17_2.toInt < (pI P17 a0 1).toInt := h13985
        refine g_aload_n C dX6_drop_25 rfl 0 rfl ?_
        obtain ⟨b13995, e13996, h13997⟩ := I17.fld (h13984) 0 20 40 rfl
        refine g_getR C fi_X6_11 rfl e13996 (h13984).1 (h13984).2 dX6_drop_26 ?_
        refine g_iload_n C dX6_drop_29 rfl 1 rfl ?_
        refine g_iconst (v := 1) C dX6_drop_30 (by decide) ?_
        refine s_isub C dX6_drop_31 (by show -2147483648 ≤ v17_2.toInt - 1 ∧ v17_2.toInt - 1 ≤ 2147483647; omega) (fun z13998 h13999 => ?_)
        have h13999 : z13998.toInt = v17_2.toInt - 1 := h13999
        refine g_aload_n C dX6_drop_32 rfl 0 rfl ?_
        refine g_getR C fi_X6_11 rfl e13996 (h13984).1 (h13984).2 dX6_drop_33 ?_
        refine g_iload_n C dX6_drop_36 rfl 1 rfl ?_
        refine g_aldQ (j := (v17_2.toInt.toNat)) C h13997.1 h13997.2.1 (by decide) (ix_in h13997.2.2 (by omega)) dX6_drop_37 ?_
        rcases I17.pap h13997 (v17_2.toInt.toNat) with e14001 | ⟨b14000, e14001, h14002⟩
        · rw [e14001]
          show G _ _ _ _ _ _ _ _ _ _ (.null :: _)
          refine g_astN (j := (z13998.toInt.toNat)) C h13997.1 h13997.2.1 (by decide) (ix_in h13997.2.2 (by omega)) dX6_drop_38 ?_
          refine gp (ks := []) (I17.setP h13997 (fun _ z => by cases z)) (EK.setR h13997.2.1 (by decide)) (fun Y14003 Iy14004 Xy14005 => ?_)
          have q14006 := Xy14005.keep h13984 (by decide) 1
          have Xz14007 : EK [6] P Y14003 := X17.tr (Xy14005.mono (by decide))
          have h14008 := Xy14005.at h13984
          refine s_iinc (lv0 := [(0, .ref a0)]) (m := 1) C dX6_drop_39 1 rfl (by decide) rfl (by decide) (by omega) (fun z14009 h14010 => ?_)
          have h14010 : z14009.toInt = v17_2.toInt + 1 := h14010
          refine g_goto C 17 dX6_drop_42 (by decide) ?_
          refine g_lv (lv' := [(0, .ref a0), (2, .int z14009)]) [1, 0] rfl ?_
          exact ih17 Y14003 z14009 (by omega) Iy14004 Xz14007 (by omega) (by omega)
        · rw [e14001]
          show G _ _ _ _ _ _ _ _ _ _ (.ref b14000 :: _)
          refine g_astR (j := (z13998.toInt.toNat)) C h13997.1 h13997.2.1 (by decide) (ix_in h13997.2.2 (by omega)) (h14002).1 (h14002).2 (by decide) rfl rfl dX6_drop_38 ?_
          refine gp (ks := []) (I17.setP h13997 (fun _ z => by cases z; exact h14002)) (EK.setR h13997.2.1 (by decide)) (fun Y14011 Iy14012 Xy14013 => ?_)
          have q14014 := Xy14013.keep h13984 (by decide) 1
          have Xz14015 : EK [6] P Y14011 := X17.tr (Xy14013.mono (by decide))
          have h14016 := Xy14013.at h13984
          refine s_iinc (lv0 := [(0, .ref a0)]) (m := 1) C dX6_drop_39 1 rfl (by decide) rfl (by decide) (by omega) (fun z14017 h14018 => ?_)
          have h14018 : z14017.toInt = v17_2.toInt + 1 := h14018
          refine g_goto C 17 dX6_drop_42 (by decide) ?_
          refine g_lv (lv' := [(0, .ref a0), (2, .int z14017)]) [1, 0] rfl ?_
          exact ih17 Y14011 z14017 (by omega) Iy14012 Xz14015 (by omega) (by omega)
  refine g_iload_n C dX6_drop_0 rfl 1 rfl ?_
  have u14020 := ti_rng a1
  refine b_if_lt C 12 dX6_drop_1 (by decide) (fun h14019 => ?_) (fun h14019 => ?_)
  · have h14019 : a1.toInt < 0 := h14019
    exact ret _ _ _ _ _ dX6_drop_12 (by decide) (by decide) ⟨I, EK.rf⟩
  · have h14019 : 0 ≤ a1.toInt := h14019
    refine g_iload_n C dX6_drop_4 rfl 1 rfl ?_
    refine g_aload_n C dX6_drop_5 rfl 0 rfl ?_
    refine g_getI C fi_X6_17 (by decide) (ha0).1 (ha0).2 dX6_drop_6 ?_
    have h14021 := I.rg (ha0) 1 rfl
    have u14023 := ti_rng a1
    refine b_icmp_lt C 13 dX6_drop_9 (by decide) (fun h14022 => ?_) (fun h14022 => ?_)
    · have h14022 : a1.toInt < (pI P a0 1).toInt := h14022
      refine g_iload_n C dX6_drop_13 rfl 1 rfl ?_
      refine g_iconst (v := 1) C dX6_drop_14 (by decide) ?_
      refine s_iadd C dX6_drop_15 (by show -2147483648 ≤ a1.toInt + 1 ∧ a1.toInt + 1 ≤ 2147483647; omega) (fun z14024 h14025 => ?_)
      have h14025 : z14024.toInt = a1.toInt + 1 := h14025
      refine g_istore_n (lv' := [(2, .int z14024), (0, .ref a0), (1, .int a1)]) C dX6_drop_16 rfl (by decide) rfl ?_
      refine g_lv (lv' := [(0, .ref a0), (2, .int z14024)]) [1, 0] rfl ?_
      exact J17 _ P z14024 (Nat.lt_succ_self _) I EK.rf (by omega) (by omega)
    · have h14022 : (pI P a0 1).toInt ≤ a1.toInt := h14022
      exact ret _ _ _ _ _ dX6_drop_12 (by decide) (by decide) ⟨I, EK.rf⟩
theorem dX11_away_21 : decode cX11_away 21 = .ok (.iconst 1, 1) := by decide +kernel
theorem dX11_away_22 : decode cX11_away 22 = .ok (.ireturn, 1) := by decide +kernel
set_option maxHeartbeats 4000000 in
set_option maxRecDepth 100000 in
theorem s_X11_away {P : PP} {a0 : Nat} {a1 : Int32} {a2 : Int32} (I : IV P) (ha0 : At P a0 11) : CtrI yX11_away cX11_away 3 (some Jvm.ClassFile.FieldType.boolean) ({ frames := 3, cells := 0, slots := 0, locals := 192 } : Room) 0 0 P [.ref a0, .int a1, .int a2] (fun r P2 => IV P2 ∧ EK [6] P P2 ∧ (0 ≤ r.toInt ∧ r.toInt ≤ 1) ∧ (r.toInt = 0 ∨ (((0 : Int) ≤ a1.toInt ∧ a1.toInt ≤ (3 : Int)) ∧ ((0 : Int) ≤ a2.toInt ∧ a2.toInt ≤ (39 : Int))))) := by
  refine enI (lv := [(0, .ref a0), (1, .int a1), (2, .int a2)]) (by decide) (Nat.le_of_ble_eq_true rfl) rfl (fun E D cy C Ci0 ret => ?_)
  refine g_aload_n C dX11_away_0 rfl 0 rfl ?_
  refine g_iload_n C dX11_away_1 rfl 1 rfl ?_
  refine g_iload_n C dX11_away_2 rfl 2 rfl ?_
  refine g_callVQ (rest := []) C mv_X11_185 [.int a1, .int a2] (s_X11_paperAt I ha0) (ha0).1 (ha0).2 rfl rfl (by decide) (Nat.le_of_ble_eq_true rfl) (by decide) dX11_away_3 (fun r14044 Y14045 h14046 => ?_)
  obtain ⟨rfl, h14046⟩ := h14046
  rcases h14046 with rfl | ⟨b14048, rfl, h14046, hj14047⟩
  · show G _ _ _ _ _ _ _ _ _ _ (.null :: _)
    refine g_ifnonnullN C dX11_away_6 ?_
    refine g_iconst (v := 0) C dX11_away_9 (by decide) ?_
    exact ret _ _ _ _ _ _ dX11_away_10 rfl (by decide) (by decide) ⟨I, EK.rf, (by decide), Or.inl rfl⟩
  · have hj14047 : ((0 : Int) ≤ a1.toInt ∧ a1.toInt ≤ (3 : Int)) ∧ ((0 : Int) ≤ a2.toInt ∧ a2.toInt ≤ (39 : Int)) := hj14047
    show G _ _ _ _ _ _ _ _ _ _ (.ref b14048 :: _)
    refine g_ifnonnull C 11 dX11_away_6 (by decide) ?_
    refine g_aload_n C dX11_away_11 rfl 0 rfl ?_
    obtain ⟨b14049, e14050, h14051⟩ := I.fld (ha0) 1 19 4 rfl
    refine g_getR C fi_X11_17 rfl e14050 (ha0).1 (ha0).2 dX11_away_12 ?_
    refine g_iload_n C dX11_away_15 rfl 1 rfl ?_
    obtain ⟨b14052, e14053, h14054⟩ := I.elm h14051 (by decide) (a1.toInt.toNat) (by omega)
    refine g_aldR C h14051.1 h14051.2.1 (by decide) (ix_in h14051.2.2 (by omega)) e14053 dX11_away_16 ?_
    refine g_iload_n C dX11_away_17 rfl 2 rfl ?_
    refine g_callVV (rest := []) C mv_X11_210 [.int a2] (s_X6_drop I h14054) (h14054).1 (h14054).2 rfl rfl (by decide) (Nat.le_of_ble_eq_true rfl) (by decide) dX11_away_18 (fun Y14056 h14057 => ?_)
    obtain ⟨Iy14058, Xy14059⟩ := h14057
    have Xz14060 : EK [6] P Y14056 := Xy14059.mono (by decide)
    have h14061 := Xy14059.at ha0
    refine g_iconst (v := 1) C dX11_away_21 (by decide) ?_
    exact ret _ _ _ _ _ _ dX11_away_22 rfl (by decide) (by decide) ⟨Iy14058, Xz14060, (by decide), Or.inr (by omega)⟩
theorem dX11_book_0 : decode cX11_book 0 = .ok (.iload_n 1, 1) := by decide +kernel
theorem dX11_book_1 : decode cX11_book 1 = .ok (.invokestatic 84, 3) := by decide +kernel
theorem dX11_book_4 : decode cX11_book 4 = .ok (.ifCond .eq 14, 3) := by decide +kernel
theorem dX11_book_7 : decode cX11_book 7 = .ok (.iload_n 2, 1) := by decide +kernel
theorem dX11_book_8 : decode cX11_book 8 = .ok (.iconst 1, 1) := by decide +kernel
theorem dX11_book_9 : decode cX11_book 9 = .ok (.if_icmp .lt 9, 3) := by decide +kernel
theorem dX11_book_12 : decode cX11_book 12 = .ok (.iload_n 2, 1) := by decide +kernel
theorem dX11_book_13 : decode cX11_book 13 = .ok (.bipush 16, 2) := by decide +kernel
theorem dX11_book_15 : decode cX11_book 15 = .ok (.if_icmp .le 5, 3) := by decide +kernel
theorem dX11_book_20 : decode cX11_book 20 = .ok (.aload_n 0, 1) := by decide +kernel
theorem dX11_book_21 : decode cX11_book 21 = .ok (.getfield 11, 3) := by decide +kernel
theorem dX11_book_24 : decode cX11_book 24 = .ok (.iload_n 1, 1) := by decide +kernel
theorem dX11_book_25 : decode cX11_book 25 = .ok (.aaload, 1) := by decide +kernel
theorem dX11_book_26 : decode cX11_book 26 = .ok (.iload_n 2, 1) := by decide +kernel
theorem dX11_book_27 : decode cX11_book 27 = .ok (.invokevirtual 88, 3) := by decide +kernel
theorem dX1_tell_0 : decode cX1_tell 0 = .ok (.aload_n 0, 1) := by decide +kernel
theorem dX1_tell_1 : decode cX1_tell 1 = .ok (.iconst 1, 1) := by decide +kernel
theorem dX1_tell_2 : decode cX1_tell 2 = .ok (.putfield 29, 3) := by decide +kernel
theorem dX1_tell_5 : decode cX1_tell 5 = .ok (.aload_n 0, 1) := by decide +kernel
theorem dX1_tell_6 : decode cX1_tell 6 = .ok (.iload_n 1, 1) := by decide +kernel
theorem dX1_tell_7 : decode cX1_tell 7 = .ok (.putfield 33, 3) := by decide +kernel
theorem dX1_tell_10 : decode cX1_tell 10 = .ok (.iconst 0, 1) := by decide +kernel
theorem dX1_tell_11 : decode cX1_tell 11 = .ok (.istore_n 2, 1) := by decide +kernel
theorem dX1_tell_12 : decode cX1_tell 12 = .ok (.iload_n 2, 1) := by decide +kernel
theorem dX1_tell_13 : decode cX1_tell 13 = .ok (.bipush 16, 2) := by decide +kernel
theorem dX1_tell_15 : decode cX1_tell 15 = .ok (.if_icmp .ge 16, 3) := by decide +kernel
theorem dX1_tell_18 : decode cX1_tell 18 = .ok (.aload_n 0, 1) := by decide +kernel
theorem dX1_tell_19 : decode cX1_tell 19 = .ok (.getfield 9, 3) := by decide +kernel
theorem dX1_tell_22 : decode cX1_tell 22 = .ok (.iload_n 2, 1) := by decide +kernel
theorem dX1_tell_23 : decode cX1_tell 23 = .ok (.iconst 0, 1) := by decide +kernel
theorem dX1_tell_24 : decode cX1_tell 24 = .ok (.iastore, 1) := by decide +kernel
theorem dX1_tell_25 : decode cX1_tell 25 = .ok (.iinc 2 1, 3) := by decide +kernel
theorem dX1_tell_28 : decode cX1_tell 28 = .ok (.goto (-16), 3) := by decide +kernel
theorem dX1_tell_31 : decode cX1_tell 31 = .ok (.aload_n 0, 1) := by decide +kernel
theorem dX1_tell_32 : decode cX1_tell 32 = .ok (.getfield 18, 3) := by decide +kernel
theorem dX1_tell_35 : decode cX1_tell 35 = .ok (.invokevirtual 36, 3) := by decide +kernel
theorem dX3_clear_0 : decode cX3_clear 0 = .ok (.iconst 0, 1) := by decide +kernel
theorem dX3_clear_1 : decode cX3_clear 1 = .ok (.istore_n 1, 1) := by decide +kernel
theorem dX3_clear_2 : decode cX3_clear 2 = .ok (.iload_n 1, 1) := by decide +kernel
theorem dX3_clear_3 : decode cX3_clear 3 = .ok (.bipush 20, 2) := by decide +kernel
theorem dX3_clear_5 : decode cX3_clear 5 = .ok (.if_icmp .gt 16, 3) := by decide +kernel
theorem dX3_clear_8 : decode cX3_clear 8 = .ok (.aload_n 0, 1) := by decide +kernel
theorem dX3_clear_9 : decode cX3_clear 9 = .ok (.getfield 9, 3) := by decide +kernel
theorem dX3_clear_12 : decode cX3_clear 12 = .ok (.iload_n 1, 1) := by decide +kernel
theorem dX3_clear_13 : decode cX3_clear 13 = .ok (.iconst (-1), 1) := by decide +kernel
theorem dX3_clear_14 : decode cX3_clear 14 = .ok (.iastore, 1) := by decide +kernel
theorem dX3_clear_15 : decode cX3_clear 15 = .ok (.iinc 1 1, 3) := by decide +kernel
theorem dX3_clear_18 : decode cX3_clear 18 = .ok (.goto (-16), 3) := by decide +kernel
theorem dX3_clear_21 : decode cX3_clear 21 = .ok (.aload_n 0, 1) := by decide +kernel
theorem dX3_clear_22 : decode cX3_clear 22 = .ok (.iconst 0, 1) := by decide +kernel
theorem dX3_clear_23 : decode cX3_clear 23 = .ok (.putfield 21, 3) := by decide +kernel
theorem dX3_clear_26 : decode cX3_clear 26 = .ok (.aload_n 0, 1) := by decide +kernel
theorem dX3_clear_27 : decode cX3_clear 27 = .ok (.iconst 0, 1) := by decide +kernel
theorem dX3_clear_28 : decode cX3_clear 28 = .ok (.putfield 25, 3) := by decide +kernel
theorem dX3_clear_31 : decode cX3_clear 31 = .ok (.aload_n 0, 1) := by decide +kernel
theorem dX3_clear_32 : decode cX3_clear 32 = .ok (.iconst 0, 1) := by decide +kernel
theorem dX3_clear_33 : decode cX3_clear 33 = .ok (.putfield 28, 3) := by decide +kernel
theorem dX3_clear_36 : decode cX3_clear 36 = .ok (.aload_n 0, 1) := by decide +kernel
theorem dX3_clear_37 : decode cX3_clear 37 = .ok (.iconst 0, 1) := by decide +kernel
theorem dX3_clear_38 : decode cX3_clear 38 = .ok (.putfield 31, 3) := by decide +kernel
theorem dX3_clear_41 : decode cX3_clear 41 = .ok (.return_, 1) := by decide +kernel
set_option maxHeartbeats 4000000 in
set_option maxRecDepth 100000 in
theorem s_X3_clear {P : PP} {a0 : Nat} (I : IV P) (ha0 : At P a0 3) : CtrV yX3_clear cX3_clear 2 none ({ frames := 1, cells := 0, slots := 0, locals := 64 } : Room) 0 0 P [.ref a0] (fun P2 => IV P2 ∧ EK [3, 13] P P2) := by
  refine enV (lv := [(0, .ref a0)]) (by decide) (Nat.le_of_ble_eq_true rfl) rfl (fun E D cy C Ci0 ret => ?_)
  have J2 : ∀ (n2 : Nat) (P2 : PP) (v2_1 : Int32), (21 - v2_1.toInt).toNat < n2 → (IV P2) → (EK [3, 13] P P2) → (0 ≤ v2_1.toInt ∧ v2_1.toInt ≤ 21) → G E ({ frames := 1, cells := 0, slots := 0, locals := 64 } : Room) D cy 2 P2 0 0 2 [(0, .ref a0), (1, .int v2_1)] [] := by
    intro n2
    induction n2 with
    | zero => intro P2 v2_1 hm2 I2 X2 hv2_1; omega
    | succ n2 ih2 =>
      intro P2 v2_1 hm2 I2 X2 hv2_1
      have h14438 := X2.at ha0
      refine g_iload_n C dX3_clear_2 rfl 1 rfl ?_
      refine g_bipush (v := 20) C dX3_clear_3 (by decide) ?_
      refine b_icmp_gt C 21 dX3_clear_5 (by decide) (fun h14439 => ?_) (fun h14439 => ?_)
      · have h14439 : 20 < v2_1.toInt := h14439
        refine g_aload_n C dX3_clear_21 rfl 0 rfl ?_
        refine g_iconst (v := 0) C dX3_clear_22 (by decide) ?_
        refine g_putI C fi_X3_21 rfl (h14438).1 (h14438).2 dX3_clear_23 ?_
        refine gpW (ks := [3]) (I2.setI (h14438) (rgOk.of rfl (by decide))) (EK.setI (h14438).2 (by decide)) (fun Y14440 Iy14441 Xy14442 w14443 w14444 => ?_)
        have w14444 : (pI Y14440 a0 2).toInt = 0 := w14444
        have Xz14445 : EK [3, 13] P Y14440 := X2.tr (Xy14442.mono (by decide))
        have h14446 := Xy14442.at h14438
        refine g_aload_n C dX3_clear_26 rfl 0 rfl ?_
        refine g_iconst (v := 0) C dX3_clear_27 (by decide) ?_
        refine g_putI C fi_X3_25 rfl (h14446).1 (h14446).2 dX3_clear_28 ?_
        refine gpW (ks := [3]) (Iy14441.setI (h14446) (rgOk.none rfl)) (EK.setI (h14446).2 (by decide)) (fun Y14447 Iy14448 Xy14449 w14450 w14451 => ?_)
        have w14451 : (pI Y14447 a0 3).toInt = 0 := w14451
        have q14452 := w14450 2 (by decide)
        have Xz14453 : EK [3, 13] P Y14447 := Xz14445.tr (Xy14449.mono (by decide))
        have h14454 := Xy14449.at h14446
        refine g_aload_n C dX3_clear_31 rfl 0 rfl ?_
        refine g_iconst (v := 0) C dX3_clear_32 (by decide) ?_
        refine g_putI C fi_X3_28 rfl (h14454).1 (h14454).2 dX3_clear_33 ?_
        refine gpW (ks := [3]) (Iy14448.setI (h14454) (rgOk.none rfl)) (EK.setI (h14454).2 (by decide)) (fun Y14455 Iy14456 Xy14457 w14458 w14459 => ?_)
        have w14459 : (pI Y14455 a0 4).toInt = 0 := w14459
        have q14460 := w14458 2 (by decide)
        have q14461 := w14458 3 (by decide)
        have Xz14462 : EK [3, 13] P Y14455 := Xz14453.tr (Xy14457.mono (by decide))
        have h14463 := Xy14457.at h14454
        refine g_aload_n C dX3_clear_36 rfl 0 rfl ?_
        refine g_iconst (v := 0) C dX3_clear_37 (by decide) ?_
        refine g_putI C fi_X3_31 rfl (h14463).1 (h14463).2 dX3_clear_38 ?_
        refine gpW (ks := [3]) (Iy14456.setI (h14463) (rgOk.none rfl)) (EK.setI (h14463).2 (by decide)) (fun Y14464 Iy14465 Xy14466 w14467 w14468 => ?_)
        have w14468 : (pI Y14464 a0 5).toInt = 0 := w14468
        have q14469 := w14467 2 (by decide)
        have q14470 := w14467 3 (by decide)
        have q14471 := w14467 4 (by decide)
        have Xz14472 : EK [3, 13] P Y14464 := Xz14462.tr (Xy14466.mono (by decide))
        have h14473 := Xy14466.at h14463
        exact ret _ _ _ _ _ dX3_clear_41 (by decide) (by decide) ⟨Iy14465, Xz14472⟩
      · have h14439 : v2_1.toInt ≤ 20 := h14439
        refine g_aload_n C dX3_clear_8 rfl 0 rfl ?_
        obtain ⟨b14474, e14475, h14476⟩ := I2.fld (h14438) 0 13 21 rfl
        refine g_getR C fi_X3_9 rfl e14475 (h14438).1 (h14438).2 dX3_clear_9 ?_
        refine g_iload_n C dX3_clear_12 rfl 1 rfl ?_
        refine g_iconst (v := (-1)) C dX3_clear_13 (by decide) ?_
        refine g_iast (j := (v2_1.toInt.toNat)) C h14476.1 h14476.2.1 (ix_in h14476.2.2 (by omega)) dX3_clear_14 ?_
        refine gp (ks := [13]) (I2.setA h14476 (by decide)) (EK.setI h14476.2.1 (by decide)) (fun Y14477 Iy14478 Xy14479 => ?_)
        have Xz14480 : EK [3, 13] P Y14477 := X2.tr (Xy14479.mono (by decide))
        have h14481 := Xy14479.at h14438
        refine s_iinc (lv0 := [(0, .ref a0)]) (m := 1) C dX3_clear_15 1 rfl (by decide) rfl (by decide) (by omega) (fun z14482 h14483 => ?_)
        have h14483 : z14482.toInt = v2_1.toInt + 1 := h14483
        refine g_goto C 2 dX3_clear_18 (by decide) ?_
        refine g_lv (lv' := [(0, .ref a0), (1, .int z14482)]) [1, 0] rfl ?_
        exact ih2 Y14477 z14482 (by omega) Iy14478 Xz14480 (by omega)
  refine g_iconst (v := 0) C dX3_clear_0 (by decide) ?_
  refine g_istore_n (lv' := [(1, .int 0), (0, .ref a0)]) C dX3_clear_1 rfl (by decide) rfl ?_
  refine g_lv (lv' := [(0, .ref a0), (1, .int 0)]) [1, 0] rfl ?_
  exact J2 _ P 0 (Nat.lt_succ_self _) I EK.rf (by decide)
theorem dX1_tell_38 : decode cX1_tell 38 = .ok (.aload_n 0, 1) := by decide +kernel
theorem dX1_tell_39 : decode cX1_tell 39 = .ok (.invokevirtual 39, 3) := by decide +kernel
theorem dX1_forgetDrawn_0 : decode cX1_forgetDrawn 0 = .ok (.iconst 0, 1) := by decide +kernel
theorem dX1_forgetDrawn_1 : decode cX1_forgetDrawn 1 = .ok (.istore_n 1, 1) := by decide +kernel
theorem dX1_forgetDrawn_2 : decode cX1_forgetDrawn 2 = .ok (.iload_n 1, 1) := by decide +kernel
theorem dX1_forgetDrawn_3 : decode cX1_forgetDrawn 3 = .ok (.bipush 60, 2) := by decide +kernel
theorem dX1_forgetDrawn_5 : decode cX1_forgetDrawn 5 = .ok (.if_icmp .ge 16, 3) := by decide +kernel
theorem dX1_forgetDrawn_8 : decode cX1_forgetDrawn 8 = .ok (.aload_n 0, 1) := by decide +kernel
theorem dX1_forgetDrawn_9 : decode cX1_forgetDrawn 9 = .ok (.getfield 22, 3) := by decide +kernel
theorem dX1_forgetDrawn_12 : decode cX1_forgetDrawn 12 = .ok (.iload_n 1, 1) := by decide +kernel
theorem dX1_forgetDrawn_13 : decode cX1_forgetDrawn 13 = .ok (.iconst 0, 1) := by decide +kernel
theorem dX1_forgetDrawn_14 : decode cX1_forgetDrawn 14 = .ok (.iastore, 1) := by decide +kernel
theorem dX1_forgetDrawn_15 : decode cX1_forgetDrawn 15 = .ok (.iinc 1 1, 3) := by decide +kernel
theorem dX1_forgetDrawn_18 : decode cX1_forgetDrawn 18 = .ok (.goto (-16), 3) := by decide +kernel
theorem dX1_forgetDrawn_21 : decode cX1_forgetDrawn 21 = .ok (.return_, 1) := by decide +kernel
set_option maxHeartbeats 4000000 in
set_option maxRecDepth 100000 in
theorem s_X1_forgetDrawn {P : PP} {a0 : Nat} (I : IV P) (ha0 : At P a0 1) : CtrV yX1_forgetDrawn cX1_forgetDrawn 2 none ({ frames := 1, cells := 0, slots := 0, locals := 64 } : Room) 0 0 P [.ref a0] (fun P2 => IV P2 ∧ EK [13] P P2) := by
  refine enV (lv := [(0, .ref a0)]) (by decide) (Nat.le_of_ble_eq_true rfl) rfl (fun E D cy C Ci0 ret => ?_)
  have J2 : ∀ (n2 : Nat) (P2 : PP) (v2_1 : Int32), (60 - v2_1.toInt).toNat < n2 → (IV P2) → (EK [13] P P2) → (0 ≤ v2_1.toInt ∧ v2_1.toInt ≤ 60) → G E ({ frames := 1, cells := 0, slots := 0, locals := 64 } : Room) D cy 2 P2 0 0 2 [(0, .ref a0), (1, .int v2_1)] [] := by
    intro n2
    induction n2 with
    | zero => intro P2 v2_1 hm2 I2 X2 hv2_1; omega
    | succ n2 ih2 =>
      intro P2 v2_1 hm2 I2 X2 hv2_1
      have h14892 := X2.at ha0
      refine g_iload_n C dX1_forgetDrawn_2 rfl 1 rfl ?_
      refine g_bipush (v := 60) C dX1_forgetDrawn_3 (by decide) ?_
      refine b_icmp_ge C 21 dX1_forgetDrawn_5 (by decide) (fun h14893 => ?_) (fun h14893 => ?_)
      · have h14893 : 60 ≤ v2_1.toInt := h14893
        exact ret _ _ _ _ _ dX1_forgetDrawn_21 (by decide) (by decide) ⟨I2, X2⟩
      · have h14893 : v2_1.toInt < 60 := h14893
        refine g_aload_n C dX1_forgetDrawn_8 rfl 0 rfl ?_
        obtain ⟨b14894, e14895, h14896⟩ := I2.fld (h14892) 3 13 60 rfl
        refine g_getR C fi_X1_22 rfl e14895 (h14892).1 (h14892).2 dX1_forgetDrawn_9 ?_
        refine g_iload_n C dX1_forgetDrawn_12 rfl 1 rfl ?_
        refine g_iconst (v := 0) C dX1_forgetDrawn_13 (by decide) ?_
        refine g_iast (j := (v2_1.toInt.toNat)) C h14896.1 h14896.2.1 (ix_in h14896.2.2 (by omega)) dX1_forgetDrawn_14 ?_
        refine gp (ks := [13]) (I2.setA h14896 (by decide)) (EK.setI h14896.2.1 (by decide)) (fun Y14897 Iy14898 Xy14899 => ?_)
        have Xz14900 : EK [13] P Y14897 := X2.tr (Xy14899.mono (by decide))
        have h14901 := Xy14899.at h14892
        refine s_iinc (lv0 := [(0, .ref a0)]) (m := 1) C dX1_forgetDrawn_15 1 rfl (by decide) rfl (by decide) (by omega) (fun z14902 h14903 => ?_)
        have h14903 : z14902.toInt = v2_1.toInt + 1 := h14903
        refine g_goto C 2 dX1_forgetDrawn_18 (by decide) ?_
        refine g_lv (lv' := [(0, .ref a0), (1, .int z14902)]) [1, 0] rfl ?_
        exact ih2 Y14897 z14902 (by omega) Iy14898 Xz14900 (by omega)
  refine g_iconst (v := 0) C dX1_forgetDrawn_0 (by decide) ?_
  refine g_istore_n (lv' := [(1, .int 0), (0, .ref a0)]) C dX1_forgetDrawn_1 rfl (by decide) rfl ?_
  refine g_lv (lv' := [(0, .ref a0), (1, .int 0)]) [1, 0] rfl ?_
  exact J2 _ P 0 (Nat.lt_succ_self _) I EK.rf (by decide)
theorem dX1_tell_42 : decode cX1_tell 42 = .ok (.return_, 1) := by decide +kernel
set_option maxHeartbeats 4000000 in
set_option maxRecDepth 100000 in
theorem s_X1_tell {P : PP} {a0 : Nat} {a1 : Int32} (I : IV P) (ha0 : At P a0 1) (ha1 : 1 ≤ a1.toInt ∧ a1.toInt ≤ 16) : CtrV yX1_tell cX1_tell 3 none ({ frames := 2, cells := 0, slots := 0, locals := 128 } : Room) 0 0 P [.ref a0, .int a1] (fun P2 => IV P2 ∧ EK [1, 3, 13] P P2) := by
  refine enV (lv := [(0, .ref a0), (1, .int a1)]) (by decide) (Nat.le_of_ble_eq_true rfl) rfl (fun E D cy C Ci0 ret => ?_)
  have J12 : ∀ (n12 : Nat) (P12 : PP) (v12_2 : Int32), (16 - v12_2.toInt).toNat < n12 → (IV P12) → (EK [1, 3, 13] P P12) → (0 ≤ v12_2.toInt ∧ v12_2.toInt ≤ 16) → (1 ≤ (pI P12 a0 4).toInt ∧ (pI P12 a0 4).toInt ≤ 1) → (1 ≤ (pI P12 a0 5).toInt ∧ (pI P12 a0 5).toInt ≤ 16) → G E ({ frames := 2, cells := 0, slots := 0, locals := 128 } : Room) D cy 3 P12 0 0 12 [(0, .ref a0), (2, .int v12_2)] [] := by
    intro n12
    induction n12 with
    | zero => intro P12 v12_2 hm12 I12 X12 hv12_2 hq12_0 hq12_1; omega
    | succ n12 ih12 =>
      intro P12 v12_2 hm12 I12 X12 hv12_2 hq12_0 hq12_1
      have h15094 := X12.at ha0
      refine g_iload_n C dX1_tell_12 rfl 1 rfl ?_
      refine g_bipush (v := 16) C dX1_tell_13 (by decide) ?_
      refine b_icmp_ge C 31 dX1_tell_15 (by decide) (fun h15095 => ?_) (fun h15095 => ?_)
      · have h15095 : 16 ≤ v12_2.toInt := h15095
        refine g_aload_n C dX1_tell_31 rfl 0 rfl ?_
        obtain ⟨b15096, e15097, h15098⟩ := I12.fld (h15094) 2 3 0 rfl
        refine g_getR C fi_X1_18 rfl e15097 (h15094).1 (h15094).2 dX1_tell_32 ?_
        refine g_callVV (rest := []) C mv_X1_36 [] (s_X3_clear I12 h15098.at) (h15098.at).1 (h15098.at).2 rfl rfl (by decide) (Nat.le_of_ble_eq_true rfl) (by decide) dX1_tell_35 (fun Y15100 h15101 => ?_)
        obtain ⟨Iy15102, Xy15103⟩ := h15101
        have q15104 := Xy15103.keep h15094 (by decide) 4
        have q15105 := Xy15103.keep h15094 (by decide) 5
        have Xz15106 : EK [1, 3, 13] P Y15100 := X12.tr (Xy15103.mono (by decide))
        have h15107 := Xy15103.at h15094
        refine g_aload_n C dX1_tell_38 rfl 0 rfl ?_
        refine g_callVV (rest := []) C mv_X1_39 [] (s_X1_forgetDrawn Iy15102 h15107) (h15107).1 (h15107).2 rfl rfl (by decide) (Nat.le_of_ble_eq_true rfl) (by decide) dX1_tell_39 (fun Y15109 h15110 => ?_)
        obtain ⟨Iy15111, Xy15112⟩ := h15110
        have q15113 := Xy15112.keep h15107 (by decide) 4
        have q15114 := Xy15112.keep h15107 (by decide) 5
        have Xz15115 : EK [1, 3, 13] P Y15109 := Xz15106.tr (Xy15112.mono (by decide))
        have h15116 := Xy15112.at h15107
        exact ret _ _ _ _ _ dX1_tell_42 (by decide) (by decide) ⟨Iy15111, Xz15115⟩
      · have h15095 : v12_2.toInt < 16 := h15095
        refine g_aload_n C dX1_tell_18 rfl 0 rfl ?_
        obtain ⟨b15117, e15118, h15119⟩ := I12.fld (h15094) 1 13 16 rfl
        refine g_getR C fi_X1_9 rfl e15118 (h15094).1 (h15094).2 dX1_tell_19 ?_
        refine g_iload_n C dX1_tell_22 rfl 1 rfl ?_
        refine g_iconst (v := 0) C dX1_tell_23 (by decide) ?_
        refine g_iast (j := (v12_2.toInt.toNat)) C h15119.1 h15119.2.1 (ix_in h15119.2.2 (by omega)) dX1_tell_24 ?_
        refine gp (ks := [13]) (I12.setA h15119 (by decide)) (EK.setI h15119.2.1 (by decide)) (fun Y15120 Iy15121 Xy15122 => ?_)
        have q15123 := Xy15122.keep h15094 (by decide) 4
        have q15124 := Xy15122.keep h15094 (by decide) 5
        have Xz15125 : EK [1, 3, 13] P Y15120 := X12.tr (Xy15122.mono (by decide))
        have h15126 := Xy15122.at h15094
        refine s_iinc (lv0 := [(0, .ref a0)]) (m := 1) C dX1_tell_25 1 rfl (by decide) rfl (by decide) (by omega) (fun z15127 h15128 => ?_)
        have h15128 : z15127.toInt = v12_2.toInt + 1 := h15128
        refine g_goto C 12 dX1_tell_28 (by decide) ?_
        refine g_lv (lv' := [(0, .ref a0), (2, .int z15127)]) [1, 0] rfl ?_
        exact ih12 Y15120 z15127 (by omega) Iy15121 Xz15125 (by omega) (by omega) (by omega)
  refine g_aload_n C dX1_tell_0 rfl 0 rfl ?_
  refine g_iconst (v := 1) C dX1_tell_1 (by decide) ?_
  refine g_putZ C fi_X1_29 rfl (Or.inr rfl) (ha0).1 (ha0).2 dX1_tell_2 ?_
  refine gpW (ks := [1]) (I.setI (ha0) (rgOk.of rfl (by decide))) (EK.setI (ha0).2 (by decide)) (fun Y15129 Iy15130 Xy15131 w15132 w15133 => ?_)
  have w15133 : (pI Y15129 a0 4).toInt = 1 := w15133
  have Xz15134 : EK [1, 3, 13] P Y15129 := Xy15131.mono (by decide)
  have h15135 := Xy15131.at ha0
  refine g_aload_n C dX1_tell_5 rfl 0 rfl ?_
  refine g_iload_n C dX1_tell_6 rfl 1 rfl ?_
  refine g_putI C fi_X1_33 rfl (h15135).1 (h15135).2 dX1_tell_7 ?_
  refine gpW (ks := [1]) (Iy15130.setI (h15135) (rgOk.of rfl (by omega))) (EK.setI (h15135).2 (by decide)) (fun Y15136 Iy15137 Xy15138 w15139 w15140 => ?_)
  have q15141 := w15139 4 (by decide)
  have Xz15142 : EK [1, 3, 13] P Y15136 := Xz15134.tr (Xy15138.mono (by decide))
  have h15143 := Xy15138.at h15135
  refine g_iconst (v := 0) C dX1_tell_10 (by decide) ?_
  refine g_istore_n (lv' := [(2, .int 0), (0, .ref a0), (1, .int a1)]) C dX1_tell_11 rfl (by decide) rfl ?_
  refine g_lv (lv' := [(0, .ref a0), (2, .int 0)]) [1, 0] rfl ?_
  exact J12 _ Y15136 0 (Nat.lt_succ_self _) Iy15137 Xz15142 (by decide) (by omega) (by omega)
theorem dX11_book_18 : decode cX11_book 18 = .ok (.iconst 0, 1) := by decide +kernel
theorem dX11_book_19 : decode cX11_book 19 = .ok (.ireturn, 1) := by decide +kernel
theorem dX11_book_30 : decode cX11_book 30 = .ok (.iconst 0, 1) := by decide +kernel
theorem dX11_book_31 : decode cX11_book 31 = .ok (.istore_n 3, 1) := by decide +kernel
theorem dX11_book_32 : decode cX11_book 32 = .ok (.iload_n 3, 1) := by decide +kernel
theorem dX11_book_33 : decode cX11_book 33 = .ok (.iconst 4, 1) := by decide +kernel
theorem dX11_book_34 : decode cX11_book 34 = .ok (.if_icmp .ge 19, 3) := by decide +kernel
theorem dX11_book_37 : decode cX11_book 37 = .ok (.aload_n 0, 1) := by decide +kernel
theorem dX11_book_38 : decode cX11_book 38 = .ok (.getfield 17, 3) := by decide +kernel
theorem dX11_book_41 : decode cX11_book 41 = .ok (.iload_n 3, 1) := by decide +kernel
theorem dX11_book_42 : decode cX11_book 42 = .ok (.aaload, 1) := by decide +kernel
theorem dX11_book_43 : decode cX11_book 43 = .ok (.iload_n 1, 1) := by decide +kernel
theorem dX11_book_44 : decode cX11_book 44 = .ok (.invokevirtual 91, 3) := by decide +kernel
theorem dX6_dropTouching_0 : decode cX6_dropTouching 0 = .ok (.iconst 0, 1) := by decide +kernel
theorem dX6_dropTouching_1 : decode cX6_dropTouching 1 = .ok (.istore_n 2, 1) := by decide +kernel
theorem dX6_dropTouching_2 : decode cX6_dropTouching 2 = .ok (.iconst 0, 1) := by decide +kernel
theorem dX6_dropTouching_3 : decode cX6_dropTouching 3 = .ok (.istore_n 3, 1) := by decide +kernel
theorem dX6_dropTouching_4 : decode cX6_dropTouching 4 = .ok (.iload_n 3, 1) := by decide +kernel
theorem dX6_dropTouching_5 : decode cX6_dropTouching 5 = .ok (.aload_n 0, 1) := by decide +kernel
theorem dX6_dropTouching_6 : decode cX6_dropTouching 6 = .ok (.getfield 17, 3) := by decide +kernel
theorem dX6_dropTouching_9 : decode cX6_dropTouching 9 = .ok (.if_icmp .ge 37, 3) := by decide +kernel
theorem dX6_dropTouching_12 : decode cX6_dropTouching 12 = .ok (.aload_n 0, 1) := by decide +kernel
theorem dX6_dropTouching_13 : decode cX6_dropTouching 13 = .ok (.getfield 11, 3) := by decide +kernel
theorem dX6_dropTouching_16 : decode cX6_dropTouching 16 = .ok (.iload_n 3, 1) := by decide +kernel
theorem dX6_dropTouching_17 : decode cX6_dropTouching 17 = .ok (.aaload, 1) := by decide +kernel
theorem dX6_dropTouching_18 : decode cX6_dropTouching 18 = .ok (.iload_n 1, 1) := by decide +kernel
theorem dX6_dropTouching_19 : decode cX6_dropTouching 19 = .ok (.invokestatic 32, 3) := by decide +kernel
theorem dX6_dropTouching_46 : decode cX6_dropTouching 46 = .ok (.aload_n 0, 1) := by decide +kernel
theorem dX6_dropTouching_47 : decode cX6_dropTouching 47 = .ok (.iload_n 2, 1) := by decide +kernel
theorem dX6_dropTouching_48 : decode cX6_dropTouching 48 = .ok (.putfield 17, 3) := by decide +kernel
theorem dX6_dropTouching_51 : decode cX6_dropTouching 51 = .ok (.return_, 1) := by decide +kernel
theorem dX6_isTouching_0 : decode cX6_isTouching 0 = .ok (.aload_n 0, 1) := by decide +kernel
theorem dX6_isTouching_1 : decode cX6_isTouching 1 = .ok (.ifnull 23, 3) := by decide +kernel
theorem dX6_isTouching_24 : decode cX6_isTouching 24 = .ok (.iconst 0, 1) := by decide +kernel
theorem dX6_isTouching_25 : decode cX6_isTouching 25 = .ok (.ireturn, 1) := by decide +kernel
set_option maxHeartbeats 4000000 in
set_option maxRecDepth 100000 in
theorem s_X6_isTouchingn0 {P : PP} {a1 : Int32} (I : IV P) : CtrI yX6_isTouching cX6_isTouching 2 (some Jvm.ClassFile.FieldType.boolean) ({ frames := 1, cells := 0, slots := 0, locals := 64 } : Room) 0 0 P [.null, .int a1] (fun r P2 => P = P2 ∧ (0 ≤ r.toInt ∧ r.toInt ≤ 0)) := by
  refine enI (lv := [(0, .null), (1, .int a1)]) (by decide) (Nat.le_of_ble_eq_true rfl) rfl (fun E D cy C Ci0 ret => ?_)
  have J24 : G E ({ frames := 1, cells := 0, slots := 0, locals := 64 } : Room) D cy 2 P 0 0 24 [] [] := by
    refine g_iconst (v := 0) C dX6_isTouching_24 (by decide) ?_
    exact ret _ _ _ _ _ _ dX6_isTouching_25 rfl (by decide) (by decide) ⟨rfl, (by decide)⟩
  refine g_aload_nN C dX6_isTouching_0 rfl 0 rfl ?_
  refine g_ifnullN C 24 dX6_isTouching_1 (by decide) ?_
  refine g_lv (lv' := []) [] rfl ?_
  exact J24 
theorem dX6_dropTouching_22 : decode cX6_dropTouching 22 = .ok (.ifCond .ne 18, 3) := by decide +kernel
theorem dX6_dropTouching_25 : decode cX6_dropTouching 25 = .ok (.aload_n 0, 1) := by decide +kernel
theorem dX6_dropTouching_26 : decode cX6_dropTouching 26 = .ok (.getfield 11, 3) := by decide +kernel
theorem dX6_dropTouching_29 : decode cX6_dropTouching 29 = .ok (.iload_n 2, 1) := by decide +kernel
theorem dX6_dropTouching_30 : decode cX6_dropTouching 30 = .ok (.aload_n 0, 1) := by decide +kernel
theorem dX6_dropTouching_31 : decode cX6_dropTouching 31 = .ok (.getfield 11, 3) := by decide +kernel
theorem dX6_dropTouching_34 : decode cX6_dropTouching 34 = .ok (.iload_n 3, 1) := by decide +kernel
theorem dX6_dropTouching_35 : decode cX6_dropTouching 35 = .ok (.aaload, 1) := by decide +kernel
theorem dX6_dropTouching_36 : decode cX6_dropTouching 36 = .ok (.aastore, 1) := by decide +kernel
theorem dX6_dropTouching_37 : decode cX6_dropTouching 37 = .ok (.iinc 2 1, 3) := by decide +kernel
theorem dX6_isTouching_4 : decode cX6_isTouching 4 = .ok (.aload_n 0, 1) := by decide +kernel
theorem dX6_isTouching_5 : decode cX6_isTouching 5 = .ok (.getfield 21, 3) := by decide +kernel
theorem dX6_isTouching_8 : decode cX6_isTouching 8 = .ok (.iload_n 1, 1) := by decide +kernel
theorem dX6_isTouching_9 : decode cX6_isTouching 9 = .ok (.if_icmp .eq 11, 3) := by decide +kernel
theorem dX6_isTouching_12 : decode cX6_isTouching 12 = .ok (.aload_n 0, 1) := by decide +kernel
theorem dX6_isTouching_13 : decode cX6_isTouching 13 = .ok (.getfield 21, 3) := by decide +kernel
theorem dX6_isTouching_16 : decode cX6_isTouching 16 = .ok (.iconst (-1), 1) := by decide +kernel
theorem dX6_isTouching_17 : decode cX6_isTouching 17 = .ok (.if_icmp .ne 7, 3) := by decide +kernel
theorem dX6_isTouching_20 : decode cX6_isTouching 20 = .ok (.iconst 1, 1) := by decide +kernel
theorem dX6_isTouching_21 : decode cX6_isTouching 21 = .ok (.goto 4, 3) := by decide +kernel
set_option maxHeartbeats 4000000 in
set_option maxRecDepth 100000 in
theorem s_X6_isTouching {P : PP} {a0 : Nat} {a1 : Int32} (I : IV P) (ha0 : At P a0 7) : CtrI yX6_isTouching cX6_isTouching 2 (some Jvm.ClassFile.FieldType.boolean) ({ frames := 1, cells := 0, slots := 0, locals := 64 } : Room) 0 0 P [.ref a0, .int a1] (fun r P2 => P = P2 ∧ (0 ≤ r.toInt ∧ r.toInt ≤ 1)) := by
  refine enI (lv := [(0, .ref a0), (1, .int a1)]) (by decide) (Nat.le_of_ble_eq_true rfl) rfl (fun E D cy C Ci0 ret => ?_)
  have J24 : (0 ≤ (pI P a0 0).toInt ∧ (pI P a0 0).toInt ≤ 1) → G E ({ frames := 1, cells := 0, slots := 0, locals := 64 } : Room) D cy 2 P 0 0 24 [] [] := by
    intro hq24_0
    refine g_iconst (v := 0) C dX6_isTouching_24 (by decide) ?_
    exact ret _ _ _ _ _ _ dX6_isTouching_25 rfl (by decide) (by decide) ⟨rfl, (by decide)⟩
  have J20 : G E ({ frames := 1, cells := 0, slots := 0, locals := 64 } : Room) D cy 2 P 0 0 20 [] [] := by
    refine g_iconst (v := 1) C dX6_isTouching_20 (by decide) ?_
    refine g_goto C 25 dX6_isTouching_21 (by decide) ?_
    exact ret _ _ _ _ _ _ dX6_isTouching_25 rfl (by decide) (by decide) ⟨rfl, (by decide)⟩
  refine g_aload_n C dX6_isTouching_0 rfl 0 rfl ?_
  refine g_ifnull C dX6_isTouching_1 ?_
  refine g_aload_n C dX6_isTouching_4 rfl 0 rfl ?_
  refine g_getI C fi_X6_21 (by decide) (ha0).1 (ha0).2 dX6_isTouching_5 ?_
  have h15231 := I.rg (ha0) 0 rfl
  refine g_iload_n C dX6_isTouching_8 rfl 1 rfl ?_
  have u15233 := ti_rng a1
  refine b_icmp_eq C 20 dX6_isTouching_9 (by decide) (fun h15232 => ?_) (fun h15232 => ?_)
  · have h15232 : (pI P a0 0).toInt = a1.toInt := congrArg Int32.toInt h15232
    refine g_lv (lv' := []) [] rfl ?_
    exact J20 
  · have h15232 : (pI P a0 0).toInt ≠ a1.toInt := ti_ne h15232
    refine g_aload_n C dX6_isTouching_12 rfl 0 rfl ?_
    refine g_getI C fi_X6_21 (by decide) (ha0).1 (ha0).2 dX6_isTouching_13 ?_
    refine g_iconst (v := (-1)) C dX6_isTouching_16 (by decide) ?_
    refine b_icmp_ne C 24 dX6_isTouching_17 (by decide) (fun h15234 => ?_) (fun h15234 => ?_)
    · have h15234 : (pI P a0 0).toInt ≠ (-1) := ti_ne h15234
      refine g_lv (lv' := []) [] rfl ?_
      exact J24 (by omega)
    · have h15234 : (pI P a0 0).toInt = (-1) := congrArg Int32.toInt h15234
      refine g_lv (lv' := []) [] rfl ?_
      exact J20 
theorem dX6_dropTouching_40 : decode cX6_dropTouching 40 = .ok (.iinc 3 1, 3) := by decide +kernel
theorem dX6_dropTouching_43 : decode cX6_dropTouching 43 = .ok (.goto (-39), 3) := by decide +kernel
set_option maxHeartbeats 4000000 in
set_option maxRecDepth 100000 in
theorem s_X6_dropTouching {P : PP} {a0 : Nat} {a1 : Int32} (I : IV P) (ha0 : At P a0 6) : CtrV yX6_dropTouching cX6_dropTouching 4 none ({ frames := 2, cells := 0, slots := 0, locals := 128 } : Room) 0 0 P [.ref a0, .int a1] (fun P2 => IV P2 ∧ EK [6] P P2) := by
  refine enV (lv := [(0, .ref a0), (1, .int a1)]) (by decide) (Nat.le_of_ble_eq_true rfl) rfl (fun E D cy C Ci0 ret => ?_)
  have J4 : ∀ (n4 : Nat) (P4 : PP) (v4_2 : Int32) (v4_3 : Int32), (40 - v4_3.toInt).toNat < n4 → (IV P4) → (EK [6] P P4) → (0 ≤ v4_2.toInt ∧ v4_2.toInt ≤ 40) → (0 ≤ v4_3.toInt ∧ v4_3.toInt ≤ 40) → (v4_2.toInt ≤ v4_3.toInt) → G E ({ frames := 2, cells := 0, slots := 0, locals := 128 } : Room) D cy 4 P4 0 0 4 [(0, .ref a0), (1, .int a1), (2, .int v4_2), (3, .int v4_3)] [] := by
    intro n4
    induction n4 with
    | zero => intro P4 v4_2 v4_3 hm4 I4 X4 hv4_2 hv4_3 rel4_0; omega
    | succ n4 ih4 =>
      intro P4 v4_2 v4_3 hm4 I4 X4 hv4_2 hv4_3 rel4_0
      have h16209 := X4.at ha0
      have J40 : ∀ (P40 : PP) (v40_2 : Int32), (IV P40) → (EK [6] P P40) → (0 ≤ v40_2.toInt ∧ v40_2.toInt ≤ 40) → (0 ≤ v4_3.toInt ∧ v4_3.toInt ≤ 39) → (1 ≤ (pI P40 a0 1).toInt ∧ (pI P40 a0 1).toInt ≤ 40) → (v40_2.toInt ≤ v4_3.toInt + 1) → G E ({ frames := 2, cells := 0, slots := 0, locals := 128 } : Room) D cy 4 P40 0 0 40 [(0, .ref a0), (1, .int a1), (2, .int v40_2), (3, .int v4_3)] [] := by
        intro P40 v40_2 I40 X40 hv40_2 hv40_3 hq40_0 rel40_0
        have h16210 := X40.at ha0
        refine s_iinc (lv0 := [(0, .ref a0), (1, .int a1), (2, .int v40_2)]) (m := 1) C dX6_dropTouching_40 3 rfl (by decide) rfl (by decide) (by omega) (fun z16211 h16212 => ?_)
        have h16212 : z16211.toInt = v4_3.toInt + 1 := h16212
        refine g_goto C 4 dX6_dropTouching_43 (by decide) ?_
        refine g_lv (lv' := [(0, .ref a0), (1, .int a1), (2, .int v40_2), (3, .int z16211)]) [1, 2, 3, 0] rfl ?_
        exact ih4 P40 v40_2 z16211 (by omega) I40 X40 (by omega) (by omega) (by show v40_2.toInt ≤ z16211.toInt; omega)
      refine g_iload_n C dX6_dropTouching_4 rfl 3 rfl ?_
      refine g_aload_n C dX6_dropTouching_5 rfl 0 rfl ?_
      refine g_getI C fi_X6_17 (by decide) (h16209).1 (h16209).2 dX6_dropTouching_6 ?_
      have h16213 := I4.rg (h16209) 1 rfl
      refine b_icmp_ge C 46 dX6_dropTouching_9 (by decide) (fun h16214 => ?_) (fun h16214 => ?_)
      · have h16214 : (pI P4 a0 1).toInt ≤ v4_3.toInt := h16214
        refine g_aload_n C dX6_dropTouching_46 rfl 0 rfl ?_
        refine g_iload_n C dX6_dropTouching_47 rfl 2 rfl ?_
        refine g_putI C fi_X6_17 rfl (h16209).1 (h16209).2 dX6_dropTouching_48 ?_
        refine gpW (ks := [6]) (I4.setI (h16209) (rgOk.of rfl (by omega))) (EK.setI (h16209).2 (by decide)) (fun Y16215 Iy16216 Xy16217 w16218 w16219 => ?_)
        have Xz16220 : EK [6] P Y16215 := X4.tr (Xy16217.mono (by decide))
        have h16221 := Xy16217.at h16209
        exact ret _ _ _ _ _ dX6_dropTouching_51 (by decide) (by decide) ⟨Iy16216, Xz16220⟩
      · have h16214 : v4_3.toInt < (pI P4 a0 1).toInt := h16214
        refine g_aload_n C dX6_dropTouching_12 rfl 0 rfl ?_
        obtain ⟨b16222, e16223, h16224⟩ := I4.fld (h16209) 0 20 40 rfl
        refine g_getR C fi_X6_11 rfl e16223 (h16209).1 (h16209).2 dX6_dropTouching_13 ?_
        refine g_iload_n C dX6_dropTouching_16 rfl 3 rfl ?_
        refine g_aldQ (j := (v4_3.toInt.toNat)) C h16224.1 h16224.2.1 (by decide) (ix_in h16224.2.2 (by omega)) dX6_dropTouching_17 ?_
        rcases I4.pap h16224 (v4_3.toInt.toNat) with e16226 | ⟨b16225, e16226, h16227⟩
        · rw [e16226]
          show G _ _ _ _ _ _ _ _ _ _ (.null :: _)
          refine g_iload_n C dX6_dropTouching_18 rfl 1 rfl ?_
          refine g_callSI (b := 0) (ci := 0) (rest := []) C ms_X6_32 [.null, .int a1] (s_X6_isTouchingn0 I4) rfl rfl (by decide) (Nat.le_of_ble_eq_true rfl) (by decide) dX6_dropTouching_19 (fun r16228 Y16229 h16230 => ?_)
          obtain ⟨rfl, h16230⟩ := h16230
          have h16230 : 0 ≤ r16228.toInt ∧ r16228.toInt ≤ 0 := h16230
          refine b_if_ne C 40 dX6_dropTouching_22 (by decide) (fun h16231 => ?_) (fun h16231 => ?_)
          · have h16231 : r16228.toInt ≠ 0 := ti_ne h16231
            omega
          · have h16231 : r16228.toInt = 0 := congrArg Int32.toInt h16231
            refine g_aload_n C dX6_dropTouching_25 rfl 0 rfl ?_
            refine g_getR C fi_X6_11 rfl e16223 (h16209).1 (h16209).2 dX6_dropTouching_26 ?_
            refine g_iload_n C dX6_dropTouching_29 rfl 2 rfl ?_
            refine g_aload_n C dX6_dropTouching_30 rfl 0 rfl ?_
            refine g_getR C fi_X6_11 rfl e16223 (h16209).1 (h16209).2 dX6_dropTouching_31 ?_
            refine g_iload_n C dX6_dropTouching_34 rfl 3 rfl ?_
            refine g_aldQ (j := (v4_3.toInt.toNat)) C h16224.1 h16224.2.1 (by decide) (ix_in h16224.2.2 (by omega)) dX6_dropTouching_35 ?_
            rcases I4.pap h16224 (v4_3.toInt.toNat) with e16233 | ⟨b16232, e16233, h16234⟩
            · rw [e16233]
              show G _ _ _ _ _ _ _ _ _ _ (.null :: _)
              refine g_astN (j := (v4_2.toInt.toNat)) C h16224.1 h16224.2.1 (by decide) (ix_in h16224.2.2 (by omega)) dX6_dropTouching_36 ?_
              refine gp (ks := []) (I4.setP h16224 (fun _ z => by cases z)) (EK.setR h16224.2.1 (by decide)) (fun Y16235 Iy16236 Xy16237 => ?_)
              have q16238 := Xy16237.keep h16209 (by decide) 1
              have Xz16239 : EK [6] P Y16235 := X4.tr (Xy16237.mono (by decide))
              have h16240 := Xy16237.at h16209
              refine s_iinc (lv0 := [(0, .ref a0), (1, .int a1), (3, .int v4_3)]) (m := 1) C dX6_dropTouching_37 2 rfl (by decide) rfl (by decide) (by omega) (fun z16241 h16242 => ?_)
              have h16242 : z16241.toInt = v4_2.toInt + 1 := h16242
              refine g_lv (lv' := [(0, .ref a0), (1, .int a1), (2, .int z16241), (3, .int v4_3)]) [1, 2, 0, 3] rfl ?_
              exact J40 Y16235 z16241 Iy16236 Xz16239 (by omega) (by omega) (by omega) (by show z16241.toInt ≤ v4_3.toInt + 1; omega)
            · rw [e16233]
              show G _ _ _ _ _ _ _ _ _ _ (.ref b16232 :: _)
              refine g_astR (j := (v4_2.toInt.toNat)) C h16224.1 h16224.2.1 (by decide) (ix_in h16224.2.2 (by omega)) (h16234).1 (h16234).2 (by decide) rfl rfl dX6_dropTouching_36 ?_
              refine gp (ks := []) (I4.setP h16224 (fun _ z => by cases z; exact h16234)) (EK.setR h16224.2.1 (by decide)) (fun Y16243 Iy16244 Xy16245 => ?_)
              have q16246 := Xy16245.keep h16209 (by decide) 1
              have Xz16247 : EK [6] P Y16243 := X4.tr (Xy16245.mono (by decide))
              have h16248 := Xy16245.at h16209
              refine s_iinc (lv0 := [(0, .ref a0), (1, .int a1), (3, .int v4_3)]) (m := 1) C dX6_dropTouching_37 2 rfl (by decide) rfl (by decide) (by omega) (fun z16249 h16250 => ?_)
              have h16250 : z16249.toInt = v4_2.toInt + 1 := h16250
              refine g_lv (lv' := [(0, .ref a0), (1, .int a1), (2, .int z16249), (3, .int v4_3)]) [1, 2, 0, 3] rfl ?_
              exact J40 Y16243 z16249 Iy16244 Xz16247 (by omega) (by omega) (by omega) (by show z16249.toInt ≤ v4_3.toInt + 1; omega)
        · rw [e16226]
          show G _ _ _ _ _ _ _ _ _ _ (.ref b16225 :: _)
          refine g_iload_n C dX6_dropTouching_18 rfl 1 rfl ?_
          refine g_callSI (b := 0) (ci := 0) (rest := []) C ms_X6_32 [.ref b16225, .int a1] (s_X6_isTouching I4 h16227) rfl rfl (by decide) (Nat.le_of_ble_eq_true rfl) (by decide) dX6_dropTouching_19 (fun r16251 Y16252 h16253 => ?_)
          obtain ⟨rfl, h16253⟩ := h16253
          have h16253 : 0 ≤ r16251.toInt ∧ r16251.toInt ≤ 1 := h16253
          refine b_if_ne C 40 dX6_dropTouching_22 (by decide) (fun h16254 => ?_) (fun h16254 => ?_)
          · have h16254 : r16251.toInt ≠ 0 := ti_ne h16254
            exact J40 P4 v4_2 I4 X4 (by omega) (by omega) (by omega) (by show v4_2.toInt ≤ v4_3.toInt + 1; omega)
          · have h16254 : r16251.toInt = 0 := congrArg Int32.toInt h16254
            refine g_aload_n C dX6_dropTouching_25 rfl 0 rfl ?_
            refine g_getR C fi_X6_11 rfl e16223 (h16209).1 (h16209).2 dX6_dropTouching_26 ?_
            refine g_iload_n C dX6_dropTouching_29 rfl 2 rfl ?_
            refine g_aload_n C dX6_dropTouching_30 rfl 0 rfl ?_
            refine g_getR C fi_X6_11 rfl e16223 (h16209).1 (h16209).2 dX6_dropTouching_31 ?_
            refine g_iload_n C dX6_dropTouching_34 rfl 3 rfl ?_
            refine g_aldQ (j := (v4_3.toInt.toNat)) C h16224.1 h16224.2.1 (by decide) (ix_in h16224.2.2 (by omega)) dX6_dropTouching_35 ?_
            rcases I4.pap h16224 (v4_3.toInt.toNat) with e16256 | ⟨b16255, e16256, h16257⟩
            · rw [e16256]
              show G _ _ _ _ _ _ _ _ _ _ (.null :: _)
              refine g_astN (j := (v4_2.toInt.toNat)) C h16224.1 h16224.2.1 (by decide) (ix_in h16224.2.2 (by omega)) dX6_dropTouching_36 ?_
              refine gp (ks := []) (I4.setP h16224 (fun _ z => by cases z)) (EK.setR h16224.2.1 (by decide)) (fun Y16258 Iy16259 Xy16260 => ?_)
              have q16261 := Xy16260.keep h16209 (by decide) 1
              have Xz16262 : EK [6] P Y16258 := X4.tr (Xy16260.mono (by decide))
              have h16263 := Xy16260.at h16209
              refine s_iinc (lv0 := [(0, .ref a0), (1, .int a1), (3, .int v4_3)]) (m := 1) C dX6_dropTouching_37 2 rfl (by decide) rfl (by decide) (by omega) (fun z16264 h16265 => ?_)
              have h16265 : z16264.toInt = v4_2.toInt + 1 := h16265
              refine g_lv (lv' := [(0, .ref a0), (1, .int a1), (2, .int z16264), (3, .int v4_3)]) [1, 2, 0, 3] rfl ?_
              exact J40 Y16258 z16264 Iy16259 Xz16262 (by omega) (by omega) (by omega) (by show z16264.toInt ≤ v4_3.toInt + 1; omega)
            · rw [e16256]
              show G _ _ _ _ _ _ _ _ _ _ (.ref b16255 :: _)
              refine g_astR (j := (v4_2.toInt.toNat)) C h16224.1 h16224.2.1 (by decide) (ix_in h16224.2.2 (by omega)) (h16257).1 (h16257).2 (by decide) rfl rfl dX6_dropTouching_36 ?_
              refine gp (ks := []) (I4.setP h16224 (fun _ z => by cases z; exact h16257)) (EK.setR h16224.2.1 (by decide)) (fun Y16266 Iy16267 Xy16268 => ?_)
              have q16269 := Xy16268.keep h16209 (by decide) 1
              have Xz16270 : EK [6] P Y16266 := X4.tr (Xy16268.mono (by decide))
              have h16271 := Xy16268.at h16209
              refine s_iinc (lv0 := [(0, .ref a0), (1, .int a1), (3, .int v4_3)]) (m := 1) C dX6_dropTouching_37 2 rfl (by decide) rfl (by decide) (by omega) (fun z16272 h16273 => ?_)
              have h16273 : z16272.toInt = v4_2.toInt + 1 := h16273
              refine g_lv (lv' := [(0, .ref a0), (1, .int a1), (2, .int z16272), (3, .int v4_3)]) [1, 2, 0, 3] rfl ?_
              exact J40 Y16266 z16272 Iy16267 Xz16270 (by omega) (by omega) (by omega) (by show z16272.toInt ≤ v4_3.toInt + 1; omega)
  refine g_iconst (v := 0) C dX6_dropTouching_0 (by decide) ?_
  refine g_istore_n (lv' := [(2, .int 0), (0, .ref a0), (1, .int a1)]) C dX6_dropTouching_1 rfl (by decide) rfl ?_
  refine g_iconst (v := 0) C dX6_dropTouching_2 (by decide) ?_
  refine g_istore_n (lv' := [(3, .int 0), (2, .int 0), (0, .ref a0), (1, .int a1)]) C dX6_dropTouching_3 rfl (by decide) rfl ?_
  refine g_lv (lv' := [(0, .ref a0), (1, .int a1), (2, .int 0), (3, .int 0)]) [2, 3, 1, 0] rfl ?_
  exact J4 _ P 0 0 (Nat.lt_succ_self _) I EK.rf (by decide) (by decide) (by show 0 ≤ 0; omega)
theorem dX11_book_47 : decode cX11_book 47 = .ok (.iinc 3 1, 3) := by decide +kernel
theorem dX11_book_50 : decode cX11_book 50 = .ok (.goto (-18), 3) := by decide +kernel
theorem dX11_book_53 : decode cX11_book 53 = .ok (.aload_n 0, 1) := by decide +kernel
theorem dX11_book_54 : decode cX11_book 54 = .ok (.invokevirtual 94, 3) := by decide +kernel
theorem dX11_forgetMarks_0 : decode cX11_forgetMarks 0 = .ok (.iconst 0, 1) := by decide +kernel
theorem dX11_forgetMarks_1 : decode cX11_forgetMarks 1 = .ok (.istore_n 1, 1) := by decide +kernel
theorem dX11_forgetMarks_2 : decode cX11_forgetMarks 2 = .ok (.iload_n 1, 1) := by decide +kernel
theorem dX11_forgetMarks_3 : decode cX11_forgetMarks 3 = .ok (.iconst 4, 1) := by decide +kernel
theorem dX11_forgetMarks_4 : decode cX11_forgetMarks 4 = .ok (.if_icmp .ge 16, 3) := by decide +kernel
theorem dX11_forgetMarks_7 : decode cX11_forgetMarks 7 = .ok (.aload_n 0, 1) := by decide +kernel
theorem dX11_forgetMarks_8 : decode cX11_forgetMarks 8 = .ok (.getfield 24, 3) := by decide +kernel
theorem dX11_forgetMarks_11 : decode cX11_forgetMarks 11 = .ok (.iload_n 1, 1) := by decide +kernel
theorem dX11_forgetMarks_12 : decode cX11_forgetMarks 12 = .ok (.iconst 0, 1) := by decide +kernel
theorem dX11_forgetMarks_13 : decode cX11_forgetMarks 13 = .ok (.bastore, 1) := by decide +kernel
theorem dX11_forgetMarks_14 : decode cX11_forgetMarks 14 = .ok (.iinc 1 1, 3) := by decide +kernel
theorem dX11_forgetMarks_17 : decode cX11_forgetMarks 17 = .ok (.goto (-15), 3) := by decide +kernel
theorem dX11_forgetMarks_20 : decode cX11_forgetMarks 20 = .ok (.return_, 1) := by decide +kernel
set_option maxHeartbeats 4000000 in
set_option maxRecDepth 100000 in
theorem s_X11_forgetMarks {P : PP} {a0 : Nat} (I : IV P) (ha0 : At P a0 11) : CtrV yX11_forgetMarks cX11_forgetMarks 2 none ({ frames := 1, cells := 0, slots := 0, locals := 64 } : Room) 0 0 P [.ref a0] (fun P2 => IV P2 ∧ EK [15] P P2) := by
  refine enV (lv := [(0, .ref a0)]) (by decide) (Nat.le_of_ble_eq_true rfl) rfl (fun E D cy C Ci0 ret => ?_)
  have J2 : ∀ (n2 : Nat) (P2 : PP) (v2_1 : Int32), (4 - v2_1.toInt).toNat < n2 → (IV P2) → (EK [15] P P2) → (0 ≤ v2_1.toInt ∧ v2_1.toInt ≤ 4) → G E ({ frames := 1, cells := 0, slots := 0, locals := 64 } : Room) D cy 2 P2 0 0 2 [(0, .ref a0), (1, .int v2_1)] [] := by
    intro n2
    induction n2 with
    | zero => intro P2 v2_1 hm2 I2 X2 hv2_1; omega
    | succ n2 ih2 =>
      intro P2 v2_1 hm2 I2 X2 hv2_1
      have h16425 := X2.at ha0
      refine g_iload_n C dX11_forgetMarks_2 rfl 1 rfl ?_
      refine g_iconst (v := 4) C dX11_forgetMarks_3 (by decide) ?_
      refine b_icmp_ge C 20 dX11_forgetMarks_4 (by decide) (fun h16426 => ?_) (fun h16426 => ?_)
      · have h16426 : 4 ≤ v2_1.toInt := h16426
        exact ret _ _ _ _ _ dX11_forgetMarks_20 (by decide) (by decide) ⟨I2, X2⟩
      · have h16426 : v2_1.toInt < 4 := h16426
        refine g_aload_n C dX11_forgetMarks_7 rfl 0 rfl ?_
        obtain ⟨b16427, e16428, h16429⟩ := I2.fld (h16425) 3 15 4 rfl
        refine g_getR C fi_X11_24 rfl e16428 (h16425).1 (h16425).2 dX11_forgetMarks_8 ?_
        refine g_iload_n C dX11_forgetMarks_11 rfl 1 rfl ?_
        refine g_iconst (v := 0) C dX11_forgetMarks_12 (by decide) ?_
        refine g_zast (j := (v2_1.toInt.toNat)) C h16429.1 h16429.2.1 (ix_in h16429.2.2 (by omega)) (Or.inl rfl) dX11_forgetMarks_13 ?_
        refine gp (ks := [15]) (I2.setA h16429 (by decide)) (EK.setI h16429.2.1 (by decide)) (fun Y16430 Iy16431 Xy16432 => ?_)
        have Xz16433 : EK [15] P Y16430 := X2.tr (Xy16432.mono (by decide))
        have h16434 := Xy16432.at h16425
        refine s_iinc (lv0 := [(0, .ref a0)]) (m := 1) C dX11_forgetMarks_14 1 rfl (by decide) rfl (by decide) (by omega) (fun z16435 h16436 => ?_)
        have h16436 : z16435.toInt = v2_1.toInt + 1 := h16436
        refine g_goto C 2 dX11_forgetMarks_17 (by decide) ?_
        refine g_lv (lv' := [(0, .ref a0), (1, .int z16435)]) [1, 0] rfl ?_
        exact ih2 Y16430 z16435 (by omega) Iy16431 Xz16433 (by omega)
  refine g_iconst (v := 0) C dX11_forgetMarks_0 (by decide) ?_
  refine g_istore_n (lv' := [(1, .int 0), (0, .ref a0)]) C dX11_forgetMarks_1 rfl (by decide) rfl ?_
  refine g_lv (lv' := [(0, .ref a0), (1, .int 0)]) [1, 0] rfl ?_
  exact J2 _ P 0 (Nat.lt_succ_self _) I EK.rf (by decide)
theorem dX11_book_57 : decode cX11_book 57 = .ok (.iconst 1, 1) := by decide +kernel
theorem dX11_book_58 : decode cX11_book 58 = .ok (.ireturn, 1) := by decide +kernel
set_option maxHeartbeats 4000000 in
set_option maxRecDepth 100000 in
theorem s_X11_book {P : PP} {a0 : Nat} {a1 : Int32} {a2 : Int32} (I : IV P) (ha0 : At P a0 11) : CtrI yX11_book cX11_book 4 (some Jvm.ClassFile.FieldType.boolean) ({ frames := 3, cells := 0, slots := 0, locals := 192 } : Room) 0 0 P [.ref a0, .int a1, .int a2] (fun r P2 => IV P2 ∧ EK [1, 3, 6, 13, 15] P P2 ∧ (0 ≤ r.toInt ∧ r.toInt ≤ 1) ∧ (r.toInt = 0 ∨ (((0 : Int) ≤ a1.toInt ∧ a1.toInt ≤ (1 : Int))))) := by
  refine enI (lv := [(0, .ref a0), (1, .int a1), (2, .int a2)]) (by decide) (Nat.le_of_ble_eq_true rfl) rfl (fun E D cy C Ci0 ret => ?_)
  have J32 : ∀ (n32 : Nat) (P32 : PP) (v32_3 : Int32), (4 - v32_3.toInt).toNat < n32 → (IV P32) → (EK [1, 3, 6, 13, 15] P P32) → (0 ≤ a1.toInt ∧ a1.toInt ≤ 1) → (0 ≤ v32_3.toInt ∧ v32_3.toInt ≤ 4) → G E ({ frames := 3, cells := 0, slots := 0, locals := 192 } : Room) D cy 4 P32 0 0 32 [(0, .ref a0), (1, .int a1), (3, .int v32_3)] [] := by
    intro n32
    induction n32 with
    | zero => intro P32 v32_3 hm32 I32 X32 hv32_1 hv32_3; omega
    | succ n32 ih32 =>
      intro P32 v32_3 hm32 I32 X32 hv32_1 hv32_3
      have h16551 := X32.at ha0
      refine g_iload_n C dX11_book_32 rfl 2 rfl ?_
      refine g_iconst (v := 4) C dX11_book_33 (by decide) ?_
      refine b_icmp_ge C 53 dX11_book_34 (by decide) (fun h16552 => ?_) (fun h16552 => ?_)
      · have h16552 : 4 ≤ v32_3.toInt := h16552
        refine g_aload_n C dX11_book_53 rfl 0 rfl ?_
        refine g_callVV (rest := []) C mv_X11_94 [] (s_X11_forgetMarks I32 h16551) (h16551).1 (h16551).2 rfl rfl (by decide) (Nat.le_of_ble_eq_true rfl) (by decide) dX11_book_54 (fun Y16554 h16555 => ?_)
        obtain ⟨Iy16556, Xy16557⟩ := h16555
        have Xz16558 : EK [1, 3, 6, 13, 15] P Y16554 := X32.tr (Xy16557.mono (by decide))
        have h16559 := Xy16557.at h16551
        refine g_iconst (v := 1) C dX11_book_57 (by decide) ?_
        exact ret _ _ _ _ _ _ dX11_book_58 rfl (by decide) (by decide) ⟨Iy16556, Xz16558, (by decide), Or.inr (by omega)⟩
      · have h16552 : v32_3.toInt < 4 := h16552
        refine g_aload_n C dX11_book_37 rfl 0 rfl ?_
        obtain ⟨b16560, e16561, h16562⟩ := I32.fld (h16551) 1 19 4 rfl
        refine g_getR C fi_X11_17 rfl e16561 (h16551).1 (h16551).2 dX11_book_38 ?_
        refine g_iload_n C dX11_book_41 rfl 2 rfl ?_
        obtain ⟨b16563, e16564, h16565⟩ := I32.elm h16562 (by decide) (v32_3.toInt.toNat) (by omega)
        refine g_aldR C h16562.1 h16562.2.1 (by decide) (ix_in h16562.2.2 (by omega)) e16564 dX11_book_42 ?_
        refine g_iload_n C dX11_book_43 rfl 1 rfl ?_
        refine g_callVV (rest := []) C mv_X11_91 [.int a1] (s_X6_dropTouching I32 h16565) (h16565).1 (h16565).2 rfl rfl (by decide) (Nat.le_of_ble_eq_true rfl) (by decide) dX11_book_44 (fun Y16567 h16568 => ?_)
        obtain ⟨Iy16569, Xy16570⟩ := h16568
        have Xz16571 : EK [1, 3, 6, 13, 15] P Y16567 := X32.tr (Xy16570.mono (by decide))
        have h16572 := Xy16570.at h16551
        refine s_iinc (lv0 := [(0, .ref a0), (1, .int a1)]) (m := 1) C dX11_book_47 2 rfl (by decide) rfl (by decide) (by omega) (fun z16573 h16574 => ?_)
        have h16574 : z16573.toInt = v32_3.toInt + 1 := h16574
        refine g_goto C 32 dX11_book_50 (by decide) ?_
        refine g_lv (lv' := [(0, .ref a0), (1, .int a1), (3, .int z16573)]) [1, 2, 0] rfl ?_
        exact ih32 Y16567 z16573 (by omega) Iy16569 Xz16571 (by omega) (by omega)
  have J18 : G E ({ frames := 3, cells := 0, slots := 0, locals := 192 } : Room) D cy 4 P 0 0 18 [] [] := by
    refine g_iconst (v := 0) C dX11_book_18 (by decide) ?_
    exact ret _ _ _ _ _ _ dX11_book_19 rfl (by decide) (by decide) ⟨I, EK.rf, (by decide), Or.inl rfl⟩
  refine g_iload_n C dX11_book_0 rfl 1 rfl ?_
  refine g_callSI (b := 0) (ci := 0) (rest := []) C ms_X11_84 [.int a1] (s_X11_isBook I) rfl rfl (by decide) (Nat.le_of_ble_eq_true rfl) (by decide) dX11_book_1 (fun r16575 Y16576 h16577 => ?_)
  obtain ⟨rfl, h16577⟩ := h16577
  obtain ⟨h16577, hi16578⟩ := h16577
  have hi16578 : r16575.toInt = 0 ∨ (((0 : Int) ≤ a1.toInt ∧ a1.toInt ≤ (1 : Int))) := hi16578
  have h16577 : 0 ≤ r16575.toInt ∧ r16575.toInt ≤ 1 := h16577
  refine b_if_eq C 18 dX11_book_4 (by decide) (fun h16579 => ?_) (fun h16579 => ?_)
  · have h16579 : r16575.toInt = 0 := congrArg Int32.toInt h16579
    clear hi16578
    refine g_lv (lv' := []) [] rfl ?_
    exact J18 
  · have h16579 : r16575.toInt ≠ 0 := ti_ne h16579
    replace hi16578 := hi16578.resolve_left (by omega)
    refine g_iload_n C dX11_book_7 rfl 2 rfl ?_
    refine g_iconst (v := 1) C dX11_book_8 (by decide) ?_
    have u16581 := ti_rng a2
    refine b_icmp_lt C 18 dX11_book_9 (by decide) (fun h16580 => ?_) (fun h16580 => ?_)
    · have h16580 : a2.toInt < 1 := h16580
      refine g_lv (lv' := []) [] rfl ?_
      exact J18 
    · have h16580 : 1 ≤ a2.toInt := h16580
      refine g_iload_n C dX11_book_12 rfl 2 rfl ?_
      refine g_bipush (v := 16) C dX11_book_13 (by decide) ?_
      have u16583 := ti_rng a2
      refine b_icmp_le C 20 dX11_book_15 (by decide) (fun h16582 => ?_) (fun h16582 => ?_)
      · have h16582 : a2.toInt ≤ 16 := h16582
        refine g_aload_n C dX11_book_20 rfl 0 rfl ?_
        obtain ⟨b16584, e16585, h16586⟩ := I.fld (ha0) 0 17 2 rfl
        refine g_getR C fi_X11_11 rfl e16585 (ha0).1 (ha0).2 dX11_book_21 ?_
        refine g_iload_n C dX11_book_24 rfl 1 rfl ?_
        obtain ⟨b16587, e16588, h16589⟩ := I.elm h16586 (by decide) (a1.toInt.toNat) (by omega)
        refine g_aldR C h16586.1 h16586.2.1 (by decide) (ix_in h16586.2.2 (by omega)) e16588 dX11_book_25 ?_
        refine g_iload_n C dX11_book_26 rfl 2 rfl ?_
        refine g_callVV (rest := []) C mv_X11_88 [.int a2] (s_X1_tell I h16589 (by omega)) (h16589).1 (h16589).2 rfl rfl (by decide) (Nat.le_of_ble_eq_true rfl) (by decide) dX11_book_27 (fun Y16591 h16592 => ?_)
        obtain ⟨Iy16593, Xy16594⟩ := h16592
        have Xz16595 : EK [1, 3, 6, 13, 15] P Y16591 := Xy16594.mono (by decide)
        have h16596 := Xy16594.at ha0
        refine g_iconst (v := 0) C dX11_book_30 (by decide) ?_
        refine g_istore_n (lv' := [(3, .int 0), (0, .ref a0), (1, .int a1), (2, .int a2)]) C dX11_book_31 rfl (by decide) rfl ?_
        refine g_lv (lv' := [(0, .ref a0), (1, .int a1), (3, .int 0)]) [1, 2, 0] rfl ?_
        exact J32 _ Y16591 0 (Nat.lt_succ_self _) Iy16593 Xz16595 (by omega) (by decide)
      · have h16582 : 16 < a2.toInt := h16582
        refine g_lv (lv' := []) [] rfl ?_
        exact J18 
theorem dX11_chances_0 : decode cX11_chances 0 = .ok (.aload_n 0, 1) := by decide +kernel
theorem dX11_chances_1 : decode cX11_chances 1 = .ok (.iload_n 1, 1) := by decide +kernel
theorem dX11_chances_2 : decode cX11_chances 2 = .ok (.invokevirtual 97, 3) := by decide +kernel
theorem dX11_chances_5 : decode cX11_chances 5 = .ok (.ifCond .eq 19, 3) := by decide +kernel
theorem dX11_chances_8 : decode cX11_chances 8 = .ok (.iload_n 2, 1) := by decide +kernel
theorem dX11_chances_9 : decode cX11_chances 9 = .ok (.iload_n 3, 1) := by decide +kernel
theorem dX11_chances_10 : decode cX11_chances 10 = .ok (.invokestatic 289, 3) := by decide +kernel
theorem dX11_chances_13 : decode cX11_chances 13 = .ok (.ifCond .eq 11, 3) := by decide +kernel
theorem dX11_chances_16 : decode cX11_chances 16 = .ok (.iload 4, 2) := by decide +kernel
theorem dX11_chances_18 : decode cX11_chances 18 = .ok (.invokestatic 249, 3) := by decide +kernel
theorem dX11_chances_21 : decode cX11_chances 21 = .ok (.ifCond .ne 5, 3) := by decide +kernel
theorem dX11_chances_24 : decode cX11_chances 24 = .ok (.iconst (-1), 1) := by decide +kernel
theorem dX11_chances_25 : decode cX11_chances 25 = .ok (.ireturn, 1) := by decide +kernel
theorem dX11_chances_26 : decode cX11_chances 26 = .ok (.aload_n 0, 1) := by decide +kernel
theorem dX11_chances_27 : decode cX11_chances 27 = .ok (.getfield 60, 3) := by decide +kernel
theorem dX11_chances_30 : decode cX11_chances 30 = .ok (.aload_n 0, 1) := by decide +kernel
theorem dX11_chances_31 : decode cX11_chances 31 = .ok (.getfield 11, 3) := by decide +kernel
theorem dX11_chances_34 : decode cX11_chances 34 = .ok (.iload_n 1, 1) := by decide +kernel
theorem dX11_chances_35 : decode cX11_chances 35 = .ok (.aaload, 1) := by decide +kernel
theorem dX11_chances_36 : decode cX11_chances 36 = .ok (.iload_n 2, 1) := by decide +kernel
theorem dX11_chances_37 : decode cX11_chances 37 = .ok (.iload 4, 2) := by decide +kernel
theorem dX11_chances_39 : decode cX11_chances 39 = .ok (.iconst 0, 1) := by decide +kernel
theorem dX11_chances_40 : decode cX11_chances 40 = .ok (.invokevirtual 292, 3) := by decide +kernel
theorem dX11_chances_43 : decode cX11_chances 43 = .ok (.aload_n 0, 1) := by decide +kernel
theorem dX11_chances_44 : decode cX11_chances 44 = .ok (.getfield 60, 3) := by decide +kernel
theorem dX11_chances_47 : decode cX11_chances 47 = .ok (.getfield 296, 3) := by decide +kernel
theorem dX11_chances_50 : decode cX11_chances 50 = .ok (.iload_n 3, 1) := by decide +kernel
theorem dX11_chances_51 : decode cX11_chances 51 = .ok (.iaload, 1) := by decide +kernel
theorem dX11_chances_52 : decode cX11_chances 52 = .ok (.ireturn, 1) := by decide +kernel
set_option maxHeartbeats 4000000 in
set_option maxRecDepth 100000 in
theorem s_X11_chances {P : PP} {a0 : Nat} {a1 : Int32} {a2 : Int32} {a3 : Int32} {a4 : Int32} (I : IV P) (ha0 : At P a0 11) : CtrI yX11_chances cX11_chances 5 (some Jvm.ClassFile.FieldType.int) ({ frames := 16, cells := 0, slots := 0, locals := 1024 } : Room) 0 0 P [.ref a0, .int a1, .int a2, .int a3, .int a4] (fun r P2 => IV P2 ∧ EK [0, 1, 5, 8, 13] P P2 ∧ (True)) := by
  refine enI (lv := [(0, .ref a0), (1, .int a1), (2, .int a2), (3, .int a3), (4, .int a4)]) (by decide) (Nat.le_of_ble_eq_true rfl) rfl (fun E D cy C Ci0 ret => ?_)
  have J24 : G E ({ frames := 16, cells := 0, slots := 0, locals := 1024 } : Room) D cy 5 P 0 0 24 [] [] := by
    refine g_iconst (v := (-1)) C dX11_chances_24 (by decide) ?_
    exact ret _ _ _ _ _ _ dX11_chances_25 rfl (by decide) (by decide) ⟨I, EK.rf, trivial⟩
  refine g_aload_n C dX11_chances_0 rfl 0 rfl ?_
  refine g_iload_n C dX11_chances_1 rfl 1 rfl ?_
  refine g_callVI (rest := []) C mv_X11_97 [.int a1] (s_X11_isTold I ha0) (ha0).1 (ha0).2 rfl rfl (by decide) (Nat.le_of_ble_eq_true rfl) (by decide) dX11_chances_2 (fun r16634 Y16635 h16636 => ?_)
  obtain ⟨rfl, h16636⟩ := h16636
  obtain ⟨h16636, hi16637⟩ := h16636
  have hi16637 : r16634.toInt = 0 ∨ (((0 : Int) ≤ a1.toInt ∧ a1.toInt ≤ (1 : Int))) := hi16637
  have h16636 : 0 ≤ r16634.toInt ∧ r16634.toInt ≤ 1 := h16636
  refine b_if_eq C 24 dX11_chances_5 (by decide) (fun h16638 => ?_) (fun h16638 => ?_)
  · have h16638 : r16634.toInt = 0 := congrArg Int32.toInt h16638
    clear hi16637
    refine g_lv (lv' := []) [] rfl ?_
    exact J24 
  · have h16638 : r16634.toInt ≠ 0 := ti_ne h16638
    replace hi16637 := hi16637.resolve_left (by omega)
    refine g_iload_n C dX11_chances_8 rfl 2 rfl ?_
    refine g_iload_n C dX11_chances_9 rfl 3 rfl ?_
    refine g_callSI (b := 0) (ci := 0) (rest := []) C ms_X11_289 [.int a2, .int a3] (s_X11_isSetSize I) rfl rfl (by decide) (Nat.le_of_ble_eq_true rfl) (by decide) dX11_chances_10 (fun r16639 Y16640 h16641 => ?_)
    obtain ⟨rfl, h16641⟩ := h16641
    obtain ⟨h16641, hi16642⟩ := h16641
    have hi16642 : r16639.toInt = 0 ∨ (((1 : Int) ≤ a2.toInt ∧ a2.toInt ≤ (11 : Int)) ∧ ((0 : Int) ≤ a3.toInt ∧ a3.toInt ≤ (11 : Int))) := hi16642
    have h16641 : 0 ≤ r16639.toInt ∧ r16639.toInt ≤ 1 := h16641
    refine b_if_eq C 24 dX11_chances_13 (by decide) (fun h16643 => ?_) (fun h16643 => ?_)
    · have h16643 : r16639.toInt = 0 := congrArg Int32.toInt h16643
      clear hi16642
      refine g_lv (lv' := []) [] rfl ?_
      exact J24 
    · have h16643 : r16639.toInt ≠ 0 := ti_ne h16643
      replace hi16642 := hi16642.resolve_left (by omega)
      refine g_iload C dX11_chances_16 4 rfl ?_
      refine g_callSI (b := 0) (ci := 0) (rest := []) C ms_X11_249 [.int a4] (s_X11_isHow I) rfl rfl (by decide) (Nat.le_of_ble_eq_true rfl) (by decide) dX11_chances_18 (fun r16644 Y16645 h16646 => ?_)
      obtain ⟨rfl, h16646⟩ := h16646
      have h16646 : 0 ≤ r16644.toInt ∧ r16644.toInt ≤ 1 := h16646
      refine b_if_ne C 26 dX11_chances_21 (by decide) (fun h16647 => ?_) (fun h16647 => ?_)
      · have h16647 : r16644.toInt ≠ 0 := ti_ne h16647
        refine g_aload_n C dX11_chances_26 rfl 0 rfl ?_
        obtain ⟨b16648, e16649, h16650⟩ := I.fld (ha0) 10 8 0 rfl
        refine g_getR C fi_X11_60 rfl e16649 (ha0).1 (ha0).2 dX11_chances_27 ?_
        refine g_aload_n C dX11_chances_30 rfl 0 rfl ?_
        obtain ⟨b16651, e16652, h16653⟩ := I.fld (ha0) 0 17 2 rfl
        refine g_getR C fi_X11_11 rfl e16652 (ha0).1 (ha0).2 dX11_chances_31 ?_
        refine g_iload_n C dX11_chances_34 rfl 1 rfl ?_
        obtain ⟨b16654, e16655, h16656⟩ := I.elm h16653 (by decide) (a1.toInt.toNat) (by omega)
        refine g_aldR C h16653.1 h16653.2.1 (by decide) (ix_in h16653.2.2 (by omega)) e16655 dX11_chances_35 ?_
        refine g_iload_n C dX11_chances_36 rfl 2 rfl ?_
        refine g_iload C dX11_chances_37 4 rfl ?_
        refine g_iconst (v := 0) C dX11_chances_39 (by decide) ?_
        refine g_callVV (rest := []) C mv_X11_292 [.ref b16654, .int a2, .int a4, .int 0] (s_X8_tally I h16650.at h16656 (by omega) (by decide)) (h16650.at).1 (h16650.at).2 rfl rfl (by decide) (Nat.le_of_ble_eq_true rfl) (by decide) dX11_chances_40 (fun Y16658 h16659 => ?_)
        obtain ⟨Iy16660, Xy16661⟩ := h16659
        have Xz16662 : EK [0, 1, 5, 8, 13] P Y16658 := Xy16661.mono (by decide)
        have h16663 := Xy16661.at ha0
        refine g_aload_n C dX11_chances_43 rfl 0 rfl ?_
        obtain ⟨b16664, e16665, h16666⟩ := Iy16660.fld (h16663) 10 8 0 rfl
        refine g_getR C fi_X11_60 rfl e16665 (h16663).1 (h16663).2 dX11_chances_44 ?_
        obtain ⟨b16667, e16668, h16669⟩ := Iy16660.fld (h16666.at) 0 13 12 rfl
        refine g_getR C fi_X11_296 rfl e16668 (h16666.at).1 (h16666.at).2 dX11_chances_47 ?_
        refine g_iload_n C dX11_chances_50 rfl 3 rfl ?_
        refine g_iald (j := (a3.toInt.toNat)) C h16669.1 h16669.2.1 (ix_in h16669.2.2 (by omega)) dX11_chances_51 ?_
        refine g_topi (fun z16670 _ => ?_)
        exact ret _ _ _ _ _ _ dX11_chances_52 rfl (by decide) (by decide) ⟨Iy16660, Xz16662, trivial⟩
      · have h16647 : r16644.toInt = 0 := congrArg Int32.toInt h16647
        refine g_lv (lv' := []) [] rfl ?_
        exact J24 
theorem dX11_comes_0 : decode cX11_comes 0 = .ok (.iload_n 1, 1) := by decide +kernel
theorem dX11_comes_1 : decode cX11_comes 1 = .ok (.invokestatic 158, 3) := by decide +kernel
theorem dX11_comes_4 : decode cX11_comes 4 = .ok (.ifCond .eq 24, 3) := by decide +kernel
theorem dX11_comes_7 : decode cX11_comes 7 = .ok (.aload_n 0, 1) := by decide +kernel
theorem dX11_comes_8 : decode cX11_comes 8 = .ok (.iload_n 2, 1) := by decide +kernel
theorem dX11_comes_9 : decode cX11_comes 9 = .ok (.iload_n 3, 1) := by decide +kernel
theorem dX11_comes_10 : decode cX11_comes 10 = .ok (.invokevirtual 136, 3) := by decide +kernel
theorem dX11_isLeaflet_0 : decode cX11_isLeaflet 0 = .ok (.aload_n 0, 1) := by decide +kernel
theorem dX11_isLeaflet_1 : decode cX11_isLeaflet 1 = .ok (.iload_n 1, 1) := by decide +kernel
theorem dX11_isLeaflet_2 : decode cX11_isLeaflet 2 = .ok (.invokevirtual 97, 3) := by decide +kernel
theorem dX11_isLeaflet_5 : decode cX11_isLeaflet 5 = .ok (.ifCond .eq 14, 3) := by decide +kernel
theorem dX11_isLeaflet_8 : decode cX11_isLeaflet 8 = .ok (.iload_n 2, 1) := by decide +kernel
theorem dX11_isLeaflet_9 : decode cX11_isLeaflet 9 = .ok (.invokestatic 173, 3) := by decide +kernel
theorem dX11_isNumber_0 : decode cX11_isNumber 0 = .ok (.iload_n 0, 1) := by decide +kernel
theorem dX11_isNumber_1 : decode cX11_isNumber 1 = .ok (.ifCond .lt 14, 3) := by decide +kernel
theorem dX11_isNumber_4 : decode cX11_isNumber 4 = .ok (.iload_n 0, 1) := by decide +kernel
theorem dX11_isNumber_5 : decode cX11_isNumber 5 = .ok (.sipush 9999, 3) := by decide +kernel
theorem dX11_isNumber_8 : decode cX11_isNumber 8 = .ok (.if_icmp .gt 7, 3) := by decide +kernel
theorem dX11_isNumber_11 : decode cX11_isNumber 11 = .ok (.iconst 1, 1) := by decide +kernel
theorem dX11_isNumber_12 : decode cX11_isNumber 12 = .ok (.goto 4, 3) := by decide +kernel
theorem dX11_isNumber_15 : decode cX11_isNumber 15 = .ok (.iconst 0, 1) := by decide +kernel
theorem dX11_isNumber_16 : decode cX11_isNumber 16 = .ok (.ireturn, 1) := by decide +kernel
set_option maxHeartbeats 4000000 in
set_option maxRecDepth 100000 in
theorem s_X11_isNumber {P : PP} {a0 : Int32} (I : IV P) : CtrI yX11_isNumber cX11_isNumber 1 (some Jvm.ClassFile.FieldType.boolean) ({ frames := 1, cells := 0, slots := 0, locals := 64 } : Room) 0 0 P [.int a0] (fun r P2 => P = P2 ∧ (0 ≤ r.toInt ∧ r.toInt ≤ 1) ∧ (r.toInt = 0 ∨ (((0 : Int) ≤ a0.toInt ∧ a0.toInt ≤ (9999 : Int))))) := by
  refine enI (lv := [(0, .int a0)]) (by decide) (Nat.le_of_ble_eq_true rfl) rfl (fun E D cy C Ci0 ret => ?_)
  have J15 : G E ({ frames := 1, cells := 0, slots := 0, locals := 64 } : Room) D cy 1 P 0 0 15 [] [] := by
    refine g_iconst (v := 0) C dX11_isNumber_15 (by decide) ?_
    exact ret _ _ _ _ _ _ dX11_isNumber_16 rfl (by decide) (by decide) ⟨rfl, (by decide), Or.inl rfl⟩
  refine g_iload_n C dX11_isNumber_0 rfl 0 rfl ?_
  have u16686 := ti_rng a0
  refine b_if_lt C 15 dX11_isNumber_1 (by decide) (fun h16685 => ?_) (fun h16685 => ?_)
  · have h16685 : a0.toInt < 0 := h16685
    refine g_lv (lv' := []) [] rfl ?_
    exact J15 
  · have h16685 : 0 ≤ a0.toInt := h16685
    refine g_iload_n C dX11_isNumber_4 rfl 0 rfl ?_
    refine g_sipush (v := 9999) C dX11_isNumber_5 (by decide) ?_
    have u16688 := ti_rng a0
    refine b_icmp_gt C 15 dX11_isNumber_8 (by decide) (fun h16687 => ?_) (fun h16687 => ?_)
    · have h16687 : 9999 < a0.toInt := h16687
      refine g_lv (lv' := []) [] rfl ?_
      exact J15 
    · have h16687 : a0.toInt ≤ 9999 := h16687
      refine g_iconst (v := 1) C dX11_isNumber_11 (by decide) ?_
      refine g_goto C 16 dX11_isNumber_12 (by decide) ?_
      exact ret _ _ _ _ _ _ dX11_isNumber_16 rfl (by decide) (by decide) ⟨rfl, (by decide), Or.inr (by omega)⟩
theorem dX11_isLeaflet_12 : decode cX11_isLeaflet 12 = .ok (.ifCond .eq 7, 3) := by decide +kernel
theorem dX11_isLeaflet_15 : decode cX11_isLeaflet 15 = .ok (.iconst 1, 1) := by decide +kernel
theorem dX11_isLeaflet_16 : decode cX11_isLeaflet 16 = .ok (.goto 4, 3) := by decide +kernel
theorem dX11_isLeaflet_19 : decode cX11_isLeaflet 19 = .ok (.iconst 0, 1) := by decide +kernel
theorem dX11_isLeaflet_20 : decode cX11_isLeaflet 20 = .ok (.ireturn, 1) := by decide +kernel
set_option maxHeartbeats 4000000 in
set_option maxRecDepth 100000 in
theorem s_X11_isLeaflet {P : PP} {a0 : Nat} {a1 : Int32} {a2 : Int32} (I : IV P) (ha0 : At P a0 11) : CtrI yX11_isLeaflet cX11_isLeaflet 3 (some Jvm.ClassFile.FieldType.boolean) ({ frames := 3, cells := 0, slots := 0, locals := 192 } : Room) 0 0 P [.ref a0, .int a1, .int a2] (fun r P2 => P = P2 ∧ (0 ≤ r.toInt ∧ r.toInt ≤ 1) ∧ (r.toInt = 0 ∨ (((0 : Int) ≤ a1.toInt ∧ a1.toInt ≤ (1 : Int)) ∧ ((0 : Int) ≤ a2.toInt ∧ a2.toInt ≤ (9999 : Int))))) := by
  refine enI (lv := [(0, .ref a0), (1, .int a1), (2, .int a2)]) (by decide) (Nat.le_of_ble_eq_true rfl) rfl (fun E D cy C Ci0 ret => ?_)
  have J19 : G E ({ frames := 3, cells := 0, slots := 0, locals := 192 } : Room) D cy 3 P 0 0 19 [] [] := by
    refine g_iconst (v := 0) C dX11_isLeaflet_19 (by decide) ?_
    exact ret _ _ _ _ _ _ dX11_isLeaflet_20 rfl (by decide) (by decide) ⟨rfl, (by decide), Or.inl rfl⟩
  refine g_aload_n C dX11_isLeaflet_0 rfl 0 rfl ?_
  refine g_iload_n C dX11_isLeaflet_1 rfl 1 rfl ?_
  refine g_callVI (rest := []) C mv_X11_97 [.int a1] (s_X11_isTold I ha0) (ha0).1 (ha0).2 rfl rfl (by decide) (Nat.le_of_ble_eq_true rfl) (by decide) dX11_isLeaflet_2 (fun r16699 Y16700 h16701 => ?_)
  obtain ⟨rfl, h16701⟩ := h16701
  obtain ⟨h16701, hi16702⟩ := h16701
  have hi16702 : r16699.toInt = 0 ∨ (((0 : Int) ≤ a1.toInt ∧ a1.toInt ≤ (1 : Int))) := hi16702
  have h16701 : 0 ≤ r16699.toInt ∧ r16699.toInt ≤ 1 := h16701
  refine b_if_eq C 19 dX11_isLeaflet_5 (by decide) (fun h16703 => ?_) (fun h16703 => ?_)
  · have h16703 : r16699.toInt = 0 := congrArg Int32.toInt h16703
    clear hi16702
    refine g_lv (lv' := []) [] rfl ?_
    exact J19 
  · have h16703 : r16699.toInt ≠ 0 := ti_ne h16703
    replace hi16702 := hi16702.resolve_left (by omega)
    refine g_iload_n C dX11_isLeaflet_8 rfl 2 rfl ?_
    refine g_callSI (b := 0) (ci := 0) (rest := []) C ms_X11_173 [.int a2] (s_X11_isNumber I) rfl rfl (by decide) (Nat.le_of_ble_eq_true rfl) (by decide) dX11_isLeaflet_9 (fun r16704 Y16705 h16706 => ?_)
    obtain ⟨rfl, h16706⟩ := h16706
    obtain ⟨h16706, hi16707⟩ := h16706
    have hi16707 : r16704.toInt = 0 ∨ (((0 : Int) ≤ a2.toInt ∧ a2.toInt ≤ (9999 : Int))) := hi16707
    have h16706 : 0 ≤ r16704.toInt ∧ r16704.toInt ≤ 1 := h16706
    refine b_if_eq C 19 dX11_isLeaflet_12 (by decide) (fun h16708 => ?_) (fun h16708 => ?_)
    · have h16708 : r16704.toInt = 0 := congrArg Int32.toInt h16708
      clear hi16707
      refine g_lv (lv' := []) [] rfl ?_
      exact J19 
    · have h16708 : r16704.toInt ≠ 0 := ti_ne h16708
      replace hi16707 := hi16707.resolve_left (by omega)
      refine g_iconst (v := 1) C dX11_isLeaflet_15 (by decide) ?_
      refine g_goto C 20 dX11_isLeaflet_16 (by decide) ?_
      exact ret _ _ _ _ _ _ dX11_isLeaflet_20 rfl (by decide) (by decide) ⟨rfl, (by decide), Or.inr (by omega)⟩
theorem dX11_comes_13 : decode cX11_comes 13 = .ok (.ifCond .eq 15, 3) := by decide +kernel
theorem dX11_comes_16 : decode cX11_comes 16 = .ok (.iload 4, 2) := by decide +kernel
theorem dX11_comes_18 : decode cX11_comes 18 = .ok (.iconst 1, 1) := by decide +kernel
theorem dX11_comes_19 : decode cX11_comes 19 = .ok (.if_icmp .lt 9, 3) := by decide +kernel
theorem dX11_comes_22 : decode cX11_comes 22 = .ok (.iload 4, 2) := by decide +kernel
theorem dX11_comes_24 : decode cX11_comes 24 = .ok (.iconst 3, 1) := by decide +kernel
theorem dX11_comes_25 : decode cX11_comes 25 = .ok (.if_icmp .le 5, 3) := by decide +kernel
theorem dX11_comes_30 : decode cX11_comes 30 = .ok (.aload_n 0, 1) := by decide +kernel
theorem dX11_comes_31 : decode cX11_comes 31 = .ok (.getfield 17, 3) := by decide +kernel
theorem dX11_comes_34 : decode cX11_comes 34 = .ok (.iload_n 1, 1) := by decide +kernel
theorem dX11_comes_35 : decode cX11_comes 35 = .ok (.aaload, 1) := by decide +kernel
theorem dX11_comes_36 : decode cX11_comes 36 = .ok (.aload_n 0, 1) := by decide +kernel
theorem dX11_comes_37 : decode cX11_comes 37 = .ok (.getfield 11, 3) := by decide +kernel
theorem dX11_comes_40 : decode cX11_comes 40 = .ok (.iload_n 2, 1) := by decide +kernel
theorem dX11_comes_41 : decode cX11_comes 41 = .ok (.aaload, 1) := by decide +kernel
theorem dX11_comes_42 : decode cX11_comes 42 = .ok (.iload_n 3, 1) := by decide +kernel
theorem dX11_comes_43 : decode cX11_comes 43 = .ok (.iload 4, 2) := by decide +kernel
theorem dX11_comes_45 : decode cX11_comes 45 = .ok (.invokevirtual 161, 3) := by decide +kernel
theorem dX1_leafletPaper_0 : decode cX1_leafletPaper 0 = .ok (.aload_n 0, 1) := by decide +kernel
theorem dX1_leafletPaper_1 : decode cX1_leafletPaper 1 = .ok (.iload_n 1, 1) := by decide +kernel
theorem dX1_leafletPaper_2 : decode cX1_leafletPaper 2 = .ok (.invokevirtual 98, 3) := by decide +kernel
theorem dX1_leafletPaper_5 : decode cX1_leafletPaper 5 = .ok (.istore_n 3, 1) := by decide +kernel
theorem dX1_leafletPaper_6 : decode cX1_leafletPaper 6 = .ok (.aload_n 0, 1) := by decide +kernel
theorem dX1_leafletPaper_7 : decode cX1_leafletPaper 7 = .ok (.iload_n 3, 1) := by decide +kernel
theorem dX1_leafletPaper_8 : decode cX1_leafletPaper 8 = .ok (.invokevirtual 101, 3) := by decide +kernel
theorem dX1_sumOf_0 : decode cX1_sumOf 0 = .ok (.aload_n 0, 1) := by decide +kernel
theorem dX1_sumOf_1 : decode cX1_sumOf 1 = .ok (.iload_n 1, 1) := by decide +kernel
theorem dX1_sumOf_2 : decode cX1_sumOf 2 = .ok (.invokevirtual 56, 3) := by decide +kernel
theorem dX1_withoutHidden_0 : decode cX1_withoutHidden 0 = .ok (.iload_n 1, 1) := by decide +kernel
theorem dX1_withoutHidden_1 : decode cX1_withoutHidden 1 = .ok (.iconst 1, 1) := by decide +kernel
theorem dX1_withoutHidden_2 : decode cX1_withoutHidden 2 = .ok (.aload_n 0, 1) := by decide +kernel
theorem dX1_withoutHidden_3 : decode cX1_withoutHidden 3 = .ok (.getfield 33, 3) := by decide +kernel
theorem dX1_withoutHidden_6 : decode cX1_withoutHidden 6 = .ok (.ishl, 1) := by decide +kernel
theorem dX1_withoutHidden_7 : decode cX1_withoutHidden 7 = .ok (.iconst 1, 1) := by decide +kernel
theorem dX1_withoutHidden_8 : decode cX1_withoutHidden 8 = .ok (.isub, 1) := by decide +kernel
theorem dX1_withoutHidden_9 : decode cX1_withoutHidden 9 = .ok (.iand, 1) := by decide +kernel
theorem dX1_withoutHidden_10 : decode cX1_withoutHidden 10 = .ok (.istore_n 2, 1) := by decide +kernel
theorem dX1_withoutHidden_11 : decode cX1_withoutHidden 11 = .ok (.iconst 0, 1) := by decide +kernel
theorem dX1_withoutHidden_12 : decode cX1_withoutHidden 12 = .ok (.istore_n 3, 1) := by decide +kernel
theorem dX1_withoutHidden_13 : decode cX1_withoutHidden 13 = .ok (.iload_n 3, 1) := by decide +kernel
theorem dX1_withoutHidden_14 : decode cX1_withoutHidden 14 = .ok (.aload_n 0, 1) := by decide +kernel
theorem dX1_withoutHidden_15 : decode cX1_withoutHidden 15 = .ok (.getfield 18, 3) := by decide +kernel
theorem dX1_withoutHidden_18 : decode cX1_withoutHidden 18 = .ok (.getfield 46, 3) := by decide +kernel
theorem dX1_withoutHidden_21 : decode cX1_withoutHidden 21 = .ok (.if_icmp .ge 34, 3) := by decide +kernel
theorem dX1_withoutHidden_24 : decode cX1_withoutHidden 24 = .ok (.iload_n 1, 1) := by decide +kernel
theorem dX1_withoutHidden_25 : decode cX1_withoutHidden 25 = .ok (.aload_n 0, 1) := by decide +kernel
theorem dX1_withoutHidden_26 : decode cX1_withoutHidden 26 = .ok (.getfield 33, 3) := by decide +kernel
theorem dX1_withoutHidden_29 : decode cX1_withoutHidden 29 = .ok (.iload_n 3, 1) := by decide +kernel
theorem dX1_withoutHidden_30 : decode cX1_withoutHidden 30 = .ok (.iadd, 1) := by decide +kernel
theorem dX1_withoutHidden_31 : decode cX1_withoutHidden 31 = .ok (.ishr, 1) := by decide +kernel
theorem dX1_withoutHidden_32 : decode cX1_withoutHidden 32 = .ok (.iconst 1, 1) := by decide +kernel
theorem dX1_withoutHidden_33 : decode cX1_withoutHidden 33 = .ok (.iand, 1) := by decide +kernel
theorem dX1_withoutHidden_34 : decode cX1_withoutHidden 34 = .ok (.ifCond .eq 15, 3) := by decide +kernel
theorem dX1_withoutHidden_37 : decode cX1_withoutHidden 37 = .ok (.iload_n 2, 1) := by decide +kernel
theorem dX1_withoutHidden_38 : decode cX1_withoutHidden 38 = .ok (.aload_n 0, 1) := by decide +kernel
theorem dX1_withoutHidden_39 : decode cX1_withoutHidden 39 = .ok (.getfield 18, 3) := by decide +kernel
theorem dX1_withoutHidden_42 : decode cX1_withoutHidden 42 = .ok (.getfield 53, 3) := by decide +kernel
theorem dX1_withoutHidden_45 : decode cX1_withoutHidden 45 = .ok (.iload_n 3, 1) := by decide +kernel
theorem dX1_withoutHidden_46 : decode cX1_withoutHidden 46 = .ok (.iaload, 1) := by decide +kernel
theorem dX1_withoutHidden_47 : decode cX1_withoutHidden 47 = .ok (.ixor, 1) := by decide +kernel
theorem dX1_withoutHidden_48 : decode cX1_withoutHidden 48 = .ok (.istore_n 2, 1) := by decide +kernel
theorem dX1_withoutHidden_49 : decode cX1_withoutHidden 49 = .ok (.iinc 3 1, 3) := by decide +kernel
theorem dX1_withoutHidden_52 : decode cX1_withoutHidden 52 = .ok (.goto (-39), 3) := by decide +kernel
theorem dX1_withoutHidden_55 : decode cX1_withoutHidden 55 = .ok (.iload_n 2, 1) := by decide +kernel
theorem dX1_withoutHidden_56 : decode cX1_withoutHidden 56 = .ok (.ireturn, 1) := by decide +kernel
set_option maxHeartbeats 4000000 in
set_option maxRecDepth 100000 in
theorem s_X1_withoutHidden {P : PP} {a0 : Nat} {a1 : Int32} (I : IV P) (ha0 : At P a0 1) : CtrI yX1_withoutHidden cX1_withoutHidden 4 (some Jvm.ClassFile.FieldType.int) ({ frames := 1, cells := 0, slots := 0, locals := 64 } : Room) 0 0 P [.ref a0, .int a1] (fun r P2 => P = P2 ∧ (True)) := by
  refine enI (lv := [(0, .ref a0), (1, .int a1)]) (by decide) (Nat.le_of_ble_eq_true rfl) rfl (fun E D cy C Ci0 ret => ?_)
  have J13 : ∀ (n13 : Nat) (v13_2 : Int32) (v13_3 : Int32), (4 - v13_3.toInt).toNat < n13 → (0 ≤ v13_3.toInt ∧ v13_3.toInt ≤ 4) → G E ({ frames := 1, cells := 0, slots := 0, locals := 64 } : Room) D cy 4 P 0 0 13 [(0, .ref a0), (1, .int a1), (2, .int v13_2), (3, .int v13_3)] [] := by
    intro n13
    induction n13 with
    | zero => intro v13_2 v13_3 hm13 hv13_3; omega
    | succ n13 ih13 =>
      intro v13_2 v13_3 hm13 hv13_3
      have J49 : ∀ (v49_2 : Int32), (0 ≤ v13_3.toInt ∧ v13_3.toInt ≤ 3) → (∀ b, pR P a0 2 = some b → 1 ≤ (pI P b 2).toInt ∧ (pI P b 2).toInt ≤ 4) → G E ({ frames := 1, cells := 0, slots := 0, locals := 64 } : Room) D cy 4 P 0 0 49 [(0, .ref a0), (1, .int a1), (2, .int v49_2), (3, .int v13_3)] [] := by
        intro v49_2 hv49_3 hq49_0
        obtain ⟨b16864, e16865, h16866⟩ := I.fld (ha0) 2 3 0 rfl
        have hq49_0 := hq49_0 b16864 e16865
        refine s_iinc (lv0 := [(0, .ref a0), (1, .int a1), (2, .int v49_2)]) (m := 1) C dX1_withoutHidden_49 3 rfl (by decide) rfl (by decide) (by omega) (fun z16867 h16868 => ?_)
        have h16868 : z16867.toInt = v13_3.toInt + 1 := h16868
        refine g_goto C 13 dX1_withoutHidden_52 (by decide) ?_
        refine g_lv (lv' := [(0, .ref a0), (1, .int a1), (2, .int v49_2), (3, .int z16867)]) [1, 2, 3, 0] rfl ?_
        exact ih13 v49_2 z16867 (by omega) (by omega)
      refine g_iload_n C dX1_withoutHidden_13 rfl 3 rfl ?_
      refine g_aload_n C dX1_withoutHidden_14 rfl 0 rfl ?_
      obtain ⟨b16869, e16870, h16871⟩ := I.fld (ha0) 2 3 0 rfl
      refine g_getR C fi_X1_18 rfl e16870 (ha0).1 (ha0).2 dX1_withoutHidden_15 ?_
      refine g_getI C fi_X1_46 (by decide) (h16871.at).1 (h16871.at).2 dX1_withoutHidden_18 ?_
      have h16872 := I.rg (h16871.at) 2 rfl
      refine b_icmp_ge C 55 dX1_withoutHidden_21 (by decide) (fun h16873 => ?_) (fun h16873 => ?_)
      · have h16873 : (pI P b16869 2).toInt ≤ v13_3.toInt := h16873
        refine g_iload_n C dX1_withoutHidden_55 rfl 2 rfl ?_
        exact ret _ _ _ _ _ _ dX1_withoutHidden_56 rfl (by decide) (by decide) ⟨rfl, trivial⟩
      · have h16873 : v13_3.toInt < (pI P b16869 2).toInt := h16873
        refine g_iload_n C dX1_withoutHidden_24 rfl 1 rfl ?_
        refine g_aload_n C dX1_withoutHidden_25 rfl 0 rfl ?_
        refine g_getI C fi_X1_33 (by decide) (ha0).1 (ha0).2 dX1_withoutHidden_26 ?_
        have h16874 := I.rg (ha0) 5 rfl
        refine g_iload_n C dX1_withoutHidden_29 rfl 3 rfl ?_
        refine s_iadd C dX1_withoutHidden_30 (by show -2147483648 ≤ (pI P a0 5).toInt + v13_3.toInt ∧ (pI P a0 5).toInt + v13_3.toInt ≤ 2147483647; omega) (fun z16875 h16876 => ?_)
        have h16876 : z16875.toInt = (pI P a0 5).toInt + v13_3.toInt := h16876
        refine a_ishr C dX1_withoutHidden_31 (fun z16877 => ?_)
        refine g_iconst (v := 1) C dX1_withoutHidden_32 (by decide) ?_
        refine s_iand C dX1_withoutHidden_33 (by show 0 ≤ 1; omega) (fun z16879 h16880 => ?_)
        have h16880 : 0 ≤ z16879.toInt ∧ z16879.toInt ≤ 1 := h16880
        refine b_if_eq C 49 dX1_withoutHidden_34 (by decide) (fun h16881 => ?_) (fun h16881 => ?_)
        · have h16881 : z16879.toInt = 0 := congrArg Int32.toInt h16881
          exact J49 v13_2 (by omega) (fun b9 e9 => by rw [e16870] at e9; cases e9; omega)
        · have h16881 : z16879.toInt ≠ 0 := ti_ne h16881
          refine g_iload_n C dX1_withoutHidden_37 rfl 2 rfl ?_
          refine g_aload_n C dX1_withoutHidden_38 rfl 0 rfl ?_
          refine g_getR C fi_X1_18 rfl e16870 (ha0).1 (ha0).2 dX1_withoutHidden_39 ?_
          obtain ⟨b16882, e16883, h16884⟩ := I.fld (h16871.at) 1 13 4 rfl
          refine g_getR C fi_X1_53 rfl e16883 (h16871.at).1 (h16871.at).2 dX1_withoutHidden_42 ?_
          refine g_iload_n C dX1_withoutHidden_45 rfl 3 rfl ?_
          refine g_iald (j := (v13_3.toInt.toNat)) C h16884.1 h16884.2.1 (ix_in h16884.2.2 (by omega)) dX1_withoutHidden_46 ?_
          refine g_topi (fun z16885 _ => ?_)
          refine a_ixor C dX1_withoutHidden_47 (fun z16886 => ?_)
          refine g_istore_n (lv' := [(2, .int z16886), (0, .ref a0), (1, .int a1), (3, .int v13_3)]) C dX1_withoutHidden_48 rfl (by decide) rfl ?_
          refine g_lv (lv' := [(0, .ref a0), (1, .int a1), (2, .int z16886), (3, .int v13_3)]) [1, 2, 0, 3] rfl ?_
          exact J49 z16886 (by omega) (fun b9 e9 => by rw [e16870] at e9; cases e9; omega)
  refine g_iload_n C dX1_withoutHidden_0 rfl 1 rfl ?_
  refine g_iconst (v := 1) C dX1_withoutHidden_1 (by decide) ?_
  refine g_aload_n C dX1_withoutHidden_2 rfl 0 rfl ?_
  refine g_getI C fi_X1_33 (by decide) (ha0).1 (ha0).2 dX1_withoutHidden_3 ?_
  have h16888 := I.rg (ha0) 5 rfl
  refine a_ishl C dX1_withoutHidden_6 (fun z16889 => ?_)
  refine g_iconst (v := 1) C dX1_withoutHidden_7 (by decide) ?_
  refine a_isub C dX1_withoutHidden_8 (fun z16891 => ?_)
  refine a_iand C dX1_withoutHidden_9 (fun z16893 => ?_)
  refine g_istore_n (lv' := [(2, .int z16893), (0, .ref a0), (1, .int a1)]) C dX1_withoutHidden_10 rfl (by decide) rfl ?_
  refine g_iconst (v := 0) C dX1_withoutHidden_11 (by decide) ?_
  refine g_istore_n (lv' := [(3, .int 0), (2, .int z16893), (0, .ref a0), (1, .int a1)]) C dX1_withoutHidden_12 rfl (by decide) rfl ?_
  refine g_lv (lv' := [(0, .ref a0), (1, .int a1), (2, .int z16893), (3, .int 0)]) [2, 3, 1, 0] rfl ?_
  exact J13 _ z16893 0 (Nat.lt_succ_self _) (by decide)
theorem dX1_sumOf_5 : decode cX1_sumOf 5 = .ok (.istore_n 2, 1) := by decide +kernel
theorem dX1_sumOf_6 : decode cX1_sumOf 6 = .ok (.iconst 0, 1) := by decide +kernel
theorem dX1_sumOf_7 : decode cX1_sumOf 7 = .ok (.istore_n 3, 1) := by decide +kernel
theorem dX1_sumOf_8 : decode cX1_sumOf 8 = .ok (.iconst 0, 1) := by decide +kernel
theorem dX1_sumOf_9 : decode cX1_sumOf 9 = .ok (.istore 4, 2) := by decide +kernel
theorem dX1_sumOf_11 : decode cX1_sumOf 11 = .ok (.iload 4, 2) := by decide +kernel
theorem dX1_sumOf_13 : decode cX1_sumOf 13 = .ok (.aload_n 0, 1) := by decide +kernel
theorem dX1_sumOf_14 : decode cX1_sumOf 14 = .ok (.getfield 33, 3) := by decide +kernel
theorem dX1_sumOf_17 : decode cX1_sumOf 17 = .ok (.if_icmp .ge 28, 3) := by decide +kernel
theorem dX1_sumOf_20 : decode cX1_sumOf 20 = .ok (.iload_n 2, 1) := by decide +kernel
theorem dX1_sumOf_21 : decode cX1_sumOf 21 = .ok (.iload 4, 2) := by decide +kernel
theorem dX1_sumOf_23 : decode cX1_sumOf 23 = .ok (.ishr, 1) := by decide +kernel
theorem dX1_sumOf_24 : decode cX1_sumOf 24 = .ok (.iconst 1, 1) := by decide +kernel
theorem dX1_sumOf_25 : decode cX1_sumOf 25 = .ok (.iand, 1) := by decide +kernel
theorem dX1_sumOf_26 : decode cX1_sumOf 26 = .ok (.ifCond .eq 13, 3) := by decide +kernel
theorem dX1_sumOf_29 : decode cX1_sumOf 29 = .ok (.iload_n 3, 1) := by decide +kernel
theorem dX1_sumOf_30 : decode cX1_sumOf 30 = .ok (.aload_n 0, 1) := by decide +kernel
theorem dX1_sumOf_31 : decode cX1_sumOf 31 = .ok (.getfield 9, 3) := by decide +kernel
theorem dX1_sumOf_34 : decode cX1_sumOf 34 = .ok (.iload 4, 2) := by decide +kernel
theorem dX1_sumOf_36 : decode cX1_sumOf 36 = .ok (.iaload, 1) := by decide +kernel
theorem dX1_sumOf_37 : decode cX1_sumOf 37 = .ok (.ixor, 1) := by decide +kernel
theorem dX1_sumOf_38 : decode cX1_sumOf 38 = .ok (.istore_n 3, 1) := by decide +kernel
theorem dX1_sumOf_39 : decode cX1_sumOf 39 = .ok (.iinc 4 1, 3) := by decide +kernel
theorem dX1_sumOf_42 : decode cX1_sumOf 42 = .ok (.goto (-31), 3) := by decide +kernel
theorem dX1_sumOf_45 : decode cX1_sumOf 45 = .ok (.iload_n 3, 1) := by decide +kernel
theorem dX1_sumOf_46 : decode cX1_sumOf 46 = .ok (.ireturn, 1) := by decide +kernel
set_option maxHeartbeats 4000000 in
set_option maxRecDepth 100000 in
theorem s_X1_sumOf {P : PP} {a0 : Nat} {a1 : Int32} (I : IV P) (ha0 : At P a0 1) : CtrI yX1_sumOf cX1_sumOf 5 (some Jvm.ClassFile.FieldType.int) ({ frames := 2, cells := 0, slots := 0, locals := 128 } : Room) 0 0 P [.ref a0, .int a1] (fun r P2 => P = P2 ∧ (True)) := by
  refine enI (lv := [(0, .ref a0), (1, .int a1)]) (by decide) (Nat.le_of_ble_eq_true rfl) rfl (fun E D cy C Ci0 ret => ?_)
  have J11 : ∀ (n11 : Nat) (v11_2 : Int32) (v11_3 : Int32) (v11_4 : Int32), (16 - v11_4.toInt).toNat < n11 → (0 ≤ v11_4.toInt ∧ v11_4.toInt ≤ 16) → G E ({ frames := 2, cells := 0, slots := 0, locals := 128 } : Room) D cy 5 P 0 0 11 [(0, .ref a0), (2, .int v11_2), (3, .int v11_3), (4, .int v11_4)] [] := by
    intro n11
    induction n11 with
    | zero => intro v11_2 v11_3 v11_4 hm11 hv11_4; omega
    | succ n11 ih11 =>
      intro v11_2 v11_3 v11_4 hm11 hv11_4
      have J39 : ∀ (v39_3 : Int32), (0 ≤ v11_4.toInt ∧ v11_4.toInt ≤ 15) → (1 ≤ (pI P a0 5).toInt ∧ (pI P a0 5).toInt ≤ 16) → G E ({ frames := 2, cells := 0, slots := 0, locals := 128 } : Room) D cy 5 P 0 0 39 [(0, .ref a0), (2, .int v11_2), (3, .int v39_3), (4, .int v11_4)] [] := by
        intro v39_3 hv39_4 hq39_0
        refine s_iinc (lv0 := [(0, .ref a0), (2, .int v11_2), (3, .int v39_3)]) (m := 1) C dX1_sumOf_39 3 rfl (by decide) rfl (by decide) (by omega) (fun z17063 h17064 => ?_)
        have h17064 : z17063.toInt = v11_4.toInt + 1 := h17064
        refine g_goto C 11 dX1_sumOf_42 (by decide) ?_
        refine g_lv (lv' := [(0, .ref a0), (2, .int v11_2), (3, .int v39_3), (4, .int z17063)]) [1, 2, 3, 0] rfl ?_
        exact ih11 v11_2 v39_3 z17063 (by omega) (by omega)
      refine g_iload C dX1_sumOf_11 3 rfl ?_
      refine g_aload_n C dX1_sumOf_13 rfl 0 rfl ?_
      refine g_getI C fi_X1_33 (by decide) (ha0).1 (ha0).2 dX1_sumOf_14 ?_
      have h17065 := I.rg (ha0) 5 rfl
      refine b_icmp_ge C 45 dX1_sumOf_17 (by decide) (fun h17066 => ?_) (fun h17066 => ?_)
      · have h17066 : (pI P a0 5).toInt ≤ v11_4.toInt := h17066
        refine g_iload_n C dX1_sumOf_45 rfl 2 rfl ?_
        exact ret _ _ _ _ _ _ dX1_sumOf_46 rfl (by decide) (by decide) ⟨rfl, trivial⟩
      · have h17066 : v11_4.toInt < (pI P a0 5).toInt := h17066
        refine g_iload_n C dX1_sumOf_20 rfl 1 rfl ?_
        refine g_iload C dX1_sumOf_21 3 rfl ?_
        refine a_ishr C dX1_sumOf_23 (fun z17067 => ?_)
        refine g_iconst (v := 1) C dX1_sumOf_24 (by decide) ?_
        refine s_iand C dX1_sumOf_25 (by show 0 ≤ 1; omega) (fun z17069 h17070 => ?_)
        have h17070 : 0 ≤ z17069.toInt ∧ z17069.toInt ≤ 1 := h17070
        refine b_if_eq C 39 dX1_sumOf_26 (by decide) (fun h17071 => ?_) (fun h17071 => ?_)
        · have h17071 : z17069.toInt = 0 := congrArg Int32.toInt h17071
          exact J39 v11_3 (by omega) (by omega)
        · have h17071 : z17069.toInt ≠ 0 := ti_ne h17071
          refine g_iload_n C dX1_sumOf_29 rfl 2 rfl ?_
          refine g_aload_n C dX1_sumOf_30 rfl 0 rfl ?_
          obtain ⟨b17072, e17073, h17074⟩ := I.fld (ha0) 1 13 16 rfl
          refine g_getR C fi_X1_9 rfl e17073 (ha0).1 (ha0).2 dX1_sumOf_31 ?_
          refine g_iload C dX1_sumOf_34 3 rfl ?_
          refine g_iald (j := (v11_4.toInt.toNat)) C h17074.1 h17074.2.1 (ix_in h17074.2.2 (by omega)) dX1_sumOf_36 ?_
          refine g_topi (fun z17075 _ => ?_)
          refine a_ixor C dX1_sumOf_37 (fun z17076 => ?_)
          refine g_istore_n (lv' := [(3, .int z17076), (0, .ref a0), (2, .int v11_2), (4, .int v11_4)]) C dX1_sumOf_38 rfl (by decide) rfl ?_
          refine g_lv (lv' := [(0, .ref a0), (2, .int v11_2), (3, .int z17076), (4, .int v11_4)]) [1, 2, 0, 3] rfl ?_
          exact J39 z17076 (by omega) (by omega)
  refine g_aload_n C dX1_sumOf_0 rfl 0 rfl ?_
  refine g_iload_n C dX1_sumOf_1 rfl 1 rfl ?_
  refine g_callVI (rest := []) C mv_X1_56 [.int a1] (s_X1_withoutHidden I ha0) (ha0).1 (ha0).2 rfl rfl (by decide) (Nat.le_of_ble_eq_true rfl) (by decide) dX1_sumOf_2 (fun r17078 Y17079 h17080 => ?_)
  obtain ⟨rfl, h17080⟩ := h17080
  have h17080 : True := h17080
  refine g_istore_n (lv' := [(2, .int r17078), (0, .ref a0), (1, .int a1)]) C dX1_sumOf_5 rfl (by decide) rfl ?_
  refine g_iconst (v := 0) C dX1_sumOf_6 (by decide) ?_
  refine g_istore_n (lv' := [(3, .int 0), (2, .int r17078), (0, .ref a0), (1, .int a1)]) C dX1_sumOf_7 rfl (by decide) rfl ?_
  refine g_iconst (v := 0) C dX1_sumOf_8 (by decide) ?_
  refine g_istore (lv' := [(4, .int 0), (3, .int 0), (2, .int r17078), (0, .ref a0), (1, .int a1)]) C dX1_sumOf_9 (by decide) rfl ?_
  refine g_lv (lv' := [(0, .ref a0), (2, .int r17078), (3, .int 0), (4, .int 0)]) [3, 2, 1, 0] rfl ?_
  exact J11 _ r17078 0 0 (Nat.lt_succ_self _) (by decide)
theorem dX1_leafletPaper_11 : decode cX1_leafletPaper 11 = .ok (.istore 4, 2) := by decide +kernel
theorem dX1_leafletPaper_13 : decode cX1_leafletPaper 13 = .ok (.iload_n 2, 1) := by decide +kernel
theorem dX1_leafletPaper_14 : decode cX1_leafletPaper 14 = .ok (.iconst 1, 1) := by decide +kernel
theorem dX1_leafletPaper_15 : decode cX1_leafletPaper 15 = .ok (.iand, 1) := by decide +kernel
theorem dX1_leafletPaper_16 : decode cX1_leafletPaper 16 = .ok (.sipush 255, 3) := by decide +kernel
theorem dX1_leafletPaper_19 : decode cX1_leafletPaper 19 = .ok (.imul, 1) := by decide +kernel
theorem dX1_leafletPaper_20 : decode cX1_leafletPaper 20 = .ok (.iload_n 2, 1) := by decide +kernel
theorem dX1_leafletPaper_21 : decode cX1_leafletPaper 21 = .ok (.iconst 1, 1) := by decide +kernel
theorem dX1_leafletPaper_22 : decode cX1_leafletPaper 22 = .ok (.ishr, 1) := by decide +kernel
theorem dX1_leafletPaper_23 : decode cX1_leafletPaper 23 = .ok (.iconst 1, 1) := by decide +kernel
theorem dX1_leafletPaper_24 : decode cX1_leafletPaper 24 = .ok (.iand, 1) := by decide +kernel
theorem dX1_leafletPaper_25 : decode cX1_leafletPaper 25 = .ok (.ldc 104, 2) := by decide +kernel
theorem dX1_leafletPaper_27 : decode cX1_leafletPaper 27 = .ok (.imul, 1) := by decide +kernel
theorem dX1_leafletPaper_28 : decode cX1_leafletPaper 28 = .ok (.ior, 1) := by decide +kernel
theorem dX1_leafletPaper_29 : decode cX1_leafletPaper 29 = .ok (.istore 5, 2) := by decide +kernel
theorem dX1_leafletPaper_31 : decode cX1_leafletPaper 31 = .ok (.aload_n 0, 1) := by decide +kernel
theorem dX1_leafletPaper_32 : decode cX1_leafletPaper 32 = .ok (.iload_n 1, 1) := by decide +kernel
theorem dX1_leafletPaper_33 : decode cX1_leafletPaper 33 = .ok (.iload_n 3, 1) := by decide +kernel
theorem dX1_leafletPaper_34 : decode cX1_leafletPaper 34 = .ok (.iload 4, 2) := by decide +kernel
theorem dX1_leafletPaper_36 : decode cX1_leafletPaper 36 = .ok (.iload 5, 2) := by decide +kernel
theorem dX1_leafletPaper_38 : decode cX1_leafletPaper 38 = .ok (.iand, 1) := by decide +kernel
theorem dX1_leafletPaper_39 : decode cX1_leafletPaper 39 = .ok (.iload_n 2, 1) := by decide +kernel
theorem dX1_leafletPaper_40 : decode cX1_leafletPaper 40 = .ok (.aload_n 0, 1) := by decide +kernel
theorem dX1_leafletPaper_41 : decode cX1_leafletPaper 41 = .ok (.iload_n 1, 1) := by decide +kernel
theorem dX1_leafletPaper_42 : decode cX1_leafletPaper 42 = .ok (.iload 4, 2) := by decide +kernel
theorem dX1_leafletPaper_44 : decode cX1_leafletPaper 44 = .ok (.invokevirtual 105, 3) := by decide +kernel
theorem dX1_sealOf_0 : decode cX1_sealOf 0 = .ok (.aload_n 0, 1) := by decide +kernel
theorem dX1_sealOf_1 : decode cX1_sealOf 1 = .ok (.getfield 18, 3) := by decide +kernel
theorem dX1_sealOf_4 : decode cX1_sealOf 4 = .ok (.getfield 60, 3) := by decide +kernel
theorem dX1_sealOf_7 : decode cX1_sealOf 7 = .ok (.ifCond .ne 7, 3) := by decide +kernel
theorem dX1_sealOf_10 : decode cX1_sealOf 10 = .ok (.iconst 0, 1) := by decide +kernel
theorem dX1_sealOf_11 : decode cX1_sealOf 11 = .ok (.goto 23, 3) := by decide +kernel
theorem dX1_sealOf_14 : decode cX1_sealOf 14 = .ok (.iload_n 1, 1) := by decide +kernel
theorem dX1_sealOf_15 : decode cX1_sealOf 15 = .ok (.iconst 1, 1) := by decide +kernel
theorem dX1_sealOf_16 : decode cX1_sealOf 16 = .ok (.iadd, 1) := by decide +kernel
theorem dX1_sealOf_17 : decode cX1_sealOf 17 = .ok (.aload_n 0, 1) := by decide +kernel
theorem dX1_sealOf_18 : decode cX1_sealOf 18 = .ok (.getfield 18, 3) := by decide +kernel
theorem dX1_sealOf_21 : decode cX1_sealOf 21 = .ok (.getfield 60, 3) := by decide +kernel
theorem dX1_sealOf_24 : decode cX1_sealOf 24 = .ok (.imul, 1) := by decide +kernel
theorem dX1_sealOf_25 : decode cX1_sealOf 25 = .ok (.bipush 31, 2) := by decide +kernel
theorem dX1_sealOf_27 : decode cX1_sealOf 27 = .ok (.iload_n 2, 1) := by decide +kernel
theorem dX1_sealOf_28 : decode cX1_sealOf 28 = .ok (.imul, 1) := by decide +kernel
theorem dX1_sealOf_29 : decode cX1_sealOf 29 = .ok (.iadd, 1) := by decide +kernel
theorem dX1_sealOf_30 : decode cX1_sealOf 30 = .ok (.sipush 997, 3) := by decide +kernel
theorem dX1_sealOf_33 : decode cX1_sealOf 33 = .ok (.irem, 1) := by decide +kernel
theorem dX1_sealOf_34 : decode cX1_sealOf 34 = .ok (.ireturn, 1) := by decide +kernel
set_option maxHeartbeats 4000000 in
set_option maxRecDepth 100000 in
theorem s_X1_sealOf {P : PP} {a0 : Nat} {a1 : Int32} {a2 : Int32} (I : IV P) (ha0 : At P a0 1) : CtrI yX1_sealOf cX1_sealOf 3 (some Jvm.ClassFile.FieldType.int) ({ frames := 1, cells := 0, slots := 0, locals := 64 } : Room) 0 0 P [.ref a0, .int a1, .int a2] (fun r P2 => P = P2 ∧ (True)) := by
  refine enI (lv := [(0, .ref a0), (1, .int a1), (2, .int a2)]) (by decide) (Nat.le_of_ble_eq_true rfl) rfl (fun E D cy C Ci0 ret => ?_)
  refine g_aload_n C dX1_sealOf_0 rfl 0 rfl ?_
  obtain ⟨b17120, e17121, h17122⟩ := I.fld (ha0) 2 3 0 rfl
  refine g_getR C fi_X1_18 rfl e17121 (ha0).1 (ha0).2 dX1_sealOf_1 ?_
  refine g_getI C fi_X1_60 (by decide) (h17122.at).1 (h17122.at).2 dX1_sealOf_4 ?_
  have u17124 := ti_rng (pI P b17120 5)
  refine b_if_ne C 14 dX1_sealOf_7 (by decide) (fun h17123 => ?_) (fun h17123 => ?_)
  · have h17123 : (pI P b17120 5).toInt ≠ 0 := ti_ne h17123
    refine g_iload_n C dX1_sealOf_14 rfl 1 rfl ?_
    refine g_iconst (v := 1) C dX1_sealOf_15 (by decide) ?_
    refine a_iadd C dX1_sealOf_16 (fun z17125 => ?_)
    refine g_aload_n C dX1_sealOf_17 rfl 0 rfl ?_
    refine g_getR C fi_X1_18 rfl e17121 (ha0).1 (ha0).2 dX1_sealOf_18 ?_
    refine g_getI C fi_X1_60 (by decide) (h17122.at).1 (h17122.at).2 dX1_sealOf_21 ?_
    refine a_imul C dX1_sealOf_24 (fun z17127 => ?_)
    refine g_bipush (v := 31) C dX1_sealOf_25 (by decide) ?_
    refine g_iload_n C dX1_sealOf_27 rfl 2 rfl ?_
    refine a_imul C dX1_sealOf_28 (fun z17129 => ?_)
    refine a_iadd C dX1_sealOf_29 (fun z17131 => ?_)
    refine g_sipush (v := 997) C dX1_sealOf_30 (by decide) ?_
    refine a_irem C dX1_sealOf_33 (by show 997 ≠ 0; omega) (fun z17133 => ?_)
    exact ret _ _ _ _ _ _ dX1_sealOf_34 rfl (by decide) (by decide) ⟨rfl, trivial⟩
  · have h17123 : (pI P b17120 5).toInt = 0 := congrArg Int32.toInt h17123
    refine g_iconst (v := 0) C dX1_sealOf_10 (by decide) ?_
    refine g_goto C 34 dX1_sealOf_11 (by decide) ?_
    exact ret _ _ _ _ _ _ dX1_sealOf_34 rfl (by decide) (by decide) ⟨rfl, trivial⟩
theorem dX1_leafletPaper_47 : decode cX1_leafletPaper 47 = .ok (.invokevirtual 108, 3) := by decide +kernel
theorem dX1_paperOf_0 : decode cX1_paperOf 0 = .ok (.new 112, 3) := by decide +kernel
theorem dX1_paperOf_3 : decode cX1_paperOf 3 = .ok (.dup, 1) := by decide +kernel
theorem dX1_paperOf_4 : decode cX1_paperOf 4 = .ok (.aload_n 0, 1) := by decide +kernel
theorem dX1_paperOf_5 : decode cX1_paperOf 5 = .ok (.getfield 25, 3) := by decide +kernel
theorem dX1_paperOf_8 : decode cX1_paperOf 8 = .ok (.iload_n 1, 1) := by decide +kernel
theorem dX1_paperOf_9 : decode cX1_paperOf 9 = .ok (.iload_n 3, 1) := by decide +kernel
theorem dX1_paperOf_10 : decode cX1_paperOf 10 = .ok (.iload 4, 2) := by decide +kernel
theorem dX1_paperOf_12 : decode cX1_paperOf 12 = .ok (.iload 5, 2) := by decide +kernel
theorem dX1_paperOf_14 : decode cX1_paperOf 14 = .ok (.aload_n 0, 1) := by decide +kernel
theorem dX1_paperOf_15 : decode cX1_paperOf 15 = .ok (.getfield 25, 3) := by decide +kernel
theorem dX1_paperOf_18 : decode cX1_paperOf 18 = .ok (.ifCond .ne 7, 3) := by decide +kernel
theorem dX1_paperOf_21 : decode cX1_paperOf 21 = .ok (.iload_n 2, 1) := by decide +kernel
theorem dX1_paperOf_22 : decode cX1_paperOf 22 = .ok (.goto 4, 3) := by decide +kernel
theorem dX1_paperOf_25 : decode cX1_paperOf 25 = .ok (.iconst 0, 1) := by decide +kernel
theorem dX1_paperOf_26 : decode cX1_paperOf 26 = .ok (.aload_n 0, 1) := by decide +kernel
theorem dX1_paperOf_27 : decode cX1_paperOf 27 = .ok (.getfield 25, 3) := by decide +kernel
theorem dX1_paperOf_30 : decode cX1_paperOf 30 = .ok (.iconst 1, 1) := by decide +kernel
theorem dX1_paperOf_31 : decode cX1_paperOf 31 = .ok (.if_icmp .ne 7, 3) := by decide +kernel
theorem dX1_paperOf_34 : decode cX1_paperOf 34 = .ok (.iload_n 2, 1) := by decide +kernel
theorem dX1_paperOf_35 : decode cX1_paperOf 35 = .ok (.goto 4, 3) := by decide +kernel
theorem dX1_paperOf_38 : decode cX1_paperOf 38 = .ok (.iconst 0, 1) := by decide +kernel
theorem dX1_paperOf_39 : decode cX1_paperOf 39 = .ok (.invokespecial 114, 3) := by decide +kernel
theorem dX7_init_0 : decode cX7_init 0 = .ok (.aload_n 0, 1) := by decide +kernel
theorem dX7_init_1 : decode cX7_init 1 = .ok (.invokespecial 3, 3) := by decide +kernel
theorem dX7_init_4 : decode cX7_init 4 = .ok (.aload_n 0, 1) := by decide +kernel
theorem dX7_init_5 : decode cX7_init 5 = .ok (.iload_n 1, 1) := by decide +kernel
theorem dX7_init_6 : decode cX7_init 6 = .ok (.putfield 9, 3) := by decide +kernel
theorem dX7_init_9 : decode cX7_init 9 = .ok (.aload_n 0, 1) := by decide +kernel
theorem dX7_init_10 : decode cX7_init 10 = .ok (.iload_n 2, 1) := by decide +kernel
theorem dX7_init_11 : decode cX7_init 11 = .ok (.putfield 15, 3) := by decide +kernel
theorem dX7_init_14 : decode cX7_init 14 = .ok (.aload_n 0, 1) := by decide +kernel
theorem dX7_init_15 : decode cX7_init 15 = .ok (.iload_n 3, 1) := by decide +kernel
theorem dX7_init_16 : decode cX7_init 16 = .ok (.putfield 18, 3) := by decide +kernel
theorem dX7_init_19 : decode cX7_init 19 = .ok (.aload_n 0, 1) := by decide +kernel
theorem dX7_init_20 : decode cX7_init 20 = .ok (.iload 4, 2) := by decide +kernel
theorem dX7_init_22 : decode cX7_init 22 = .ok (.putfield 21, 3) := by decide +kernel
theorem dX7_init_25 : decode cX7_init 25 = .ok (.aload_n 0, 1) := by decide +kernel
theorem dX7_init_26 : decode cX7_init 26 = .ok (.iload 5, 2) := by decide +kernel
theorem dX7_init_28 : decode cX7_init 28 = .ok (.putfield 24, 3) := by decide +kernel
theorem dX7_init_31 : decode cX7_init 31 = .ok (.aload_n 0, 1) := by decide +kernel
theorem dX7_init_32 : decode cX7_init 32 = .ok (.iload 6, 2) := by decide +kernel
theorem dX7_init_34 : decode cX7_init 34 = .ok (.putfield 27, 3) := by decide +kernel
theorem dX7_init_37 : decode cX7_init 37 = .ok (.aload_n 0, 1) := by decide +kernel
theorem dX7_init_38 : decode cX7_init 38 = .ok (.iload 7, 2) := by decide +kernel
theorem dX7_init_40 : decode cX7_init 40 = .ok (.putfield 30, 3) := by decide +kernel
theorem dX7_init_43 : decode cX7_init 43 = .ok (.return_, 1) := by decide +kernel
set_option maxHeartbeats 4000000 in
set_option maxRecDepth 100000 in
theorem s_X7_init {P : PP} {a0 : Nat} {a1 : Int32} {a2 : Int32} {a3 : Int32} {a4 : Int32} {a5 : Int32} {a6 : Int32} {a7 : Int32} (I : IV P) (ha0 : At P a0 7) (ha1 : -1 ≤ a1.toInt ∧ a1.toInt ≤ 1) : CtrV yX7_init cX7_init 8 none ({ frames := 2, cells := 0, slots := 0, locals := 128 } : Room) 0 0 P [.ref a0, .int a1, .int a2, .int a3, .int a4, .int a5, .int a6, .int a7] (fun P2 => IV P2 ∧ EK [7] P P2) := by
  refine enV (lv := [(0, .ref a0), (1, .int a1), (2, .int a2), (3, .int a3), (4, .int a4), (5, .int a5), (6, .int a6), (7, .int a7)]) (by decide) (Nat.le_of_ble_eq_true rfl) rfl (fun E D cy C Ci0 ret => ?_)
  have Ci9 := Ci0 rfl
  refine g_aload_n C dX7_init_0 rfl 0 rfl ?_
  refine g_objInit C oi_X7_3 oi_inst oi_code (by decide) (by decide) (Nat.le_of_ble_eq_true rfl) dX7_init_1 ?_
  refine g_aload_n C dX7_init_4 rfl 0 rfl ?_
  refine g_iload_n C dX7_init_5 rfl 1 rfl ?_
  refine g_putFI C fi_X7_9 Ci9 ⟨_, rfl, rfl⟩ rfl (ha0).1 (ha0).2 dX7_init_6 ?_
  refine gpW (ks := [7]) (I.setI (ha0) (rgOk.of rfl (by omega))) (EK.setI (ha0).2 (by decide)) (fun Y17245 Iy17246 Xy17247 w17248 w17249 => ?_)
  have Xz17250 : EK [7] P Y17245 := Xy17247.mono (by decide)
  have h17251 := Xy17247.at ha0
  refine g_aload_n C dX7_init_9 rfl 0 rfl ?_
  refine g_iload_n C dX7_init_10 rfl 2 rfl ?_
  refine g_putFI C fi_X7_15 Ci9 ⟨_, rfl, rfl⟩ rfl (h17251).1 (h17251).2 dX7_init_11 ?_
  refine gpW (ks := [7]) (Iy17246.setI (h17251) (rgOk.none rfl)) (EK.setI (h17251).2 (by decide)) (fun Y17252 Iy17253 Xy17254 w17255 w17256 => ?_)
  have q17257 := w17255 0 (by decide)
  have Xz17258 : EK [7] P Y17252 := Xz17250.tr (Xy17254.mono (by decide))
  have h17259 := Xy17254.at h17251
  refine g_aload_n C dX7_init_14 rfl 0 rfl ?_
  refine g_iload_n C dX7_init_15 rfl 3 rfl ?_
  refine g_putFI C fi_X7_18 Ci9 ⟨_, rfl, rfl⟩ rfl (h17259).1 (h17259).2 dX7_init_16 ?_
  refine gpW (ks := [7]) (Iy17253.setI (h17259) (rgOk.none rfl)) (EK.setI (h17259).2 (by decide)) (fun Y17260 Iy17261 Xy17262 w17263 w17264 => ?_)
  have q17265 := w17263 0 (by decide)
  have q17266 := w17263 1 (by decide)
  have Xz17267 : EK [7] P Y17260 := Xz17258.tr (Xy17262.mono (by decide))
  have h17268 := Xy17262.at h17259
  refine g_aload_n C dX7_init_19 rfl 0 rfl ?_
  refine g_iload C dX7_init_20 4 rfl ?_
  refine g_putFI C fi_X7_21 Ci9 ⟨_, rfl, rfl⟩ rfl (h17268).1 (h17268).2 dX7_init_22 ?_
  refine gpW (ks := [7]) (Iy17261.setI (h17268) (rgOk.none rfl)) (EK.setI (h17268).2 (by decide)) (fun Y17269 Iy17270 Xy17271 w17272 w17273 => ?_)
  have q17274 := w17272 0 (by decide)
  have q17275 := w17272 1 (by decide)
  have q17276 := w17272 2 (by decide)
  have Xz17277 : EK [7] P Y17269 := Xz17267.tr (Xy17271.mono (by decide))
  have h17278 := Xy17271.at h17268
  refine g_aload_n C dX7_init_25 rfl 0 rfl ?_
  refine g_iload C dX7_init_26 5 rfl ?_
  refine g_putFI C fi_X7_24 Ci9 ⟨_, rfl, rfl⟩ rfl (h17278).1 (h17278).2 dX7_init_28 ?_
  refine gpW (ks := [7]) (Iy17270.setI (h17278) (rgOk.none rfl)) (EK.setI (h17278).2 (by decide)) (fun Y17279 Iy17280 Xy17281 w17282 w17283 => ?_)
  have q17284 := w17282 0 (by decide)
  have q17285 := w17282 1 (by decide)
  have q17286 := w17282 2 (by decide)
  have q17287 := w17282 3 (by decide)
  have Xz17288 : EK [7] P Y17279 := Xz17277.tr (Xy17281.mono (by decide))
  have h17289 := Xy17281.at h17278
  refine g_aload_n C dX7_init_31 rfl 0 rfl ?_
  refine g_iload C dX7_init_32 6 rfl ?_
  refine g_putFI C fi_X7_27 Ci9 ⟨_, rfl, rfl⟩ rfl (h17289).1 (h17289).2 dX7_init_34 ?_
  refine gpW (ks := [7]) (Iy17280.setI (h17289) (rgOk.none rfl)) (EK.setI (h17289).2 (by decide)) (fun Y17290 Iy17291 Xy17292 w17293 w17294 => ?_)
  have q17295 := w17293 0 (by decide)
  have q17296 := w17293 1 (by decide)
  have q17297 := w17293 2 (by decide)
  have q17298 := w17293 3 (by decide)
  have q17299 := w17293 4 (by decide)
  have Xz17300 : EK [7] P Y17290 := Xz17288.tr (Xy17292.mono (by decide))
  have h17301 := Xy17292.at h17289
  refine g_aload_n C dX7_init_37 rfl 0 rfl ?_
  refine g_iload C dX7_init_38 7 rfl ?_
  refine g_putFI C fi_X7_30 Ci9 ⟨_, rfl, rfl⟩ rfl (h17301).1 (h17301).2 dX7_init_40 ?_
  refine gpW (ks := [7]) (Iy17291.setI (h17301) (rgOk.none rfl)) (EK.setI (h17301).2 (by decide)) (fun Y17302 Iy17303 Xy17304 w17305 w17306 => ?_)
  have q17307 := w17305 0 (by decide)
  have q17308 := w17305 1 (by decide)
  have q17309 := w17305 2 (by decide)
  have q17310 := w17305 3 (by decide)
  have q17311 := w17305 4 (by decide)
  have q17312 := w17305 5 (by decide)
  have Xz17313 : EK [7] P Y17302 := Xz17300.tr (Xy17304.mono (by decide))
  have h17314 := Xy17304.at h17301
  exact ret _ _ _ _ _ dX7_init_43 (by decide) (by decide) ⟨Iy17303, Xz17313⟩
theorem dX1_paperOf_42 : decode cX1_paperOf 42 = .ok (.areturn, 1) := by decide +kernel
set_option maxHeartbeats 4000000 in
set_option maxRecDepth 100000 in
theorem s_X1_paperOf {P : PP} {a0 : Nat} {a1 : Int32} {a2 : Int32} {a3 : Int32} {a4 : Int32} {a5 : Int32} (I : IV P) (ha0 : At P a0 1) : CtrQ yX1_paperOf cX1_paperOf 6 (some (Jvm.ClassFile.FieldType.object "ThousandLeaflets$Paper")) ({ frames := 3, cells := 1, slots := 7, locals := 192 } : Room) 1 7 P [.ref a0, .int a1, .int a2, .int a3, .int a4, .int a5] (fun r P2 => IV P2 ∧ EK [7] P P2 ∧ (∃ b, r = some b ∧ At P2 b 7)) := by
  refine enQ (lv := [(0, .ref a0), (1, .int a1), (2, .int a2), (3, .int a3), (4, .int a4), (5, .int a5)]) (by decide) (by first | exact Or.inl ⟨_, rfl⟩ | exact Or.inr ⟨_, rfl⟩) (Nat.le_of_ble_eq_true rfl) rfl (fun E D cy C Ci0 ret => ?_)
  have J39 : ∀ (P39 : PP) (v39_s0 : Int32) (v39_s1 : Int32) (v39_s6 : Int32) (b39_s7 : Nat) (b39_s8 : Nat), (IV P39) → (EK [7] P P39) → (0 ≤ v39_s6.toInt ∧ v39_s6.toInt ≤ 1) → (At P39 b39_s7 7) → (At P39 b39_s8 7) → (0 ≤ (pI P39 a0 0).toInt ∧ (pI P39 a0 0).toInt ≤ 1) → G E ({ frames := 3, cells := 1, slots := 7, locals := 192 } : Room) D cy 6 P39 1 7 39 [] [.int v39_s0, .int v39_s1, .int a5, .int a4, .int a3, .int a1, .int v39_s6, .ref b39_s7, .ref b39_s8] := by
    intro P39 v39_s0 v39_s1 v39_s6 b39_s7 b39_s8 I39 X39 hv39_s6 hb39_s7 hb39_s8 hq39_0
    have h17337 := X39.at ha0
    refine g_callCV (ci := 0) (ret := none) (rest := [.ref b39_s8]) C mi_X1_114 [.int v39_s6, .int a1, .int a3, .int a4, .int a5, .int v39_s1, .int v39_s0] (s_X7_init I39 hb39_s7 (by omega)) rfl rfl (by decide) (Nat.le_of_ble_eq_true rfl) (by decide) dX1_paperOf_39 (fun Y17339 h17340 => ?_)
    obtain ⟨Iy17341, Xy17342⟩ := h17340
    have q17343 := Xy17342.keep h17337 (by decide) 0
    have Xz17344 : EK [7] P Y17339 := X39.tr (Xy17342.mono (by decide))
    have h17345 := Xy17342.at h17337
    have h17346 := Xy17342.at hb39_s8
    exact ret _ _ _ _ _ (some b39_s8) dX1_paperOf_42 (by decide) (by decide) ⟨Iy17341, Xz17344, ⟨_, rfl, h17346⟩⟩
  have J26 : ∀ (P26 : PP) (v26_s0 : Int32) (v26_s5 : Int32) (b26_s6 : Nat) (b26_s7 : Nat), (IV P26) → (EK [7] P P26) → (0 ≤ v26_s5.toInt ∧ v26_s5.toInt ≤ 1) → (At P26 b26_s6 7) → (At P26 b26_s7 7) → (0 ≤ (pI P26 a0 0).toInt ∧ (pI P26 a0 0).toInt ≤ 1) → G E ({ frames := 3, cells := 1, slots := 7, locals := 192 } : Room) D cy 6 P26 1 7 26 [(0, .ref a0), (2, .int a2)] [.int v26_s0, .int a5, .int a4, .int a3, .int a1, .int v26_s5, .ref b26_s6, .ref b26_s7] := by
    intro P26 v26_s0 v26_s5 b26_s6 b26_s7 I26 X26 hv26_s5 hb26_s6 hb26_s7 hq26_0
    have h17347 := X26.at ha0
    refine g_aload_n C dX1_paperOf_26 rfl 0 rfl ?_
    refine g_getI C fi_X1_25 (by decide) (h17347).1 (h17347).2 dX1_paperOf_27 ?_
    refine g_iconst (v := 1) C dX1_paperOf_30 (by decide) ?_
    refine b_icmp_ne C 38 dX1_paperOf_31 (by decide) (fun h17348 => ?_) (fun h17348 => ?_)
    · have h17348 : (pI P26 a0 0).toInt ≠ 1 := ti_ne h17348
      refine g_iconst (v := 0) C dX1_paperOf_38 (by decide) ?_
      refine g_lv (lv' := []) [] rfl ?_
      exact J39 P26 0 v26_s0 v26_s5 b26_s6 b26_s7 I26 X26 (by omega) hb26_s6 hb26_s7 (by omega)
    · have h17348 : (pI P26 a0 0).toInt = 1 := congrArg Int32.toInt h17348
      refine g_iload_n C dX1_paperOf_34 rfl 1 rfl ?_
      refine g_goto C 39 dX1_paperOf_35 (by decide) ?_
      refine g_lv (lv' := []) [] rfl ?_
      exact J39 P26 a2 v26_s0 v26_s5 b26_s6 b26_s7 I26 X26 (by omega) hb26_s6 hb26_s7 (by omega)
  refine g_new C ni_X1_112 (by decide) (by decide) dX1_paperOf_0 (fun q17349 h17350 => ?_)
  have h17351 := At.new (P := P) (q := q17349) (kd := 7) (n := 0)
  obtain ⟨Y17352, eY17352⟩ : ∃ Z : PP, Z = pNw P q17349 7 0 := ⟨_, rfl⟩
  rw [← eY17352] at h17351 ⊢
  have Iy17353 : IV Y17352 := by rw [eY17352]; exact I.newP h17350
  have Xy17354 : EK [] P Y17352 := by rw [eY17352]; exact EK.new h17350
  clear eY17352
  have Xz17355 : EK [7] P Y17352 := Xy17354.mono (by decide)
  have h17356 := Xy17354.at ha0
  refine g_dup C dX1_paperOf_3 rfl ?_
  refine g_aload_n C dX1_paperOf_4 rfl 0 rfl ?_
  refine g_getI C fi_X1_25 (by decide) (h17356).1 (h17356).2 dX1_paperOf_5 ?_
  have h17357 := Iy17353.rg (h17356) 0 rfl
  refine g_iload_n C dX1_paperOf_8 rfl 1 rfl ?_
  refine g_iload_n C dX1_paperOf_9 rfl 3 rfl ?_
  refine g_iload C dX1_paperOf_10 4 rfl ?_
  refine g_iload C dX1_paperOf_12 5 rfl ?_
  refine g_aload_n C dX1_paperOf_14 rfl 0 rfl ?_
  refine g_getI C fi_X1_25 (by decide) (h17356).1 (h17356).2 dX1_paperOf_15 ?_
  refine b_if_ne C 25 dX1_paperOf_18 (by decide) (fun h17358 => ?_) (fun h17358 => ?_)
  · have h17358 : (pI Y17352 a0 0).toInt ≠ 0 := ti_ne h17358
    refine g_iconst (v := 0) C dX1_paperOf_25 (by decide) ?_
    refine g_lv (lv' := [(0, .ref a0), (2, .int a2)]) [0, 2] rfl ?_
    exact J26 Y17352 0 (pI Y17352 a0 0) q17349 q17349 Iy17353 Xz17355 (by omega) h17351 h17351 (by omega)
  · have h17358 : (pI Y17352 a0 0).toInt = 0 := congrArg Int32.toInt h17358
    refine g_iload_n C dX1_paperOf_21 rfl 2 rfl ?_
    refine g_goto C 26 dX1_paperOf_22 (by decide) ?_
    refine g_lv (lv' := [(0, .ref a0), (2, .int a2)]) [0, 2] rfl ?_
    exact J26 Y17352 a2 (pI Y17352 a0 0) q17349 q17349 Iy17353 Xz17355 (by omega) h17351 h17351 (by omega)
theorem dX1_leafletPaper_50 : decode cX1_leafletPaper 50 = .ok (.areturn, 1) := by decide +kernel
set_option maxHeartbeats 4000000 in
set_option maxRecDepth 100000 in
theorem s_X1_leafletPaper {P : PP} {a0 : Nat} {a1 : Int32} {a2 : Int32} (I : IV P) (ha0 : At P a0 1) : CtrQ yX1_leafletPaper cX1_leafletPaper 6 (some (Jvm.ClassFile.FieldType.object "ThousandLeaflets$Paper")) ({ frames := 5, cells := 1, slots := 7, locals := 320 } : Room) 1 7 P [.ref a0, .int a1, .int a2] (fun r P2 => IV P2 ∧ EK [1, 7, 13] P P2 ∧ (∃ b, r = some b ∧ At P2 b 7)) := by
  refine enQ (lv := [(0, .ref a0), (1, .int a1), (2, .int a2)]) (by decide) (by first | exact Or.inl ⟨_, rfl⟩ | exact Or.inr ⟨_, rfl⟩) (Nat.le_of_ble_eq_true rfl) rfl (fun E D cy C Ci0 ret => ?_)
  refine g_aload_n C dX1_leafletPaper_0 rfl 0 rfl ?_
  refine g_iload_n C dX1_leafletPaper_1 rfl 1 rfl ?_
  refine g_callVI (rest := []) C mv_X1_98 [.int a1] (s_X1_pagesOf I ha0) (ha0).1 (ha0).2 rfl rfl (by decide) (Nat.le_of_ble_eq_true rfl) (by decide) dX1_leafletPaper_2 (fun r17395 Y17396 h17397 => ?_)
  obtain ⟨Iy17398, Xy17399, h17397⟩ := h17397
  have Xz17400 : EK [1, 7, 13] P Y17396 := Xy17399.mono (by decide)
  have h17401 := Xy17399.at ha0
  have h17397 : True := h17397
  refine g_istore_n (lv' := [(3, .int r17395), (0, .ref a0), (1, .int a1), (2, .int a2)]) C dX1_leafletPaper_5 rfl (by decide) rfl ?_
  refine g_aload_n C dX1_leafletPaper_6 rfl 1 rfl ?_
  refine g_iload_n C dX1_leafletPaper_7 rfl 0 rfl ?_
  refine g_callVI (rest := []) C mv_X1_101 [.int r17395] (s_X1_sumOf Iy17398 h17401) (h17401).1 (h17401).2 rfl rfl (by decide) (Nat.le_of_ble_eq_true rfl) (by decide) dX1_leafletPaper_8 (fun r17402 Y17403 h17404 => ?_)
  obtain ⟨rfl, h17404⟩ := h17404
  have h17404 : True := h17404
  refine g_istore (lv' := [(4, .int r17402), (3, .int r17395), (0, .ref a0), (1, .int a1), (2, .int a2)]) C dX1_leafletPaper_11 (by decide) rfl ?_
  refine g_iload_n C dX1_leafletPaper_13 rfl 4 rfl ?_
  refine g_iconst (v := 1) C dX1_leafletPaper_14 (by decide) ?_
  refine s_iand C dX1_leafletPaper_15 (by show 0 ≤ 1; omega) (fun z17405 h17406 => ?_)
  have h17406 : 0 ≤ z17405.toInt ∧ z17405.toInt ≤ 1 := h17406
  refine g_sipush (v := 255) C dX1_leafletPaper_16 (by decide) ?_
  refine s_imul C dX1_leafletPaper_19 (by show -2147483648 ≤ z17405.toInt * 255 ∧ z17405.toInt * 255 ≤ 2147483647; omega) (fun z17407 h17408 => ?_)
  have h17408 : z17407.toInt = z17405.toInt * 255 := h17408
  refine g_iload_n C dX1_leafletPaper_20 rfl 4 rfl ?_
  refine g_iconst (v := 1) C dX1_leafletPaper_21 (by decide) ?_
  refine a_ishr C dX1_leafletPaper_22 (fun z17409 => ?_)
  refine g_iconst (v := 1) C dX1_leafletPaper_23 (by decide) ?_
  refine s_iand C dX1_leafletPaper_24 (by show 0 ≤ 1; omega) (fun z17411 h17412 => ?_)
  have h17412 : 0 ≤ z17411.toInt ∧ z17411.toInt ≤ 1 := h17412
  refine g_ldc (v := 65280) C kc_X1_104 dX1_leafletPaper_25 ?_
  refine s_imul C dX1_leafletPaper_27 (by show -2147483648 ≤ z17411.toInt * 65280 ∧ z17411.toInt * 65280 ≤ 2147483647; omega) (fun z17413 h17414 => ?_)
  have h17414 : z17413.toInt = z17411.toInt * 65280 := h17414
  refine a_ior C dX1_leafletPaper_28 (fun z17415 => ?_)
  refine g_istore (lv' := [(5, .int z17415), (4, .int r17402), (3, .int r17395), (0, .ref a0), (1, .int a1), (2, .int a2)]) C dX1_leafletPaper_29 (by decide) rfl ?_
  refine g_aload_n C dX1_leafletPaper_31 rfl 3 rfl ?_
  refine g_iload_n C dX1_leafletPaper_32 rfl 4 rfl ?_
  refine g_iload_n C dX1_leafletPaper_33 rfl 2 rfl ?_
  refine g_iload C dX1_leafletPaper_34 1 rfl ?_
  refine g_iload C dX1_leafletPaper_36 0 rfl ?_
  refine a_iand C dX1_leafletPaper_38 (fun z17417 => ?_)
  refine g_iload_n C dX1_leafletPaper_39 rfl 5 rfl ?_
  refine g_aload_n C dX1_leafletPaper_40 rfl 3 rfl ?_
  refine g_iload_n C dX1_leafletPaper_41 rfl 4 rfl ?_
  refine g_iload C dX1_leafletPaper_42 1 rfl ?_
  refine g_callVI (rest := [.int a2, .int z17417, .int r17395, .int a1, .ref a0]) C mv_X1_105 [.int a1, .int r17402] (s_X1_sealOf Iy17398 h17401) (h17401).1 (h17401).2 rfl rfl (by decide) (Nat.le_of_ble_eq_true rfl) (by decide) dX1_leafletPaper_44 (fun r17419 Y17420 h17421 => ?_)
  obtain ⟨rfl, h17421⟩ := h17421
  have h17421 : True := h17421
  refine g_callVQ (rest := []) C mv_X1_108 [.int a1, .int r17395, .int z17417, .int a2, .int r17419] (s_X1_paperOf Iy17398 h17401) (h17401).1 (h17401).2 rfl rfl (by decide) (Nat.le_of_ble_eq_true rfl) (by decide) dX1_leafletPaper_47 (fun r17422 Y17423 h17424 => ?_)
  obtain ⟨Iy17425, Xy17426, h17424⟩ := h17424
  have Xz17427 : EK [1, 7, 13] P Y17423 := Xz17400.tr (Xy17426.mono (by decide))
  have h17428 := Xy17426.at h17401
  obtain ⟨b17430, rfl, h17424⟩ := h17424
  show G _ _ _ _ _ _ _ _ _ _ (.ref b17430 :: _)
  exact ret _ _ _ _ _ (some b17430) dX1_leafletPaper_50 (by decide) (by decide) ⟨Iy17425, Xz17427, ⟨_, rfl, h17424⟩⟩
theorem dX11_comes_48 : decode cX11_comes 48 = .ok (.invokevirtual 165, 3) := by decide +kernel
theorem dX6_put_0 : decode cX6_put 0 = .ok (.aload_n 0, 1) := by decide +kernel
theorem dX6_put_1 : decode cX6_put 1 = .ok (.getfield 17, 3) := by decide +kernel
theorem dX6_put_4 : decode cX6_put 4 = .ok (.bipush 40, 2) := by decide +kernel
theorem dX6_put_6 : decode cX6_put 6 = .ok (.if_icmp .ge 20, 3) := by decide +kernel
theorem dX6_put_9 : decode cX6_put 9 = .ok (.aload_n 1, 1) := by decide +kernel
theorem dX6_put_10 : decode cX6_put 10 = .ok (.getfield 21, 3) := by decide +kernel
theorem dX6_put_13 : decode cX6_put 13 = .ok (.iconst (-1), 1) := by decide +kernel
theorem dX6_put_14 : decode cX6_put 14 = .ok (.if_icmp .ne 14, 3) := by decide +kernel
theorem dX6_put_17 : decode cX6_put 17 = .ok (.aload_n 0, 1) := by decide +kernel
theorem dX6_put_18 : decode cX6_put 18 = .ok (.invokevirtual 24, 3) := by decide +kernel
theorem dX6_unnamed_0 : decode cX6_unnamed 0 = .ok (.iconst 0, 1) := by decide +kernel
theorem dX6_unnamed_1 : decode cX6_unnamed 1 = .ok (.istore_n 1, 1) := by decide +kernel
theorem dX6_unnamed_2 : decode cX6_unnamed 2 = .ok (.iconst 0, 1) := by decide +kernel
theorem dX6_unnamed_3 : decode cX6_unnamed 3 = .ok (.istore_n 2, 1) := by decide +kernel
theorem dX6_unnamed_4 : decode cX6_unnamed 4 = .ok (.iload_n 2, 1) := by decide +kernel
theorem dX6_unnamed_5 : decode cX6_unnamed 5 = .ok (.aload_n 0, 1) := by decide +kernel
theorem dX6_unnamed_6 : decode cX6_unnamed 6 = .ok (.getfield 17, 3) := by decide +kernel
theorem dX6_unnamed_9 : decode cX6_unnamed 9 = .ok (.if_icmp .ge 31, 3) := by decide +kernel
theorem dX6_unnamed_12 : decode cX6_unnamed 12 = .ok (.aload_n 0, 1) := by decide +kernel
theorem dX6_unnamed_13 : decode cX6_unnamed 13 = .ok (.getfield 11, 3) := by decide +kernel
theorem dX6_unnamed_16 : decode cX6_unnamed 16 = .ok (.iload_n 2, 1) := by decide +kernel
theorem dX6_unnamed_17 : decode cX6_unnamed 17 = .ok (.aaload, 1) := by decide +kernel
theorem dX6_unnamed_18 : decode cX6_unnamed 18 = .ok (.astore_n 3, 1) := by decide +kernel
theorem dX6_unnamed_19 : decode cX6_unnamed 19 = .ok (.aload_n 3, 1) := by decide +kernel
theorem dX6_unnamed_20 : decode cX6_unnamed 20 = .ok (.ifnull 14, 3) := by decide +kernel
theorem dX6_unnamed_23 : decode cX6_unnamed 23 = .ok (.aload_n 3, 1) := by decide +kernel
theorem dX6_unnamed_24 : decode cX6_unnamed 24 = .ok (.getfield 21, 3) := by decide +kernel
theorem dX6_unnamed_27 : decode cX6_unnamed 27 = .ok (.iconst (-1), 1) := by decide +kernel
theorem dX6_unnamed_28 : decode cX6_unnamed 28 = .ok (.if_icmp .ne 6, 3) := by decide +kernel
theorem dX6_unnamed_31 : decode cX6_unnamed 31 = .ok (.iinc 1 1, 3) := by decide +kernel
theorem dX6_unnamed_34 : decode cX6_unnamed 34 = .ok (.iinc 2 1, 3) := by decide +kernel
theorem dX6_unnamed_37 : decode cX6_unnamed 37 = .ok (.goto (-33), 3) := by decide +kernel
theorem dX6_unnamed_40 : decode cX6_unnamed 40 = .ok (.iload_n 1, 1) := by decide +kernel
theorem dX6_unnamed_41 : decode cX6_unnamed 41 = .ok (.ireturn, 1) := by decide +kernel
set_option maxHeartbeats 4000000 in
set_option maxRecDepth 100000 in
theorem s_X6_unnamed {P : PP} {a0 : Nat} (I : IV P) (ha0 : At P a0 6) : CtrI yX6_unnamed cX6_unnamed 4 (some Jvm.ClassFile.FieldType.int) ({ frames := 1, cells := 0, slots := 0, locals := 64 } : Room) 0 0 P [.ref a0] (fun r P2 => P = P2 ∧ (True)) := by
  refine enI (lv := [(0, .ref a0)]) (by decide) (Nat.le_of_ble_eq_true rfl) rfl (fun E D cy C Ci0 ret => ?_)
  have J4 : ∀ (n4 : Nat) (v4_1 : Int32) (v4_2 : Int32), (40 - v4_2.toInt).toNat < n4 → (0 ≤ v4_2.toInt ∧ v4_2.toInt ≤ 40) → G E ({ frames := 1, cells := 0, slots := 0, locals := 64 } : Room) D cy 4 P 0 0 4 [(0, .ref a0), (1, .int v4_1), (2, .int v4_2)] [] := by
    intro n4
    induction n4 with
    | zero => intro v4_1 v4_2 hm4 hv4_2; omega
    | succ n4 ih4 =>
      intro v4_1 v4_2 hm4 hv4_2
      have J34 : ∀ (v34_1 : Int32), (0 ≤ v4_2.toInt ∧ v4_2.toInt ≤ 39) → (1 ≤ (pI P a0 1).toInt ∧ (pI P a0 1).toInt ≤ 40) → G E ({ frames := 1, cells := 0, slots := 0, locals := 64 } : Room) D cy 4 P 0 0 34 [(0, .ref a0), (1, .int v34_1), (2, .int v4_2)] [] := by
        intro v34_1 hv34_2 hq34_0
        refine s_iinc (lv0 := [(0, .ref a0), (1, .int v34_1)]) (m := 1) C dX6_unnamed_34 2 rfl (by decide) rfl (by decide) (by omega) (fun z17931 h17932 => ?_)
        have h17932 : z17931.toInt = v4_2.toInt + 1 := h17932
        refine g_goto C 4 dX6_unnamed_37 (by decide) ?_
        refine g_lv (lv' := [(0, .ref a0), (1, .int v34_1), (2, .int z17931)]) [1, 2, 0] rfl ?_
        exact ih4 v34_1 z17931 (by omega) (by omega)
      refine g_iload_n C dX6_unnamed_4 rfl 2 rfl ?_
      refine g_aload_n C dX6_unnamed_5 rfl 0 rfl ?_
      refine g_getI C fi_X6_17 (by decide) (ha0).1 (ha0).2 dX6_unnamed_6 ?_
      have h17933 := I.rg (ha0) 1 rfl
      refine b_icmp_ge C 40 dX6_unnamed_9 (by decide) (fun h17934 => ?_) (fun h17934 => ?_)
      · have h17934 : (pI P a0 1).toInt ≤ v4_2.toInt := h17934
        refine g_iload_n C dX6_unnamed_40 rfl 1 rfl ?_
        exact ret _ _ _ _ _ _ dX6_unnamed_41 rfl (by decide) (by decide) ⟨rfl, trivial⟩
      · have h17934 : v4_2.toInt < (pI P a0 1).toInt := h17934
        refine g_aload_n C dX6_unnamed_12 rfl 0 rfl ?_
        obtain ⟨b17935, e17936, h17937⟩ := I.fld (ha0) 0 20 40 rfl
        refine g_getR C fi_X6_11 rfl e17936 (ha0).1 (ha0).2 dX6_unnamed_13 ?_
        refine g_iload_n C dX6_unnamed_16 rfl 2 rfl ?_
        refine g_aldQ (j := (v4_2.toInt.toNat)) C h17937.1 h17937.2.1 (by decide) (ix_in h17937.2.2 (by omega)) dX6_unnamed_17 ?_
        rcases I.pap h17937 (v4_2.toInt.toNat) with e17939 | ⟨b17938, e17939, h17940⟩
        · rw [e17939]
          show G _ _ _ _ _ _ _ _ _ _ (.null :: _)
          refine g_astore_nN (lv' := [(3, .null), (0, .ref a0), (1, .int v4_1), (2, .int v4_2)]) C dX6_unnamed_18 rfl (by decide) rfl ?_
          refine g_aload_nN C dX6_unnamed_19 rfl 0 rfl ?_
          refine g_ifnullN C 34 dX6_unnamed_20 (by decide) ?_
          refine g_lv (lv' := [(0, .ref a0), (1, .int v4_1), (2, .int v4_2)]) [1, 2, 3] rfl ?_
          exact J34 v4_1 (by omega) (by omega)
        · rw [e17939]
          show G _ _ _ _ _ _ _ _ _ _ (.ref b17938 :: _)
          refine g_astore_n (lv' := [(3, .ref b17938), (0, .ref a0), (1, .int v4_1), (2, .int v4_2)]) C dX6_unnamed_18 rfl (by decide) rfl ?_
          refine g_aload_n C dX6_unnamed_19 rfl 0 rfl ?_
          refine g_ifnull C dX6_unnamed_20 ?_
          refine g_aload_n C dX6_unnamed_23 rfl 0 rfl ?_
          refine g_getI C fi_X6_21 (by decide) (h17940).1 (h17940).2 dX6_unnamed_24 ?_
          have h17941 := I.rg (h17940) 0 rfl
          refine g_iconst (v := (-1)) C dX6_unnamed_27 (by decide) ?_
          refine b_icmp_ne C 34 dX6_unnamed_28 (by decide) (fun h17942 => ?_) (fun h17942 => ?_)
          · have h17942 : (pI P b17938 0).toInt ≠ (-1) := ti_ne h17942
            refine g_lv (lv' := [(0, .ref a0), (1, .int v4_1), (2, .int v4_2)]) [1, 2, 3] rfl ?_
            exact J34 v4_1 (by omega) (by omega)
          · have h17942 : (pI P b17938 0).toInt = (-1) := congrArg Int32.toInt h17942
            refine a_iinc (lv0 := [(3, .ref b17938), (0, .ref a0), (2, .int v4_2)]) C dX6_unnamed_31 2 rfl (by decide) rfl (fun z17943 => ?_)
            refine g_lv (lv' := [(0, .ref a0), (1, .int z17943), (2, .int v4_2)]) [2, 0, 3] rfl ?_
            exact J34 z17943 (by omega) (by omega)
  refine g_iconst (v := 0) C dX6_unnamed_0 (by decide) ?_
  refine g_istore_n (lv' := [(1, .int 0), (0, .ref a0)]) C dX6_unnamed_1 rfl (by decide) rfl ?_
  refine g_iconst (v := 0) C dX6_unnamed_2 (by decide) ?_
  refine g_istore_n (lv' := [(2, .int 0), (1, .int 0), (0, .ref a0)]) C dX6_unnamed_3 rfl (by decide) rfl ?_
  refine g_lv (lv' := [(0, .ref a0), (1, .int 0), (2, .int 0)]) [2, 1, 0] rfl ?_
  exact J4 _ 0 0 (Nat.lt_succ_self _) (by decide)
theorem dX6_put_21 : decode cX6_put 21 = .ok (.bipush 6, 2) := by decide +kernel
theorem dX6_put_23 : decode cX6_put 23 = .ok (.if_icmp .lt 5, 3) := by decide +kernel
theorem dX6_put_26 : decode cX6_put 26 = .ok (.iconst (-1), 1) := by decide +kernel
theorem dX6_put_27 : decode cX6_put 27 = .ok (.ireturn, 1) := by decide +kernel
theorem dX6_put_28 : decode cX6_put 28 = .ok (.aload_n 0, 1) := by decide +kernel
theorem dX6_put_29 : decode cX6_put 29 = .ok (.getfield 11, 3) := by decide +kernel
theorem dX6_put_32 : decode cX6_put 32 = .ok (.aload_n 0, 1) := by decide +kernel
theorem dX6_put_33 : decode cX6_put 33 = .ok (.getfield 17, 3) := by decide +kernel
theorem dX6_put_36 : decode cX6_put 36 = .ok (.aload_n 1, 1) := by decide +kernel
theorem dX6_put_37 : decode cX6_put 37 = .ok (.aastore, 1) := by decide +kernel
theorem dX6_put_38 : decode cX6_put 38 = .ok (.aload_n 0, 1) := by decide +kernel
theorem dX6_put_39 : decode cX6_put 39 = .ok (.dup, 1) := by decide +kernel
theorem dX6_put_40 : decode cX6_put 40 = .ok (.getfield 17, 3) := by decide +kernel
theorem dX6_put_43 : decode cX6_put 43 = .ok (.iconst 1, 1) := by decide +kernel
theorem dX6_put_44 : decode cX6_put 44 = .ok (.iadd, 1) := by decide +kernel
theorem dX6_put_45 : decode cX6_put 45 = .ok (.putfield 17, 3) := by decide +kernel
theorem dX6_put_48 : decode cX6_put 48 = .ok (.aload_n 0, 1) := by decide +kernel
theorem dX6_put_49 : decode cX6_put 49 = .ok (.getfield 17, 3) := by decide +kernel
theorem dX6_put_52 : decode cX6_put 52 = .ok (.iconst 1, 1) := by decide +kernel
theorem dX6_put_53 : decode cX6_put 53 = .ok (.isub, 1) := by decide +kernel
theorem dX6_put_54 : decode cX6_put 54 = .ok (.ireturn, 1) := by decide +kernel
set_option maxHeartbeats 4000000 in
set_option maxRecDepth 100000 in
theorem s_X6_put {P : PP} {a0 : Nat} {a1 : Nat} (I : IV P) (ha0 : At P a0 6) (ha1 : At P a1 7) : CtrI yX6_put cX6_put 2 (some Jvm.ClassFile.FieldType.int) ({ frames := 2, cells := 0, slots := 0, locals := 128 } : Room) 0 0 P [.ref a0, .ref a1] (fun r P2 => IV P2 ∧ EK [6] P P2 ∧ (-1 ≤ r.toInt ∧ r.toInt ≤ 39)) := by
  refine enI (lv := [(0, .ref a0), (1, .ref a1)]) (by decide) (Nat.le_of_ble_eq_true rfl) rfl (fun E D cy C Ci0 ret => ?_)
  have J28 : (0 ≤ (pI P a0 1).toInt ∧ (pI P a0 1).toInt ≤ 39) → (-1 ≤ (pI P a1 0).toInt ∧ (pI P a1 0).toInt ≤ 1) → G E ({ frames := 2, cells := 0, slots := 0, locals := 128 } : Room) D cy 2 P 0 0 28 [(0, .ref a0), (1, .ref a1)] [] := by
    intro hq28_0 hq28_1
    refine g_aload_n C dX6_put_28 rfl 0 rfl ?_
    obtain ⟨b17978, e17979, h17980⟩ := I.fld (ha0) 0 20 40 rfl
    refine g_getR C fi_X6_11 rfl e17979 (ha0).1 (ha0).2 dX6_put_29 ?_
    refine g_aload_n C dX6_put_32 rfl 0 rfl ?_
    refine g_getI C fi_X6_17 (by decide) (ha0).1 (ha0).2 dX6_put_33 ?_
    refine g_aload_n C dX6_put_36 rfl 1 rfl ?_
    refine g_astR (j := ((pI P a0 1).toInt.toNat)) C h17980.1 h17980.2.1 (by decide) (ix_in h17980.2.2 (by omega)) (ha1).1 (ha1).2 (by decide) rfl rfl dX6_put_37 ?_
    refine gp (ks := []) (I.setP h17980 (fun _ z => by cases z; exact ha1)) (EK.setR h17980.2.1 (by decide)) (fun Y17981 Iy17982 Xy17983 => ?_)
    have q17984 := Xy17983.keep ha0 (by decide) 1
    have q17985 := Xy17983.keep ha1 (by decide) 0
    have Xz17986 : EK [6] P Y17981 := Xy17983.mono (by decide)
    have h17987 := Xy17983.at ha0
    have h17988 := Xy17983.at ha1
    refine g_aload_n C dX6_put_38 rfl 0 rfl ?_
    refine g_dup C dX6_put_39 rfl ?_
    refine g_getI C fi_X6_17 (by decide) (h17987).1 (h17987).2 dX6_put_40 ?_
    refine g_iconst (v := 1) C dX6_put_43 (by decide) ?_
    refine s_iadd C dX6_put_44 (by show -2147483648 ≤ (pI Y17981 a0 1).toInt + 1 ∧ (pI Y17981 a0 1).toInt + 1 ≤ 2147483647; omega) (fun z17989 h17990 => ?_)
    have h17990 : z17989.toInt = (pI Y17981 a0 1).toInt + 1 := h17990
    refine g_putI C fi_X6_17 rfl (h17987).1 (h17987).2 dX6_put_45 ?_
    refine gpW (ks := [6]) (Iy17982.setI (h17987) (rgOk.of rfl (by omega))) (EK.setI (h17987).2 (by decide)) (fun Y17991 Iy17992 Xy17993 w17994 w17995 => ?_)
    have q17996 := Xy17993.keep h17988 (by decide) 0
    have Xz17997 : EK [6] P Y17991 := Xz17986.tr (Xy17993.mono (by decide))
    have h17998 := Xy17993.at h17987
    have h17999 := Xy17993.at h17988
    refine g_aload_n C dX6_put_48 rfl 0 rfl ?_
    refine g_getI C fi_X6_17 (by decide) (h17998).1 (h17998).2 dX6_put_49 ?_
    refine g_iconst (v := 1) C dX6_put_52 (by decide) ?_
    refine s_isub C dX6_put_53 (by show -2147483648 ≤ (pI Y17991 a0 1).toInt - 1 ∧ (pI Y17991 a0 1).toInt - 1 ≤ 2147483647; omega) (fun z18000 h18001 => ?_)
    have h18001 : z18000.toInt = (pI Y17991 a0 1).toInt - 1 := h18001
    exact ret _ _ _ _ _ _ dX6_put_54 rfl (by decide) (by decide) ⟨Iy17992, Xz17997, (by omega)⟩
  have J26 : (0 ≤ (pI P a0 1).toInt ∧ (pI P a0 1).toInt ≤ 40) → G E ({ frames := 2, cells := 0, slots := 0, locals := 128 } : Room) D cy 2 P 0 0 26 [] [] := by
    intro hq26_0
    refine g_iconst (v := (-1)) C dX6_put_26 (by decide) ?_
    exact ret _ _ _ _ _ _ dX6_put_27 rfl (by decide) (by decide) ⟨I, EK.rf, (by decide)⟩
  refine g_aload_n C dX6_put_0 rfl 0 rfl ?_
  refine g_getI C fi_X6_17 (by decide) (ha0).1 (ha0).2 dX6_put_1 ?_
  have h18002 := I.rg (ha0) 1 rfl
  refine g_bipush (v := 40) C dX6_put_4 (by decide) ?_
  refine b_icmp_ge C 26 dX6_put_6 (by decide) (fun h18003 => ?_) (fun h18003 => ?_)
  · have h18003 : 40 ≤ (pI P a0 1).toInt := h18003
    refine g_lv (lv' := []) [] rfl ?_
    exact J26 (by omega)
  · have h18003 : (pI P a0 1).toInt < 40 := h18003
    refine g_aload_n C dX6_put_9 rfl 1 rfl ?_
    refine g_getI C fi_X6_21 (by decide) (ha1).1 (ha1).2 dX6_put_10 ?_
    have h18004 := I.rg (ha1) 0 rfl
    refine g_iconst (v := (-1)) C dX6_put_13 (by decide) ?_
    refine b_icmp_ne C 28 dX6_put_14 (by decide) (fun h18005 => ?_) (fun h18005 => ?_)
    · have h18005 : (pI P a1 0).toInt ≠ (-1) := ti_ne h18005
      exact J28 (by omega) (by omega)
    · have h18005 : (pI P a1 0).toInt = (-1) := congrArg Int32.toInt h18005
      refine g_aload_n C dX6_put_17 rfl 0 rfl ?_
      refine g_callVI (rest := []) C mv_X6_24 [] (s_X6_unnamed I ha0) (ha0).1 (ha0).2 rfl rfl (by decide) (Nat.le_of_ble_eq_true rfl) (by decide) dX6_put_18 (fun r18006 Y18007 h18008 => ?_)
      obtain ⟨rfl, h18008⟩ := h18008
      have h18008 : True := h18008
      refine g_bipush (v := 6) C dX6_put_21 (by decide) ?_
      have u18010 := ti_rng r18006
      refine b_icmp_lt C 28 dX6_put_23 (by decide) (fun h18009 => ?_) (fun h18009 => ?_)
      · have h18009 : r18006.toInt < 6 := h18009
        exact J28 (by omega) (by omega)
      · have h18009 : 6 ≤ r18006.toInt := h18009
        refine g_lv (lv' := []) [] rfl ?_
        exact J26 (by omega)
theorem dX11_comes_28 : decode cX11_comes 28 = .ok (.iconst (-1), 1) := by decide +kernel
theorem dX11_comes_29 : decode cX11_comes 29 = .ok (.ireturn, 1) := by decide +kernel
theorem dX11_comes_51 : decode cX11_comes 51 = .ok (.ireturn, 1) := by decide +kernel
set_option maxHeartbeats 4000000 in
set_option maxRecDepth 100000 in
theorem s_X11_comes {P : PP} {a0 : Nat} {a1 : Int32} {a2 : Int32} {a3 : Int32} {a4 : Int32} (I : IV P) (ha0 : At P a0 11) : CtrI yX11_comes cX11_comes 5 (some Jvm.ClassFile.FieldType.int) ({ frames := 6, cells := 1, slots := 7, locals := 384 } : Room) 1 7 P [.ref a0, .int a1, .int a2, .int a3, .int a4] (fun r P2 => IV P2 ∧ EK [1, 6, 7, 13] P P2 ∧ (-1 ≤ r.toInt ∧ r.toInt ≤ 39)) := by
  refine enI (lv := [(0, .ref a0), (1, .int a1), (2, .int a2), (3, .int a3), (4, .int a4)]) (by decide) (Nat.le_of_ble_eq_true rfl) rfl (fun E D cy C Ci0 ret => ?_)
  have J28 : G E ({ frames := 6, cells := 1, slots := 7, locals := 384 } : Room) D cy 5 P 0 0 28 [] [] := by
    refine g_iconst (v := (-1)) C dX11_comes_28 (by decide) ?_
    exact ret _ _ _ _ _ _ dX11_comes_29 rfl (by decide) (by decide) ⟨I, EK.rf, (by decide)⟩
  refine g_iload_n C dX11_comes_0 rfl 1 rfl ?_
  refine g_callSI (b := 0) (ci := 0) (rest := []) C ms_X11_158 [.int a1] (s_X11_isQuarter I) rfl rfl (by decide) (Nat.le_of_ble_eq_true rfl) (by decide) dX11_comes_1 (fun r18054 Y18055 h18056 => ?_)
  obtain ⟨rfl, h18056⟩ := h18056
  obtain ⟨h18056, hi18057⟩ := h18056
  have hi18057 : r18054.toInt = 0 ∨ (((0 : Int) ≤ a1.toInt ∧ a1.toInt ≤ (3 : Int))) := hi18057
  have h18056 : 0 ≤ r18054.toInt ∧ r18054.toInt ≤ 1 := h18056
  refine b_if_eq C 28 dX11_comes_4 (by decide) (fun h18058 => ?_) (fun h18058 => ?_)
  · have h18058 : r18054.toInt = 0 := congrArg Int32.toInt h18058
    clear hi18057
    refine g_lv (lv' := []) [] rfl ?_
    exact J28 
  · have h18058 : r18054.toInt ≠ 0 := ti_ne h18058
    replace hi18057 := hi18057.resolve_left (by omega)
    refine g_aload_n C dX11_comes_7 rfl 0 rfl ?_
    refine g_iload_n C dX11_comes_8 rfl 2 rfl ?_
    refine g_iload_n C dX11_comes_9 rfl 3 rfl ?_
    refine g_callVI (rest := []) C mv_X11_136 [.int a2, .int a3] (s_X11_isLeaflet I ha0) (ha0).1 (ha0).2 rfl rfl (by decide) (Nat.le_of_ble_eq_true rfl) (by decide) dX11_comes_10 (fun r18059 Y18060 h18061 => ?_)
    obtain ⟨rfl, h18061⟩ := h18061
    obtain ⟨h18061, hi18062⟩ := h18061
    have hi18062 : r18059.toInt = 0 ∨ (((0 : Int) ≤ a2.toInt ∧ a2.toInt ≤ (1 : Int)) ∧ ((0 : Int) ≤ a3.toInt ∧ a3.toInt ≤ (9999 : Int))) := hi18062
    have h18061 : 0 ≤ r18059.toInt ∧ r18059.toInt ≤ 1 := h18061
    refine b_if_eq C 28 dX11_comes_13 (by decide) (fun h18063 => ?_) (fun h18063 => ?_)
    · have h18063 : r18059.toInt = 0 := congrArg Int32.toInt h18063
      clear hi18062
      refine g_lv (lv' := []) [] rfl ?_
      exact J28 
    · have h18063 : r18059.toInt ≠ 0 := ti_ne h18063
      replace hi18062 := hi18062.resolve_left (by omega)
      refine g_iload C dX11_comes_16 4 rfl ?_
      refine g_iconst (v := 1) C dX11_comes_18 (by decide) ?_
      have u18065 := ti_rng a4
      refine b_icmp_lt C 28 dX11_comes_19 (by decide) (fun h18064 => ?_) (fun h18064 => ?_)
      · have h18064 : a4.toInt < 1 := h18064
        refine g_lv (lv' := []) [] rfl ?_
        exact J28 
      · have h18064 : 1 ≤ a4.toInt := h18064
        refine g_iload C dX11_comes_22 4 rfl ?_
        refine g_iconst (v := 3) C dX11_comes_24 (by decide) ?_
        have u18067 := ti_rng a4
        refine b_icmp_le C 30 dX11_comes_25 (by decide) (fun h18066 => ?_) (fun h18066 => ?_)
        · have h18066 : a4.toInt ≤ 3 := h18066
          refine g_aload_n C dX11_comes_30 rfl 0 rfl ?_
          obtain ⟨b18068, e18069, h18070⟩ := I.fld (ha0) 1 19 4 rfl
          refine g_getR C fi_X11_17 rfl e18069 (ha0).1 (ha0).2 dX11_comes_31 ?_
          refine g_iload_n C dX11_comes_34 rfl 1 rfl ?_
          obtain ⟨b18071, e18072, h18073⟩ := I.elm h18070 (by decide) (a1.toInt.toNat) (by omega)
          refine g_aldR C h18070.1 h18070.2.1 (by decide) (ix_in h18070.2.2 (by omega)) e18072 dX11_comes_35 ?_
          refine g_aload_n C dX11_comes_36 rfl 0 rfl ?_
          obtain ⟨b18074, e18075, h18076⟩ := I.fld (ha0) 0 17 2 rfl
          refine g_getR C fi_X11_11 rfl e18075 (ha0).1 (ha0).2 dX11_comes_37 ?_
          refine g_iload_n C dX11_comes_40 rfl 2 rfl ?_
          obtain ⟨b18077, e18078, h18079⟩ := I.elm h18076 (by decide) (a2.toInt.toNat) (by omega)
          refine g_aldR C h18076.1 h18076.2.1 (by decide) (ix_in h18076.2.2 (by omega)) e18078 dX11_comes_41 ?_
          refine g_iload_n C dX11_comes_42 rfl 3 rfl ?_
          refine g_iload C dX11_comes_43 4 rfl ?_
          refine g_callVQ (rest := [.ref b18071]) C mv_X11_161 [.int a3, .int a4] (s_X1_leafletPaper I h18079) (h18079).1 (h18079).2 rfl rfl (by decide) (Nat.le_of_ble_eq_true rfl) (by decide) dX11_comes_45 (fun r18080 Y18081 h18082 => ?_)
          obtain ⟨Iy18083, Xy18084, h18082⟩ := h18082
          have Xz18085 : EK [1, 6, 7, 13] P Y18081 := Xy18084.mono (by decide)
          have h18086 := Xy18084.at ha0
          have h18087 := Xy18084.at h18073
          obtain ⟨b18089, rfl, h18082⟩ := h18082
          show G _ _ _ _ _ _ _ _ _ _ (.ref b18089 :: _)
          refine g_callVI (rest := []) C mv_X11_165 [.ref b18089] (s_X6_put Iy18083 h18087 h18082) (h18087).1 (h18087).2 rfl rfl (by decide) (Nat.le_of_ble_eq_true rfl) (by decide) dX11_comes_48 (fun r18090 Y18091 h18092 => ?_)
          obtain ⟨Iy18093, Xy18094, h18092⟩ := h18092
          have Xz18095 : EK [1, 6, 7, 13] P Y18091 := Xz18085.tr (Xy18094.mono (by decide))
          have h18096 := Xy18094.at h18086
          have h18092 : -1 ≤ r18090.toInt ∧ r18090.toInt ≤ 39 := h18092
          exact ret _ _ _ _ _ _ dX11_comes_51 rfl (by decide) (by decide) ⟨Iy18093, Xz18095, (by omega)⟩
        · have h18066 : 3 < a4.toInt := h18066
          refine g_lv (lv' := []) [] rfl ?_
          exact J28 
theorem dX11_count_0 : decode cX11_count 0 = .ok (.iload_n 1, 1) := by decide +kernel
theorem dX11_count_1 : decode cX11_count 1 = .ok (.invokestatic 158, 3) := by decide +kernel
theorem dX11_count_4 : decode cX11_count 4 = .ok (.ifCond .eq 13, 3) := by decide +kernel
theorem dX11_count_7 : decode cX11_count 7 = .ok (.aload_n 0, 1) := by decide +kernel
theorem dX11_count_8 : decode cX11_count 8 = .ok (.getfield 17, 3) := by decide +kernel
theorem dX11_count_11 : decode cX11_count 11 = .ok (.iload_n 1, 1) := by decide +kernel
theorem dX11_count_12 : decode cX11_count 12 = .ok (.aaload, 1) := by decide +kernel
theorem dX11_count_13 : decode cX11_count 13 = .ok (.getfield 336, 3) := by decide +kernel
theorem dX11_count_16 : decode cX11_count 16 = .ok (.ireturn, 1) := by decide +kernel
theorem dX11_count_17 : decode cX11_count 17 = .ok (.iload_n 1, 1) := by decide +kernel
theorem dX11_count_18 : decode cX11_count 18 = .ok (.tableswitch 75 4 8 #[34, 44, 54, 65, 70], 34) := by decide +kernel
theorem dX11_count_52 : decode cX11_count 52 = .ok (.aload_n 0, 1) := by decide +kernel
theorem dX11_count_53 : decode cX11_count 53 = .ok (.getfield 11, 3) := by decide +kernel
theorem dX11_count_56 : decode cX11_count 56 = .ok (.iconst 0, 1) := by decide +kernel
theorem dX11_count_57 : decode cX11_count 57 = .ok (.aaload, 1) := by decide +kernel
theorem dX11_count_58 : decode cX11_count 58 = .ok (.invokevirtual 233, 3) := by decide +kernel
theorem dX11_count_61 : decode cX11_count 61 = .ok (.ireturn, 1) := by decide +kernel
theorem dX11_count_62 : decode cX11_count 62 = .ok (.aload_n 0, 1) := by decide +kernel
theorem dX11_count_63 : decode cX11_count 63 = .ok (.getfield 11, 3) := by decide +kernel
theorem dX11_count_66 : decode cX11_count 66 = .ok (.iconst 1, 1) := by decide +kernel
theorem dX11_count_67 : decode cX11_count 67 = .ok (.aaload, 1) := by decide +kernel
theorem dX11_count_68 : decode cX11_count 68 = .ok (.invokevirtual 233, 3) := by decide +kernel
theorem dX11_count_71 : decode cX11_count 71 = .ok (.ireturn, 1) := by decide +kernel
theorem dX11_count_72 : decode cX11_count 72 = .ok (.aload_n 0, 1) := by decide +kernel
theorem dX11_count_73 : decode cX11_count 73 = .ok (.getfield 41, 3) := by decide +kernel
theorem dX11_count_76 : decode cX11_count 76 = .ok (.getfield 111, 3) := by decide +kernel
theorem dX11_count_79 : decode cX11_count 79 = .ok (.getfield 121, 3) := by decide +kernel
theorem dX11_count_82 : decode cX11_count 82 = .ok (.ireturn, 1) := by decide +kernel
theorem dX11_count_83 : decode cX11_count 83 = .ok (.aload_n 0, 1) := by decide +kernel
theorem dX11_count_84 : decode cX11_count 84 = .ok (.getfield 348, 3) := by decide +kernel
theorem dX11_count_87 : decode cX11_count 87 = .ok (.ireturn, 1) := by decide +kernel
theorem dX11_count_88 : decode cX11_count 88 = .ok (.aload_n 0, 1) := by decide +kernel
theorem dX11_count_89 : decode cX11_count 89 = .ok (.invokevirtual 330, 3) := by decide +kernel
theorem dX11_count_92 : decode cX11_count 92 = .ok (.ireturn, 1) := by decide +kernel
theorem dX11_count_93 : decode cX11_count 93 = .ok (.iconst (-1), 1) := by decide +kernel
theorem dX11_count_94 : decode cX11_count 94 = .ok (.ireturn, 1) := by decide +kernel
set_option maxHeartbeats 4000000 in
set_option maxRecDepth 100000 in
theorem s_X11_count {P : PP} {a0 : Nat} {a1 : Int32} (I : IV P) (ha0 : At P a0 11) : CtrI yX11_count cX11_count 2 (some Jvm.ClassFile.FieldType.int) ({ frames := 2, cells := 0, slots := 0, locals := 128 } : Room) 0 0 P [.ref a0, .int a1] (fun r P2 => P = P2 ∧ (True)) := by
  refine enI (lv := [(0, .ref a0), (1, .int a1)]) (by decide) (Nat.le_of_ble_eq_true rfl) rfl (fun E D cy C Ci0 ret => ?_)
  refine g_iload_n C dX11_count_0 rfl 1 rfl ?_
  refine g_callSI (b := 0) (ci := 0) (rest := []) C ms_X11_158 [.int a1] (s_X11_isQuarter I) rfl rfl (by decide) (Nat.le_of_ble_eq_true rfl) (by decide) dX11_count_1 (fun r18139 Y18140 h18141 => ?_)
  obtain ⟨rfl, h18141⟩ := h18141
  obtain ⟨h18141, hi18142⟩ := h18141
  have hi18142 : r18139.toInt = 0 ∨ (((0 : Int) ≤ a1.toInt ∧ a1.toInt ≤ (3 : Int))) := hi18142
  have h18141 : 0 ≤ r18139.toInt ∧ r18139.toInt ≤ 1 := h18141
  refine b_if_eq C 17 dX11_count_4 (by decide) (fun h18143 => ?_) (fun h18143 => ?_)
  · have h18143 : r18139.toInt = 0 := congrArg Int32.toInt h18143
    clear hi18142
    refine g_iload_n C dX11_count_17 rfl 1 rfl ?_
    by_cases h18144 : a1.toInt < 4 ∨ 8 < a1.toInt
    · refine g_tableOut C 93 dX11_count_18 h18144 (by decide) ?_
      refine g_iconst (v := (-1)) C dX11_count_93 (by decide) ?_
      exact ret _ _ _ _ _ _ dX11_count_94 rfl (by decide) (by decide) ⟨rfl, trivial⟩
    · rcases (show a1.toInt = 4 ∨ a1.toInt = 5 ∨ a1.toInt = 6 ∨ a1.toInt = 7 ∨ a1.toInt = 8 by omega) with h18145 | h18145 | h18145 | h18145 | h18145
      · refine g_tableIn C 52 dX11_count_18 (by omega) (by omega) (by rw [h18145]; rfl) (by decide) ?_
        refine g_aload_n C dX11_count_52 rfl 0 rfl ?_
        obtain ⟨b18146, e18147, h18148⟩ := I.fld (ha0) 0 17 2 rfl
        refine g_getR C fi_X11_11 rfl e18147 (ha0).1 (ha0).2 dX11_count_53 ?_
        refine g_iconst (v := 0) C dX11_count_56 (by decide) ?_
        obtain ⟨b18149, e18150, h18151⟩ := I.elm h18148 (by decide) 0 (by decide)
        refine g_aldR C h18148.1 h18148.2.1 (by decide) (IX.litn (j := 0) h18148.2.2 rfl (by decide) (by decide)) e18150 dX11_count_57 ?_
        refine g_callVI (rest := []) C mv_X11_233 [] (s_X1_all I h18151) (h18151).1 (h18151).2 rfl rfl (by decide) (Nat.le_of_ble_eq_true rfl) (by decide) dX11_count_58 (fun r18152 Y18153 h18154 => ?_)
        obtain ⟨rfl, h18154⟩ := h18154
        have h18154 : 0 ≤ r18152.toInt ∧ r18152.toInt ≤ 20 := h18154
        exact ret _ _ _ _ _ _ dX11_count_61 rfl (by decide) (by decide) ⟨rfl, trivial⟩
      · refine g_tableIn C 62 dX11_count_18 (by omega) (by omega) (by rw [h18145]; rfl) (by decide) ?_
        refine g_aload_n C dX11_count_62 rfl 0 rfl ?_
        obtain ⟨b18155, e18156, h18157⟩ := I.fld (ha0) 0 17 2 rfl
        refine g_getR C fi_X11_11 rfl e18156 (ha0).1 (ha0).2 dX11_count_63 ?_
        refine g_iconst (v := 1) C dX11_count_66 (by decide) ?_
        obtain ⟨b18158, e18159, h18160⟩ := I.elm h18157 (by decide) 1 (by decide)
        refine g_aldR C h18157.1 h18157.2.1 (by decide) (IX.litn (j := 1) h18157.2.2 rfl (by decide) (by decide)) e18159 dX11_count_67 ?_
        refine g_callVI (rest := []) C mv_X11_233 [] (s_X1_all I h18160) (h18160).1 (h18160).2 rfl rfl (by decide) (Nat.le_of_ble_eq_true rfl) (by decide) dX11_count_68 (fun r18161 Y18162 h18163 => ?_)
        obtain ⟨rfl, h18163⟩ := h18163
        have h18163 : 0 ≤ r18161.toInt ∧ r18161.toInt ≤ 20 := h18163
        exact ret _ _ _ _ _ _ dX11_count_71 rfl (by decide) (by decide) ⟨rfl, trivial⟩
      · refine g_tableIn C 72 dX11_count_18 (by omega) (by omega) (by rw [h18145]; rfl) (by decide) ?_
        refine g_aload_n C dX11_count_72 rfl 0 rfl ?_
        obtain ⟨b18164, e18165, h18166⟩ := I.fld (ha0) 7 4 0 rfl
        refine g_getR C fi_X11_41 rfl e18165 (ha0).1 (ha0).2 dX11_count_73 ?_
        obtain ⟨b18167, e18168, h18169⟩ := I.fld (h18166.at) 0 9 0 rfl
        refine g_getR C fi_X11_111 rfl e18168 (h18166.at).1 (h18166.at).2 dX11_count_76 ?_
        refine g_getI C fi_X11_121 (by decide) (h18169.at).1 (h18169.at).2 dX11_count_79 ?_
        have h18170 := I.rg (h18169.at) 1 rfl
        exact ret _ _ _ _ _ _ dX11_count_82 rfl (by decide) (by decide) ⟨rfl, trivial⟩
      · refine g_tableIn C 83 dX11_count_18 (by omega) (by omega) (by rw [h18145]; rfl) (by decide) ?_
        refine g_aload_n C dX11_count_83 rfl 0 rfl ?_
        refine g_getI C fi_X11_348 (by decide) (ha0).1 (ha0).2 dX11_count_84 ?_
        exact ret _ _ _ _ _ _ dX11_count_87 rfl (by decide) (by decide) ⟨rfl, trivial⟩
      · refine g_tableIn C 88 dX11_count_18 (by omega) (by omega) (by rw [h18145]; rfl) (by decide) ?_
        refine g_aload_n C dX11_count_88 rfl 0 rfl ?_
        refine g_callVI (rest := []) C mv_X11_330 [] (s_X11_allHouses I ha0) (ha0).1 (ha0).2 rfl rfl (by decide) (Nat.le_of_ble_eq_true rfl) (by decide) dX11_count_89 (fun r18171 Y18172 h18173 => ?_)
        obtain ⟨rfl, h18173⟩ := h18173
        have h18173 : True := h18173
        exact ret _ _ _ _ _ _ dX11_count_92 rfl (by decide) (by decide) ⟨rfl, trivial⟩
  · have h18143 : r18139.toInt ≠ 0 := ti_ne h18143
    replace hi18142 := hi18142.resolve_left (by omega)
    refine g_aload_n C dX11_count_7 rfl 0 rfl ?_
    obtain ⟨b18174, e18175, h18176⟩ := I.fld (ha0) 1 19 4 rfl
    refine g_getR C fi_X11_17 rfl e18175 (ha0).1 (ha0).2 dX11_count_8 ?_
    refine g_iload_n C dX11_count_11 rfl 1 rfl ?_
    obtain ⟨b18177, e18178, h18179⟩ := I.elm h18176 (by decide) (a1.toInt.toNat) (by omega)
    refine g_aldR C h18176.1 h18176.2.1 (by decide) (ix_in h18176.2.2 (by omega)) e18178 dX11_count_12 ?_
    refine g_getI C fi_X11_336 (by decide) (h18179).1 (h18179).2 dX11_count_13 ?_
    have h18180 := I.rg (h18179) 1 rfl
    exact ret _ _ _ _ _ _ dX11_count_16 rfl (by decide) (by decide) ⟨rfl, trivial⟩
theorem dX11_degree_0 : decode cX11_degree 0 = .ok (.aload_n 0, 1) := by decide +kernel
theorem dX11_degree_1 : decode cX11_degree 1 = .ok (.iload_n 1, 1) := by decide +kernel
theorem dX11_degree_2 : decode cX11_degree 2 = .ok (.invokevirtual 97, 3) := by decide +kernel
theorem dX11_degree_5 : decode cX11_degree 5 = .ok (.ifCond .eq 19, 3) := by decide +kernel
theorem dX11_degree_8 : decode cX11_degree 8 = .ok (.iload_n 2, 1) := by decide +kernel
theorem dX11_degree_9 : decode cX11_degree 9 = .ok (.iload_n 3, 1) := by decide +kernel
theorem dX11_degree_10 : decode cX11_degree 10 = .ok (.invokestatic 289, 3) := by decide +kernel
theorem dX11_degree_13 : decode cX11_degree 13 = .ok (.ifCond .eq 11, 3) := by decide +kernel
theorem dX11_degree_16 : decode cX11_degree 16 = .ok (.iload 4, 2) := by decide +kernel
theorem dX11_degree_18 : decode cX11_degree 18 = .ok (.invokestatic 249, 3) := by decide +kernel
theorem dX11_degree_21 : decode cX11_degree 21 = .ok (.ifCond .ne 5, 3) := by decide +kernel
theorem dX11_degree_24 : decode cX11_degree 24 = .ok (.iconst (-1), 1) := by decide +kernel
theorem dX11_degree_25 : decode cX11_degree 25 = .ok (.ireturn, 1) := by decide +kernel
theorem dX11_degree_26 : decode cX11_degree 26 = .ok (.aload_n 0, 1) := by decide +kernel
theorem dX11_degree_27 : decode cX11_degree 27 = .ok (.getfield 11, 3) := by decide +kernel
theorem dX11_degree_30 : decode cX11_degree 30 = .ok (.iload_n 1, 1) := by decide +kernel
theorem dX11_degree_31 : decode cX11_degree 31 = .ok (.aaload, 1) := by decide +kernel
theorem dX11_degree_32 : decode cX11_degree 32 = .ok (.astore 5, 2) := by decide +kernel
theorem dX11_degree_34 : decode cX11_degree 34 = .ok (.iconst 1, 1) := by decide +kernel
theorem dX11_degree_35 : decode cX11_degree 35 = .ok (.istore 6, 2) := by decide +kernel
theorem dX11_degree_37 : decode cX11_degree 37 = .ok (.iconst 0, 1) := by decide +kernel
theorem dX11_degree_38 : decode cX11_degree 38 = .ok (.istore 7, 2) := by decide +kernel
theorem dX11_degree_40 : decode cX11_degree 40 = .ok (.iload_n 3, 1) := by decide +kernel
theorem dX11_degree_41 : decode cX11_degree 41 = .ok (.aload 5, 2) := by decide +kernel
theorem dX11_degree_43 : decode cX11_degree 43 = .ok (.getfield 100, 3) := by decide +kernel
theorem dX11_degree_46 : decode cX11_degree 46 = .ok (.if_icmp .ge 7, 3) := by decide +kernel
theorem dX11_degree_49 : decode cX11_degree 49 = .ok (.iconst 0, 1) := by decide +kernel
theorem dX11_degree_50 : decode cX11_degree 50 = .ok (.goto 8, 3) := by decide +kernel
theorem dX11_degree_53 : decode cX11_degree 53 = .ok (.aload 5, 2) := by decide +kernel
theorem dX11_degree_55 : decode cX11_degree 55 = .ok (.invokevirtual 233, 3) := by decide +kernel
theorem dX11_degree_58 : decode cX11_degree 58 = .ok (.istore 8, 2) := by decide +kernel
theorem dX11_degree_60 : decode cX11_degree 60 = .ok (.iconst 1, 1) := by decide +kernel
theorem dX11_degree_61 : decode cX11_degree 61 = .ok (.istore 9, 2) := by decide +kernel
theorem dX11_degree_63 : decode cX11_degree 63 = .ok (.iload 9, 2) := by decide +kernel
theorem dX11_degree_65 : decode cX11_degree 65 = .ok (.iload 8, 2) := by decide +kernel
theorem dX11_degree_67 : decode cX11_degree 67 = .ok (.if_icmp .gt 52, 3) := by decide +kernel
theorem dX11_degree_70 : decode cX11_degree 70 = .ok (.aload_n 0, 1) := by decide +kernel
theorem dX11_degree_71 : decode cX11_degree 71 = .ok (.getfield 60, 3) := by decide +kernel
theorem dX11_degree_74 : decode cX11_degree 74 = .ok (.aload 5, 2) := by decide +kernel
theorem dX11_degree_76 : decode cX11_degree 76 = .ok (.iload_n 2, 1) := by decide +kernel
theorem dX11_degree_77 : decode cX11_degree 77 = .ok (.iload 4, 2) := by decide +kernel
theorem dX11_degree_79 : decode cX11_degree 79 = .ok (.iload 9, 2) := by decide +kernel
theorem dX11_degree_81 : decode cX11_degree 81 = .ok (.invokevirtual 292, 3) := by decide +kernel
theorem dX11_degree_84 : decode cX11_degree 84 = .ok (.aload_n 0, 1) := by decide +kernel
theorem dX11_degree_85 : decode cX11_degree 85 = .ok (.getfield 60, 3) := by decide +kernel
theorem dX11_degree_88 : decode cX11_degree 88 = .ok (.getfield 296, 3) := by decide +kernel
theorem dX11_degree_91 : decode cX11_degree 91 = .ok (.iload_n 3, 1) := by decide +kernel
theorem dX11_degree_92 : decode cX11_degree 92 = .ok (.iaload, 1) := by decide +kernel
theorem dX11_degree_93 : decode cX11_degree 93 = .ok (.iload 7, 2) := by decide +kernel
theorem dX11_degree_95 : decode cX11_degree 95 = .ok (.if_icmp .le 18, 3) := by decide +kernel
theorem dX11_degree_98 : decode cX11_degree 98 = .ok (.aload_n 0, 1) := by decide +kernel
theorem dX11_degree_99 : decode cX11_degree 99 = .ok (.getfield 60, 3) := by decide +kernel
theorem dX11_degree_102 : decode cX11_degree 102 = .ok (.getfield 296, 3) := by decide +kernel
theorem dX11_degree_105 : decode cX11_degree 105 = .ok (.iload_n 3, 1) := by decide +kernel
theorem dX11_degree_106 : decode cX11_degree 106 = .ok (.iaload, 1) := by decide +kernel
theorem dX11_degree_107 : decode cX11_degree 107 = .ok (.istore 7, 2) := by decide +kernel
theorem dX11_degree_109 : decode cX11_degree 109 = .ok (.iload 9, 2) := by decide +kernel
theorem dX11_degree_111 : decode cX11_degree 111 = .ok (.istore 6, 2) := by decide +kernel
theorem dX11_degree_113 : decode cX11_degree 113 = .ok (.iinc 9 1, 3) := by decide +kernel
theorem dX11_degree_116 : decode cX11_degree 116 = .ok (.goto (-53), 3) := by decide +kernel
theorem dX11_degree_119 : decode cX11_degree 119 = .ok (.iload 6, 2) := by decide +kernel
theorem dX11_degree_121 : decode cX11_degree 121 = .ok (.ireturn, 1) := by decide +kernel
set_option maxHeartbeats 4000000 in
set_option maxRecDepth 100000 in
theorem s_X11_degree {P : PP} {a0 : Nat} {a1 : Int32} {a2 : Int32} {a3 : Int32} {a4 : Int32} (I : IV P) (ha0 : At P a0 11) : CtrI yX11_degree cX11_degree 10 (some Jvm.ClassFile.FieldType.int) ({ frames := 16, cells := 0, slots := 0, locals := 1024 } : Room) 0 0 P [.ref a0, .int a1, .int a2, .int a3, .int a4] (fun r P2 => IV P2 ∧ EK [0, 1, 5, 8, 13] P P2 ∧ (-1 ≤ r.toInt ∧ r.toInt ≤ 20)) := by
  refine enI (lv := [(0, .ref a0), (1, .int a1), (2, .int a2), (3, .int a3), (4, .int a4)]) (by decide) (Nat.le_of_ble_eq_true rfl) rfl (fun E D cy C Ci0 ret => ?_)
  have J63 : ∀ (n63 : Nat) (P63 : PP) (b63_5 : Nat) (v63_6 : Int32) (v63_7 : Int32) (v63_8 : Int32) (v63_9 : Int32), (21 - v63_9.toInt).toNat < n63 → (IV P63) → (EK [0, 1, 5, 8, 13] P P63) → (1 ≤ a2.toInt ∧ a2.toInt ≤ 11) → (0 ≤ a3.toInt ∧ a3.toInt ≤ 11) → (At P63 b63_5 1) → (1 ≤ v63_6.toInt ∧ v63_6.toInt ≤ 20) → (0 ≤ v63_8.toInt ∧ v63_8.toInt ≤ 20) → (1 ≤ v63_9.toInt ∧ v63_9.toInt ≤ 21) → G E ({ frames := 16, cells := 0, slots := 0, locals := 1024 } : Room) D cy 10 P63 0 0 63 [(0, .ref a0), (2, .int a2), (3, .int a3), (4, .int a4), (5, .ref b63_5), (6, .int v63_6), (7, .int v63_7), (8, .int v63_8), (9, .int v63_9)] [] := by
    intro n63
    induction n63 with
    | zero => intro P63 b63_5 v63_6 v63_7 v63_8 v63_9 hm63 I63 X63 hv63_2 hv63_3 hb63_5 hv63_6 hv63_8 hv63_9; omega
    | succ n63 ih63 =>
      intro P63 b63_5 v63_6 v63_7 v63_8 v63_9 hm63 I63 X63 hv63_2 hv63_3 hb63_5 hv63_6 hv63_8 hv63_9
      have h18552 := X63.at ha0
      have J113 : ∀ (P113 : PP) (b113_5 : Nat) (v113_6 : Int32) (v113_7 : Int32), (IV P113) → (EK [0, 1, 5, 8, 13] P P113) → (1 ≤ a2.toInt ∧ a2.toInt ≤ 11) → (0 ≤ a3.toInt ∧ a3.toInt ≤ 11) → (At P113 b113_5 1) → (1 ≤ v113_6.toInt ∧ v113_6.toInt ≤ 20) → (1 ≤ v63_8.toInt ∧ v63_8.toInt ≤ 20) → (1 ≤ v63_9.toInt ∧ v63_9.toInt ≤ 20) → G E ({ frames := 16, cells := 0, slots := 0, locals := 1024 } : Room) D cy 10 P113 0 0 113 [(0, .ref a0), (2, .int a2), (3, .int a3), (4, .int a4), (5, .ref b113_5), (6, .int v113_6), (7, .int v113_7), (8, .int v63_8), (9, .int v63_9)] [] := by
        intro P113 b113_5 v113_6 v113_7 I113 X113 hv113_2 hv113_3 hb113_5 hv113_6 hv113_8 hv113_9
        have h18553 := X113.at ha0
        refine s_iinc (lv0 := [(0, .ref a0), (2, .int a2), (3, .int a3), (4, .int a4), (5, .ref b113_5), (6, .int v113_6), (7, .int v113_7), (8, .int v63_8)]) (m := 1) C dX11_degree_113 8 rfl (by decide) rfl (by decide) (by omega) (fun z18554 h18555 => ?_)
        have h18555 : z18554.toInt = v63_9.toInt + 1 := h18555
        refine g_goto C 63 dX11_degree_116 (by decide) ?_
        refine g_lv (lv' := [(0, .ref a0), (2, .int a2), (3, .int a3), (4, .int a4), (5, .ref b113_5), (6, .int v113_6), (7, .int v113_7), (8, .int v63_8), (9, .int z18554)]) [1, 2, 3, 4, 5, 6, 7, 8, 0] rfl ?_
        exact ih63 P113 b113_5 v113_6 v113_7 v63_8 z18554 (by omega) I113 X113 (by omega) (by omega) hb113_5 (by omega) (by omega) (by omega)
      refine g_iload C dX11_degree_63 8 rfl ?_
      refine g_iload C dX11_degree_65 7 rfl ?_
      refine b_icmp_gt C 119 dX11_degree_67 (by decide) (fun h18556 => ?_) (fun h18556 => ?_)
      · have h18556 : v63_8.toInt < v63_9.toInt := h18556
        refine g_iload C dX11_degree_119 5 rfl ?_
        exact ret _ _ _ _ _ _ dX11_degree_121 rfl (by decide) (by decide) ⟨I63, X63, (by omega)⟩
      · have h18556 : v63_9.toInt ≤ v63_8.toInt := h18556
        refine g_aload_n C dX11_degree_70 rfl 0 rfl ?_
        obtain ⟨b18557, e18558, h18559⟩ := I63.fld (h18552) 10 8 0 rfl
        refine g_getR C fi_X11_60 rfl e18558 (h18552).1 (h18552).2 dX11_degree_71 ?_
        refine g_aload C dX11_degree_74 4 rfl ?_
        refine g_iload_n C dX11_degree_76 rfl 1 rfl ?_
        refine g_iload C dX11_degree_77 3 rfl ?_
        refine g_iload C dX11_degree_79 8 rfl ?_
        refine g_callVV (rest := []) C mv_X11_292 [.ref b63_5, .int a2, .int a4, .int v63_9] (s_X8_tally I63 h18559.at hb63_5 (by omega) (by omega)) (h18559.at).1 (h18559.at).2 rfl rfl (by decide) (Nat.le_of_ble_eq_true rfl) (by decide) dX11_degree_81 (fun Y18561 h18562 => ?_)
        obtain ⟨Iy18563, Xy18564⟩ := h18562
        have Xz18565 : EK [0, 1, 5, 8, 13] P Y18561 := X63.tr (Xy18564.mono (by decide))
        have h18566 := Xy18564.at h18552
        have h18567 := Xy18564.at hb63_5
        refine g_aload_n C dX11_degree_84 rfl 0 rfl ?_
        obtain ⟨b18568, e18569, h18570⟩ := Iy18563.fld (h18566) 10 8 0 rfl
        refine g_getR C fi_X11_60 rfl e18569 (h18566).1 (h18566).2 dX11_degree_85 ?_
        obtain ⟨b18571, e18572, h18573⟩ := Iy18563.fld (h18570.at) 0 13 12 rfl
        refine g_getR C fi_X11_296 rfl e18572 (h18570.at).1 (h18570.at).2 dX11_degree_88 ?_
        refine g_iload_n C dX11_degree_91 rfl 2 rfl ?_
        refine g_iald (j := (a3.toInt.toNat)) C h18573.1 h18573.2.1 (ix_in h18573.2.2 (by omega)) dX11_degree_92 ?_
        refine g_topi (fun z18574 _ => ?_)
        refine g_iload C dX11_degree_93 6 rfl ?_
        have u18576 := ti_rng z18574
        have u18577 := ti_rng v63_7
        refine b_icmp_le C 113 dX11_degree_95 (by decide) (fun h18575 => ?_) (fun h18575 => ?_)
        · have h18575 : z18574.toInt ≤ v63_7.toInt := h18575
          exact J113 Y18561 b63_5 v63_6 v63_7 Iy18563 Xz18565 (by omega) (by omega) h18567 (by omega) (by omega) (by omega)
        · have h18575 : v63_7.toInt < z18574.toInt := h18575
          refine g_aload_n C dX11_degree_98 rfl 0 rfl ?_
          refine g_getR C fi_X11_60 rfl e18569 (h18566).1 (h18566).2 dX11_degree_99 ?_
          refine g_getR C fi_X11_296 rfl e18572 (h18570.at).1 (h18570.at).2 dX11_degree_102 ?_
          refine g_iload_n C dX11_degree_105 rfl 2 rfl ?_
          refine g_iald (j := (a3.toInt.toNat)) C h18573.1 h18573.2.1 (ix_in h18573.2.2 (by omega)) dX11_degree_106 ?_
          refine g_topi (fun z18578 _ => ?_)
          refine g_istore (lv' := [(7, .int z18578), (0, .ref a0), (2, .int a2), (3, .int a3), (4, .int a4), (5, .ref b63_5), (6, .int v63_6), (8, .int v63_8), (9, .int v63_9)]) C dX11_degree_107 (by decide) rfl ?_
          refine g_iload C dX11_degree_109 8 rfl ?_
          refine g_istore (lv' := [(6, .int v63_9), (7, .int z18578), (0, .ref a0), (2, .int a2), (3, .int a3), (4, .int a4), (5, .ref b63_5), (8, .int v63_8), (9, .int v63_9)]) C dX11_degree_111 (by decide) rfl ?_
          refine g_lv (lv' := [(0, .ref a0), (2, .int a2), (3, .int a3), (4, .int a4), (5, .ref b63_5), (6, .int v63_9), (7, .int z18578), (8, .int v63_8), (9, .int v63_9)]) [2, 3, 4, 5, 6, 0, 1, 7, 8] rfl ?_
          exact J113 Y18561 b63_5 v63_9 z18578 Iy18563 Xz18565 (by omega) (by omega) h18567 (by omega) (by omega) (by omega)
  have J58 : ∀ (b58_5 : Nat) (v58_s0 : Int32), (1 ≤ a2.toInt ∧ a2.toInt ≤ 11) → (0 ≤ a3.toInt ∧ a3.toInt ≤ 11) → (At P b58_5 1) → (0 ≤ v58_s0.toInt ∧ v58_s0.toInt ≤ 20) → (0 ≤ (pI P b58_5 5).toInt ∧ (pI P b58_5 5).toInt ≤ 16) → G E ({ frames := 16, cells := 0, slots := 0, locals := 1024 } : Room) D cy 10 P 0 0 58 [(0, .ref a0), (2, .int a2), (3, .int a3), (4, .int a4), (5, .ref b58_5), (6, .int 1), (7, .int 0)] [.int v58_s0] := by
    intro b58_5 v58_s0 hv58_2 hv58_3 hb58_5 hv58_s0 hq58_0
    refine g_istore (lv' := [(8, .int v58_s0), (0, .ref a0), (2, .int a2), (3, .int a3), (4, .int a4), (5, .ref b58_5), (6, .int 1), (7, .int 0)]) C dX11_degree_58 (by decide) rfl ?_
    refine g_iconst (v := 1) C dX11_degree_60 (by decide) ?_
    refine g_istore (lv' := [(9, .int 1), (8, .int v58_s0), (0, .ref a0), (2, .int a2), (3, .int a3), (4, .int a4), (5, .ref b58_5), (6, .int 1), (7, .int 0)]) C dX11_degree_61 (by decide) rfl ?_
    refine g_lv (lv' := [(0, .ref a0), (2, .int a2), (3, .int a3), (4, .int a4), (5, .ref b58_5), (6, .int 1), (7, .int 0), (8, .int v58_s0), (9, .int 1)]) [2, 3, 4, 5, 6, 7, 8, 1, 0] rfl ?_
    exact J63 _ P b58_5 1 0 v58_s0 1 (Nat.lt_succ_self _) I EK.rf (by omega) (by omega) hb58_5 (by decide) (by omega) (by decide)
  have J24 : G E ({ frames := 16, cells := 0, slots := 0, locals := 1024 } : Room) D cy 10 P 0 0 24 [] [] := by
    refine g_iconst (v := (-1)) C dX11_degree_24 (by decide) ?_
    exact ret _ _ _ _ _ _ dX11_degree_25 rfl (by decide) (by decide) ⟨I, EK.rf, (by decide)⟩
  refine g_aload_n C dX11_degree_0 rfl 0 rfl ?_
  refine g_iload_n C dX11_degree_1 rfl 1 rfl ?_
  refine g_callVI (rest := []) C mv_X11_97 [.int a1] (s_X11_isTold I ha0) (ha0).1 (ha0).2 rfl rfl (by decide) (Nat.le_of_ble_eq_true rfl) (by decide) dX11_degree_2 (fun r18579 Y18580 h18581 => ?_)
  obtain ⟨rfl, h18581⟩ := h18581
  obtain ⟨h18581, hi18582⟩ := h18581
  have hi18582 : r18579.toInt = 0 ∨ (((0 : Int) ≤ a1.toInt ∧ a1.toInt ≤ (1 : Int))) := hi18582
  have h18581 : 0 ≤ r18579.toInt ∧ r18579.toInt ≤ 1 := h18581
  refine b_if_eq C 24 dX11_degree_5 (by decide) (fun h18583 => ?_) (fun h18583 => ?_)
  · have h18583 : r18579.toInt = 0 := congrArg Int32.toInt h18583
    clear hi18582
    refine g_lv (lv' := []) [] rfl ?_
    exact J24 
  · have h18583 : r18579.toInt ≠ 0 := ti_ne h18583
    replace hi18582 := hi18582.resolve_left (by omega)
    refine g_iload_n C dX11_degree_8 rfl 2 rfl ?_
    refine g_iload_n C dX11_degree_9 rfl 3 rfl ?_
    refine g_callSI (b := 0) (ci := 0) (rest := []) C ms_X11_289 [.int a2, .int a3] (s_X11_isSetSize I) rfl rfl (by decide) (Nat.le_of_ble_eq_true rfl) (by decide) dX11_degree_10 (fun r18584 Y18585 h18586 => ?_)
    obtain ⟨rfl, h18586⟩ := h18586
    obtain ⟨h18586, hi18587⟩ := h18586
    have hi18587 : r18584.toInt = 0 ∨ (((1 : Int) ≤ a2.toInt ∧ a2.toInt ≤ (11 : Int)) ∧ ((0 : Int) ≤ a3.toInt ∧ a3.toInt ≤ (11 : Int))) := hi18587
    have h18586 : 0 ≤ r18584.toInt ∧ r18584.toInt ≤ 1 := h18586
    refine b_if_eq C 24 dX11_degree_13 (by decide) (fun h18588 => ?_) (fun h18588 => ?_)
    · have h18588 : r18584.toInt = 0 := congrArg Int32.toInt h18588
      clear hi18587
      refine g_lv (lv' := []) [] rfl ?_
      exact J24 
    · have h18588 : r18584.toInt ≠ 0 := ti_ne h18588
      replace hi18587 := hi18587.resolve_left (by omega)
      refine g_iload C dX11_degree_16 4 rfl ?_
      refine g_callSI (b := 0) (ci := 0) (rest := []) C ms_X11_249 [.int a4] (s_X11_isHow I) rfl rfl (by decide) (Nat.le_of_ble_eq_true rfl) (by decide) dX11_degree_18 (fun r18589 Y18590 h18591 => ?_)
      obtain ⟨rfl, h18591⟩ := h18591
      have h18591 : 0 ≤ r18589.toInt ∧ r18589.toInt ≤ 1 := h18591
      refine b_if_ne C 26 dX11_degree_21 (by decide) (fun h18592 => ?_) (fun h18592 => ?_)
      · have h18592 : r18589.toInt ≠ 0 := ti_ne h18592
        refine g_aload_n C dX11_degree_26 rfl 0 rfl ?_
        obtain ⟨b18593, e18594, h18595⟩ := I.fld (ha0) 0 17 2 rfl
        refine g_getR C fi_X11_11 rfl e18594 (ha0).1 (ha0).2 dX11_degree_27 ?_
        refine g_iload_n C dX11_degree_30 rfl 1 rfl ?_
        obtain ⟨b18596, e18597, h18598⟩ := I.elm h18595 (by decide) (a1.toInt.toNat) (by omega)
        refine g_aldR C h18595.1 h18595.2.1 (by decide) (ix_in h18595.2.2 (by omega)) e18597 dX11_degree_31 ?_
        refine g_astore (lv' := [(5, .ref b18596), (0, .ref a0), (1, .int a1), (2, .int a2), (3, .int a3), (4, .int a4)]) C dX11_degree_32 (by decide) rfl ?_
        refine g_iconst (v := 1) C dX11_degree_34 (by decide) ?_
        refine g_istore (lv' := [(6, .int 1), (5, .ref b18596), (0, .ref a0), (1, .int a1), (2, .int a2), (3, .int a3), (4, .int a4)]) C dX11_degree_35 (by decide) rfl ?_
        refine g_iconst (v := 0) C dX11_degree_37 (by decide) ?_
        refine g_istore (lv' := [(7, .int 0), (6, .int 1), (5, .ref b18596), (0, .ref a0), (1, .int a1), (2, .int a2), (3, .int a3), (4, .int a4)]) C dX11_degree_38 (by decide) rfl ?_
        refine g_iload_n C dX11_degree_40 rfl 6 rfl ?_
        refine g_aload C dX11_degree_41 2 rfl ?_
        refine g_getI C fi_X11_100 (by decide) (h18598).1 (h18598).2 dX11_degree_43 ?_
        have h18599 := I.rg (h18598) 5 rfl
        refine b_icmp_ge C 53 dX11_degree_46 (by decide) (fun h18600 => ?_) (fun h18600 => ?_)
        · have h18600 : (pI P b18596 5).toInt ≤ a3.toInt := h18600
          refine g_aload C dX11_degree_53 2 rfl ?_
          refine g_callVI (rest := []) C mv_X11_233 [] (s_X1_all I h18598) (h18598).1 (h18598).2 rfl rfl (by decide) (Nat.le_of_ble_eq_true rfl) (by decide) dX11_degree_55 (fun r18601 Y18602 h18603 => ?_)
          obtain ⟨rfl, h18603⟩ := h18603
          have h18603 : 0 ≤ r18601.toInt ∧ r18601.toInt ≤ 20 := h18603
          refine g_lv (lv' := [(0, .ref a0), (2, .int a2), (3, .int a3), (4, .int a4), (5, .ref b18596), (6, .int 1), (7, .int 0)]) [3, 5, 6, 7, 2, 1, 0] rfl ?_
          exact J58 b18596 r18601 (by omega) (by omega) h18598 (by omega) (by omega)
        · have h18600 : a3.toInt < (pI P b18596 5).toInt := h18600
          refine g_iconst (v := 0) C dX11_degree_49 (by decide) ?_
          refine g_goto C 58 dX11_degree_50 (by decide) ?_
          refine g_lv (lv' := [(0, .ref a0), (2, .int a2), (3, .int a3), (4, .int a4), (5, .ref b18596), (6, .int 1), (7, .int 0)]) [3, 5, 6, 7, 2, 1, 0] rfl ?_
          exact J58 b18596 0 (by omega) (by omega) h18598 (by decide) (by omega)
      · have h18592 : r18589.toInt = 0 := congrArg Int32.toInt h18592
        refine g_lv (lv' := []) [] rfl ?_
        exact J24 
theorem dX11_doubles_0 : decode cX11_doubles 0 = .ok (.iload_n 1, 1) := by decide +kernel
theorem dX11_doubles_1 : decode cX11_doubles 1 = .ok (.invokestatic 158, 3) := by decide +kernel
theorem dX11_doubles_4 : decode cX11_doubles 4 = .ok (.ifCond .eq 18, 3) := by decide +kernel
theorem dX11_doubles_7 : decode cX11_doubles 7 = .ok (.aload_n 0, 1) := by decide +kernel
theorem dX11_doubles_8 : decode cX11_doubles 8 = .ok (.iload_n 2, 1) := by decide +kernel
theorem dX11_doubles_9 : decode cX11_doubles 9 = .ok (.invokevirtual 97, 3) := by decide +kernel
theorem dX11_doubles_12 : decode cX11_doubles 12 = .ok (.ifCond .eq 10, 3) := by decide +kernel
theorem dX11_doubles_15 : decode cX11_doubles 15 = .ok (.iload_n 3, 1) := by decide +kernel
theorem dX11_doubles_16 : decode cX11_doubles 16 = .ok (.invokestatic 213, 3) := by decide +kernel
theorem dX11_isOctet_0 : decode cX11_isOctet 0 = .ok (.iload_n 0, 1) := by decide +kernel
theorem dX11_isOctet_1 : decode cX11_isOctet 1 = .ok (.ifCond .lt 12, 3) := by decide +kernel
theorem dX11_isOctet_4 : decode cX11_isOctet 4 = .ok (.iload_n 0, 1) := by decide +kernel
theorem dX11_isOctet_5 : decode cX11_isOctet 5 = .ok (.iconst 2, 1) := by decide +kernel
theorem dX11_isOctet_6 : decode cX11_isOctet 6 = .ok (.if_icmp .ge 7, 3) := by decide +kernel
theorem dX11_isOctet_9 : decode cX11_isOctet 9 = .ok (.iconst 1, 1) := by decide +kernel
theorem dX11_isOctet_10 : decode cX11_isOctet 10 = .ok (.goto 4, 3) := by decide +kernel
theorem dX11_isOctet_13 : decode cX11_isOctet 13 = .ok (.iconst 0, 1) := by decide +kernel
theorem dX11_isOctet_14 : decode cX11_isOctet 14 = .ok (.ireturn, 1) := by decide +kernel
set_option maxHeartbeats 4000000 in
set_option maxRecDepth 100000 in
theorem s_X11_isOctet {P : PP} {a0 : Int32} (I : IV P) : CtrI yX11_isOctet cX11_isOctet 1 (some Jvm.ClassFile.FieldType.boolean) ({ frames := 1, cells := 0, slots := 0, locals := 64 } : Room) 0 0 P [.int a0] (fun r P2 => P = P2 ∧ (0 ≤ r.toInt ∧ r.toInt ≤ 1) ∧ (r.toInt = 0 ∨ (((0 : Int) ≤ a0.toInt ∧ a0.toInt ≤ (1 : Int))))) := by
  refine enI (lv := [(0, .int a0)]) (by decide) (Nat.le_of_ble_eq_true rfl) rfl (fun E D cy C Ci0 ret => ?_)
  have J13 : G E ({ frames := 1, cells := 0, slots := 0, locals := 64 } : Room) D cy 1 P 0 0 13 [] [] := by
    refine g_iconst (v := 0) C dX11_isOctet_13 (by decide) ?_
    exact ret _ _ _ _ _ _ dX11_isOctet_14 rfl (by decide) (by decide) ⟨rfl, (by decide), Or.inl rfl⟩
  refine g_iload_n C dX11_isOctet_0 rfl 0 rfl ?_
  have u18619 := ti_rng a0
  refine b_if_lt C 13 dX11_isOctet_1 (by decide) (fun h18618 => ?_) (fun h18618 => ?_)
  · have h18618 : a0.toInt < 0 := h18618
    refine g_lv (lv' := []) [] rfl ?_
    exact J13 
  · have h18618 : 0 ≤ a0.toInt := h18618
    refine g_iload_n C dX11_isOctet_4 rfl 0 rfl ?_
    refine g_iconst (v := 2) C dX11_isOctet_5 (by decide) ?_
    have u18621 := ti_rng a0
    refine b_icmp_ge C 13 dX11_isOctet_6 (by decide) (fun h18620 => ?_) (fun h18620 => ?_)
    · have h18620 : 2 ≤ a0.toInt := h18620
      refine g_lv (lv' := []) [] rfl ?_
      exact J13 
    · have h18620 : a0.toInt < 2 := h18620
      refine g_iconst (v := 1) C dX11_isOctet_9 (by decide) ?_
      refine g_goto C 14 dX11_isOctet_10 (by decide) ?_
      exact ret _ _ _ _ _ _ dX11_isOctet_14 rfl (by decide) (by decide) ⟨rfl, (by decide), Or.inr (by omega)⟩
