theorem dX12_swap_0 : decode cX12_swap 0 = .ok (.aload_n 0, 1) := by decide +kernel
theorem dX12_swap_1 : decode cX12_swap 1 = .ok (.iconst 0, 1) := by decide +kernel
theorem dX12_swap_2 : decode cX12_swap 2 = .ok (.putfield 1, 3) := by decide +kernel
theorem dX12_swap_5 : decode cX12_swap 5 = .ok (.iload_n 1, 1) := by decide +kernel
theorem dX12_swap_6 : decode cX12_swap 6 = .ok (.invokestatic 278, 3) := by decide +kernel
theorem dX12_swap_9 : decode cX12_swap 9 = .ok (.ifCond .eq 25, 3) := by decide +kernel
theorem dX12_swap_12 : decode cX12_swap 12 = .ok (.iload_n 2, 1) := by decide +kernel
theorem dX12_swap_13 : decode cX12_swap 13 = .ok (.invokestatic 278, 3) := by decide +kernel
theorem dX12_swap_16 : decode cX12_swap 16 = .ok (.ifCond .eq 18, 3) := by decide +kernel
theorem dX12_swap_19 : decode cX12_swap 19 = .ok (.iload_n 1, 1) := by decide +kernel
theorem dX12_swap_20 : decode cX12_swap 20 = .ok (.iload_n 2, 1) := by decide +kernel
theorem dX12_swap_21 : decode cX12_swap 21 = .ok (.if_icmp .eq 13, 3) := by decide +kernel
theorem dX12_swap_24 : decode cX12_swap 24 = .ok (.iload_n 3, 1) := by decide +kernel
theorem dX12_swap_25 : decode cX12_swap 25 = .ok (.iconst 0, 1) := by decide +kernel
theorem dX12_swap_26 : decode cX12_swap 26 = .ok (.bipush 40, 2) := by decide +kernel
theorem dX12_swap_28 : decode cX12_swap 28 = .ok (.invokestatic 178, 3) := by decide +kernel
theorem dX12_swap_31 : decode cX12_swap 31 = .ok (.ifCond .ne 5, 3) := by decide +kernel
theorem dX12_swap_34 : decode cX12_swap 34 = .ok (.iconst (-1), 1) := by decide +kernel
theorem dX12_swap_35 : decode cX12_swap 35 = .ok (.ireturn, 1) := by decide +kernel
theorem dX12_swap_36 : decode cX12_swap 36 = .ok (.iconst 0, 1) := by decide +kernel
theorem dX12_swap_37 : decode cX12_swap 37 = .ok (.istore 4, 2) := by decide +kernel
theorem dX12_swap_39 : decode cX12_swap 39 = .ok (.iconst 0, 1) := by decide +kernel
theorem dX12_swap_40 : decode cX12_swap 40 = .ok (.istore 5, 2) := by decide +kernel
theorem dX12_swap_42 : decode cX12_swap 42 = .ok (.iload 5, 2) := by decide +kernel
theorem dX12_swap_44 : decode cX12_swap 44 = .ok (.aload_n 0, 1) := by decide +kernel
theorem dX12_swap_45 : decode cX12_swap 45 = .ok (.getfield 69, 3) := by decide +kernel
theorem dX12_swap_48 : decode cX12_swap 48 = .ok (.iload_n 1, 1) := by decide +kernel
theorem dX12_swap_49 : decode cX12_swap 49 = .ok (.iaload, 1) := by decide +kernel
theorem dX12_swap_50 : decode cX12_swap 50 = .ok (.if_icmp .ge 107, 3) := by decide +kernel
theorem dX12_swap_53 : decode cX12_swap 53 = .ok (.iload 4, 2) := by decide +kernel
theorem dX12_swap_55 : decode cX12_swap 55 = .ok (.iload_n 3, 1) := by decide +kernel
theorem dX12_swap_56 : decode cX12_swap 56 = .ok (.if_icmp .ge 101, 3) := by decide +kernel
theorem dX12_swap_59 : decode cX12_swap 59 = .ok (.bipush 40, 2) := by decide +kernel
theorem dX12_swap_61 : decode cX12_swap 61 = .ok (.iload_n 1, 1) := by decide +kernel
theorem dX12_swap_62 : decode cX12_swap 62 = .ok (.imul, 1) := by decide +kernel
theorem dX12_swap_63 : decode cX12_swap 63 = .ok (.iload 5, 2) := by decide +kernel
theorem dX12_swap_65 : decode cX12_swap 65 = .ok (.iadd, 1) := by decide +kernel
theorem dX12_swap_66 : decode cX12_swap 66 = .ok (.istore 6, 2) := by decide +kernel
theorem dX12_swap_68 : decode cX12_swap 68 = .ok (.aload_n 0, 1) := by decide +kernel
theorem dX12_swap_69 : decode cX12_swap 69 = .ok (.getfield 69, 3) := by decide +kernel
theorem dX12_swap_72 : decode cX12_swap 72 = .ok (.iload_n 2, 1) := by decide +kernel
theorem dX12_swap_73 : decode cX12_swap 73 = .ok (.iaload, 1) := by decide +kernel
theorem dX12_swap_74 : decode cX12_swap 74 = .ok (.bipush 40, 2) := by decide +kernel
theorem dX12_swap_76 : decode cX12_swap 76 = .ok (.if_icmp .ge 27, 3) := by decide +kernel
theorem dX12_swap_79 : decode cX12_swap 79 = .ok (.aload_n 0, 1) := by decide +kernel
theorem dX12_swap_80 : decode cX12_swap 80 = .ok (.getfield 75, 3) := by decide +kernel
theorem dX12_swap_83 : decode cX12_swap 83 = .ok (.iload 6, 2) := by decide +kernel
theorem dX12_swap_85 : decode cX12_swap 85 = .ok (.iaload, 1) := by decide +kernel
theorem dX12_swap_86 : decode cX12_swap 86 = .ok (.ifCond .ge 13, 3) := by decide +kernel
theorem dX12_swap_89 : decode cX12_swap 89 = .ok (.aload_n 0, 1) := by decide +kernel
theorem dX12_swap_90 : decode cX12_swap 90 = .ok (.iload_n 2, 1) := by decide +kernel
theorem dX12_swap_91 : decode cX12_swap 91 = .ok (.invokevirtual 295, 3) := by decide +kernel
theorem dX12_swap_94 : decode cX12_swap 94 = .ok (.bipush 6, 2) := by decide +kernel
theorem dX12_swap_96 : decode cX12_swap 96 = .ok (.if_icmp .ge 7, 3) := by decide +kernel
theorem dX12_swap_99 : decode cX12_swap 99 = .ok (.iconst 1, 1) := by decide +kernel
theorem dX12_swap_100 : decode cX12_swap 100 = .ok (.goto 4, 3) := by decide +kernel
theorem dX12_swap_103 : decode cX12_swap 103 = .ok (.iconst 0, 1) := by decide +kernel
theorem dX12_swap_104 : decode cX12_swap 104 = .ok (.istore 7, 2) := by decide +kernel
theorem dX12_swap_106 : decode cX12_swap 106 = .ok (.iload 7, 2) := by decide +kernel
theorem dX12_swap_108 : decode cX12_swap 108 = .ok (.ifCond .eq 43, 3) := by decide +kernel
theorem dX12_swap_111 : decode cX12_swap 111 = .ok (.aload_n 0, 1) := by decide +kernel
theorem dX12_swap_112 : decode cX12_swap 112 = .ok (.iload_n 2, 1) := by decide +kernel
theorem dX12_swap_113 : decode cX12_swap 113 = .ok (.iload 6, 2) := by decide +kernel
theorem dX12_swap_115 : decode cX12_swap 115 = .ok (.invokevirtual 405, 3) := by decide +kernel
theorem dX12_swap_118 : decode cX12_swap 118 = .ok (.ifCond .ne 33, 3) := by decide +kernel
theorem dX12_swap_121 : decode cX12_swap 121 = .ok (.aload_n 0, 1) := by decide +kernel
theorem dX12_swap_122 : decode cX12_swap 122 = .ok (.iload 6, 2) := by decide +kernel
theorem dX12_swap_124 : decode cX12_swap 124 = .ok (.bipush 40, 2) := by decide +kernel
theorem dX12_swap_126 : decode cX12_swap 126 = .ok (.iload_n 2, 1) := by decide +kernel
theorem dX12_swap_127 : decode cX12_swap 127 = .ok (.imul, 1) := by decide +kernel
theorem dX12_swap_128 : decode cX12_swap 128 = .ok (.aload_n 0, 1) := by decide +kernel
theorem dX12_swap_129 : decode cX12_swap 129 = .ok (.getfield 69, 3) := by decide +kernel
theorem dX12_swap_132 : decode cX12_swap 132 = .ok (.iload_n 2, 1) := by decide +kernel
theorem dX12_swap_133 : decode cX12_swap 133 = .ok (.iaload, 1) := by decide +kernel
theorem dX12_swap_134 : decode cX12_swap 134 = .ok (.iadd, 1) := by decide +kernel
theorem dX12_swap_135 : decode cX12_swap 135 = .ok (.invokevirtual 274, 3) := by decide +kernel
theorem dX12_swap_138 : decode cX12_swap 138 = .ok (.aload_n 0, 1) := by decide +kernel
theorem dX12_swap_139 : decode cX12_swap 139 = .ok (.getfield 69, 3) := by decide +kernel
theorem dX12_swap_142 : decode cX12_swap 142 = .ok (.iload_n 2, 1) := by decide +kernel
theorem dX12_swap_143 : decode cX12_swap 143 = .ok (.dup2, 1) := by decide +kernel
theorem dX12_swap_144 : decode cX12_swap 144 = .ok (.iaload, 1) := by decide +kernel
theorem dX12_swap_145 : decode cX12_swap 145 = .ok (.iconst 1, 1) := by decide +kernel
theorem dX12_swap_146 : decode cX12_swap 146 = .ok (.iadd, 1) := by decide +kernel
theorem dX12_swap_147 : decode cX12_swap 147 = .ok (.iastore, 1) := by decide +kernel
theorem dX12_swap_148 : decode cX12_swap 148 = .ok (.iinc 4 1, 3) := by decide +kernel
theorem dX12_swap_151 : decode cX12_swap 151 = .ok (.iinc 5 1, 3) := by decide +kernel
theorem dX12_swap_154 : decode cX12_swap 154 = .ok (.goto (-112), 3) := by decide +kernel
theorem dX12_swap_157 : decode cX12_swap 157 = .ok (.iload 4, 2) := by decide +kernel
theorem dX12_swap_159 : decode cX12_swap 159 = .ok (.ireturn, 1) := by decide +kernel
set_option maxHeartbeats 4000000 in
set_option maxRecDepth 100000 in
theorem s_X12_swap {P : PP} {a0 : Nat} {a1 : Int32} {a2 : Int32} {a3 : Int32} (I : IM P a0) : CtrI yX12_swap cX12_swap 8 (some Jvm.ClassFile.FieldType.int) ({ frames := 3, cells := 0, slots := 0, locals := 192 } : Room) 0 0 P [.ref a0, .int a1, .int a2, .int a3] (fun r P2 => IM P2 a0 ∧ EM [0, 20, 21, 22, 23, 24, 25] a0 P P2 ∧ (-1 ≤ r.toInt ∧ r.toInt ≤ 40)) := by
  refine enI (lv := [(0, .ref a0), (1, .int a1), (2, .int a2), (3, .int a3)]) (by decide) (Nat.le_of_ble_eq_true rfl) rfl (fun E D cy C Ci0 ret => ?_)
  have ha0 := I.2.1
  have J157 : ∀ (P157 : PP) (v157_4 : Int32), (IM P157 a0) → (EM [0, 20, 21, 22, 23, 24, 25] a0 P P157) → (0 ≤ v157_4.toInt ∧ v157_4.toInt ≤ 40) → (0 ≤ (pI P157 a0 0).toInt ∧ (pI P157 a0 0).toInt ≤ 0) → G E ({ frames := 3, cells := 0, slots := 0, locals := 192 } : Room) D cy 8 P157 0 0 157 [(4, .int v157_4)] [] := by
    intro P157 v157_4 I157 X157 hv157_4 hq157_0
    have h25774 := X157.at ha0
    refine g_iload C dX12_swap_157 0 rfl ?_
    exact ret _ _ _ _ _ _ dX12_swap_159 rfl (by decide) (by decide) ⟨I157, X157, (by omega)⟩
  have J42 : ∀ (n42 : Nat) (P42 : PP) (v42_4 : Int32) (v42_5 : Int32), (40 - v42_5.toInt).toNat < n42 → (IM P42 a0) → (EM [0, 20, 21, 22, 23, 24, 25] a0 P P42) → (0 ≤ a1.toInt ∧ a1.toInt ≤ 3) → (0 ≤ a2.toInt ∧ a2.toInt ≤ 3) → (0 ≤ a3.toInt ∧ a3.toInt ≤ 40) → (0 ≤ v42_4.toInt ∧ v42_4.toInt ≤ 40) → (0 ≤ v42_5.toInt ∧ v42_5.toInt ≤ 40) → (0 ≤ (pI P42 a0 0).toInt ∧ (pI P42 a0 0).toInt ≤ 0) → G E ({ frames := 3, cells := 0, slots := 0, locals := 192 } : Room) D cy 8 P42 0 0 42 [(0, .ref a0), (1, .int a1), (2, .int a2), (3, .int a3), (4, .int v42_4), (5, .int v42_5)] [] := by
    intro n42
    induction n42 with
    | zero => intro P42 v42_4 v42_5 hm42 I42 X42 hv42_1 hv42_2 hv42_3 hv42_4 hv42_5 hq42_0; omega
    | succ n42 ih42 =>
      intro P42 v42_4 v42_5 hm42 I42 X42 hv42_1 hv42_2 hv42_3 hv42_4 hv42_5 hq42_0
      have h25775 := X42.at ha0
      have J151 : ∀ (P151 : PP) (v151_4 : Int32), (IM P151 a0) → (EM [0, 20, 21, 22, 23, 24, 25] a0 P P151) → (0 ≤ a1.toInt ∧ a1.toInt ≤ 3) → (0 ≤ a2.toInt ∧ a2.toInt ≤ 3) → (1 ≤ a3.toInt ∧ a3.toInt ≤ 40) → (0 ≤ v151_4.toInt ∧ v151_4.toInt ≤ 40) → (0 ≤ v42_5.toInt ∧ v42_5.toInt ≤ 39) → (0 ≤ (pI P151 a0 0).toInt ∧ (pI P151 a0 0).toInt ≤ 0) → G E ({ frames := 3, cells := 0, slots := 0, locals := 192 } : Room) D cy 8 P151 0 0 151 [(0, .ref a0), (1, .int a1), (2, .int a2), (3, .int a3), (4, .int v151_4), (5, .int v42_5)] [] := by
        intro P151 v151_4 I151 X151 hv151_1 hv151_2 hv151_3 hv151_4 hv151_5 hq151_0
        have h25776 := X151.at ha0
        refine s_iinc (lv0 := [(0, .ref a0), (1, .int a1), (2, .int a2), (3, .int a3), (4, .int v151_4)]) (m := 1) C dX12_swap_151 5 rfl (by decide) rfl (by decide) (by omega) (fun z25777 h25778 => ?_)
        have h25778 : z25777.toInt = v42_5.toInt + 1 := h25778
        refine g_goto C 42 dX12_swap_154 (by decide) ?_
        refine g_lv (lv' := [(0, .ref a0), (1, .int a1), (2, .int a2), (3, .int a3), (4, .int v151_4), (5, .int z25777)]) [1, 2, 3, 4, 5, 0] rfl ?_
        exact ih42 P151 v151_4 z25777 (by omega) I151 X151 (by omega) (by omega) (by omega) (by omega) (by omega) (by omega)
      have J104 : ∀ (v104_6 : Int32) (v104_s0 : Int32), (0 ≤ a1.toInt ∧ a1.toInt ≤ 3) → (0 ≤ a2.toInt ∧ a2.toInt ≤ 3) → (1 ≤ a3.toInt ∧ a3.toInt ≤ 40) → (0 ≤ v42_4.toInt ∧ v42_4.toInt ≤ 39) → (0 ≤ v42_5.toInt ∧ v42_5.toInt ≤ 39) → (0 ≤ v104_6.toInt ∧ v104_6.toInt ≤ 159) → (0 ≤ v104_s0.toInt ∧ v104_s0.toInt ≤ 1) → (0 ≤ (pI P42 a0 0).toInt ∧ (pI P42 a0 0).toInt ≤ 0) → (∀ b, pR P42 a0 20 = some b → 1 ≤ (pI P42 b (a1.toInt.toNat)).toInt ∧ (pI P42 b (a1.toInt.toNat)).toInt ≤ 40) → (∀ b920, pR P42 a0 20 = some b920 → v104_s0.toInt = 0 ∨ (pI P42 b920 (a2.toInt.toNat)).toInt ≤ 39) → G E ({ frames := 3, cells := 0, slots := 0, locals := 192 } : Room) D cy 8 P42 0 0 104 [(0, .ref a0), (1, .int a1), (2, .int a2), (3, .int a3), (4, .int v42_4), (5, .int v42_5), (6, .int v104_6)] [.int v104_s0] := by
        intro v104_6 v104_s0 hv104_1 hv104_2 hv104_3 hv104_4 hv104_5 hv104_6 hv104_s0 hq104_0 hq104_1 rel104_0
        have h25779 := X42.at ha0
        obtain ⟨b25780, e25781, h25782⟩ := I42.fld (h25779) 20 13 20 rfl
        have hq104_1 := hq104_1 b25780 e25781
        have rel104_0 := rel104_0 b25780 e25781
        have h25783 := I42.arr e25781 rfl (a2.toInt.toNat)
        refine g_istore (lv' := [(7, .int v104_s0), (0, .ref a0), (1, .int a1), (2, .int a2), (3, .int a3), (4, .int v42_4), (5, .int v42_5), (6, .int v104_6)]) C dX12_swap_104 (by decide) rfl ?_
        refine g_iload C dX12_swap_106 0 rfl ?_
        refine b_if_eq C 151 dX12_swap_108 (by decide) (fun h25784 => ?_) (fun h25784 => ?_)
        · have h25784 : v104_s0.toInt = 0 := congrArg Int32.toInt h25784
          refine g_lv (lv' := [(0, .ref a0), (1, .int a1), (2, .int a2), (3, .int a3), (4, .int v42_4), (5, .int v42_5)]) [1, 2, 3, 4, 5, 6] rfl ?_
          exact J151 P42 v42_4 I42 X42 (by omega) (by omega) (by omega) (by omega) (by omega) (by omega)
        · have h25784 : v104_s0.toInt ≠ 0 := ti_ne h25784
          refine g_aload_n C dX12_swap_111 rfl 1 rfl ?_
          refine g_iload_n C dX12_swap_112 rfl 3 rfl ?_
          refine g_iload C dX12_swap_113 7 rfl ?_
          refine g_callVI (rest := []) C mv_X12_405 [.int a2, .int v104_6] (s_X12_hasAlike I42 (by omega) (by omega)) (h25779).1 (h25779).2 rfl rfl (by decide) (Nat.le_of_ble_eq_true rfl) (by decide) dX12_swap_115 (fun r25785 Y25786 h25787 => ?_)
          obtain ⟨rfl, h25787⟩ := h25787
          have h25787 : 0 ≤ r25785.toInt ∧ r25785.toInt ≤ 1 := h25787
          refine b_if_ne C 151 dX12_swap_118 (by decide) (fun h25788 => ?_) (fun h25788 => ?_)
          · have h25788 : r25785.toInt ≠ 0 := ti_ne h25788
            refine g_lv (lv' := [(0, .ref a0), (1, .int a1), (2, .int a2), (3, .int a3), (4, .int v42_4), (5, .int v42_5)]) [1, 2, 3, 4, 5, 6] rfl ?_
            exact J151 P42 v42_4 I42 X42 (by omega) (by omega) (by omega) (by omega) (by omega) (by omega)
          · have h25788 : r25785.toInt = 0 := congrArg Int32.toInt h25788
            refine g_aload_n C dX12_swap_121 rfl 1 rfl ?_
            refine g_iload C dX12_swap_122 7 rfl ?_
            refine g_bipush (v := 40) C dX12_swap_124 (by decide) ?_
            refine g_iload_n C dX12_swap_126 rfl 3 rfl ?_
            refine s_imul C dX12_swap_127 (by show -2147483648 ≤ 40 * a2.toInt ∧ 40 * a2.toInt ≤ 2147483647; omega) (fun z25789 h25790 => ?_)
            have h25790 : z25789.toInt = 40 * a2.toInt := h25790
            refine g_aload_n C dX12_swap_128 rfl 1 rfl ?_
            refine g_getR C fi_X12_69 rfl e25781 (h25779).1 (h25779).2 dX12_swap_129 ?_
            refine g_iload_n C dX12_swap_132 rfl 3 rfl ?_
            refine g_iald (j := (a2.toInt.toNat)) C h25782.1 h25782.2.1 (ix_in h25782.2.2 (by omega)) dX12_swap_133 ?_
            refine s_iadd C dX12_swap_134 (by show -2147483648 ≤ z25789.toInt + (pI P42 b25780 (a2.toInt.toNat)).toInt ∧ z25789.toInt + (pI P42 b25780 (a2.toInt.toNat)).toInt ≤ 2147483647; omega) (fun z25791 h25792 => ?_)
            have h25792 : z25791.toInt = z25789.toInt + (pI P42 b25780 (a2.toInt.toNat)).toInt := h25792
            refine g_callVV (rest := []) C mv_X12_274 [.int v104_6, .int z25791] (s_X12_moves I42 (by omega) (by omega)) (h25779).1 (h25779).2 rfl rfl (by decide) (Nat.le_of_ble_eq_true rfl) (by decide) dX12_swap_135 (fun Y25794 h25795 => ?_)
            obtain ⟨Iy25796, Xy25797⟩ := h25795
            have q25798 := Xy25797.keepF 0 (by decide)
            have q25799 := Xy25797.keepA e25781 (by decide) rfl (a1.toInt.toNat)
            have q25800 := Xy25797.keepA e25781 (by decide) rfl (a2.toInt.toNat)
            have Xz25801 : EM [0, 20, 21, 22, 23, 24, 25] a0 P Y25794 := EM.tr ha0 X42 (Xy25797.mono (by decide))
            have e25802 := Xy25797.ref h25779 (by decide) e25781
            have h25803 := Xy25797.at h25779
            have h25804 := Xy25797.ar h25782
            refine g_aload_n C dX12_swap_138 rfl 1 rfl ?_
            refine g_getR C fi_X12_69 rfl e25802 (h25803).1 (h25803).2 dX12_swap_139 ?_
            refine g_iload_n C dX12_swap_142 rfl 3 rfl ?_
            refine g_dup2_11 C dX12_swap_143 rfl rfl ?_
            refine g_iald (j := (a2.toInt.toNat)) C h25804.1 h25804.2.1 (ix_in h25804.2.2 (by omega)) dX12_swap_144 ?_
            refine g_iconst (v := 1) C dX12_swap_145 (by decide) ?_
            refine s_iadd C dX12_swap_146 (by show -2147483648 ≤ (pI Y25794 b25780 (a2.toInt.toNat)).toInt + 1 ∧ (pI Y25794 b25780 (a2.toInt.toNat)).toInt + 1 ≤ 2147483647; omega) (fun z25805 h25806 => ?_)
            have h25806 : z25805.toInt = (pI Y25794 b25780 (a2.toInt.toNat)).toInt + 1 := h25806
            refine g_iast (j := (a2.toInt.toNat)) C h25804.1 h25804.2.1 (ix_in h25804.2.2 (by omega)) dX12_swap_147 ?_
            refine gqW (ks := [20]) (Iy25796.setA e25802 h25804 (by decide) (arOk.of rfl (by omega))) (EM.setA Iy25796 e25802 rfl (by decide)) (fun Y25807 Iy25808 Xy25809 w25810 => ?_)
            have w25810 : (pI Y25807 b25780 (a2.toInt.toNat)).toInt = z25805.toInt := w25810
            have q25811 := Xy25809.keepF 0 (by decide)
            have Xz25812 : EM [0, 20, 21, 22, 23, 24, 25] a0 P Y25807 := EM.tr ha0 Xz25801 (Xy25809.mono (by decide))
            have e25813 := Xy25809.ref h25803 (by decide) e25802
            have h25814 := Xy25809.at h25803
            have h25815 := Xy25809.ar h25804
            refine s_iinc (lv0 := [(7, .int v104_s0), (0, .ref a0), (1, .int a1), (2, .int a2), (3, .int a3), (5, .int v42_5), (6, .int v104_6)]) (m := 1) C dX12_swap_148 5 rfl (by decide) rfl (by decide) (by omega) (fun z25816 h25817 => ?_)
            have h25817 : z25816.toInt = v42_4.toInt + 1 := h25817
            refine g_lv (lv' := [(0, .ref a0), (1, .int a1), (2, .int a2), (3, .int a3), (4, .int z25816), (5, .int v42_5)]) [2, 3, 4, 5, 0, 6] rfl ?_
            exact J151 Y25807 z25816 Iy25808 Xz25812 (by omega) (by omega) (by omega) (by omega) (by omega) (by omega)
      have J103 : ∀ (v103_6 : Int32), (0 ≤ a1.toInt ∧ a1.toInt ≤ 3) → (0 ≤ a2.toInt ∧ a2.toInt ≤ 3) → (1 ≤ a3.toInt ∧ a3.toInt ≤ 40) → (0 ≤ v42_4.toInt ∧ v42_4.toInt ≤ 39) → (0 ≤ v42_5.toInt ∧ v42_5.toInt ≤ 39) → (0 ≤ v103_6.toInt ∧ v103_6.toInt ≤ 159) → (0 ≤ (pI P42 a0 0).toInt ∧ (pI P42 a0 0).toInt ≤ 0) → (∀ b, pR P42 a0 20 = some b → 1 ≤ (pI P42 b (a1.toInt.toNat)).toInt ∧ (pI P42 b (a1.toInt.toNat)).toInt ≤ 40) → (∀ b, pR P42 a0 20 = some b → 0 ≤ (pI P42 b (a2.toInt.toNat)).toInt ∧ (pI P42 b (a2.toInt.toNat)).toInt ≤ 40) → G E ({ frames := 3, cells := 0, slots := 0, locals := 192 } : Room) D cy 8 P42 0 0 103 [(0, .ref a0), (1, .int a1), (2, .int a2), (3, .int a3), (4, .int v42_4), (5, .int v42_5), (6, .int v103_6)] [] := by
        intro v103_6 hv103_1 hv103_2 hv103_3 hv103_4 hv103_5 hv103_6 hq103_0 hq103_1 hq103_2
        have h25818 := X42.at ha0
        obtain ⟨b25819, e25820, h25821⟩ := I42.fld (h25818) 20 13 20 rfl
        have hq103_1 := hq103_1 b25819 e25820
        have hq103_2 := hq103_2 b25819 e25820
        refine g_iconst (v := 0) C dX12_swap_103 (by decide) ?_
        exact J104 v103_6 0 (by omega) (by omega) (by omega) (by omega) (by omega) (by omega) (by decide) (by omega) (fun b9 e9 => by rw [e25820] at e9; cases e9; omega) (by intro b920 e920; rw [e25820] at e920; cases e920; show 0 = 0 ∨ (pI P42 b25819 (a2.toInt.toNat)).toInt ≤ 39; omega)
      have J99 : ∀ (v99_6 : Int32), (0 ≤ a1.toInt ∧ a1.toInt ≤ 3) → (0 ≤ a2.toInt ∧ a2.toInt ≤ 3) → (1 ≤ a3.toInt ∧ a3.toInt ≤ 40) → (0 ≤ v42_4.toInt ∧ v42_4.toInt ≤ 39) → (0 ≤ v42_5.toInt ∧ v42_5.toInt ≤ 39) → (0 ≤ v99_6.toInt ∧ v99_6.toInt ≤ 159) → (0 ≤ (pI P42 a0 0).toInt ∧ (pI P42 a0 0).toInt ≤ 0) → (∀ b, pR P42 a0 20 = some b → 1 ≤ (pI P42 b (a1.toInt.toNat)).toInt ∧ (pI P42 b (a1.toInt.toNat)).toInt ≤ 40) → (∀ b, pR P42 a0 20 = some b → 0 ≤ (pI P42 b (a2.toInt.toNat)).toInt ∧ (pI P42 b (a2.toInt.toNat)).toInt ≤ 39) → G E ({ frames := 3, cells := 0, slots := 0, locals := 192 } : Room) D cy 8 P42 0 0 99 [(0, .ref a0), (1, .int a1), (2, .int a2), (3, .int a3), (4, .int v42_4), (5, .int v42_5), (6, .int v99_6)] [] := by
        intro v99_6 hv99_1 hv99_2 hv99_3 hv99_4 hv99_5 hv99_6 hq99_0 hq99_1 hq99_2
        have h25822 := X42.at ha0
        obtain ⟨b25823, e25824, h25825⟩ := I42.fld (h25822) 20 13 20 rfl
        have hq99_1 := hq99_1 b25823 e25824
        have hq99_2 := hq99_2 b25823 e25824
        refine g_iconst (v := 1) C dX12_swap_99 (by decide) ?_
        refine g_goto C 104 dX12_swap_100 (by decide) ?_
        exact J104 v99_6 1 (by omega) (by omega) (by omega) (by omega) (by omega) (by omega) (by decide) (by omega) (fun b9 e9 => by rw [e25824] at e9; cases e9; omega) (by intro b920 e920; rw [e25824] at e920; cases e920; show 1 = 0 ∨ (pI P42 b25823 (a2.toInt.toNat)).toInt ≤ 39; omega)
      refine g_iload C dX12_swap_42 5 rfl ?_
      refine g_aload_n C dX12_swap_44 rfl 0 rfl ?_
      obtain ⟨b25826, e25827, h25828⟩ := I42.fld (h25775) 20 13 20 rfl
      refine g_getR C fi_X12_69 rfl e25827 (h25775).1 (h25775).2 dX12_swap_45 ?_
      refine g_iload_n C dX12_swap_48 rfl 1 rfl ?_
      refine g_iald (j := (a1.toInt.toNat)) C h25828.1 h25828.2.1 (ix_in h25828.2.2 (by omega)) dX12_swap_49 ?_
      have h25829 := I42.arr e25827 rfl (a1.toInt.toNat)
      refine b_icmp_ge C 157 dX12_swap_50 (by decide) (fun h25830 => ?_) (fun h25830 => ?_)
      · have h25830 : (pI P42 b25826 (a1.toInt.toNat)).toInt ≤ v42_5.toInt := h25830
        refine g_lv (lv' := [(4, .int v42_4)]) [4] rfl ?_
        exact J157 P42 v42_4 I42 X42 (by omega) (by omega)
      · have h25830 : v42_5.toInt < (pI P42 b25826 (a1.toInt.toNat)).toInt := h25830
        refine g_iload C dX12_swap_53 4 rfl ?_
        refine g_iload_n C dX12_swap_55 rfl 3 rfl ?_
        refine b_icmp_ge C 157 dX12_swap_56 (by decide) (fun h25831 => ?_) (fun h25831 => ?_)
        · have h25831 : a3.toInt ≤ v42_4.toInt := h25831
          refine g_lv (lv' := [(4, .int v42_4)]) [4] rfl ?_
          exact J157 P42 v42_4 I42 X42 (by omega) (by omega)
        · have h25831 : v42_4.toInt < a3.toInt := h25831
          refine g_bipush (v := 40) C dX12_swap_59 (by decide) ?_
          refine g_iload_n C dX12_swap_61 rfl 1 rfl ?_
          refine s_imul C dX12_swap_62 (by show -2147483648 ≤ 40 * a1.toInt ∧ 40 * a1.toInt ≤ 2147483647; omega) (fun z25832 h25833 => ?_)
          have h25833 : z25832.toInt = 40 * a1.toInt := h25833
          refine g_iload C dX12_swap_63 5 rfl ?_
          refine s_iadd C dX12_swap_65 (by show -2147483648 ≤ z25832.toInt + v42_5.toInt ∧ z25832.toInt + v42_5.toInt ≤ 2147483647; omega) (fun z25834 h25835 => ?_)
          have h25835 : z25834.toInt = z25832.toInt + v42_5.toInt := h25835
          refine g_istore (lv' := [(6, .int z25834), (0, .ref a0), (1, .int a1), (2, .int a2), (3, .int a3), (4, .int v42_4), (5, .int v42_5)]) C dX12_swap_66 (by decide) rfl ?_
          refine g_aload_n C dX12_swap_68 rfl 1 rfl ?_
          refine g_getR C fi_X12_69 rfl e25827 (h25775).1 (h25775).2 dX12_swap_69 ?_
          refine g_iload_n C dX12_swap_72 rfl 3 rfl ?_
          refine g_iald (j := (a2.toInt.toNat)) C h25828.1 h25828.2.1 (ix_in h25828.2.2 (by omega)) dX12_swap_73 ?_
          have h25836 := I42.arr e25827 rfl (a2.toInt.toNat)
          refine g_bipush (v := 40) C dX12_swap_74 (by decide) ?_
          refine b_icmp_ge C 103 dX12_swap_76 (by decide) (fun h25837 => ?_) (fun h25837 => ?_)
          · have h25837 : 40 ≤ (pI P42 b25826 (a2.toInt.toNat)).toInt := h25837
            refine g_lv (lv' := [(0, .ref a0), (1, .int a1), (2, .int a2), (3, .int a3), (4, .int v42_4), (5, .int v42_5), (6, .int z25834)]) [1, 2, 3, 4, 5, 6, 0] rfl ?_
            exact J103 z25834 (by omega) (by omega) (by omega) (by omega) (by omega) (by omega) (by omega) (fun b9 e9 => by rw [e25827] at e9; cases e9; omega) (fun b9 e9 => by rw [e25827] at e9; cases e9; omega)
          · have h25837 : (pI P42 b25826 (a2.toInt.toNat)).toInt < 40 := h25837
            refine g_aload_n C dX12_swap_79 rfl 1 rfl ?_
            obtain ⟨b25838, e25839, h25840⟩ := I42.fld (h25775) 22 13 800 rfl
            refine g_getR C fi_X12_75 rfl e25839 (h25775).1 (h25775).2 dX12_swap_80 ?_
            refine g_iload C dX12_swap_83 0 rfl ?_
            refine g_iald (j := (z25834.toInt.toNat)) C h25840.1 h25840.2.1 (ix_in h25840.2.2 (by omega)) dX12_swap_85 ?_
            have h25841 := I42.arr e25839 rfl (z25834.toInt.toNat)
            refine b_if_ge C 99 dX12_swap_86 (by decide) (fun h25842 => ?_) (fun h25842 => ?_)
            · have h25842 : 0 ≤ (pI P42 b25838 (z25834.toInt.toNat)).toInt := h25842
              refine g_lv (lv' := [(0, .ref a0), (1, .int a1), (2, .int a2), (3, .int a3), (4, .int v42_4), (5, .int v42_5), (6, .int z25834)]) [1, 2, 3, 4, 5, 6, 0] rfl ?_
              exact J99 z25834 (by omega) (by omega) (by omega) (by omega) (by omega) (by omega) (by omega) (fun b9 e9 => by rw [e25827] at e9; cases e9; omega) (fun b9 e9 => by rw [e25827] at e9; cases e9; omega)
            · have h25842 : (pI P42 b25838 (z25834.toInt.toNat)).toInt < 0 := h25842
              refine g_aload_n C dX12_swap_89 rfl 1 rfl ?_
              refine g_iload_n C dX12_swap_90 rfl 3 rfl ?_
              refine g_callVI (rest := []) C mv_X12_295 [.int a2] (s_X12_namelessIn I42 (by omega)) (h25775).1 (h25775).2 rfl rfl (by decide) (Nat.le_of_ble_eq_true rfl) (by decide) dX12_swap_91 (fun r25843 Y25844 h25845 => ?_)
              obtain ⟨rfl, h25845⟩ := h25845
              have h25845 : True := h25845
              refine g_bipush (v := 6) C dX12_swap_94 (by decide) ?_
              have u25847 := ti_rng r25843
              refine b_icmp_ge C 103 dX12_swap_96 (by decide) (fun h25846 => ?_) (fun h25846 => ?_)
              · have h25846 : 6 ≤ r25843.toInt := h25846
                refine g_lv (lv' := [(0, .ref a0), (1, .int a1), (2, .int a2), (3, .int a3), (4, .int v42_4), (5, .int v42_5), (6, .int z25834)]) [1, 2, 3, 4, 5, 6, 0] rfl ?_
                exact J103 z25834 (by omega) (by omega) (by omega) (by omega) (by omega) (by omega) (by omega) (fun b9 e9 => by rw [e25827] at e9; cases e9; omega) (fun b9 e9 => by rw [e25827] at e9; cases e9; omega)
              · have h25846 : r25843.toInt < 6 := h25846
                refine g_lv (lv' := [(0, .ref a0), (1, .int a1), (2, .int a2), (3, .int a3), (4, .int v42_4), (5, .int v42_5), (6, .int z25834)]) [1, 2, 3, 4, 5, 6, 0] rfl ?_
                exact J99 z25834 (by omega) (by omega) (by omega) (by omega) (by omega) (by omega) (by omega) (fun b9 e9 => by rw [e25827] at e9; cases e9; omega) (fun b9 e9 => by rw [e25827] at e9; cases e9; omega)
  have J34 : ∀ (P34 : PP), (IM P34 a0) → (EM [0, 20, 21, 22, 23, 24, 25] a0 P P34) → (0 ≤ (pI P34 a0 0).toInt ∧ (pI P34 a0 0).toInt ≤ 0) → G E ({ frames := 3, cells := 0, slots := 0, locals := 192 } : Room) D cy 8 P34 0 0 34 [] [] := by
    intro P34 I34 X34 hq34_0
    have h25848 := X34.at ha0
    refine g_iconst (v := (-1)) C dX12_swap_34 (by decide) ?_
    exact ret _ _ _ _ _ _ dX12_swap_35 rfl (by decide) (by decide) ⟨I34, X34, (by decide)⟩
  refine g_aload_n C dX12_swap_0 rfl 0 rfl ?_
  refine g_iconst (v := 0) C dX12_swap_1 (by decide) ?_
  refine g_putI C fi_X12_1 rfl (ha0).1 (ha0).2 dX12_swap_2 ?_
  refine gqW (ks := [0]) (I.setI (rgOk.of rfl (by decide))) (EM.setI I (by decide)) (fun Y25849 Iy25850 Xy25851 w25852 => ?_)
  have w25852 : (pI Y25849 a0 0).toInt = 0 := w25852
  have Xz25853 : EM [0, 20, 21, 22, 23, 24, 25] a0 P Y25849 := Xy25851.mono (by decide)
  have h25854 := Xy25851.at ha0
  refine g_iload_n C dX12_swap_5 rfl 1 rfl ?_
  refine g_callSI (b := 0) (ci := 0) (rest := []) C ms_X12_278 [.int a1] (s_X12_isQuarter Iy25850.1) rfl rfl (by decide) (Nat.le_of_ble_eq_true rfl) (by decide) dX12_swap_6 (fun r25855 Y25856 h25857 => ?_)
  obtain ⟨rfl, h25857⟩ := h25857
  obtain ⟨h25857, hi25858⟩ := h25857
  have hi25858 : r25855.toInt = 0 ∨ (((0 : Int) ≤ a1.toInt ∧ a1.toInt ≤ (3 : Int))) := hi25858
  have h25857 : 0 ≤ r25855.toInt ∧ r25855.toInt ≤ 1 := h25857
  refine b_if_eq C 34 dX12_swap_9 (by decide) (fun h25859 => ?_) (fun h25859 => ?_)
  · have h25859 : r25855.toInt = 0 := congrArg Int32.toInt h25859
    clear hi25858
    refine g_lv (lv' := []) [] rfl ?_
    exact J34 Y25849 Iy25850 Xz25853 (by omega)
  · have h25859 : r25855.toInt ≠ 0 := ti_ne h25859
    replace hi25858 := hi25858.resolve_left (by omega)
    refine g_iload_n C dX12_swap_12 rfl 2 rfl ?_
    refine g_callSI (b := 0) (ci := 0) (rest := []) C ms_X12_278 [.int a2] (s_X12_isQuarter Iy25850.1) rfl rfl (by decide) (Nat.le_of_ble_eq_true rfl) (by decide) dX12_swap_13 (fun r25860 Y25861 h25862 => ?_)
    obtain ⟨rfl, h25862⟩ := h25862
    obtain ⟨h25862, hi25863⟩ := h25862
    have hi25863 : r25860.toInt = 0 ∨ (((0 : Int) ≤ a2.toInt ∧ a2.toInt ≤ (3 : Int))) := hi25863
    have h25862 : 0 ≤ r25860.toInt ∧ r25860.toInt ≤ 1 := h25862
    refine b_if_eq C 34 dX12_swap_16 (by decide) (fun h25864 => ?_) (fun h25864 => ?_)
    · have h25864 : r25860.toInt = 0 := congrArg Int32.toInt h25864
      clear hi25863
      refine g_lv (lv' := []) [] rfl ?_
      exact J34 Y25849 Iy25850 Xz25853 (by omega)
    · have h25864 : r25860.toInt ≠ 0 := ti_ne h25864
      replace hi25863 := hi25863.resolve_left (by omega)
      refine g_iload_n C dX12_swap_19 rfl 1 rfl ?_
      refine g_iload_n C dX12_swap_20 rfl 2 rfl ?_
      refine b_icmp_eq C 34 dX12_swap_21 (by decide) (fun h25865 => ?_) (fun h25865 => ?_)
      · have h25865 : a1.toInt = a2.toInt := congrArg Int32.toInt h25865
        refine g_lv (lv' := []) [] rfl ?_
        exact J34 Y25849 Iy25850 Xz25853 (by omega)
      · have h25865 : a1.toInt ≠ a2.toInt := ti_ne h25865
        refine g_iload_n C dX12_swap_24 rfl 3 rfl ?_
        refine g_iconst (v := 0) C dX12_swap_25 (by decide) ?_
        refine g_bipush (v := 40) C dX12_swap_26 (by decide) ?_
        refine g_callSI (b := 0) (ci := 0) (rest := []) C ms_X12_178 [.int a3, .int 0, .int 40] (s_X12_within Iy25850.1) rfl rfl (by decide) (Nat.le_of_ble_eq_true rfl) (by decide) dX12_swap_28 (fun r25866 Y25867 h25868 => ?_)
        obtain ⟨rfl, h25868⟩ := h25868
        obtain ⟨h25868, hi25869⟩ := h25868
        have hi25869 : r25866.toInt = 0 ∨ (0 ≤ a3.toInt ∧ a3.toInt ≤ 40) := hi25869
        have h25868 : 0 ≤ r25866.toInt ∧ r25866.toInt ≤ 1 := h25868
        refine b_if_ne C 36 dX12_swap_31 (by decide) (fun h25870 => ?_) (fun h25870 => ?_)
        · have h25870 : r25866.toInt ≠ 0 := ti_ne h25870
          replace hi25869 := hi25869.resolve_left (by omega)
          refine g_iconst (v := 0) C dX12_swap_36 (by decide) ?_
          refine g_istore (lv' := [(4, .int 0), (0, .ref a0), (1, .int a1), (2, .int a2), (3, .int a3)]) C dX12_swap_37 (by decide) rfl ?_
          refine g_iconst (v := 0) C dX12_swap_39 (by decide) ?_
          refine g_istore (lv' := [(5, .int 0), (4, .int 0), (0, .ref a0), (1, .int a1), (2, .int a2), (3, .int a3)]) C dX12_swap_40 (by decide) rfl ?_
          refine g_lv (lv' := [(0, .ref a0), (1, .int a1), (2, .int a2), (3, .int a3), (4, .int 0), (5, .int 0)]) [2, 3, 4, 5, 1, 0] rfl ?_
          exact J42 _ Y25849 0 0 (Nat.lt_succ_self _) Iy25850 Xz25853 (by omega) (by omega) (by omega) (by decide) (by decide) (by omega)
        · have h25870 : r25866.toInt = 0 := congrArg Int32.toInt h25870
          clear hi25869
          refine g_lv (lv' := []) [] rfl ?_
          exact J34 Y25849 Iy25850 Xz25853 (by omega)
theorem dX12_takeNumber_0 : decode cX12_takeNumber 0 = .ok (.aload_n 0, 1) := by decide +kernel
theorem dX12_takeNumber_1 : decode cX12_takeNumber 1 = .ok (.getfield 162, 3) := by decide +kernel
theorem dX12_takeNumber_4 : decode cX12_takeNumber 4 = .ok (.ifCond .ne 24, 3) := by decide +kernel
theorem dX12_takeNumber_7 : decode cX12_takeNumber 7 = .ok (.aload_n 0, 1) := by decide +kernel
theorem dX12_takeNumber_8 : decode cX12_takeNumber 8 = .ok (.getfield 24, 3) := by decide +kernel
theorem dX12_takeNumber_11 : decode cX12_takeNumber 11 = .ok (.aload_n 0, 1) := by decide +kernel
theorem dX12_takeNumber_12 : decode cX12_takeNumber 12 = .ok (.getfield 159, 3) := by decide +kernel
theorem dX12_takeNumber_15 : decode cX12_takeNumber 15 = .ok (.iaload, 1) := by decide +kernel
theorem dX12_takeNumber_16 : decode cX12_takeNumber 16 = .ok (.iconst 2, 1) := by decide +kernel
theorem dX12_takeNumber_17 : decode cX12_takeNumber 17 = .ok (.if_icmp .eq 11, 3) := by decide +kernel
theorem dX12_takeNumber_20 : decode cX12_takeNumber 20 = .ok (.aload_n 0, 1) := by decide +kernel
theorem dX12_takeNumber_21 : decode cX12_takeNumber 21 = .ok (.iconst 1, 1) := by decide +kernel
theorem dX12_takeNumber_22 : decode cX12_takeNumber 22 = .ok (.invokevirtual 168, 3) := by decide +kernel
theorem dX12_takeNumber_25 : decode cX12_takeNumber 25 = .ok (.goto 45, 3) := by decide +kernel
theorem dX12_takeNumber_28 : decode cX12_takeNumber 28 = .ok (.aload_n 0, 1) := by decide +kernel
theorem dX12_takeNumber_29 : decode cX12_takeNumber 29 = .ok (.getfield 162, 3) := by decide +kernel
theorem dX12_takeNumber_32 : decode cX12_takeNumber 32 = .ok (.ifCond .ne 38, 3) := by decide +kernel
theorem dX12_takeNumber_35 : decode cX12_takeNumber 35 = .ok (.aload_n 0, 1) := by decide +kernel
theorem dX12_takeNumber_36 : decode cX12_takeNumber 36 = .ok (.getfield 30, 3) := by decide +kernel
theorem dX12_takeNumber_39 : decode cX12_takeNumber 39 = .ok (.aload_n 0, 1) := by decide +kernel
theorem dX12_takeNumber_40 : decode cX12_takeNumber 40 = .ok (.getfield 159, 3) := by decide +kernel
theorem dX12_takeNumber_43 : decode cX12_takeNumber 43 = .ok (.laload, 1) := by decide +kernel
theorem dX12_takeNumber_44 : decode cX12_takeNumber 44 = .ok (.iload_n 1, 1) := by decide +kernel
theorem dX12_takeNumber_45 : decode cX12_takeNumber 45 = .ok (.i2l, 1) := by decide +kernel
theorem dX12_takeNumber_46 : decode cX12_takeNumber 46 = .ok (.lcmp, 1) := by decide +kernel
theorem dX12_takeNumber_47 : decode cX12_takeNumber 47 = .ok (.ifCond .lt 18, 3) := by decide +kernel
theorem dX12_takeNumber_50 : decode cX12_takeNumber 50 = .ok (.aload_n 0, 1) := by decide +kernel
theorem dX12_takeNumber_51 : decode cX12_takeNumber 51 = .ok (.getfield 30, 3) := by decide +kernel
theorem dX12_takeNumber_54 : decode cX12_takeNumber 54 = .ok (.aload_n 0, 1) := by decide +kernel
theorem dX12_takeNumber_55 : decode cX12_takeNumber 55 = .ok (.getfield 159, 3) := by decide +kernel
theorem dX12_takeNumber_58 : decode cX12_takeNumber 58 = .ok (.laload, 1) := by decide +kernel
theorem dX12_takeNumber_59 : decode cX12_takeNumber 59 = .ok (.iload_n 2, 1) := by decide +kernel
theorem dX12_takeNumber_60 : decode cX12_takeNumber 60 = .ok (.i2l, 1) := by decide +kernel
theorem dX12_takeNumber_61 : decode cX12_takeNumber 61 = .ok (.lcmp, 1) := by decide +kernel
theorem dX12_takeNumber_62 : decode cX12_takeNumber 62 = .ok (.ifCond .le 8, 3) := by decide +kernel
theorem dX12_takeNumber_70 : decode cX12_takeNumber 70 = .ok (.aload_n 0, 1) := by decide +kernel
theorem dX12_takeNumber_71 : decode cX12_takeNumber 71 = .ok (.getfield 162, 3) := by decide +kernel
theorem dX12_takeNumber_74 : decode cX12_takeNumber 74 = .ok (.ifCond .le 5, 3) := by decide +kernel
theorem dX12_takeNumber_79 : decode cX12_takeNumber 79 = .ok (.aload_n 0, 1) := by decide +kernel
theorem dX12_takeNumber_80 : decode cX12_takeNumber 80 = .ok (.dup, 1) := by decide +kernel
theorem dX12_takeNumber_81 : decode cX12_takeNumber 81 = .ok (.getfield 159, 3) := by decide +kernel
theorem dX12_takeNumber_84 : decode cX12_takeNumber 84 = .ok (.iconst 1, 1) := by decide +kernel
theorem dX12_takeNumber_85 : decode cX12_takeNumber 85 = .ok (.iadd, 1) := by decide +kernel
theorem dX12_takeNumber_86 : decode cX12_takeNumber 86 = .ok (.putfield 159, 3) := by decide +kernel
theorem dX12_takeSign_0 : decode cX12_takeSign 0 = .ok (.aload_n 0, 1) := by decide +kernel
theorem dX12_takeSign_1 : decode cX12_takeSign 1 = .ok (.iload_n 1, 1) := by decide +kernel
theorem dX12_takeSign_2 : decode cX12_takeSign 2 = .ok (.invokevirtual 165, 3) := by decide +kernel
theorem dX12_takeSign_5 : decode cX12_takeSign 5 = .ok (.ifCond .eq 16, 3) := by decide +kernel
theorem dX12_takeSign_8 : decode cX12_takeSign 8 = .ok (.aload_n 0, 1) := by decide +kernel
theorem dX12_takeSign_9 : decode cX12_takeSign 9 = .ok (.dup, 1) := by decide +kernel
theorem dX12_takeSign_10 : decode cX12_takeSign 10 = .ok (.getfield 159, 3) := by decide +kernel
theorem dX12_takeSign_13 : decode cX12_takeSign 13 = .ok (.iconst 1, 1) := by decide +kernel
theorem dX12_takeSign_14 : decode cX12_takeSign 14 = .ok (.iadd, 1) := by decide +kernel
theorem dX12_takeSign_15 : decode cX12_takeSign 15 = .ok (.putfield 159, 3) := by decide +kernel
theorem dX12_takeSign_21 : decode cX12_takeSign 21 = .ok (.aload_n 0, 1) := by decide +kernel
theorem dX12_takeSign_22 : decode cX12_takeSign 22 = .ok (.iconst 1, 1) := by decide +kernel
theorem dX12_takeSign_23 : decode cX12_takeSign 23 = .ok (.invokevirtual 168, 3) := by decide +kernel
theorem dX12_takeSign_26 : decode cX12_takeSign 26 = .ok (.return_, 1) := by decide +kernel
theorem dX12_tocome_0 : decode cX12_tocome 0 = .ok (.aload_n 0, 1) := by decide +kernel
theorem dX12_tocome_1 : decode cX12_tocome 1 = .ok (.iconst 0, 1) := by decide +kernel
theorem dX12_tocome_2 : decode cX12_tocome 2 = .ok (.putfield 1, 3) := by decide +kernel
theorem dX12_tocome_5 : decode cX12_tocome 5 = .ok (.iload_n 1, 1) := by decide +kernel
theorem dX12_tocome_6 : decode cX12_tocome 6 = .ok (.invokestatic 278, 3) := by decide +kernel
theorem dX12_tocome_9 : decode cX12_tocome 9 = .ok (.ifCond .eq 20, 3) := by decide +kernel
theorem dX12_tocome_12 : decode cX12_tocome 12 = .ok (.aload_n 0, 1) := by decide +kernel
theorem dX12_tocome_13 : decode cX12_tocome 13 = .ok (.iload_n 2, 1) := by decide +kernel
theorem dX12_tocome_14 : decode cX12_tocome 14 = .ok (.invokevirtual 192, 3) := by decide +kernel
theorem dX12_tocome_17 : decode cX12_tocome 17 = .ok (.ifCond .eq 12, 3) := by decide +kernel
theorem dX12_tocome_20 : decode cX12_tocome 20 = .ok (.iload_n 3, 1) := by decide +kernel
theorem dX12_tocome_21 : decode cX12_tocome 21 = .ok (.iconst 0, 1) := by decide +kernel
theorem dX12_tocome_22 : decode cX12_tocome 22 = .ok (.iconst 1, 1) := by decide +kernel
theorem dX12_tocome_23 : decode cX12_tocome 23 = .ok (.invokestatic 178, 3) := by decide +kernel
theorem dX12_tocome_26 : decode cX12_tocome 26 = .ok (.ifCond .ne 5, 3) := by decide +kernel
theorem dX12_tocome_29 : decode cX12_tocome 29 = .ok (.iconst (-1), 1) := by decide +kernel
theorem dX12_tocome_30 : decode cX12_tocome 30 = .ok (.ireturn, 1) := by decide +kernel
theorem dX12_tocome_31 : decode cX12_tocome 31 = .ok (.aload_n 0, 1) := by decide +kernel
theorem dX12_tocome_32 : decode cX12_tocome 32 = .ok (.invokevirtual 336, 3) := by decide +kernel
theorem dX12_tocome_35 : decode cX12_tocome 35 = .ok (.iconst (-1), 1) := by decide +kernel
theorem dX12_tocome_36 : decode cX12_tocome 36 = .ok (.istore 4, 2) := by decide +kernel
theorem dX12_tocome_38 : decode cX12_tocome 38 = .ok (.iconst 0, 1) := by decide +kernel
theorem dX12_tocome_39 : decode cX12_tocome 39 = .ok (.istore 5, 2) := by decide +kernel
theorem dX12_tocome_41 : decode cX12_tocome 41 = .ok (.iload 5, 2) := by decide +kernel
theorem dX12_tocome_43 : decode cX12_tocome 43 = .ok (.sipush 2048, 3) := by decide +kernel
theorem dX12_tocome_46 : decode cX12_tocome 46 = .ok (.if_icmp .ge 47, 3) := by decide +kernel
theorem dX12_tocome_49 : decode cX12_tocome 49 = .ok (.iload 4, 2) := by decide +kernel
theorem dX12_tocome_51 : decode cX12_tocome 51 = .ok (.ifCond .lt 16, 3) := by decide +kernel
theorem dX12_tocome_67 : decode cX12_tocome 67 = .ok (.aload_n 0, 1) := by decide +kernel
theorem dX12_tocome_68 : decode cX12_tocome 68 = .ok (.iload_n 1, 1) := by decide +kernel
theorem dX12_tocome_69 : decode cX12_tocome 69 = .ok (.iload_n 2, 1) := by decide +kernel
theorem dX12_tocome_70 : decode cX12_tocome 70 = .ok (.iload 5, 2) := by decide +kernel
theorem dX12_tocome_72 : decode cX12_tocome 72 = .ok (.invokevirtual 374, 3) := by decide +kernel
theorem dX12_told_0 : decode cX12_told 0 = .ok (.aload_n 0, 1) := by decide +kernel
theorem dX12_told_1 : decode cX12_told 1 = .ok (.iconst 0, 1) := by decide +kernel
theorem dX12_told_2 : decode cX12_told 2 = .ok (.putfield 1, 3) := by decide +kernel
theorem dX12_told_5 : decode cX12_told 5 = .ok (.aload_n 0, 1) := by decide +kernel
theorem dX12_told_6 : decode cX12_told 6 = .ok (.iload_n 1, 1) := by decide +kernel
theorem dX12_told_7 : decode cX12_told 7 = .ok (.invokevirtual 192, 3) := by decide +kernel
theorem dX12_told_10 : decode cX12_told 10 = .ok (.ifCond .eq 27, 3) := by decide +kernel
theorem dX12_told_13 : decode cX12_told 13 = .ok (.iload_n 2, 1) := by decide +kernel
theorem dX12_told_14 : decode cX12_told 14 = .ok (.iconst 0, 1) := by decide +kernel
theorem dX12_told_15 : decode cX12_told 15 = .ok (.aload_n 0, 1) := by decide +kernel
theorem dX12_told_16 : decode cX12_told 16 = .ok (.iload_n 1, 1) := by decide +kernel
theorem dX12_told_17 : decode cX12_told 17 = .ok (.invokevirtual 238, 3) := by decide +kernel
theorem dX12_told_20 : decode cX12_told 20 = .ok (.iconst 1, 1) := by decide +kernel
theorem dX12_told_21 : decode cX12_told 21 = .ok (.isub, 1) := by decide +kernel
theorem dX12_told_22 : decode cX12_told 22 = .ok (.invokestatic 178, 3) := by decide +kernel
theorem dX12_told_25 : decode cX12_told 25 = .ok (.ifCond .eq 12, 3) := by decide +kernel
theorem dX12_told_28 : decode cX12_told 28 = .ok (.aload_n 0, 1) := by decide +kernel
theorem dX12_told_29 : decode cX12_told 29 = .ok (.iload_n 1, 1) := by decide +kernel
theorem dX12_told_30 : decode cX12_told 30 = .ok (.iload_n 2, 1) := by decide +kernel
theorem dX12_told_31 : decode cX12_told 31 = .ok (.invokevirtual 271, 3) := by decide +kernel
theorem dX12_valueOf_0 : decode cX12_valueOf 0 = .ok (.iload_n 2, 1) := by decide +kernel
theorem dX12_valueOf_1 : decode cX12_valueOf 1 = .ok (.aload_n 0, 1) := by decide +kernel
theorem dX12_valueOf_2 : decode cX12_valueOf 2 = .ok (.getfield 45, 3) := by decide +kernel
theorem dX12_valueOf_5 : decode cX12_valueOf 5 = .ok (.iload_n 1, 1) := by decide +kernel
theorem dX12_valueOf_6 : decode cX12_valueOf 6 = .ok (.iaload, 1) := by decide +kernel
theorem dX12_valueOf_7 : decode cX12_valueOf 7 = .ok (.if_icmp .ge 15, 3) := by decide +kernel
theorem dX12_valueOf_10 : decode cX12_valueOf 10 = .ok (.aload_n 0, 1) := by decide +kernel
theorem dX12_valueOf_11 : decode cX12_valueOf 11 = .ok (.getfield 48, 3) := by decide +kernel
theorem dX12_valueOf_14 : decode cX12_valueOf 14 = .ok (.bipush 16, 2) := by decide +kernel
theorem dX12_valueOf_16 : decode cX12_valueOf 16 = .ok (.iload_n 1, 1) := by decide +kernel
theorem dX12_valueOf_17 : decode cX12_valueOf 17 = .ok (.imul, 1) := by decide +kernel
theorem dX12_valueOf_18 : decode cX12_valueOf 18 = .ok (.iload_n 2, 1) := by decide +kernel
theorem dX12_valueOf_19 : decode cX12_valueOf 19 = .ok (.iadd, 1) := by decide +kernel
theorem dX12_valueOf_20 : decode cX12_valueOf 20 = .ok (.iaload, 1) := by decide +kernel
theorem dX12_valueOf_21 : decode cX12_valueOf 21 = .ok (.ireturn, 1) := by decide +kernel
theorem dX12_valueOf_22 : decode cX12_valueOf 22 = .ok (.aload_n 0, 1) := by decide +kernel
theorem dX12_valueOf_23 : decode cX12_valueOf 23 = .ok (.iload_n 1, 1) := by decide +kernel
theorem dX12_valueOf_24 : decode cX12_valueOf 24 = .ok (.aload_n 0, 1) := by decide +kernel
theorem dX12_valueOf_25 : decode cX12_valueOf 25 = .ok (.getfield 63, 3) := by decide +kernel
theorem dX12_valueOf_28 : decode cX12_valueOf 28 = .ok (.iconst 4, 1) := by decide +kernel
theorem dX12_valueOf_29 : decode cX12_valueOf 29 = .ok (.iload_n 1, 1) := by decide +kernel
theorem dX12_valueOf_30 : decode cX12_valueOf 30 = .ok (.imul, 1) := by decide +kernel
theorem dX12_valueOf_31 : decode cX12_valueOf 31 = .ok (.iload_n 2, 1) := by decide +kernel
theorem dX12_valueOf_32 : decode cX12_valueOf 32 = .ok (.iadd, 1) := by decide +kernel
theorem dX12_valueOf_33 : decode cX12_valueOf 33 = .ok (.aload_n 0, 1) := by decide +kernel
theorem dX12_valueOf_34 : decode cX12_valueOf 34 = .ok (.getfield 45, 3) := by decide +kernel
theorem dX12_valueOf_37 : decode cX12_valueOf 37 = .ok (.iload_n 1, 1) := by decide +kernel
theorem dX12_valueOf_38 : decode cX12_valueOf 38 = .ok (.iaload, 1) := by decide +kernel
theorem dX12_valueOf_39 : decode cX12_valueOf 39 = .ok (.isub, 1) := by decide +kernel
theorem dX12_valueOf_40 : decode cX12_valueOf 40 = .ok (.iaload, 1) := by decide +kernel
theorem dX12_valueOf_41 : decode cX12_valueOf 41 = .ok (.invokevirtual 223, 3) := by decide +kernel
theorem dX12_valueOf_44 : decode cX12_valueOf 44 = .ok (.ireturn, 1) := by decide +kernel
set_option maxHeartbeats 4000000 in
set_option maxRecDepth 100000 in
theorem s_X12_valueOf {P : PP} {a0 : Nat} {a1 : Int32} {a2 : Int32} (I : IM P a0) (ha1 : 0 ≤ a1.toInt ∧ a1.toInt ≤ 1) (ha2 : 0 ≤ a2.toInt ∧ a2.toInt ≤ 19) (hv : ∀ b c, pR P a0 10 = some b → pR P a0 15 = some c → a2.toInt < (pI P b (a1.toInt.toNat)).toInt + (pI P c (a1.toInt.toNat)).toInt) : CtrI yX12_valueOf cX12_valueOf 3 (some Jvm.ClassFile.FieldType.int) ({ frames := 2, cells := 0, slots := 0, locals := 128 } : Room) 0 0 P [.ref a0, .int a1, .int a2] (fun r P2 => P = P2 ∧ (True)) := by
  refine enI (lv := [(0, .ref a0), (1, .int a1), (2, .int a2)]) (by decide) (Nat.le_of_ble_eq_true rfl) rfl (fun E D cy C Ci0 ret => ?_)
  have ha0 := I.2.1
  refine g_iload_n C dX12_valueOf_0 rfl 2 rfl ?_
  refine g_aload_n C dX12_valueOf_1 rfl 0 rfl ?_
  obtain ⟨b26014, e26015, h26016⟩ := I.fld (ha0) 10 13 2 rfl
  refine g_getR C fi_X12_45 rfl e26015 (ha0).1 (ha0).2 dX12_valueOf_2 ?_
  refine g_iload_n C dX12_valueOf_5 rfl 1 rfl ?_
  refine g_iald (j := (a1.toInt.toNat)) C h26016.1 h26016.2.1 (ix_in h26016.2.2 (by omega)) dX12_valueOf_6 ?_
  have h26017 := I.arr e26015 rfl (a1.toInt.toNat)
  refine b_icmp_ge C 22 dX12_valueOf_7 (by decide) (fun h26018 => ?_) (fun h26018 => ?_)
  · have h26018 : (pI P b26014 (a1.toInt.toNat)).toInt ≤ a2.toInt := h26018
    obtain ⟨b26019, e26020, h26021⟩ := I.fld (ha0) 15 13 3 rfl
    have hv := hv b26014 b26019 e26015 e26020
    have h26022 := I.arr e26020 rfl (a1.toInt.toNat)
    refine g_aload_n C dX12_valueOf_22 rfl 0 rfl ?_
    refine g_iload_n C dX12_valueOf_23 rfl 1 rfl ?_
    refine g_aload_n C dX12_valueOf_24 rfl 0 rfl ?_
    obtain ⟨b26023, e26024, h26025⟩ := I.fld (ha0) 16 13 12 rfl
    refine g_getR C fi_X12_63 rfl e26024 (ha0).1 (ha0).2 dX12_valueOf_25 ?_
    refine g_iconst (v := 4) C dX12_valueOf_28 (by decide) ?_
    refine g_iload_n C dX12_valueOf_29 rfl 1 rfl ?_
    refine s_imul C dX12_valueOf_30 (by show -2147483648 ≤ 4 * a1.toInt ∧ 4 * a1.toInt ≤ 2147483647; omega) (fun z26026 h26027 => ?_)
    have h26027 : z26026.toInt = 4 * a1.toInt := h26027
    refine g_iload_n C dX12_valueOf_31 rfl 2 rfl ?_
    refine s_iadd C dX12_valueOf_32 (by show -2147483648 ≤ z26026.toInt + a2.toInt ∧ z26026.toInt + a2.toInt ≤ 2147483647; omega) (fun z26028 h26029 => ?_)
    have h26029 : z26028.toInt = z26026.toInt + a2.toInt := h26029
    refine g_aload_n C dX12_valueOf_33 rfl 0 rfl ?_
    refine g_getR C fi_X12_45 rfl e26015 (ha0).1 (ha0).2 dX12_valueOf_34 ?_
    refine g_iload_n C dX12_valueOf_37 rfl 1 rfl ?_
    refine g_iald (j := (a1.toInt.toNat)) C h26016.1 h26016.2.1 (ix_in h26016.2.2 (by omega)) dX12_valueOf_38 ?_
    refine s_isub C dX12_valueOf_39 (by show -2147483648 ≤ z26028.toInt - (pI P b26014 (a1.toInt.toNat)).toInt ∧ z26028.toInt - (pI P b26014 (a1.toInt.toNat)).toInt ≤ 2147483647; omega) (fun z26030 h26031 => ?_)
    have h26031 : z26030.toInt = z26028.toInt - (pI P b26014 (a1.toInt.toNat)).toInt := h26031
    refine g_iald (j := (z26030.toInt.toNat)) C h26025.1 h26025.2.1 (ix_in h26025.2.2 (by omega)) dX12_valueOf_40 ?_
    refine g_callVI (rest := []) C mv_X12_223 [.int a1, .int (pI P b26023 (z26030.toInt.toNat))] (s_X12_sumOf I (by omega)) (ha0).1 (ha0).2 rfl rfl (by decide) (Nat.le_of_ble_eq_true rfl) (by decide) dX12_valueOf_41 (fun r26032 Y26033 h26034 => ?_)
    obtain ⟨rfl, h26034⟩ := h26034
    have h26034 : True := h26034
    exact ret _ _ _ _ _ _ dX12_valueOf_44 rfl (by decide) (by decide) ⟨rfl, trivial⟩
  · have h26018 : a2.toInt < (pI P b26014 (a1.toInt.toNat)).toInt := h26018
    refine g_aload_n C dX12_valueOf_10 rfl 0 rfl ?_
    obtain ⟨b26035, e26036, h26037⟩ := I.fld (ha0) 11 13 32 rfl
    refine g_getR C fi_X12_48 rfl e26036 (ha0).1 (ha0).2 dX12_valueOf_11 ?_
    refine g_bipush (v := 16) C dX12_valueOf_14 (by decide) ?_
    refine g_iload_n C dX12_valueOf_16 rfl 1 rfl ?_
    refine s_imul C dX12_valueOf_17 (by show -2147483648 ≤ 16 * a1.toInt ∧ 16 * a1.toInt ≤ 2147483647; omega) (fun z26038 h26039 => ?_)
    have h26039 : z26038.toInt = 16 * a1.toInt := h26039
    refine g_iload_n C dX12_valueOf_18 rfl 2 rfl ?_
    refine s_iadd C dX12_valueOf_19 (by show -2147483648 ≤ z26038.toInt + a2.toInt ∧ z26038.toInt + a2.toInt ≤ 2147483647; omega) (fun z26040 h26041 => ?_)
    have h26041 : z26040.toInt = z26038.toInt + a2.toInt := h26041
    refine g_iald (j := (z26040.toInt.toNat)) C h26037.1 h26037.2.1 (ix_in h26037.2.2 (by omega)) dX12_valueOf_20 ?_
    exact ret _ _ _ _ _ _ dX12_valueOf_21 rfl (by decide) (by decide) ⟨rfl, trivial⟩
theorem dX12_told_34 : decode cX12_told 34 = .ok (.goto 4, 3) := by decide +kernel
theorem dX12_told_37 : decode cX12_told 37 = .ok (.iconst (-1), 1) := by decide +kernel
theorem dX12_told_38 : decode cX12_told 38 = .ok (.ireturn, 1) := by decide +kernel
set_option maxHeartbeats 4000000 in
set_option maxRecDepth 100000 in
theorem s_X12_told {P : PP} {a0 : Nat} {a1 : Int32} {a2 : Int32} (I : IM P a0) : CtrI yX12_told cX12_told 3 (some Jvm.ClassFile.FieldType.int) ({ frames := 3, cells := 0, slots := 0, locals := 192 } : Room) 0 0 P [.ref a0, .int a1, .int a2] (fun r P2 => IM P2 a0 ∧ EM [0] a0 P P2 ∧ (True)) := by
  refine enI (lv := [(0, .ref a0), (1, .int a1), (2, .int a2)]) (by decide) (Nat.le_of_ble_eq_true rfl) rfl (fun E D cy C Ci0 ret => ?_)
  have ha0 := I.2.1
  have J37 : ∀ (P37 : PP), (IM P37 a0) → (EM [0] a0 P P37) → (0 ≤ (pI P37 a0 0).toInt ∧ (pI P37 a0 0).toInt ≤ 0) → G E ({ frames := 3, cells := 0, slots := 0, locals := 192 } : Room) D cy 3 P37 0 0 37 [] [] := by
    intro P37 I37 X37 hq37_0
    have h26076 := X37.at ha0
    refine g_iconst (v := (-1)) C dX12_told_37 (by decide) ?_
    exact ret _ _ _ _ _ _ dX12_told_38 rfl (by decide) (by decide) ⟨I37, X37, trivial⟩
  refine g_aload_n C dX12_told_0 rfl 0 rfl ?_
  refine g_iconst (v := 0) C dX12_told_1 (by decide) ?_
  refine g_putI C fi_X12_1 rfl (ha0).1 (ha0).2 dX12_told_2 ?_
  refine gqW (ks := [0]) (I.setI (rgOk.of rfl (by decide))) (EM.setI I (by decide)) (fun Y26077 Iy26078 Xy26079 w26080 => ?_)
  have w26080 : (pI Y26077 a0 0).toInt = 0 := w26080
  have Xz26081 : EM [0] a0 P Y26077 := Xy26079.mono (by decide)
  have h26082 := Xy26079.at ha0
  refine g_aload_n C dX12_told_5 rfl 0 rfl ?_
  refine g_iload_n C dX12_told_6 rfl 1 rfl ?_
  refine g_callVI (rest := []) C mv_X12_192 [.int a1] (s_X12_isBook Iy26078) (h26082).1 (h26082).2 rfl rfl (by decide) (Nat.le_of_ble_eq_true rfl) (by decide) dX12_told_7 (fun r26083 Y26084 h26085 => ?_)
  obtain ⟨rfl, h26085⟩ := h26085
  obtain ⟨h26085, hi26086⟩ := h26085
  have hi26086 : r26083.toInt = 0 ∨ (((0 : Int) ≤ a1.toInt ∧ a1.toInt ≤ (1 : Int))) := hi26086
  have h26085 : 0 ≤ r26083.toInt ∧ r26083.toInt ≤ 1 := h26085
  refine b_if_eq C 37 dX12_told_10 (by decide) (fun h26087 => ?_) (fun h26087 => ?_)
  · have h26087 : r26083.toInt = 0 := congrArg Int32.toInt h26087
    clear hi26086
    refine g_lv (lv' := []) [] rfl ?_
    exact J37 Y26077 Iy26078 Xz26081 (by omega)
  · have h26087 : r26083.toInt ≠ 0 := ti_ne h26087
    replace hi26086 := hi26086.resolve_left (by omega)
    refine g_iload_n C dX12_told_13 rfl 2 rfl ?_
    refine g_iconst (v := 0) C dX12_told_14 (by decide) ?_
    refine g_aload_n C dX12_told_15 rfl 0 rfl ?_
    refine g_iload_n C dX12_told_16 rfl 1 rfl ?_
    refine g_callVI (rest := [.int 0, .int a2]) C mv_X12_238 [.int a1] (s_X12_allOf Iy26078 (by omega)) (h26082).1 (h26082).2 rfl rfl (by decide) (Nat.le_of_ble_eq_true rfl) (by decide) dX12_told_17 (fun r26088 Y26089 h26090 => ?_)
    obtain ⟨rfl, h26090⟩ := h26090
    obtain ⟨h26090, hi26091⟩ := h26090
    obtain ⟨b26092, e26093, h26094⟩ := Iy26078.fld (h26082) 10 13 2 rfl
    obtain ⟨b26095, e26096, h26097⟩ := Iy26078.fld (h26082) 15 13 3 rfl
    have hi26091 : r26088.toInt = 0 ∨ r26088.toInt = (pI Y26077 b26092 (a1.toInt.toNat)).toInt + (pI Y26077 b26095 (a1.toInt.toNat)).toInt := hi26091.imp id (fun z9 => z9 b26092 b26095 e26093 e26096)
    have h26098 := Iy26078.arr e26093 rfl (a1.toInt.toNat)
    have h26099 := Iy26078.arr e26096 rfl (a1.toInt.toNat)
    have h26090 : 0 ≤ r26088.toInt ∧ r26088.toInt ≤ 20 := h26090
    refine g_iconst (v := 1) C dX12_told_20 (by decide) ?_
    refine s_isub C dX12_told_21 (by show -2147483648 ≤ r26088.toInt - 1 ∧ r26088.toInt - 1 ≤ 2147483647; omega) (fun z26100 h26101 => ?_)
    have h26101 : z26100.toInt = r26088.toInt - 1 := h26101
    refine g_callSI (b := 0) (ci := 0) (rest := []) C ms_X12_178 [.int a2, .int 0, .int z26100] (s_X12_within Iy26078.1) rfl rfl (by decide) (Nat.le_of_ble_eq_true rfl) (by decide) dX12_told_22 (fun r26102 Y26103 h26104 => ?_)
    obtain ⟨rfl, h26104⟩ := h26104
    obtain ⟨h26104, hi26105⟩ := h26104
    have hi26105 : r26102.toInt = 0 ∨ (0 ≤ a2.toInt ∧ a2.toInt ≤ z26100.toInt) := hi26105
    have h26104 : 0 ≤ r26102.toInt ∧ r26102.toInt ≤ 1 := h26104
    refine b_if_eq C 37 dX12_told_25 (by decide) (fun h26106 => ?_) (fun h26106 => ?_)
    · have h26106 : r26102.toInt = 0 := congrArg Int32.toInt h26106
      clear hi26105
      refine g_lv (lv' := []) [] rfl ?_
      exact J37 Y26077 Iy26078 Xz26081 (by omega)
    · have h26106 : r26102.toInt ≠ 0 := ti_ne h26106
      replace hi26105 := hi26105.resolve_left (by omega)
      refine g_aload_n C dX12_told_28 rfl 0 rfl ?_
      refine g_iload_n C dX12_told_29 rfl 1 rfl ?_
      refine g_iload_n C dX12_told_30 rfl 2 rfl ?_
      refine g_callVI (rest := []) C mv_X12_271 [.int a1, .int a2] (s_X12_valueOf Iy26078 (by omega) (by omega) (fun b9 c9 e9 f9 => by rw [e26093] at e9; cases e9; rw [e26096] at f9; cases f9; show a2.toInt < (pI Y26077 b26092 (a1.toInt.toNat)).toInt + (pI Y26077 b26095 (a1.toInt.toNat)).toInt; omega)) (h26082).1 (h26082).2 rfl rfl (by decide) (Nat.le_of_ble_eq_true rfl) (by decide) dX12_told_31 (fun r26107 Y26108 h26109 => ?_)
      obtain ⟨rfl, h26109⟩ := h26109
      have h26109 : True := h26109
      refine g_goto C 38 dX12_told_34 (by decide) ?_
      exact ret _ _ _ _ _ _ dX12_told_38 rfl (by decide) (by decide) ⟨Iy26078, Xz26081, trivial⟩
theorem dX12_town_0 : decode cX12_town 0 = .ok (.aload_n 0, 1) := by decide +kernel
theorem dX12_town_1 : decode cX12_town 1 = .ok (.iconst 0, 1) := by decide +kernel
theorem dX12_town_2 : decode cX12_town 2 = .ok (.putfield 1, 3) := by decide +kernel
theorem dX12_town_5 : decode cX12_town 5 = .ok (.aload_n 0, 1) := by decide +kernel
theorem dX12_town_6 : decode cX12_town 6 = .ok (.iload_n 1, 1) := by decide +kernel
theorem dX12_town_7 : decode cX12_town 7 = .ok (.invokevirtual 192, 3) := by decide +kernel
theorem dX12_town_10 : decode cX12_town 10 = .ok (.ifCond .eq 13, 3) := by decide +kernel
theorem dX12_town_13 : decode cX12_town 13 = .ok (.iload_n 2, 1) := by decide +kernel
theorem dX12_town_14 : decode cX12_town 14 = .ok (.iconst 0, 1) := by decide +kernel
theorem dX12_town_15 : decode cX12_town 15 = .ok (.bipush 100, 2) := by decide +kernel
theorem dX12_town_17 : decode cX12_town 17 = .ok (.invokestatic 178, 3) := by decide +kernel
theorem dX12_town_20 : decode cX12_town 20 = .ok (.ifCond .ne 5, 3) := by decide +kernel
theorem dX12_town_23 : decode cX12_town 23 = .ok (.iconst (-1), 1) := by decide +kernel
theorem dX12_town_24 : decode cX12_town 24 = .ok (.ireturn, 1) := by decide +kernel
theorem dX12_town_25 : decode cX12_town 25 = .ok (.iconst 0, 1) := by decide +kernel
theorem dX12_town_26 : decode cX12_town 26 = .ok (.istore_n 3, 1) := by decide +kernel
theorem dX12_town_27 : decode cX12_town 27 = .ok (.iload_n 3, 1) := by decide +kernel
theorem dX12_town_28 : decode cX12_town 28 = .ok (.iconst 4, 1) := by decide +kernel
theorem dX12_town_29 : decode cX12_town 29 = .ok (.if_icmp .ge 21, 3) := by decide +kernel
theorem dX12_town_32 : decode cX12_town 32 = .ok (.aload_n 0, 1) := by decide +kernel
theorem dX12_town_33 : decode cX12_town 33 = .ok (.getfield 133, 3) := by decide +kernel
theorem dX12_town_36 : decode cX12_town 36 = .ok (.iload_n 3, 1) := by decide +kernel
theorem dX12_town_37 : decode cX12_town 37 = .ok (.aload_n 0, 1) := by decide +kernel
theorem dX12_town_38 : decode cX12_town 38 = .ok (.iload_n 3, 1) := by decide +kernel
theorem dX12_town_39 : decode cX12_town 39 = .ok (.iload_n 1, 1) := by decide +kernel
theorem dX12_town_40 : decode cX12_town 40 = .ok (.invokevirtual 408, 3) := by decide +kernel
theorem dX12_weightOf_0 : decode cX12_weightOf 0 = .ok (.iload_n 2, 1) := by decide +kernel
theorem dX12_weightOf_1 : decode cX12_weightOf 1 = .ok (.aload_n 0, 1) := by decide +kernel
theorem dX12_weightOf_2 : decode cX12_weightOf 2 = .ok (.getfield 54, 3) := by decide +kernel
theorem dX12_weightOf_5 : decode cX12_weightOf 5 = .ok (.iload_n 1, 1) := by decide +kernel
theorem dX12_weightOf_6 : decode cX12_weightOf 6 = .ok (.iaload, 1) := by decide +kernel
theorem dX12_weightOf_7 : decode cX12_weightOf 7 = .ok (.if_icmp .ge 12, 3) := by decide +kernel
theorem dX12_weightOf_10 : decode cX12_weightOf 10 = .ok (.aload_n 0, 1) := by decide +kernel
theorem dX12_weightOf_11 : decode cX12_weightOf 11 = .ok (.getfield 57, 3) := by decide +kernel
theorem dX12_weightOf_14 : decode cX12_weightOf 14 = .ok (.iload_n 1, 1) := by decide +kernel
theorem dX12_weightOf_15 : decode cX12_weightOf 15 = .ok (.iaload, 1) := by decide +kernel
theorem dX12_weightOf_16 : decode cX12_weightOf 16 = .ok (.goto 4, 3) := by decide +kernel
theorem dX12_weightOf_19 : decode cX12_weightOf 19 = .ok (.iconst 1, 1) := by decide +kernel
theorem dX12_weightOf_20 : decode cX12_weightOf 20 = .ok (.ireturn, 1) := by decide +kernel
set_option maxHeartbeats 4000000 in
set_option maxRecDepth 100000 in
theorem s_X12_weightOf {P : PP} {a0 : Nat} {a1 : Int32} {a2 : Int32} (I : IM P a0) (ha1 : 0 ≤ a1.toInt ∧ a1.toInt ≤ 1) : CtrI yX12_weightOf cX12_weightOf 3 (some Jvm.ClassFile.FieldType.int) ({ frames := 1, cells := 0, slots := 0, locals := 64 } : Room) 0 0 P [.ref a0, .int a1, .int a2] (fun r P2 => P = P2 ∧ (0 ≤ r.toInt ∧ r.toInt ≤ 9)) := by
  refine enI (lv := [(0, .ref a0), (1, .int a1), (2, .int a2)]) (by decide) (Nat.le_of_ble_eq_true rfl) rfl (fun E D cy C Ci0 ret => ?_)
  have ha0 := I.2.1
  refine g_iload_n C dX12_weightOf_0 rfl 2 rfl ?_
  refine g_aload_n C dX12_weightOf_1 rfl 0 rfl ?_
  obtain ⟨b26142, e26143, h26144⟩ := I.fld (ha0) 13 13 3 rfl
  refine g_getR C fi_X12_54 rfl e26143 (ha0).1 (ha0).2 dX12_weightOf_2 ?_
  refine g_iload_n C dX12_weightOf_5 rfl 1 rfl ?_
  refine g_iald (j := (a1.toInt.toNat)) C h26144.1 h26144.2.1 (ix_in h26144.2.2 (by omega)) dX12_weightOf_6 ?_
  have u26146 := ti_rng a2
  have u26147 := ti_rng (pI P b26142 (a1.toInt.toNat))
  refine b_icmp_ge C 19 dX12_weightOf_7 (by decide) (fun h26145 => ?_) (fun h26145 => ?_)
  · have h26145 : (pI P b26142 (a1.toInt.toNat)).toInt ≤ a2.toInt := h26145
    refine g_iconst (v := 1) C dX12_weightOf_19 (by decide) ?_
    exact ret _ _ _ _ _ _ dX12_weightOf_20 rfl (by decide) (by decide) ⟨rfl, (by decide)⟩
  · have h26145 : a2.toInt < (pI P b26142 (a1.toInt.toNat)).toInt := h26145
    refine g_aload_n C dX12_weightOf_10 rfl 0 rfl ?_
    obtain ⟨b26148, e26149, h26150⟩ := I.fld (ha0) 14 13 3 rfl
    refine g_getR C fi_X12_57 rfl e26149 (ha0).1 (ha0).2 dX12_weightOf_11 ?_
    refine g_iload_n C dX12_weightOf_14 rfl 1 rfl ?_
    refine g_iald (j := (a1.toInt.toNat)) C h26150.1 h26150.2.1 (ix_in h26150.2.2 (by omega)) dX12_weightOf_15 ?_
    have h26151 := I.arr e26149 rfl (a1.toInt.toNat)
    refine g_goto C 20 dX12_weightOf_16 (by decide) ?_
    exact ret _ _ _ _ _ _ dX12_weightOf_20 rfl (by decide) (by decide) ⟨rfl, (by omega)⟩
