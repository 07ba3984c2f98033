theorem dX12_town_0 : decode cX12_town 0 = .ok (.aload_n 0, 1) := by decide +kernel
theorem dX12_town_1 : decode cX12_town 1 = .ok (.iconst 0, 1) := by decide +kernel
theorem dX12_town_2 : decode cX12_town 2 = .ok (.putfield 1, 3) := by decide +kernel
theorem dX12_town_5 : decode cX12_town 5 = .ok (.aload_n 0, 1) := by decide +kernel
theorem dX12_town_6 : decode cX12_town 6 = .ok (.iload_n 1, 1) := by decide +kernel
theorem dX12_town_7 : decode cX12_town 7 = .ok (.invokevirtual 192, 3) := by decide +kernel
theorem dX12_town_10 : decode cX12_town 10 = .ok (.ifCond .eq 13, 3) := by decide +kernel
theorem dX12_town_13 : decode cX12_town 13 = .ok (.iload_n 2, 1) := by decide +kernel
theorem dX12_town_14 : decode cX12_town 14 = .ok (.iconst 0, 1) := by decide +kernel
theorem dX12_town_15 : decode cX12_town 15 = .ok (.bipush 100, 2) := by decide +kernel
theorem dX12_town_17 : decode cX12_town 17 = .ok (.invokestatic 178, 3) := by decide +kernel
theorem dX12_town_20 : decode cX12_town 20 = .ok (.ifCond .ne 5, 3) := by decide +kernel
theorem dX12_town_23 : decode cX12_town 23 = .ok (.iconst (-1), 1) := by decide +kernel
theorem dX12_town_24 : decode cX12_town 24 = .ok (.ireturn, 1) := by decide +kernel
theorem dX12_town_25 : decode cX12_town 25 = .ok (.iconst 0, 1) := by decide +kernel
theorem dX12_town_26 : decode cX12_town 26 = .ok (.istore_n 3, 1) := by decide +kernel
theorem dX12_town_27 : decode cX12_town 27 = .ok (.iload_n 3, 1) := by decide +kernel
theorem dX12_town_28 : decode cX12_town 28 = .ok (.iconst 4, 1) := by decide +kernel
theorem dX12_town_29 : decode cX12_town 29 = .ok (.if_icmp .ge 21, 3) := by decide +kernel
theorem dX12_town_32 : decode cX12_town 32 = .ok (.aload_n 0, 1) := by decide +kernel
theorem dX12_town_33 : decode cX12_town 33 = .ok (.getfield 133, 3) := by decide +kernel
theorem dX12_town_36 : decode cX12_town 36 = .ok (.iload_n 3, 1) := by decide +kernel
theorem dX12_town_37 : decode cX12_town 37 = .ok (.aload_n 0, 1) := by decide +kernel
theorem dX12_town_38 : decode cX12_town 38 = .ok (.iload_n 3, 1) := by decide +kernel
theorem dX12_town_39 : decode cX12_town 39 = .ok (.iload_n 1, 1) := by decide +kernel
theorem dX12_town_40 : decode cX12_town 40 = .ok (.invokevirtual 408, 3) := by decide +kernel
theorem dX12_town_43 : decode cX12_town 43 = .ok (.iastore, 1) := by decide +kernel
theorem dX12_town_44 : decode cX12_town 44 = .ok (.iinc 3 1, 3) := by decide +kernel
theorem dX12_town_47 : decode cX12_town 47 = .ok (.goto (-20), 3) := by decide +kernel
theorem dX12_town_50 : decode cX12_town 50 = .ok (.iconst 0, 1) := by decide +kernel
theorem dX12_town_51 : decode cX12_town 51 = .ok (.istore_n 3, 1) := by decide +kernel
theorem dX12_town_52 : decode cX12_town 52 = .ok (.iload_n 3, 1) := by decide +kernel
theorem dX12_town_53 : decode cX12_town 53 = .ok (.bipush 60, 2) := by decide +kernel
theorem dX12_town_55 : decode cX12_town 55 = .ok (.if_icmp .gt 70, 3) := by decide +kernel
theorem dX12_town_58 : decode cX12_town 58 = .ok (.iconst 0, 1) := by decide +kernel
theorem dX12_town_59 : decode cX12_town 59 = .ok (.istore 4, 2) := by decide +kernel
theorem dX12_town_61 : decode cX12_town 61 = .ok (.iconst 0, 1) := by decide +kernel
theorem dX12_town_62 : decode cX12_town 62 = .ok (.istore 5, 2) := by decide +kernel
theorem dX12_town_64 : decode cX12_town 64 = .ok (.iload 5, 2) := by decide +kernel
theorem dX12_town_66 : decode cX12_town 66 = .ok (.iconst 4, 1) := by decide +kernel
theorem dX12_town_67 : decode cX12_town 67 = .ok (.if_icmp .ge 36, 3) := by decide +kernel
theorem dX12_town_70 : decode cX12_town 70 = .ok (.iload 4, 2) := by decide +kernel
theorem dX12_town_72 : decode cX12_town 72 = .ok (.aload_n 0, 1) := by decide +kernel
theorem dX12_town_73 : decode cX12_town 73 = .ok (.getfield 133, 3) := by decide +kernel
theorem dX12_town_76 : decode cX12_town 76 = .ok (.iload 5, 2) := by decide +kernel
theorem dX12_town_78 : decode cX12_town 78 = .ok (.iaload, 1) := by decide +kernel
theorem dX12_town_79 : decode cX12_town 79 = .ok (.iload_n 3, 1) := by decide +kernel
theorem dX12_town_80 : decode cX12_town 80 = .ok (.if_icmp .gt 13, 3) := by decide +kernel
theorem dX12_town_83 : decode cX12_town 83 = .ok (.aload_n 0, 1) := by decide +kernel
theorem dX12_town_84 : decode cX12_town 84 = .ok (.getfield 130, 3) := by decide +kernel
theorem dX12_town_87 : decode cX12_town 87 = .ok (.iload 5, 2) := by decide +kernel
theorem dX12_town_89 : decode cX12_town 89 = .ok (.iaload, 1) := by decide +kernel
theorem dX12_town_90 : decode cX12_town 90 = .ok (.goto 4, 3) := by decide +kernel
theorem dX12_town_93 : decode cX12_town 93 = .ok (.iconst 0, 1) := by decide +kernel
theorem dX12_town_94 : decode cX12_town 94 = .ok (.iadd, 1) := by decide +kernel
theorem dX12_town_95 : decode cX12_town 95 = .ok (.istore 4, 2) := by decide +kernel
theorem dX12_town_97 : decode cX12_town 97 = .ok (.iinc 5 1, 3) := by decide +kernel
theorem dX12_town_100 : decode cX12_town 100 = .ok (.goto (-36), 3) := by decide +kernel
theorem dX12_town_103 : decode cX12_town 103 = .ok (.bipush 100, 2) := by decide +kernel
theorem dX12_town_105 : decode cX12_town 105 = .ok (.iload 4, 2) := by decide +kernel
theorem dX12_town_107 : decode cX12_town 107 = .ok (.imul, 1) := by decide +kernel
theorem dX12_town_108 : decode cX12_town 108 = .ok (.iload_n 2, 1) := by decide +kernel
theorem dX12_town_109 : decode cX12_town 109 = .ok (.aload_n 0, 1) := by decide +kernel
theorem dX12_town_110 : decode cX12_town 110 = .ok (.invokevirtual 411, 3) := by decide +kernel
theorem dX12_town_113 : decode cX12_town 113 = .ok (.imul, 1) := by decide +kernel
theorem dX12_town_114 : decode cX12_town 114 = .ok (.if_icmp .lt 5, 3) := by decide +kernel
theorem dX12_town_117 : decode cX12_town 117 = .ok (.iload_n 3, 1) := by decide +kernel
theorem dX12_town_118 : decode cX12_town 118 = .ok (.ireturn, 1) := by decide +kernel
theorem dX12_town_119 : decode cX12_town 119 = .ok (.iinc 3 1, 3) := by decide +kernel
theorem dX12_town_122 : decode cX12_town 122 = .ok (.goto (-70), 3) := by decide +kernel
theorem dX12_town_125 : decode cX12_town 125 = .ok (.iconst (-1), 1) := by decide +kernel
theorem dX12_town_126 : decode cX12_town 126 = .ok (.ireturn, 1) := by decide +kernel
set_option maxHeartbeats 4000000 in
set_option maxRecDepth 100000 in
theorem s_X12_town {P : PP} {a0 : Nat} {a1 : Int32} {a2 : Int32} (I : IM P a0) (hW : MW P a0) : CtrI yX12_town cX12_town 6 (some Jvm.ClassFile.FieldType.int) ({ frames := 7, cells := 0, slots := 0, locals := 448 } : Room) 0 0 P [.ref a0, .int a1, .int a2] (fun r P2 => IM P2 a0 ∧ EM [0, 28, 29, 30, 31, 35, 36, 37, 38, 47] a0 P P2 ∧ MW P2 a0 ∧ (-1 ≤ r.toInt ∧ r.toInt ≤ 60)) := by
  refine enI (lv := [(0, .ref a0), (1, .int a1), (2, .int a2)]) (by decide) (Nat.le_of_ble_eq_true rfl) rfl (fun E D cy C Ci0 ret => ?_)
  have ha0 := I.2.1
  have J52 : ∀ (n52 : Nat) (P52 : PP) (v52_3 : Int32), (61 - v52_3.toInt).toNat < n52 → (IM P52 a0) → (EM [0, 28, 29, 30, 31, 35, 36, 37, 38, 47] a0 P P52) → (MW P52 a0) → (0 ≤ a2.toInt ∧ a2.toInt ≤ 100) → (0 ≤ v52_3.toInt ∧ v52_3.toInt ≤ 61) → (0 ≤ (pI P52 a0 0).toInt ∧ (pI P52 a0 0).toInt ≤ 0) → (∀ b, pR P52 a0 10 = some b → 1 ≤ (pI P52 b (a1.toInt.toNat)).toInt ∧ (pI P52 b (a1.toInt.toNat)).toInt ≤ 16) → G E ({ frames := 7, cells := 0, slots := 0, locals := 448 } : Room) D cy 6 P52 0 0 52 [(0, .ref a0), (2, .int a2), (3, .int v52_3)] [] := by
    intro n52
    induction n52 with
    | zero => intro P52 v52_3 hm52 I52 X52 W52 hv52_2 hv52_3 hq52_0 hq52_1; omega
    | succ n52 ih52 =>
      intro P52 v52_3 hm52 I52 X52 W52 hv52_2 hv52_3 hq52_0 hq52_1
      have h79047 := X52.at ha0
      obtain ⟨b79048, e79049, h79050⟩ := I52.fld (h79047) 10 13 2 rfl
      have hq52_1 := hq52_1 b79048 e79049
      have J64 : ∀ (n64 : Nat) (v64_4 : Int32) (v64_5 : Int32), (4 - v64_5.toInt).toNat < n64 → (0 ≤ a2.toInt ∧ a2.toInt ≤ 100) → (0 ≤ v52_3.toInt ∧ v52_3.toInt ≤ 60) → (0 ≤ v64_5.toInt ∧ v64_5.toInt ≤ 4) → (0 ≤ (pI P52 a0 0).toInt ∧ (pI P52 a0 0).toInt ≤ 0) → (∀ b, pR P52 a0 10 = some b → 1 ≤ (pI P52 b (a1.toInt.toNat)).toInt ∧ (pI P52 b (a1.toInt.toNat)).toInt ≤ 16) → G E ({ frames := 7, cells := 0, slots := 0, locals := 448 } : Room) D cy 6 P52 0 0 64 [(0, .ref a0), (2, .int a2), (3, .int v52_3), (4, .int v64_4), (5, .int v64_5)] [] := by
        intro n64
        induction n64 with
        | zero => intro v64_4 v64_5 hm64 hv64_2 hv64_3 hv64_5 hq64_0 hq64_1; omega
        | succ n64 ih64 =>
          intro v64_4 v64_5 hm64 hv64_2 hv64_3 hv64_5 hq64_0 hq64_1
          have h79051 := X52.at ha0
          obtain ⟨b79052, e79053, h79054⟩ := I52.fld (h79051) 10 13 2 rfl
          have hq64_1 := hq64_1 b79052 e79053
          have J94 : ∀ (v94_s0 : Int32), (0 ≤ a2.toInt ∧ a2.toInt ≤ 100) → (0 ≤ v52_3.toInt ∧ v52_3.toInt ≤ 60) → (0 ≤ v64_5.toInt ∧ v64_5.toInt ≤ 3) → (0 ≤ (pI P52 a0 0).toInt ∧ (pI P52 a0 0).toInt ≤ 0) → (∀ b, pR P52 a0 10 = some b → 1 ≤ (pI P52 b (a1.toInt.toNat)).toInt ∧ (pI P52 b (a1.toInt.toNat)).toInt ≤ 16) → (∀ b, pR P52 a0 47 = some b → (pI P52 b (v64_5.toInt.toNat)).toInt ≤ 2147483647) → G E ({ frames := 7, cells := 0, slots := 0, locals := 448 } : Room) D cy 6 P52 0 0 94 [(0, .ref a0), (2, .int a2), (3, .int v52_3), (5, .int v64_5)] [.int v94_s0, .int v64_4] := by
            intro v94_s0 hv94_2 hv94_3 hv94_5 hq94_0 hq94_1 hq94_2
            have h79055 := X52.at ha0
            obtain ⟨b79056, e79057, h79058⟩ := I52.fld (h79055) 10 13 2 rfl
            have hq94_1 := hq94_1 b79056 e79057
            obtain ⟨b79059, e79060, h79061⟩ := I52.fld (h79055) 47 13 4 rfl
            have hq94_2 := hq94_2 b79059 e79060
            refine a_iadd C dX12_town_94 (fun z79062 => ?_)
            refine g_istore (lv' := [(4, .int z79062), (0, .ref a0), (2, .int a2), (3, .int v52_3), (5, .int v64_5)]) C dX12_town_95 (by decide) rfl ?_
            refine s_iinc (lv0 := [(4, .int z79062), (0, .ref a0), (2, .int a2), (3, .int v52_3)]) (m := 1) C dX12_town_97 4 rfl (by decide) rfl (by decide) (by omega) (fun z79064 h79065 => ?_)
            have h79065 : z79064.toInt = v64_5.toInt + 1 := h79065
            refine g_goto C 64 dX12_town_100 (by decide) ?_
            refine g_lv (lv' := [(0, .ref a0), (2, .int a2), (3, .int v52_3), (4, .int z79062), (5, .int z79064)]) [2, 3, 4, 1, 0] rfl ?_
            exact ih64 z79062 z79064 (by omega) (by omega) (by omega) (by omega) (by omega) (fun b9 e9 => by rw [e79057] at e9; cases e9; omega)
          refine g_iload C dX12_town_64 4 rfl ?_
          refine g_iconst (v := 4) C dX12_town_66 (by decide) ?_
          refine b_icmp_ge C 103 dX12_town_67 (by decide) (fun h79066 => ?_) (fun h79066 => ?_)
          · have h79066 : 4 ≤ v64_5.toInt := h79066
            refine g_bipush (v := 100) C dX12_town_103 (by decide) ?_
            refine g_iload C dX12_town_105 3 rfl ?_
            refine a_imul C dX12_town_107 (fun z79067 => ?_)
            refine g_iload_n C dX12_town_108 rfl 1 rfl ?_
            refine g_aload_n C dX12_town_109 rfl 0 rfl ?_
            refine g_callVI (rest := [.int a2, .int z79067]) C mv_X12_411 [] (s_X12_allHouses I52 W52) (h79051).1 (h79051).2 rfl rfl (by decide) (Nat.le_of_ble_eq_true rfl) (by decide) dX12_town_110 (fun r79069 Y79070 h79071 => ?_)
            obtain ⟨rfl, h79071⟩ := h79071
            have h79071 : True := h79071
            refine a_imul C dX12_town_113 (fun z79072 => ?_)
            have u79075 := ti_rng z79067
            have u79076 := ti_rng z79072
            refine b_icmp_lt C 119 dX12_town_114 (by decide) (fun h79074 => ?_) (fun h79074 => ?_)
            · have h79074 : z79067.toInt < z79072.toInt := h79074
              refine s_iinc (lv0 := [(0, .ref a0), (2, .int a2), (4, .int v64_4), (5, .int v64_5)]) (m := 1) C dX12_town_119 2 rfl (by decide) rfl (by decide) (by omega) (fun z79077 h79078 => ?_)
              have h79078 : z79077.toInt = v52_3.toInt + 1 := h79078
              refine g_goto C 52 dX12_town_122 (by decide) ?_
              refine g_lv (lv' := [(0, .ref a0), (2, .int a2), (3, .int z79077)]) [1, 2, 0] rfl ?_
              exact ih52 P52 z79077 (by omega) I52 X52 W52 (by omega) (by omega) (by omega) (fun b9 e9 => by rw [e79053] at e9; cases e9; omega)
            · have h79074 : z79072.toInt ≤ z79067.toInt := h79074
              refine g_iload_n C dX12_town_117 rfl 2 rfl ?_
              exact ret _ _ _ _ _ _ dX12_town_118 rfl (by decide) (by decide) ⟨I52, X52, W52, (by omega)⟩
          · have h79066 : v64_5.toInt < 4 := h79066
            refine g_iload C dX12_town_70 3 rfl ?_
            refine g_aload_n C dX12_town_72 rfl 0 rfl ?_
            obtain ⟨b79079, e79080, h79081⟩ := I52.fld (h79051) 47 13 4 rfl
            refine g_getR C fi_X12_133 rfl e79080 (h79051).1 (h79051).2 dX12_town_73 ?_
            refine g_iload C dX12_town_76 4 rfl ?_
            refine g_iald (j := (v64_5.toInt.toNat)) C h79081.1 h79081.2.1 (ix_in h79081.2.2 (by omega)) dX12_town_78 ?_
            refine g_iload_n C dX12_town_79 rfl 2 rfl ?_
            have u79083 := ti_rng (pI P52 b79079 (v64_5.toInt.toNat))
            refine b_icmp_gt C 93 dX12_town_80 (by decide) (fun h79082 => ?_) (fun h79082 => ?_)
            · have h79082 : v52_3.toInt < (pI P52 b79079 (v64_5.toInt.toNat)).toInt := h79082
              refine g_iconst (v := 0) C dX12_town_93 (by decide) ?_
              refine g_lv (lv' := [(0, .ref a0), (2, .int a2), (3, .int v52_3), (5, .int v64_5)]) [0, 1, 2, 4] rfl ?_
              exact J94 0 (by omega) (by omega) (by omega) (by omega) (fun b9 e9 => by rw [e79053] at e9; cases e9; omega) (fun b9 e9 => by rw [e79080] at e9; cases e9; omega)
            · have h79082 : (pI P52 b79079 (v64_5.toInt.toNat)).toInt ≤ v52_3.toInt := h79082
              refine g_aload_n C dX12_town_83 rfl 0 rfl ?_
              obtain ⟨b79084, e79085, h79086⟩ := I52.fld (h79051) 46 13 4 rfl
              refine g_getR C fi_X12_130 rfl e79085 (h79051).1 (h79051).2 dX12_town_84 ?_
              refine g_iload C dX12_town_87 4 rfl ?_
              refine g_iald (j := (v64_5.toInt.toNat)) C h79086.1 h79086.2.1 (ix_in h79086.2.2 (by omega)) dX12_town_89 ?_
              refine g_goto C 94 dX12_town_90 (by decide) ?_
              refine g_lv (lv' := [(0, .ref a0), (2, .int a2), (3, .int v52_3), (5, .int v64_5)]) [0, 1, 2, 4] rfl ?_
              exact J94 (pI P52 b79084 (v64_5.toInt.toNat)) (by omega) (by omega) (by omega) (by omega) (fun b9 e9 => by rw [e79053] at e9; cases e9; omega) (fun b9 e9 => by rw [e79080] at e9; cases e9; omega)
      refine g_iload_n C dX12_town_52 rfl 2 rfl ?_
      refine g_bipush (v := 60) C dX12_town_53 (by decide) ?_
      refine b_icmp_gt C 125 dX12_town_55 (by decide) (fun h79087 => ?_) (fun h79087 => ?_)
      · have h79087 : 60 < v52_3.toInt := h79087
        refine g_iconst (v := (-1)) C dX12_town_125 (by decide) ?_
        exact ret _ _ _ _ _ _ dX12_town_126 rfl (by decide) (by decide) ⟨I52, X52, W52, (by decide)⟩
      · have h79087 : v52_3.toInt ≤ 60 := h79087
        refine g_iconst (v := 0) C dX12_town_58 (by decide) ?_
        refine g_istore (lv' := [(4, .int 0), (0, .ref a0), (2, .int a2), (3, .int v52_3)]) C dX12_town_59 (by decide) rfl ?_
        refine g_iconst (v := 0) C dX12_town_61 (by decide) ?_
        refine g_istore (lv' := [(5, .int 0), (4, .int 0), (0, .ref a0), (2, .int a2), (3, .int v52_3)]) C dX12_town_62 (by decide) rfl ?_
        refine g_lv (lv' := [(0, .ref a0), (2, .int a2), (3, .int v52_3), (4, .int 0), (5, .int 0)]) [2, 3, 4, 1, 0] rfl ?_
        exact J64 _ 0 0 (Nat.lt_succ_self _) (by omega) (by omega) (by decide) (by omega) (fun b9 e9 => by rw [e79049] at e9; cases e9; omega)
  have J27 : ∀ (n27 : Nat) (P27 : PP) (v27_3 : Int32), (4 - v27_3.toInt).toNat < n27 → (IM P27 a0) → (EM [0, 28, 29, 30, 31, 35, 36, 37, 38, 47] a0 P P27) → (MW P27 a0) → (0 ≤ a1.toInt ∧ a1.toInt ≤ 1) → (0 ≤ a2.toInt ∧ a2.toInt ≤ 100) → (0 ≤ v27_3.toInt ∧ v27_3.toInt ≤ 4) → (0 ≤ (pI P27 a0 0).toInt ∧ (pI P27 a0 0).toInt ≤ 0) → (∀ b, pR P27 a0 10 = some b → 1 ≤ (pI P27 b (a1.toInt.toNat)).toInt ∧ (pI P27 b (a1.toInt.toNat)).toInt ≤ 16) → G E ({ frames := 7, cells := 0, slots := 0, locals := 448 } : Room) D cy 6 P27 0 0 27 [(0, .ref a0), (1, .int a1), (2, .int a2), (3, .int v27_3)] [] := by
    intro n27
    induction n27 with
    | zero => intro P27 v27_3 hm27 I27 X27 W27 hv27_1 hv27_2 hv27_3 hq27_0 hq27_1; omega
    | succ n27 ih27 =>
      intro P27 v27_3 hm27 I27 X27 W27 hv27_1 hv27_2 hv27_3 hq27_0 hq27_1
      have h79088 := X27.at ha0
      obtain ⟨b79089, e79090, h79091⟩ := I27.fld (h79088) 10 13 2 rfl
      have hq27_1 := hq27_1 b79089 e79090
      refine g_iload_n C dX12_town_27 rfl 3 rfl ?_
      refine g_iconst (v := 4) C dX12_town_28 (by decide) ?_
      refine b_icmp_ge C 50 dX12_town_29 (by decide) (fun h79092 => ?_) (fun h79092 => ?_)
      · have h79092 : 4 ≤ v27_3.toInt := h79092
        refine g_iconst (v := 0) C dX12_town_50 (by decide) ?_
        refine g_istore_n (lv' := [(3, .int 0), (0, .ref a0), (1, .int a1), (2, .int a2)]) C dX12_town_51 rfl (by decide) rfl ?_
        refine g_lv (lv' := [(0, .ref a0), (2, .int a2), (3, .int 0)]) [1, 3, 0] rfl ?_
        exact J52 _ P27 0 (Nat.lt_succ_self _) I27 X27 W27 (by omega) (by decide) (by omega) (fun b9 e9 => by rw [e79090] at e9; cases e9; omega)
      · have h79092 : v27_3.toInt < 4 := h79092
        refine g_aload_n C dX12_town_32 rfl 0 rfl ?_
        obtain ⟨b79093, e79094, h79095⟩ := I27.fld (h79088) 47 13 4 rfl
        refine g_getR C fi_X12_133 rfl e79094 (h79088).1 (h79088).2 dX12_town_33 ?_
        refine g_iload_n C dX12_town_36 rfl 3 rfl ?_
        refine g_aload_n C dX12_town_37 rfl 0 rfl ?_
        refine g_iload_n C dX12_town_38 rfl 3 rfl ?_
        refine g_iload_n C dX12_town_39 rfl 1 rfl ?_
        refine g_callVI (rest := [.int v27_3, .ref b79093]) C mv_X12_408 [.int v27_3, .int a1] (s_X12_needsOf I27 (by omega) (by omega) (fun b9 e9 => by rw [e79090] at e9; cases e9; show 1 ≤ (pI P27 b79089 (a1.toInt.toNat)).toInt ∧ (pI P27 b79089 (a1.toInt.toNat)).toInt ≤ 16; omega) W27) (h79088).1 (h79088).2 rfl rfl (by decide) (Nat.le_of_ble_eq_true rfl) (by decide) dX12_town_40 (fun r79096 Y79097 h79098 => ?_)
        obtain ⟨Iy79099, Xy79100, W79101, h79098⟩ := h79098
        have q79102 := Xy79100.keepF 0 (by decide)
        have q79103 := Xy79100.keepA e79090 (by decide) rfl (a1.toInt.toNat)
        have Xz79104 : EM [0, 28, 29, 30, 31, 35, 36, 37, 38, 47] a0 P Y79097 := EM.tr ha0 X27 (Xy79100.mono (by decide))
        have e79105 := Xy79100.ref h79088 (by decide) e79090
        have e79106 := Xy79100.ref h79088 (by decide) e79094
        have h79107 := Xy79100.at h79088
        have h79108 := Xy79100.ar h79091
        have h79109 := Xy79100.ar h79095
        have h79098 : 0 ≤ r79096.toInt ∧ r79096.toInt ≤ 61 := h79098
        refine g_iast (j := (v27_3.toInt.toNat)) C h79109.1 h79109.2.1 (ix_in h79109.2.2 (by omega)) dX12_town_43 ?_
        refine gqW (ks := [47]) (Iy79099.setA e79106 h79109 (by decide) (arOk.none rfl)) (EM.setA Iy79099 e79106 rfl (by decide)) (fun Y79110 Iy79111 Xy79112 w79113 => ?_)
        have w79113 : (pI Y79110 b79093 (v27_3.toInt.toNat)).toInt = r79096.toInt := w79113
        have q79114 := Xy79112.keepF 0 (by decide)
        have q79115 := Xy79112.keepA e79105 (by decide) rfl (a1.toInt.toNat)
        have W79116 := W79101.keep Iy79099 Xy79112 (by decide) (by decide) (by decide)
        have Xz79117 : EM [0, 28, 29, 30, 31, 35, 36, 37, 38, 47] a0 P Y79110 := EM.tr ha0 Xz79104 (Xy79112.mono (by decide))
        have e79118 := Xy79112.ref h79107 (by decide) e79105
        have e79119 := Xy79112.ref h79107 (by decide) e79106
        have h79120 := Xy79112.at h79107
        have h79121 := Xy79112.ar h79108
        have h79122 := Xy79112.ar h79109
        refine s_iinc (lv0 := [(0, .ref a0), (1, .int a1), (2, .int a2)]) (m := 1) C dX12_town_44 3 rfl (by decide) rfl (by decide) (by omega) (fun z79123 h79124 => ?_)
        have h79124 : z79123.toInt = v27_3.toInt + 1 := h79124
        refine g_goto C 27 dX12_town_47 (by decide) ?_
        refine g_lv (lv' := [(0, .ref a0), (1, .int a1), (2, .int a2), (3, .int z79123)]) [1, 2, 3, 0] rfl ?_
        exact ih27 Y79110 z79123 (by omega) Iy79111 Xz79117 W79116 (by omega) (by omega) (by omega) (by omega) (fun b9 e9 => by rw [e79118] at e9; cases e9; omega)
  have J23 : ∀ (P23 : PP), (IM P23 a0) → (EM [0, 28, 29, 30, 31, 35, 36, 37, 38, 47] a0 P P23) → (MW P23 a0) → (0 ≤ (pI P23 a0 0).toInt ∧ (pI P23 a0 0).toInt ≤ 0) → G E ({ frames := 7, cells := 0, slots := 0, locals := 448 } : Room) D cy 6 P23 0 0 23 [] [] := by
    intro P23 I23 X23 W23 hq23_0
    have h79125 := X23.at ha0
    refine g_iconst (v := (-1)) C dX12_town_23 (by decide) ?_
    exact ret _ _ _ _ _ _ dX12_town_24 rfl (by decide) (by decide) ⟨I23, X23, W23, (by decide)⟩
  refine g_aload_n C dX12_town_0 rfl 0 rfl ?_
  refine g_iconst (v := 0) C dX12_town_1 (by decide) ?_
  refine g_putI C fi_X12_1 rfl (ha0).1 (ha0).2 dX12_town_2 ?_
  refine gqW (ks := [0]) (I.setI (rgOk.of rfl (by decide))) (EM.setI I (by decide)) (fun Y79126 Iy79127 Xy79128 w79129 => ?_)
  have w79129 : (pI Y79126 a0 0).toInt = 0 := w79129
  have W79130 := hW.keep I Xy79128 (by decide) (by decide) (by decide)
  have Xz79131 : EM [0, 28, 29, 30, 31, 35, 36, 37, 38, 47] a0 P Y79126 := Xy79128.mono (by decide)
  have h79132 := Xy79128.at ha0
  refine g_aload_n C dX12_town_5 rfl 0 rfl ?_
  refine g_iload_n C dX12_town_6 rfl 1 rfl ?_
  refine g_callVI (rest := []) C mv_X12_192 [.int a1] (s_X12_isBook Iy79127 W79130) (h79132).1 (h79132).2 rfl rfl (by decide) (Nat.le_of_ble_eq_true rfl) (by decide) dX12_town_7 (fun r79133 Y79134 h79135 => ?_)
  obtain ⟨rfl, h79135⟩ := h79135
  obtain ⟨h79135, hi79136, hi79137⟩ := h79135
  have hi79136 : r79133.toInt = 0 ∨ (((0 : Int) ≤ a1.toInt ∧ a1.toInt ≤ (1 : Int))) := hi79136
  have h79135 : 0 ≤ r79133.toInt ∧ r79133.toInt ≤ 1 := h79135
  refine b_if_eq C 23 dX12_town_10 (by decide) (fun h79138 => ?_) (fun h79138 => ?_)
  · have h79138 : r79133.toInt = 0 := congrArg Int32.toInt h79138
    clear hi79136
    refine g_lv (lv' := []) [] rfl ?_
    exact J23 Y79126 Iy79127 Xz79131 W79130 (by omega)
  · have h79138 : r79133.toInt ≠ 0 := ti_ne h79138
    replace hi79136 := hi79136.resolve_left (by omega)
    obtain ⟨b79139, e79140, h79141⟩ := Iy79127.fld (h79132) 10 13 2 rfl
    have hi79137 := (hi79137.resolve_left (by omega)) b79139 e79140
    have hi79137 : 0 < (pI Y79126 b79139 (a1.toInt.toNat)).toInt := hi79137
    have h79142 := Iy79127.arr e79140 rfl (a1.toInt.toNat)
    refine g_iload_n C dX12_town_13 rfl 2 rfl ?_
    refine g_iconst (v := 0) C dX12_town_14 (by decide) ?_
    refine g_bipush (v := 100) C dX12_town_15 (by decide) ?_
    refine g_callSI (b := 0) (ci := 0) (rest := []) C ms_X12_178 [.int a2, .int 0, .int 100] (s_X12_within Iy79127.1) rfl rfl (by decide) (Nat.le_of_ble_eq_true rfl) (by decide) dX12_town_17 (fun r79143 Y79144 h79145 => ?_)
    obtain ⟨rfl, h79145⟩ := h79145
    obtain ⟨h79145, hi79146⟩ := h79145
    have hi79146 : r79143.toInt = 0 ∨ (0 ≤ a2.toInt ∧ a2.toInt ≤ 100) := hi79146
    have h79145 : 0 ≤ r79143.toInt ∧ r79143.toInt ≤ 1 := h79145
    refine b_if_ne C 25 dX12_town_20 (by decide) (fun h79147 => ?_) (fun h79147 => ?_)
    · have h79147 : r79143.toInt ≠ 0 := ti_ne h79147
      replace hi79146 := hi79146.resolve_left (by omega)
      refine g_iconst (v := 0) C dX12_town_25 (by decide) ?_
      refine g_istore_n (lv' := [(3, .int 0), (0, .ref a0), (1, .int a1), (2, .int a2)]) C dX12_town_26 rfl (by decide) rfl ?_
      refine g_lv (lv' := [(0, .ref a0), (1, .int a1), (2, .int a2), (3, .int 0)]) [1, 2, 3, 0] rfl ?_
      exact J27 _ Y79126 0 (Nat.lt_succ_self _) Iy79127 Xz79131 W79130 (by omega) (by omega) (by decide) (by omega) (fun b9 e9 => by rw [e79140] at e9; cases e9; omega)
    · have h79147 : r79143.toInt = 0 := congrArg Int32.toInt h79147
      clear hi79146
      refine g_lv (lv' := []) [] rfl ?_
      exact J23 Y79126 Iy79127 Xz79131 W79130 (by omega)
theorem dX12_weightOf_0 : decode cX12_weightOf 0 = .ok (.iload_n 2, 1) := by decide +kernel
theorem dX12_weightOf_1 : decode cX12_weightOf 1 = .ok (.aload_n 0, 1) := by decide +kernel
theorem dX12_weightOf_2 : decode cX12_weightOf 2 = .ok (.getfield 54, 3) := by decide +kernel
theorem dX12_weightOf_5 : decode cX12_weightOf 5 = .ok (.iload_n 1, 1) := by decide +kernel
theorem dX12_weightOf_6 : decode cX12_weightOf 6 = .ok (.iaload, 1) := by decide +kernel
theorem dX12_weightOf_7 : decode cX12_weightOf 7 = .ok (.if_icmp .ge 12, 3) := by decide +kernel
theorem dX12_weightOf_10 : decode cX12_weightOf 10 = .ok (.aload_n 0, 1) := by decide +kernel
theorem dX12_weightOf_11 : decode cX12_weightOf 11 = .ok (.getfield 57, 3) := by decide +kernel
theorem dX12_weightOf_14 : decode cX12_weightOf 14 = .ok (.iload_n 1, 1) := by decide +kernel
theorem dX12_weightOf_15 : decode cX12_weightOf 15 = .ok (.iaload, 1) := by decide +kernel
theorem dX12_weightOf_16 : decode cX12_weightOf 16 = .ok (.goto 4, 3) := by decide +kernel
theorem dX12_weightOf_19 : decode cX12_weightOf 19 = .ok (.iconst 1, 1) := by decide +kernel
theorem dX12_weightOf_20 : decode cX12_weightOf 20 = .ok (.ireturn, 1) := by decide +kernel
set_option maxHeartbeats 4000000 in
set_option maxRecDepth 100000 in
theorem s_X12_weightOf {P : PP} {a0 : Nat} {a1 : Int32} {a2 : Int32} (I : IM P a0) (ha1 : 0 ≤ a1.toInt ∧ a1.toInt ≤ 1) (hW : MW P a0) : CtrI yX12_weightOf cX12_weightOf 3 (some Jvm.ClassFile.FieldType.int) ({ frames := 1, cells := 0, slots := 0, locals := 64 } : Room) 0 0 P [.ref a0, .int a1, .int a2] (fun r P2 => P = P2 ∧ (0 ≤ r.toInt ∧ r.toInt ≤ 9)) := by
  refine enI (lv := [(0, .ref a0), (1, .int a1), (2, .int a2)]) (by decide) (Nat.le_of_ble_eq_true rfl) rfl (fun E D cy C Ci0 ret => ?_)
  have ha0 := I.2.1
  refine g_iload_n C dX12_weightOf_0 rfl 2 rfl ?_
  refine g_aload_n C dX12_weightOf_1 rfl 0 rfl ?_
  obtain ⟨b79158, e79159, h79160⟩ := I.fld (ha0) 13 13 3 rfl
  refine g_getR C fi_X12_54 rfl e79159 (ha0).1 (ha0).2 dX12_weightOf_2 ?_
  refine g_iload_n C dX12_weightOf_5 rfl 1 rfl ?_
  refine g_iald (j := (a1.toInt.toNat)) C h79160.1 h79160.2.1 (ix_in h79160.2.2 (by omega)) dX12_weightOf_6 ?_
  have u79162 := ti_rng a2
  have u79163 := ti_rng (pI P b79158 (a1.toInt.toNat))
  refine b_icmp_ge C 19 dX12_weightOf_7 (by decide) (fun h79161 => ?_) (fun h79161 => ?_)
  · have h79161 : (pI P b79158 (a1.toInt.toNat)).toInt ≤ a2.toInt := h79161
    refine g_iconst (v := 1) C dX12_weightOf_19 (by decide) ?_
    exact ret _ _ _ _ _ _ dX12_weightOf_20 rfl (by decide) (by decide) ⟨rfl, (by decide)⟩
  · have h79161 : a2.toInt < (pI P b79158 (a1.toInt.toNat)).toInt := h79161
    refine g_aload_n C dX12_weightOf_10 rfl 0 rfl ?_
    obtain ⟨b79164, e79165, h79166⟩ := I.fld (ha0) 14 13 3 rfl
    refine g_getR C fi_X12_57 rfl e79165 (ha0).1 (ha0).2 dX12_weightOf_11 ?_
    refine g_iload_n C dX12_weightOf_14 rfl 1 rfl ?_
    refine g_iald (j := (a1.toInt.toNat)) C h79166.1 h79166.2.1 (ix_in h79166.2.2 (by omega)) dX12_weightOf_15 ?_
    have h79167 := I.arr e79165 rfl (a1.toInt.toNat)
    refine g_goto C 20 dX12_weightOf_16 (by decide) ?_
    exact ret _ _ _ _ _ _ dX12_weightOf_20 rfl (by decide) (by decide) ⟨rfl, (by omega)⟩
