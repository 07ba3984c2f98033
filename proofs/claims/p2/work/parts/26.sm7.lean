theorem dX12_town_0 : decode cX12_town 0 = .ok (.aload_n 0, 1) := by decide +kernel
theorem dX12_town_1 : decode cX12_town 1 = .ok (.iconst 0, 1) := by decide +kernel
theorem dX12_town_2 : decode cX12_town 2 = .ok (.putfield 1, 3) := by decide +kernel
theorem dX12_town_5 : decode cX12_town 5 = .ok (.aload_n 0, 1) := by decide +kernel
theorem dX12_town_6 : decode cX12_town 6 = .ok (.iload_n 1, 1) := by decide +kernel
theorem dX12_town_7 : decode cX12_town 7 = .ok (.invokevirtual 192, 3) := by decide +kernel
theorem dX12_town_10 : decode cX12_town 10 = .ok (.ifCond .eq 13, 3) := by decide +kernel
theorem dX12_town_13 : decode cX12_town 13 = .ok (.iload_n 2, 1) := by decide +kernel
theorem dX12_town_14 : decode cX12_town 14 = .ok (.iconst 0, 1) := by decide +kernel
theorem dX12_town_15 : decode cX12_town 15 = .ok (.bipush 100, 2) := by decide +kernel
theorem dX12_town_17 : decode cX12_town 17 = .ok (.invokestatic 178, 3) := by decide +kernel
theorem dX12_town_20 : decode cX12_town 20 = .ok (.ifCond .ne 5, 3) := by decide +kernel
theorem dX12_town_23 : decode cX12_town 23 = .ok (.iconst (-1), 1) := by decide +kernel
theorem dX12_town_24 : decode cX12_town 24 = .ok (.ireturn, 1) := by decide +kernel
theorem dX12_town_25 : decode cX12_town 25 = .ok (.iconst 0, 1) := by decide +kernel
theorem dX12_town_26 : decode cX12_town 26 = .ok (.istore_n 3, 1) := by decide +kernel
theorem dX12_town_27 : decode cX12_town 27 = .ok (.iload_n 3, 1) := by decide +kernel
theorem dX12_town_28 : decode cX12_town 28 = .ok (.iconst 4, 1) := by decide +kernel
theorem dX12_town_29 : decode cX12_town 29 = .ok (.if_icmp .ge 21, 3) := by decide +kernel
theorem dX12_town_32 : decode cX12_town 32 = .ok (.aload_n 0, 1) := by decide +kernel
theorem dX12_town_33 : decode cX12_town 33 = .ok (.getfield 133, 3) := by decide +kernel
theorem dX12_town_36 : decode cX12_town 36 = .ok (.iload_n 3, 1) := by decide +kernel
theorem dX12_town_37 : decode cX12_town 37 = .ok (.aload_n 0, 1) := by decide +kernel
theorem dX12_town_38 : decode cX12_town 38 = .ok (.iload_n 3, 1) := by decide +kernel
theorem dX12_town_39 : decode cX12_town 39 = .ok (.iload_n 1, 1) := by decide +kernel
theorem dX12_town_40 : decode cX12_town 40 = .ok (.invokevirtual 408, 3) := by decide +kernel
theorem dX12_town_43 : decode cX12_town 43 = .ok (.iastore, 1) := by decide +kernel
theorem dX12_town_44 : decode cX12_town 44 = .ok (.iinc 3 1, 3) := by decide +kernel
theorem dX12_town_47 : decode cX12_town 47 = .ok (.goto (-20), 3) := by decide +kernel
theorem dX12_town_50 : decode cX12_town 50 = .ok (.iconst 0, 1) := by decide +kernel
theorem dX12_town_51 : decode cX12_town 51 = .ok (.istore_n 3, 1) := by decide +kernel
theorem dX12_town_52 : decode cX12_town 52 = .ok (.iload_n 3, 1) := by decide +kernel
theorem dX12_town_53 : decode cX12_town 53 = .ok (.bipush 60, 2) := by decide +kernel
theorem dX12_town_55 : decode cX12_town 55 = .ok (.if_icmp .gt 70, 3) := by decide +kernel
theorem dX12_town_58 : decode cX12_town 58 = .ok (.iconst 0, 1) := by decide +kernel
theorem dX12_town_59 : decode cX12_town 59 = .ok (.istore 4, 2) := by decide +kernel
theorem dX12_town_61 : decode cX12_town 61 = .ok (.iconst 0, 1) := by decide +kernel
theorem dX12_town_62 : decode cX12_town 62 = .ok (.istore 5, 2) := by decide +kernel
theorem dX12_town_64 : decode cX12_town 64 = .ok (.iload 5, 2) := by decide +kernel
theorem dX12_town_66 : decode cX12_town 66 = .ok (.iconst 4, 1) := by decide +kernel
theorem dX12_town_67 : decode cX12_town 67 = .ok (.if_icmp .ge 36, 3) := by decide +kernel
theorem dX12_town_70 : decode cX12_town 70 = .ok (.iload 4, 2) := by decide +kernel
theorem dX12_town_72 : decode cX12_town 72 = .ok (.aload_n 0, 1) := by decide +kernel
theorem dX12_town_73 : decode cX12_town 73 = .ok (.getfield 133, 3) := by decide +kernel
theorem dX12_town_76 : decode cX12_town 76 = .ok (.iload 5, 2) := by decide +kernel
theorem dX12_town_78 : decode cX12_town 78 = .ok (.iaload, 1) := by decide +kernel
theorem dX12_town_79 : decode cX12_town 79 = .ok (.iload_n 3, 1) := by decide +kernel
theorem dX12_town_80 : decode cX12_town 80 = .ok (.if_icmp .gt 13, 3) := by decide +kernel
theorem dX12_town_83 : decode cX12_town 83 = .ok (.aload_n 0, 1) := by decide +kernel
theorem dX12_town_84 : decode cX12_town 84 = .ok (.getfield 130, 3) := by decide +kernel
theorem dX12_town_87 : decode cX12_town 87 = .ok (.iload 5, 2) := by decide +kernel
theorem dX12_town_89 : decode cX12_town 89 = .ok (.iaload, 1) := by decide +kernel
theorem dX12_town_90 : decode cX12_town 90 = .ok (.goto 4, 3) := by decide +kernel
theorem dX12_town_93 : decode cX12_town 93 = .ok (.iconst 0, 1) := by decide +kernel
theorem dX12_town_94 : decode cX12_town 94 = .ok (.iadd, 1) := by decide +kernel
theorem dX12_town_95 : decode cX12_town 95 = .ok (.istore 4, 2) := by decide +kernel
theorem dX12_town_97 : decode cX12_town 97 = .ok (.iinc 5 1, 3) := by decide +kernel
theorem dX12_town_100 : decode cX12_town 100 = .ok (.goto (-36), 3) := by decide +kernel
theorem dX12_town_103 : decode cX12_town 103 = .ok (.bipush 100, 2) := by decide +kernel
theorem dX12_town_105 : decode cX12_town 105 = .ok (.iload 4, 2) := by decide +kernel
theorem dX12_town_107 : decode cX12_town 107 = .ok (.imul, 1) := by decide +kernel
theorem dX12_town_108 : decode cX12_town 108 = .ok (.iload_n 2, 1) := by decide +kernel
theorem dX12_town_109 : decode cX12_town 109 = .ok (.aload_n 0, 1) := by decide +kernel
theorem dX12_town_110 : decode cX12_town 110 = .ok (.invokevirtual 411, 3) := by decide +kernel
theorem dX12_town_113 : decode cX12_town 113 = .ok (.imul, 1) := by decide +kernel
theorem dX12_town_114 : decode cX12_town 114 = .ok (.if_icmp .lt 5, 3) := by decide +kernel
theorem dX12_town_117 : decode cX12_town 117 = .ok (.iload_n 3, 1) := by decide +kernel
theorem dX12_town_118 : decode cX12_town 118 = .ok (.ireturn, 1) := by decide +kernel
theorem dX12_town_119 : decode cX12_town 119 = .ok (.iinc 3 1, 3) := by decide +kernel
theorem dX12_town_122 : decode cX12_town 122 = .ok (.goto (-70), 3) := by decide +kernel
theorem dX12_town_125 : decode cX12_town 125 = .ok (.iconst (-1), 1) := by decide +kernel
theorem dX12_town_126 : decode cX12_town 126 = .ok (.ireturn, 1) := by decide +kernel
set_option maxHeartbeats 4000000 in
set_option maxRecDepth 100000 in
theorem s_X12_town {P : PP} {a0 : Nat} {a1 : Int32} {a2 : Int32} (I : IM P a0) (hW : MW P a0) : CtrI yX12_town cX12_town 6 (some Jvm.ClassFile.FieldType.int) ({ frames := 7, cells := 0, slots := 0, locals := 448 } : Room) 0 0 P [.ref a0, .int a1, .int a2] (fun r P2 => IM P2 a0 ∧ EM [0, 28, 29, 30, 31, 35, 36, 37, 38, 47] a0 P P2 ∧ MW P2 a0 ∧ (-1 ≤ r.toInt ∧ r.toInt ≤ 60)) := by
  refine enI (lv := [(0, .ref a0), (1, .int a1), (2, .int a2)]) (by decide) (Nat.le_of_ble_eq_true rfl) rfl (fun E D cy C Ci0 ret => ?_)
  have ha0 := I.2.1
  have J52 : ∀ (n52 : Nat) (P52 : PP) (v52_3 : Int32), (61 - v52_3.toInt).toNat < n52 → (IM P52 a0) → (EM [0, 28, 29, 30, 31, 35, 36, 37, 38, 47] a0 P P52) → (MW P52 a0) → (0 ≤ a2.toInt ∧ a2.toInt ≤ 100) → (0 ≤ v52_3.toInt ∧ v52_3.toInt ≤ 61) → (0 ≤ (pI P52 a0 0).toInt ∧ (pI P52 a0 0).toInt ≤ 0) → (∀ b, pR P52 a0 10 = some b → 1 ≤ (pI P52 b (a1.toInt.toNat)).toInt ∧ (pI P52 b (a1.toInt.toNat)).toInt ≤ 16) → G E ({ frames := 7, cells := 0, slots := 0, locals := 448 } : Room) D cy 6 P52 0 0 52 [(0, .ref a0), (2, .int a2), (3, .int v52_3)] [] := by
    intro n52
    induction n52 with
    | zero => intro P52 v52_3 hm52 I52 X52 W52 hv52_2 hv52_3 hq52_0 hq52_1; omega
    | succ n52 ih52 =>
      intro P52 v52_3 hm52 I52 X52 W52 hv52_2 hv52_3 hq52_0 hq52_1
      have h80190 := X52.at ha0
      obtain ⟨b80191, e80192, h80193⟩ := I52.fld (h80190) 10 13 2 rfl
      have hq52_1 := hq52_1 b80191 e80192
      have J64 : ∀ (n64 : Nat) (v64_4 : Int32) (v64_5 : Int32), (4 - v64_5.toInt).toNat < n64 → (0 ≤ a2.toInt ∧ a2.toInt ≤ 100) → (0 ≤ v52_3.toInt ∧ v52_3.toInt ≤ 60) → (0 ≤ v64_5.toInt ∧ v64_5.toInt ≤ 4) → (0 ≤ (pI P52 a0 0).toInt ∧ (pI P52 a0 0).toInt ≤ 0) → (∀ b, pR P52 a0 10 = some b → 1 ≤ (pI P52 b (a1.toInt.toNat)).toInt ∧ (pI P52 b (a1.toInt.toNat)).toInt ≤ 16) → G E ({ frames := 7, cells := 0, slots := 0, locals := 448 } : Room) D cy 6 P52 0 0 64 [(0, .ref a0), (2, .int a2), (3, .int v52_3), (4, .int v64_4), (5, .int v64_5)] [] := by
        intro n64
        induction n64 with
        | zero => intro v64_4 v64_5 hm64 hv64_2 hv64_3 hv64_5 hq64_0 hq64_1; omega
        | succ n64 ih64 =>
          intro v64_4 v64_5 hm64 hv64_2 hv64_3 hv64_5 hq64_0 hq64_1
          have h80194 := X52.at ha0
          obtain ⟨b80195, e80196, h80197⟩ := I52.fld (h80194) 10 13 2 rfl
          have hq64_1 := hq64_1 b80195 e80196
          have J94 : ∀ (v94_s0 : Int32), (0 ≤ a2.toInt ∧ a2.toInt ≤ 100) → (0 ≤ v52_3.toInt ∧ v52_3.toInt ≤ 60) → (0 ≤ v64_5.toInt ∧ v64_5.toInt ≤ 3) → (0 ≤ (pI P52 a0 0).toInt ∧ (pI P52 a0 0).toInt ≤ 0) → (∀ b, pR P52 a0 10 = some b → 1 ≤ (pI P52 b (a1.toInt.toNat)).toInt ∧ (pI P52 b (a1.toInt.toNat)).toInt ≤ 16) → (∀ b, pR P52 a0 47 = some b → (pI P52 b (v64_5.toInt.toNat)).toInt ≤ 2147483647) → G E ({ frames := 7, cells := 0, slots := 0, locals := 448 } : Room) D cy 6 P52 0 0 94 [(0, .ref a0), (2, .int a2), (3, .int v52_3), (5, .int v64_5)] [.int v94_s0, .int v64_4] := by
            intro v94_s0 hv94_2 hv94_3 hv94_5 hq94_0 hq94_1 hq94_2
            have h80198 := X52.at ha0
            obtain ⟨b80199, e80200, h80201⟩ := I52.fld (h80198) 10 13 2 rfl
            have hq94_1 := hq94_1 b80199 e80200
            obtain ⟨b80202, e80203, h80204⟩ := I52.fld (h80198) 47 13 4 rfl
            have hq94_2 := hq94_2 b80202 e80203
            refine a_iadd C dX12_town_94 (fun z80205 => ?_)
            refine g_istore (lv' := [(4, .int z80205), (0, .ref a0), (2, .int a2), (3, .int v52_3), (5, .int v64_5)]) C dX12_town_95 (by decide) rfl ?_
            refine s_iinc (lv0 := [(4, .int z80205), (0, .ref a0), (2, .int a2), (3, .int v52_3)]) (m := 1) C dX12_town_97 4 rfl (by decide) rfl (by decide) (by omega) (fun z80207 h80208 => ?_)
            have h80208 : z80207.toInt = v64_5.toInt + 1 := h80208
            refine g_goto C 64 dX12_town_100 (by decide) ?_
            refine g_lv (lv' := [(0, .ref a0), (2, .int a2), (3, .int v52_3), (4, .int z80205), (5, .int z80207)]) [2, 3, 4, 1, 0] rfl ?_
            exact ih64 z80205 z80207 (by omega) (by omega) (by omega) (by omega) (by omega) (fun b9 e9 => by rw [e80200] at e9; cases e9; omega)
          refine g_iload C dX12_town_64 4 rfl ?_
          refine g_iconst (v := 4) C dX12_town_66 (by decide) ?_
          refine b_icmp_ge C 103 dX12_town_67 (by decide) (fun h80209 => ?_) (fun h80209 => ?_)
          · have h80209 : 4 ≤ v64_5.toInt := h80209
            refine g_bipush (v := 100) C dX12_town_103 (by decide) ?_
            refine g_iload C dX12_town_105 3 rfl ?_
            refine a_imul C dX12_town_107 (fun z80210 => ?_)
            refine g_iload_n C dX12_town_108 rfl 1 rfl ?_
            refine g_aload_n C dX12_town_109 rfl 0 rfl ?_
            refine g_callVI (rest := [.int a2, .int z80210]) C mv_X12_411 [] (s_X12_allHouses I52 W52) (h80194).1 (h80194).2 rfl rfl (by decide) (Nat.le_of_ble_eq_true rfl) (by decide) dX12_town_110 (fun r80212 Y80213 h80214 => ?_)
            obtain ⟨rfl, h80214⟩ := h80214
            have h80214 : True := h80214
            refine a_imul C dX12_town_113 (fun z80215 => ?_)
            have u80218 := ti_rng z80210
            have u80219 := ti_rng z80215
            refine b_icmp_lt C 119 dX12_town_114 (by decide) (fun h80217 => ?_) (fun h80217 => ?_)
            · have h80217 : z80210.toInt < z80215.toInt := h80217
              refine s_iinc (lv0 := [(0, .ref a0), (2, .int a2), (4, .int v64_4), (5, .int v64_5)]) (m := 1) C dX12_town_119 2 rfl (by decide) rfl (by decide) (by omega) (fun z80220 h80221 => ?_)
              have h80221 : z80220.toInt = v52_3.toInt + 1 := h80221
              refine g_goto C 52 dX12_town_122 (by decide) ?_
              refine g_lv (lv' := [(0, .ref a0), (2, .int a2), (3, .int z80220)]) [1, 2, 0] rfl ?_
              exact ih52 P52 z80220 (by omega) I52 X52 W52 (by omega) (by omega) (by omega) (fun b9 e9 => by rw [e80196] at e9; cases e9; omega)
            · have h80217 : z80215.toInt ≤ z80210.toInt := h80217
              refine g_iload_n C dX12_town_117 rfl 2 rfl ?_
              exact ret _ _ _ _ _ _ dX12_town_118 rfl (by decide) (by decide) ⟨I52, X52, W52, (by omega)⟩
          · have h80209 : v64_5.toInt < 4 := h80209
            refine g_iload C dX12_town_70 3 rfl ?_
            refine g_aload_n C dX12_town_72 rfl 0 rfl ?_
            obtain ⟨b80222, e80223, h80224⟩ := I52.fld (h80194) 47 13 4 rfl
            refine g_getR C fi_X12_133 rfl e80223 (h80194).1 (h80194).2 dX12_town_73 ?_
            refine g_iload C dX12_town_76 4 rfl ?_
            refine g_iald (j := (v64_5.toInt.toNat)) C h80224.1 h80224.2.1 (ix_in h80224.2.2 (by omega)) dX12_town_78 ?_
            refine g_iload_n C dX12_town_79 rfl 2 rfl ?_
            have u80226 := ti_rng (pI P52 b80222 (v64_5.toInt.toNat))
            refine b_icmp_gt C 93 dX12_town_80 (by decide) (fun h80225 => ?_) (fun h80225 => ?_)
            · have h80225 : v52_3.toInt < (pI P52 b80222 (v64_5.toInt.toNat)).toInt := h80225
              refine g_iconst (v := 0) C dX12_town_93 (by decide) ?_
              refine g_lv (lv' := [(0, .ref a0), (2, .int a2), (3, .int v52_3), (5, .int v64_5)]) [0, 1, 2, 4] rfl ?_
              exact J94 0 (by omega) (by omega) (by omega) (by omega) (fun b9 e9 => by rw [e80196] at e9; cases e9; omega) (fun b9 e9 => by rw [e80223] at e9; cases e9; omega)
            · have h80225 : (pI P52 b80222 (v64_5.toInt.toNat)).toInt ≤ v52_3.toInt := h80225
              refine g_aload_n C dX12_town_83 rfl 0 rfl ?_
              obtain ⟨b80227, e80228, h80229⟩ := I52.fld (h80194) 46 13 4 rfl
              refine g_getR C fi_X12_130 rfl e80228 (h80194).1 (h80194).2 dX12_town_84 ?_
              refine g_iload C dX12_town_87 4 rfl ?_
              refine g_iald (j := (v64_5.toInt.toNat)) C h80229.1 h80229.2.1 (ix_in h80229.2.2 (by omega)) dX12_town_89 ?_
              refine g_goto C 94 dX12_town_90 (by decide) ?_
              refine g_lv (lv' := [(0, .ref a0), (2, .int a2), (3, .int v52_3), (5, .int v64_5)]) [0, 1, 2, 4] rfl ?_
              exact J94 (pI P52 b80227 (v64_5.toInt.toNat)) (by omega) (by omega) (by omega) (by omega) (fun b9 e9 => by rw [e80196] at e9; cases e9; omega) (fun b9 e9 => by rw [e80223] at e9; cases e9; omega)
      refine g_iload_n C dX12_town_52 rfl 2 rfl ?_
      refine g_bipush (v := 60) C dX12_town_53 (by decide) ?_
      refine b_icmp_gt C 125 dX12_town_55 (by decide) (fun h80230 => ?_) (fun h80230 => ?_)
      · have h80230 : 60 < v52_3.toInt := h80230
        refine g_iconst (v := (-1)) C dX12_town_125 (by decide) ?_
        exact ret _ _ _ _ _ _ dX12_town_126 rfl (by decide) (by decide) ⟨I52, X52, W52, (by decide)⟩
      · have h80230 : v52_3.toInt ≤ 60 := h80230
        refine g_iconst (v := 0) C dX12_town_58 (by decide) ?_
        refine g_istore (lv' := [(4, .int 0), (0, .ref a0), (2, .int a2), (3, .int v52_3)]) C dX12_town_59 (by decide) rfl ?_
        refine g_iconst (v := 0) C dX12_town_61 (by decide) ?_
        refine g_istore (lv' := [(5, .int 0), (4, .int 0), (0, .ref a0), (2, .int a2), (3, .int v52_3)]) C dX12_town_62 (by decide) rfl ?_
        refine g_lv (lv' := [(0, .ref a0), (2, .int a2), (3, .int v52_3), (4, .int 0), (5, .int 0)]) [2, 3, 4, 1, 0] rfl ?_
        exact J64 _ 0 0 (Nat.lt_succ_self _) (by omega) (by omega) (by decide) (by omega) (fun b9 e9 => by rw [e80192] at e9; cases e9; omega)
  have J27 : ∀ (n27 : Nat) (P27 : PP) (v27_3 : Int32), (4 - v27_3.toInt).toNat < n27 → (IM P27 a0) → (EM [0, 28, 29, 30, 31, 35, 36, 37, 38, 47] a0 P P27) → (MW P27 a0) → (0 ≤ a1.toInt ∧ a1.toInt ≤ 1) → (0 ≤ a2.toInt ∧ a2.toInt ≤ 100) → (0 ≤ v27_3.toInt ∧ v27_3.toInt ≤ 4) → (0 ≤ (pI P27 a0 0).toInt ∧ (pI P27 a0 0).toInt ≤ 0) → (∀ b, pR P27 a0 10 = some b → 1 ≤ (pI P27 b (a1.toInt.toNat)).toInt ∧ (pI P27 b (a1.toInt.toNat)).toInt ≤ 16) → G E ({ frames := 7, cells := 0, slots := 0, locals := 448 } : Room) D cy 6 P27 0 0 27 [(0, .ref a0), (1, .int a1), (2, .int a2), (3, .int v27_3)] [] := by
    intro n27
    induction n27 with
    | zero => intro P27 v27_3 hm27 I27 X27 W27 hv27_1 hv27_2 hv27_3 hq27_0 hq27_1; omega
    | succ n27 ih27 =>
      intro P27 v27_3 hm27 I27 X27 W27 hv27_1 hv27_2 hv27_3 hq27_0 hq27_1
      have h80231 := X27.at ha0
      obtain ⟨b80232, e80233, h80234⟩ := I27.fld (h80231) 10 13 2 rfl
      have hq27_1 := hq27_1 b80232 e80233
      refine g_iload_n C dX12_town_27 rfl 3 rfl ?_
      refine g_iconst (v := 4) C dX12_town_28 (by decide) ?_
      refine b_icmp_ge C 50 dX12_town_29 (by decide) (fun h80235 => ?_) (fun h80235 => ?_)
      · have h80235 : 4 ≤ v27_3.toInt := h80235
        refine g_iconst (v := 0) C dX12_town_50 (by decide) ?_
        refine g_istore_n (lv' := [(3, .int 0), (0, .ref a0), (1, .int a1), (2, .int a2)]) C dX12_town_51 rfl (by decide) rfl ?_
        refine g_lv (lv' := [(0, .ref a0), (2, .int a2), (3, .int 0)]) [1, 3, 0] rfl ?_
        exact J52 _ P27 0 (Nat.lt_succ_self _) I27 X27 W27 (by omega) (by decide) (by omega) (fun b9 e9 => by rw [e80233] at e9; cases e9; omega)
      · have h80235 : v27_3.toInt < 4 := h80235
        refine g_aload_n C dX12_town_32 rfl 0 rfl ?_
        obtain ⟨b80236, e80237, h80238⟩ := I27.fld (h80231) 47 13 4 rfl
        refine g_getR C fi_X12_133 rfl e80237 (h80231).1 (h80231).2 dX12_town_33 ?_
        refine g_iload_n C dX12_town_36 rfl 3 rfl ?_
        refine g_aload_n C dX12_town_37 rfl 0 rfl ?_
        refine g_iload_n C dX12_town_38 rfl 3 rfl ?_
        refine g_iload_n C dX12_town_39 rfl 1 rfl ?_
        refine g_callVI (rest := [.int v27_3, .ref b80236]) C mv_X12_408 [.int v27_3, .int a1] (s_X12_needsOf I27 (by omega) (by omega) (fun b9 e9 => by rw [e80233] at e9; cases e9; show 1 ≤ (pI P27 b80232 (a1.toInt.toNat)).toInt ∧ (pI P27 b80232 (a1.toInt.toNat)).toInt ≤ 16; omega) W27) (h80231).1 (h80231).2 rfl rfl (by decide) (Nat.le_of_ble_eq_true rfl) (by decide) dX12_town_40 (fun r80239 Y80240 h80241 => ?_)
        obtain ⟨Iy80242, Xy80243, W80244, h80241⟩ := h80241
        have q80245 := Xy80243.keepF 0 (by decide)
        have q80246 := Xy80243.keepA e80233 (by decide) rfl (a1.toInt.toNat)
        have Xz80247 : EM [0, 28, 29, 30, 31, 35, 36, 37, 38, 47] a0 P Y80240 := EM.tr ha0 X27 (Xy80243.mono (by decide))
        have e80248 := Xy80243.ref h80231 (by decide) e80233
        have e80249 := Xy80243.ref h80231 (by decide) e80237
        have h80250 := Xy80243.at h80231
        have h80251 := Xy80243.ar h80234
        have h80252 := Xy80243.ar h80238
        have h80241 : 0 ≤ r80239.toInt ∧ r80239.toInt ≤ 61 := h80241
        refine g_iast (j := (v27_3.toInt.toNat)) C h80252.1 h80252.2.1 (ix_in h80252.2.2 (by omega)) dX12_town_43 ?_
        refine gqW (ks := [47]) (Iy80242.setA e80249 h80252 (by decide) (arOk.none rfl)) (EM.setA Iy80242 e80249 rfl (by decide)) (fun Y80253 Iy80254 Xy80255 w80256 => ?_)
        have w80256 : (pI Y80253 b80236 (v27_3.toInt.toNat)).toInt = r80239.toInt := w80256
        have q80257 := Xy80255.keepF 0 (by decide)
        have q80258 := Xy80255.keepA e80248 (by decide) rfl (a1.toInt.toNat)
        have W80259 := W80244.keep Iy80242 Xy80255 (by decide) (by decide) (by decide)
        have Xz80260 : EM [0, 28, 29, 30, 31, 35, 36, 37, 38, 47] a0 P Y80253 := EM.tr ha0 Xz80247 (Xy80255.mono (by decide))
        have e80261 := Xy80255.ref h80250 (by decide) e80248
        have e80262 := Xy80255.ref h80250 (by decide) e80249
        have h80263 := Xy80255.at h80250
        have h80264 := Xy80255.ar h80251
        have h80265 := Xy80255.ar h80252
        refine s_iinc (lv0 := [(0, .ref a0), (1, .int a1), (2, .int a2)]) (m := 1) C dX12_town_44 3 rfl (by decide) rfl (by decide) (by omega) (fun z80266 h80267 => ?_)
        have h80267 : z80266.toInt = v27_3.toInt + 1 := h80267
        refine g_goto C 27 dX12_town_47 (by decide) ?_
        refine g_lv (lv' := [(0, .ref a0), (1, .int a1), (2, .int a2), (3, .int z80266)]) [1, 2, 3, 0] rfl ?_
        exact ih27 Y80253 z80266 (by omega) Iy80254 Xz80260 W80259 (by omega) (by omega) (by omega) (by omega) (fun b9 e9 => by rw [e80261] at e9; cases e9; omega)
  have J23 : ∀ (P23 : PP), (IM P23 a0) → (EM [0, 28, 29, 30, 31, 35, 36, 37, 38, 47] a0 P P23) → (MW P23 a0) → (0 ≤ (pI P23 a0 0).toInt ∧ (pI P23 a0 0).toInt ≤ 0) → G E ({ frames := 7, cells := 0, slots := 0, locals := 448 } : Room) D cy 6 P23 0 0 23 [] [] := by
    intro P23 I23 X23 W23 hq23_0
    have h80268 := X23.at ha0
    refine g_iconst (v := (-1)) C dX12_town_23 (by decide) ?_
    exact ret _ _ _ _ _ _ dX12_town_24 rfl (by decide) (by decide) ⟨I23, X23, W23, (by decide)⟩
  refine g_aload_n C dX12_town_0 rfl 0 rfl ?_
  refine g_iconst (v := 0) C dX12_town_1 (by decide) ?_
  refine g_putI C fi_X12_1 rfl (ha0).1 (ha0).2 dX12_town_2 ?_
  refine gqW (ks := [0]) (I.setI (rgOk.of rfl (by decide))) (EM.setI I (by decide)) (fun Y80269 Iy80270 Xy80271 w80272 => ?_)
  have w80272 : (pI Y80269 a0 0).toInt = 0 := w80272
  have W80273 := hW.keep I Xy80271 (by decide) (by decide) (by decide)
  have Xz80274 : EM [0, 28, 29, 30, 31, 35, 36, 37, 38, 47] a0 P Y80269 := Xy80271.mono (by decide)
  have h80275 := Xy80271.at ha0
  refine g_aload_n C dX12_town_5 rfl 0 rfl ?_
  refine g_iload_n C dX12_town_6 rfl 1 rfl ?_
  refine g_callVI (rest := []) C mv_X12_192 [.int a1] (s_X12_isBook Iy80270 W80273) (h80275).1 (h80275).2 rfl rfl (by decide) (Nat.le_of_ble_eq_true rfl) (by decide) dX12_town_7 (fun r80276 Y80277 h80278 => ?_)
  obtain ⟨rfl, h80278⟩ := h80278
  obtain ⟨h80278, hi80279, hi80280⟩ := h80278
  have hi80279 : r80276.toInt = 0 ∨ (((0 : Int) ≤ a1.toInt ∧ a1.toInt ≤ (1 : Int))) := hi80279
  have h80278 : 0 ≤ r80276.toInt ∧ r80276.toInt ≤ 1 := h80278
  refine b_if_eq C 23 dX12_town_10 (by decide) (fun h80281 => ?_) (fun h80281 => ?_)
  · have h80281 : r80276.toInt = 0 := congrArg Int32.toInt h80281
    clear hi80279
    refine g_lv (lv' := []) [] rfl ?_
    exact J23 Y80269 Iy80270 Xz80274 W80273 (by omega)
  · have h80281 : r80276.toInt ≠ 0 := ti_ne h80281
    replace hi80279 := hi80279.resolve_left (by omega)
    obtain ⟨b80282, e80283, h80284⟩ := Iy80270.fld (h80275) 10 13 2 rfl
    have hi80280 := (hi80280.resolve_left (by omega)) b80282 e80283
    have hi80280 : 0 < (pI Y80269 b80282 (a1.toInt.toNat)).toInt := hi80280
    have h80285 := Iy80270.arr e80283 rfl (a1.toInt.toNat)
    refine g_iload_n C dX12_town_13 rfl 2 rfl ?_
    refine g_iconst (v := 0) C dX12_town_14 (by decide) ?_
    refine g_bipush (v := 100) C dX12_town_15 (by decide) ?_
    refine g_callSI (b := 0) (ci := 0) (rest := []) C ms_X12_178 [.int a2, .int 0, .int 100] (s_X12_within Iy80270.1) rfl rfl (by decide) (Nat.le_of_ble_eq_true rfl) (by decide) dX12_town_17 (fun r80286 Y80287 h80288 => ?_)
    obtain ⟨rfl, h80288⟩ := h80288
    obtain ⟨h80288, hi80289⟩ := h80288
    have hi80289 : r80286.toInt = 0 ∨ (0 ≤ a2.toInt ∧ a2.toInt ≤ 100) := hi80289
    have h80288 : 0 ≤ r80286.toInt ∧ r80286.toInt ≤ 1 := h80288
    refine b_if_ne C 25 dX12_town_20 (by decide) (fun h80290 => ?_) (fun h80290 => ?_)
    · have h80290 : r80286.toInt ≠ 0 := ti_ne h80290
      replace hi80289 := hi80289.resolve_left (by omega)
      refine g_iconst (v := 0) C dX12_town_25 (by decide) ?_
      refine g_istore_n (lv' := [(3, .int 0), (0, .ref a0), (1, .int a1), (2, .int a2)]) C dX12_town_26 rfl (by decide) rfl ?_
      refine g_lv (lv' := [(0, .ref a0), (1, .int a1), (2, .int a2), (3, .int 0)]) [1, 2, 3, 0] rfl ?_
      exact J27 _ Y80269 0 (Nat.lt_succ_self _) Iy80270 Xz80274 W80273 (by omega) (by omega) (by decide) (by omega) (fun b9 e9 => by rw [e80283] at e9; cases e9; omega)
    · have h80290 : r80286.toInt = 0 := congrArg Int32.toInt h80290
      clear hi80289
      refine g_lv (lv' := []) [] rfl ?_
      exact J23 Y80269 Iy80270 Xz80274 W80273 (by omega)
theorem dX12_weightOf_0 : decode cX12_weightOf 0 = .ok (.iload_n 2, 1) := by decide +kernel
theorem dX12_weightOf_1 : decode cX12_weightOf 1 = .ok (.aload_n 0, 1) := by decide +kernel
theorem dX12_weightOf_2 : decode cX12_weightOf 2 = .ok (.getfield 54, 3) := by decide +kernel
theorem dX12_weightOf_5 : decode cX12_weightOf 5 = .ok (.iload_n 1, 1) := by decide +kernel
theorem dX12_weightOf_6 : decode cX12_weightOf 6 = .ok (.iaload, 1) := by decide +kernel
theorem dX12_weightOf_7 : decode cX12_weightOf 7 = .ok (.if_icmp .ge 12, 3) := by decide +kernel
theorem dX12_weightOf_10 : decode cX12_weightOf 10 = .ok (.aload_n 0, 1) := by decide +kernel
theorem dX12_weightOf_11 : decode cX12_weightOf 11 = .ok (.getfield 57, 3) := by decide +kernel
theorem dX12_weightOf_14 : decode cX12_weightOf 14 = .ok (.iload_n 1, 1) := by decide +kernel
theorem dX12_weightOf_15 : decode cX12_weightOf 15 = .ok (.iaload, 1) := by decide +kernel
theorem dX12_weightOf_16 : decode cX12_weightOf 16 = .ok (.goto 4, 3) := by decide +kernel
theorem dX12_weightOf_19 : decode cX12_weightOf 19 = .ok (.iconst 1, 1) := by decide +kernel
theorem dX12_weightOf_20 : decode cX12_weightOf 20 = .ok (.ireturn, 1) := by decide +kernel
set_option maxHeartbeats 4000000 in
set_option maxRecDepth 100000 in
theorem s_X12_weightOf {P : PP} {a0 : Nat} {a1 : Int32} {a2 : Int32} (I : IM P a0) (ha1 : 0 ≤ a1.toInt ∧ a1.toInt ≤ 1) (hW : MW P a0) : CtrI yX12_weightOf cX12_weightOf 3 (some Jvm.ClassFile.FieldType.int) ({ frames := 1, cells := 0, slots := 0, locals := 64 } : Room) 0 0 P [.ref a0, .int a1, .int a2] (fun r P2 => P = P2 ∧ (0 ≤ r.toInt ∧ r.toInt ≤ 9)) := by
  refine enI (lv := [(0, .ref a0), (1, .int a1), (2, .int a2)]) (by decide) (Nat.le_of_ble_eq_true rfl) rfl (fun E D cy C Ci0 ret => ?_)
  have ha0 := I.2.1
  refine g_iload_n C dX12_weightOf_0 rfl 2 rfl ?_
  refine g_aload_n C dX12_weightOf_1 rfl 0 rfl ?_
  obtain ⟨b80301, e80302, h80303⟩ := I.fld (ha0) 13 13 3 rfl
  refine g_getR C fi_X12_54 rfl e80302 (ha0).1 (ha0).2 dX12_weightOf_2 ?_
  refine g_iload_n C dX12_weightOf_5 rfl 1 rfl ?_
  refine g_iald (j := (a1.toInt.toNat)) C h80303.1 h80303.2.1 (ix_in h80303.2.2 (by omega)) dX12_weightOf_6 ?_
  have u80305 := ti_rng a2
  have u80306 := ti_rng (pI P b80301 (a1.toInt.toNat))
  refine b_icmp_ge C 19 dX12_weightOf_7 (by decide) (fun h80304 => ?_) (fun h80304 => ?_)
  · have h80304 : (pI P b80301 (a1.toInt.toNat)).toInt ≤ a2.toInt := h80304
    refine g_iconst (v := 1) C dX12_weightOf_19 (by decide) ?_
    exact ret _ _ _ _ _ _ dX12_weightOf_20 rfl (by decide) (by decide) ⟨rfl, (by decide)⟩
  · have h80304 : a2.toInt < (pI P b80301 (a1.toInt.toNat)).toInt := h80304
    refine g_aload_n C dX12_weightOf_10 rfl 0 rfl ?_
    obtain ⟨b80307, e80308, h80309⟩ := I.fld (ha0) 14 13 3 rfl
    refine g_getR C fi_X12_57 rfl e80308 (ha0).1 (ha0).2 dX12_weightOf_11 ?_
    refine g_iload_n C dX12_weightOf_14 rfl 1 rfl ?_
    refine g_iald (j := (a1.toInt.toNat)) C h80309.1 h80309.2.1 (ix_in h80309.2.2 (by omega)) dX12_weightOf_15 ?_
    have h80310 := I.arr e80308 rfl (a1.toInt.toNat)
    refine g_goto C 20 dX12_weightOf_16 (by decide) ?_
    exact ret _ _ _ _ _ _ dX12_weightOf_20 rfl (by decide) (by decide) ⟨rfl, (by omega)⟩
