theorem dX12_readLine_77 : decode cX12_readLine 77 = .ok (.goto 38, 3) := by decide +kernel
theorem dX12_readLine_80 : decode cX12_readLine 80 = .ok (.iload_n 1, 1) := by decide +kernel
theorem dX12_readLine_81 : decode cX12_readLine 81 = .ok (.ifCond .eq 11, 3) := by decide +kernel
theorem dX12_readLine_84 : decode cX12_readLine 84 = .ok (.aload_n 0, 1) := by decide +kernel
theorem dX12_readLine_85 : decode cX12_readLine 85 = .ok (.iconst 3, 1) := by decide +kernel
theorem dX12_readLine_86 : decode cX12_readLine 86 = .ok (.invokevirtual 168, 3) := by decide +kernel
theorem dX12_readLine_89 : decode cX12_readLine 89 = .ok (.goto 26, 3) := by decide +kernel
theorem dX12_readLine_92 : decode cX12_readLine 92 = .ok (.aload_n 0, 1) := by decide +kernel
theorem dX12_readLine_93 : decode cX12_readLine 93 = .ok (.iconst 2, 1) := by decide +kernel
theorem dX12_readLine_94 : decode cX12_readLine 94 = .ok (.invokevirtual 172, 3) := by decide +kernel
theorem dX12_readLine_97 : decode cX12_readLine 97 = .ok (.ifCond .eq 18, 3) := by decide +kernel
theorem dX12_readLine_100 : decode cX12_readLine 100 = .ok (.aload_n 0, 1) := by decide +kernel
theorem dX12_readLine_101 : decode cX12_readLine 101 = .ok (.getfield 60, 3) := by decide +kernel
theorem dX12_readLine_104 : decode cX12_readLine 104 = .ok (.iconst 2, 1) := by decide +kernel
theorem dX12_readLine_105 : decode cX12_readLine 105 = .ok (.iaload, 1) := by decide +kernel
theorem dX12_readLine_106 : decode cX12_readLine 106 = .ok (.iconst 4, 1) := by decide +kernel
theorem dX12_readLine_107 : decode cX12_readLine 107 = .ok (.if_icmp .ne 8, 3) := by decide +kernel
theorem dX12_readLine_110 : decode cX12_readLine 110 = .ok (.aload_n 0, 1) := by decide +kernel
theorem dX12_readLine_111 : decode cX12_readLine 111 = .ok (.iconst 5, 1) := by decide +kernel
theorem dX12_readLine_112 : decode cX12_readLine 112 = .ok (.invokevirtual 168, 3) := by decide +kernel
theorem dX12_readLine_115 : decode cX12_readLine 115 = .ok (.aload_n 0, 1) := by decide +kernel
theorem dX12_readLine_116 : decode cX12_readLine 116 = .ok (.getfield 162, 3) := by decide +kernel
theorem dX12_readLine_119 : decode cX12_readLine 119 = .ok (.ifCond .le 4, 3) := by decide +kernel
theorem dX12_readLine_123 : decode cX12_readLine 123 = .ok (.aload_n 0, 1) := by decide +kernel
theorem dX12_readLine_124 : decode cX12_readLine 124 = .ok (.iconst 0, 1) := by decide +kernel
theorem dX12_readLine_125 : decode cX12_readLine 125 = .ok (.invokevirtual 175, 3) := by decide +kernel
theorem dX12_readOdds_0 : decode cX12_readOdds 0 = .ok (.aload_n 0, 1) := by decide +kernel
theorem dX12_readOdds_1 : decode cX12_readOdds 1 = .ok (.getfield 24, 3) := by decide +kernel
theorem dX12_readOdds_4 : decode cX12_readOdds 4 = .ok (.aload_n 0, 1) := by decide +kernel
theorem dX12_readOdds_5 : decode cX12_readOdds 5 = .ok (.getfield 159, 3) := by decide +kernel
theorem dX12_readOdds_8 : decode cX12_readOdds 8 = .ok (.iaload, 1) := by decide +kernel
theorem dX12_readOdds_9 : decode cX12_readOdds 9 = .ok (.iconst 2, 1) := by decide +kernel
theorem dX12_readOdds_10 : decode cX12_readOdds 10 = .ok (.if_icmp .ne 59, 3) := by decide +kernel
theorem dX12_readOdds_13 : decode cX12_readOdds 13 = .ok (.aload_n 0, 1) := by decide +kernel
theorem dX12_readOdds_14 : decode cX12_readOdds 14 = .ok (.getfield 30, 3) := by decide +kernel
theorem dX12_readOdds_17 : decode cX12_readOdds 17 = .ok (.aload_n 0, 1) := by decide +kernel
theorem dX12_readOdds_18 : decode cX12_readOdds 18 = .ok (.getfield 159, 3) := by decide +kernel
theorem dX12_readOdds_21 : decode cX12_readOdds 21 = .ok (.laload, 1) := by decide +kernel
theorem dX12_readOdds_22 : decode cX12_readOdds 22 = .ok (.lconst 1, 1) := by decide +kernel
theorem dX12_readOdds_23 : decode cX12_readOdds 23 = .ok (.lcmp, 1) := by decide +kernel
theorem dX12_readOdds_24 : decode cX12_readOdds 24 = .ok (.ifCond .lt 45, 3) := by decide +kernel
theorem dX12_readOdds_27 : decode cX12_readOdds 27 = .ok (.aload_n 0, 1) := by decide +kernel
theorem dX12_readOdds_28 : decode cX12_readOdds 28 = .ok (.getfield 30, 3) := by decide +kernel
theorem dX12_readOdds_31 : decode cX12_readOdds 31 = .ok (.aload_n 0, 1) := by decide +kernel
theorem dX12_readOdds_32 : decode cX12_readOdds 32 = .ok (.getfield 159, 3) := by decide +kernel
theorem dX12_readOdds_35 : decode cX12_readOdds 35 = .ok (.laload, 1) := by decide +kernel
theorem dX12_readOdds_36 : decode cX12_readOdds 36 = .ok (.ldc2_w 221, 3) := by decide +kernel
theorem dX12_readOdds_39 : decode cX12_readOdds 39 = .ok (.lcmp, 1) := by decide +kernel
theorem dX12_readOdds_40 : decode cX12_readOdds 40 = .ok (.ifCond .gt 29, 3) := by decide +kernel
theorem dX12_readOdds_43 : decode cX12_readOdds 43 = .ok (.aload_n 0, 1) := by decide +kernel
theorem dX12_readOdds_44 : decode cX12_readOdds 44 = .ok (.getfield 51, 3) := by decide +kernel
theorem dX12_readOdds_47 : decode cX12_readOdds 47 = .ok (.bipush 42, 2) := by decide +kernel
theorem dX12_readOdds_49 : decode cX12_readOdds 49 = .ok (.aload_n 0, 1) := by decide +kernel
theorem dX12_readOdds_50 : decode cX12_readOdds 50 = .ok (.getfield 30, 3) := by decide +kernel
theorem dX12_readOdds_53 : decode cX12_readOdds 53 = .ok (.aload_n 0, 1) := by decide +kernel
theorem dX12_readOdds_54 : decode cX12_readOdds 54 = .ok (.getfield 159, 3) := by decide +kernel
theorem dX12_readOdds_57 : decode cX12_readOdds 57 = .ok (.laload, 1) := by decide +kernel
theorem dX12_readOdds_58 : decode cX12_readOdds 58 = .ok (.l2i, 1) := by decide +kernel
theorem dX12_readOdds_59 : decode cX12_readOdds 59 = .ok (.iadd, 1) := by decide +kernel
theorem dX12_readOdds_60 : decode cX12_readOdds 60 = .ok (.iaload, 1) := by decide +kernel
theorem dX12_readSum_0 : decode cX12_readSum 0 = .ok (.iconst 0, 1) := by decide +kernel
theorem dX12_readSum_1 : decode cX12_readSum 1 = .ok (.istore_n 1, 1) := by decide +kernel
theorem dX12_readSum_2 : decode cX12_readSum 2 = .ok (.iconst 0, 1) := by decide +kernel
theorem dX12_readSum_3 : decode cX12_readSum 3 = .ok (.istore_n 2, 1) := by decide +kernel
theorem dX12_readSum_4 : decode cX12_readSum 4 = .ok (.aload_n 0, 1) := by decide +kernel
theorem dX12_readSum_5 : decode cX12_readSum 5 = .ok (.getfield 162, 3) := by decide +kernel
theorem dX12_readSum_8 : decode cX12_readSum 8 = .ok (.ifCond .ne 97, 3) := by decide +kernel
theorem dX12_readSum_11 : decode cX12_readSum 11 = .ok (.iload_n 2, 1) := by decide +kernel
theorem dX12_readSum_12 : decode cX12_readSum 12 = .ok (.iconst 2, 1) := by decide +kernel
theorem dX12_readSum_13 : decode cX12_readSum 13 = .ok (.if_icmp .lt 16, 3) := by decide +kernel
theorem dX12_readSum_105 : decode cX12_readSum 105 = .ok (.aload_n 0, 1) := by decide +kernel
theorem dX12_readSum_106 : decode cX12_readSum 106 = .ok (.getfield 63, 3) := by decide +kernel
theorem dX12_readSum_109 : decode cX12_readSum 109 = .ok (.bipush 8, 2) := by decide +kernel
theorem dX12_readSum_111 : decode cX12_readSum 111 = .ok (.aload_n 0, 1) := by decide +kernel
theorem dX12_readSum_112 : decode cX12_readSum 112 = .ok (.getfield 60, 3) := by decide +kernel
theorem dX12_readSum_115 : decode cX12_readSum 115 = .ok (.iconst 2, 1) := by decide +kernel
theorem dX12_readSum_116 : decode cX12_readSum 116 = .ok (.iaload, 1) := by decide +kernel
theorem dX12_readSum_117 : decode cX12_readSum 117 = .ok (.iadd, 1) := by decide +kernel
theorem dX12_readSum_118 : decode cX12_readSum 118 = .ok (.iload_n 1, 1) := by decide +kernel
theorem dX12_readSum_119 : decode cX12_readSum 119 = .ok (.iastore, 1) := by decide +kernel
theorem dX12_right_0 : decode cX12_right 0 = .ok (.aload_n 0, 1) := by decide +kernel
theorem dX12_right_1 : decode cX12_right 1 = .ok (.iconst 0, 1) := by decide +kernel
theorem dX12_right_2 : decode cX12_right 2 = .ok (.putfield 1, 3) := by decide +kernel
theorem dX12_right_5 : decode cX12_right 5 = .ok (.aload_n 0, 1) := by decide +kernel
theorem dX12_right_6 : decode cX12_right 6 = .ok (.iload_n 1, 1) := by decide +kernel
theorem dX12_right_7 : decode cX12_right 7 = .ok (.iload_n 2, 1) := by decide +kernel
theorem dX12_right_8 : decode cX12_right 8 = .ok (.iload_n 3, 1) := by decide +kernel
theorem dX12_right_9 : decode cX12_right 9 = .ok (.invokevirtual 333, 3) := by decide +kernel
theorem dX12_right_12 : decode cX12_right 12 = .ok (.ifCond .eq 23, 3) := by decide +kernel
theorem dX12_right_15 : decode cX12_right 15 = .ok (.aload_n 0, 1) := by decide +kernel
theorem dX12_right_16 : decode cX12_right 16 = .ok (.iload_n 2, 1) := by decide +kernel
theorem dX12_right_17 : decode cX12_right 17 = .ok (.iload 4, 2) := by decide +kernel
theorem dX12_right_19 : decode cX12_right 19 = .ok (.invokevirtual 352, 3) := by decide +kernel
theorem dX12_right_22 : decode cX12_right 22 = .ok (.ifCond .eq 13, 3) := by decide +kernel
theorem dX12_right_25 : decode cX12_right 25 = .ok (.aload_n 0, 1) := by decide +kernel
theorem dX12_right_26 : decode cX12_right 26 = .ok (.iload_n 1, 1) := by decide +kernel
theorem dX12_right_27 : decode cX12_right 27 = .ok (.iload_n 2, 1) := by decide +kernel
theorem dX12_right_28 : decode cX12_right 28 = .ok (.iload_n 3, 1) := by decide +kernel
theorem dX12_right_29 : decode cX12_right 29 = .ok (.invokevirtual 364, 3) := by decide +kernel
theorem dX12_right_32 : decode cX12_right 32 = .ok (.ifCond .ne 5, 3) := by decide +kernel
theorem dX12_right_35 : decode cX12_right 35 = .ok (.iconst (-1), 1) := by decide +kernel
theorem dX12_right_36 : decode cX12_right 36 = .ok (.ireturn, 1) := by decide +kernel
theorem dX12_right_37 : decode cX12_right 37 = .ok (.iconst (-1), 1) := by decide +kernel
theorem dX12_right_38 : decode cX12_right 38 = .ok (.istore 5, 2) := by decide +kernel
theorem dX12_right_40 : decode cX12_right 40 = .ok (.iconst 0, 1) := by decide +kernel
theorem dX12_right_41 : decode cX12_right 41 = .ok (.istore 6, 2) := by decide +kernel
theorem dX12_right_43 : decode cX12_right 43 = .ok (.iload 6, 2) := by decide +kernel
theorem dX12_right_45 : decode cX12_right 45 = .ok (.aload_n 0, 1) := by decide +kernel
theorem dX12_right_46 : decode cX12_right 46 = .ok (.getfield 361, 3) := by decide +kernel
theorem dX12_right_49 : decode cX12_right 49 = .ok (.if_icmp .ge 80, 3) := by decide +kernel
theorem dX12_right_52 : decode cX12_right 52 = .ok (.aload_n 0, 1) := by decide +kernel
theorem dX12_right_53 : decode cX12_right 53 = .ok (.invokevirtual 336, 3) := by decide +kernel
theorem dX12_right_56 : decode cX12_right 56 = .ok (.aload_n 0, 1) := by decide +kernel
theorem dX12_right_57 : decode cX12_right 57 = .ok (.getfield 100, 3) := by decide +kernel
theorem dX12_right_60 : decode cX12_right 60 = .ok (.aload_n 0, 1) := by decide +kernel
theorem dX12_right_61 : decode cX12_right 61 = .ok (.getfield 112, 3) := by decide +kernel
theorem dX12_right_64 : decode cX12_right 64 = .ok (.iload 6, 2) := by decide +kernel
theorem dX12_right_66 : decode cX12_right 66 = .ok (.iaload, 1) := by decide +kernel
theorem dX12_right_67 : decode cX12_right 67 = .ok (.iconst 1, 1) := by decide +kernel
theorem dX12_right_68 : decode cX12_right 68 = .ok (.bastore, 1) := by decide +kernel
theorem dX12_right_69 : decode cX12_right 69 = .ok (.aload_n 0, 1) := by decide +kernel
theorem dX12_right_70 : decode cX12_right 70 = .ok (.iload_n 1, 1) := by decide +kernel
theorem dX12_right_71 : decode cX12_right 71 = .ok (.iload_n 2, 1) := by decide +kernel
theorem dX12_right_72 : decode cX12_right 72 = .ok (.iload_n 3, 1) := by decide +kernel
theorem dX12_right_73 : decode cX12_right 73 = .ok (.aload_n 0, 1) := by decide +kernel
theorem dX12_right_74 : decode cX12_right 74 = .ok (.getfield 69, 3) := by decide +kernel
theorem dX12_right_77 : decode cX12_right 77 = .ok (.iload_n 1, 1) := by decide +kernel
theorem dX12_right_78 : decode cX12_right 78 = .ok (.iaload, 1) := by decide +kernel
theorem dX12_right_79 : decode cX12_right 79 = .ok (.invokevirtual 339, 3) := by decide +kernel
theorem dX12_right_82 : decode cX12_right 82 = .ok (.aload_n 0, 1) := by decide +kernel
theorem dX12_right_83 : decode cX12_right 83 = .ok (.invokevirtual 346, 3) := by decide +kernel
theorem dX12_right_86 : decode cX12_right 86 = .ok (.aload_n 0, 1) := by decide +kernel
theorem dX12_right_87 : decode cX12_right 87 = .ok (.iload 4, 2) := by decide +kernel
theorem dX12_right_89 : decode cX12_right 89 = .ok (.invokevirtual 330, 3) := by decide +kernel
theorem dX12_right_92 : decode cX12_right 92 = .ok (.ifCond .eq 20, 3) := by decide +kernel
theorem dX12_right_95 : decode cX12_right 95 = .ok (.iload 5, 2) := by decide +kernel
theorem dX12_right_97 : decode cX12_right 97 = .ok (.ifCond .lt 17, 3) := by decide +kernel
theorem dX12_right_100 : decode cX12_right 100 = .ok (.iload 5, 2) := by decide +kernel
theorem dX12_right_102 : decode cX12_right 102 = .ok (.aload_n 0, 1) := by decide +kernel
theorem dX12_right_103 : decode cX12_right 103 = .ok (.getfield 109, 3) := by decide +kernel
theorem dX12_right_106 : decode cX12_right 106 = .ok (.iload 4, 2) := by decide +kernel
theorem dX12_right_108 : decode cX12_right 108 = .ok (.iaload, 1) := by decide +kernel
theorem dX12_right_109 : decode cX12_right 109 = .ok (.if_icmp .eq 5, 3) := by decide +kernel
theorem dX12_right_112 : decode cX12_right 112 = .ok (.iconst (-1), 1) := by decide +kernel
theorem dX12_right_113 : decode cX12_right 113 = .ok (.ireturn, 1) := by decide +kernel
theorem dX12_right_114 : decode cX12_right 114 = .ok (.aload_n 0, 1) := by decide +kernel
theorem dX12_right_115 : decode cX12_right 115 = .ok (.getfield 109, 3) := by decide +kernel
theorem dX12_right_118 : decode cX12_right 118 = .ok (.iload 4, 2) := by decide +kernel
theorem dX12_right_120 : decode cX12_right 120 = .ok (.iaload, 1) := by decide +kernel
theorem dX12_right_121 : decode cX12_right 121 = .ok (.istore 5, 2) := by decide +kernel
theorem dX12_right_123 : decode cX12_right 123 = .ok (.iinc 6 1, 3) := by decide +kernel
theorem dX12_right_126 : decode cX12_right 126 = .ok (.goto (-83), 3) := by decide +kernel
theorem dX12_right_129 : decode cX12_right 129 = .ok (.iload 5, 2) := by decide +kernel
theorem dX12_right_131 : decode cX12_right 131 = .ok (.ireturn, 1) := by decide +kernel
set_option maxHeartbeats 4000000 in
set_option maxRecDepth 100000 in
theorem s_X12_right {P : PP} {a0 : Nat} {a1 : Int32} {a2 : Int32} {a3 : Int32} {a4 : Int32} (I : IM P a0) (hW : MW P a0) : CtrI yX12_right cX12_right 7 (some Jvm.ClassFile.FieldType.int) ({ frames := 8, cells := 0, slots := 0, locals := 512 } : Room) 0 0 P [.ref a0, .int a1, .int a2, .int a3, .int a4] (fun r P2 => IM P2 a0 ∧ EM [0, 28, 29, 30, 31, 32, 35, 36, 37, 38, 39, 40] a0 P P2 ∧ MW P2 a0 ∧ (True)) := by
  refine enI (lv := [(0, .ref a0), (1, .int a1), (2, .int a2), (3, .int a3), (4, .int a4)]) (by decide) (Nat.le_of_ble_eq_true rfl) rfl (fun E D cy C Ci0 ret => ?_)
  have ha0 := I.2.1
  have J112 : ∀ (P112 : PP), (IM P112 a0) → (EM [0, 28, 29, 30, 31, 32, 35, 36, 37, 38, 39, 40] a0 P P112) → (MW P112 a0) → (0 ≤ (pI P112 a0 0).toInt ∧ (pI P112 a0 0).toInt ≤ 0) → (0 ≤ (pI P112 a0 28).toInt ∧ (pI P112 a0 28).toInt ≤ 44) → (1 ≤ (pI P112 a0 39).toInt ∧ (pI P112 a0 39).toInt ≤ 40) → (∀ b, pR P112 a0 10 = some b → 1 ≤ (pI P112 b (a2.toInt.toNat)).toInt ∧ (pI P112 b (a2.toInt.toNat)).toInt ≤ 16) → G E ({ frames := 8, cells := 0, slots := 0, locals := 512 } : Room) D cy 7 P112 0 0 112 [] [] := by
    intro P112 I112 X112 W112 hq112_0 hq112_1 hq112_2 hq112_3
    have h72018 := X112.at ha0
    obtain ⟨b72019, e72020, h72021⟩ := I112.fld (h72018) 10 13 2 rfl
    have hq112_3 := hq112_3 b72019 e72020
    refine g_iconst (v := (-1)) C dX12_right_112 (by decide) ?_
    exact ret _ _ _ _ _ _ dX12_right_113 rfl (by decide) (by decide) ⟨I112, X112, W112, trivial⟩
  have J43 : ∀ (n43 : Nat) (P43 : PP) (v43_5 : Int32) (v43_6 : Int32), (40 - v43_6.toInt).toNat < n43 → (IM P43 a0) → (EM [0, 28, 29, 30, 31, 32, 35, 36, 37, 38, 39, 40] a0 P P43) → (MW P43 a0) → (0 ≤ a1.toInt ∧ a1.toInt ≤ 3) → (0 ≤ a2.toInt ∧ a2.toInt ≤ 1) → (0 ≤ a3.toInt ∧ a3.toInt ≤ 1) → (0 ≤ a4.toInt ∧ a4.toInt ≤ 19) → (0 ≤ v43_6.toInt ∧ v43_6.toInt ≤ 40) → (0 ≤ (pI P43 a0 0).toInt ∧ (pI P43 a0 0).toInt ≤ 0) → (∀ b, pR P43 a0 10 = some b → 1 ≤ (pI P43 b (a2.toInt.toNat)).toInt ∧ (pI P43 b (a2.toInt.toNat)).toInt ≤ 16) → G E ({ frames := 8, cells := 0, slots := 0, locals := 512 } : Room) D cy 7 P43 0 0 43 [(0, .ref a0), (1, .int a1), (2, .int a2), (3, .int a3), (4, .int a4), (5, .int v43_5), (6, .int v43_6)] [] := by
    intro n43
    induction n43 with
    | zero => intro P43 v43_5 v43_6 hm43 I43 X43 W43 hv43_1 hv43_2 hv43_3 hv43_4 hv43_6 hq43_0 hq43_1; omega
    | succ n43 ih43 =>
      intro P43 v43_5 v43_6 hm43 I43 X43 W43 hv43_1 hv43_2 hv43_3 hv43_4 hv43_6 hq43_0 hq43_1
      have h72022 := X43.at ha0
      obtain ⟨b72023, e72024, h72025⟩ := I43.fld (h72022) 10 13 2 rfl
      have hq43_1 := hq43_1 b72023 e72024
      have J114 : ∀ (P114 : PP), (IM P114 a0) → (EM [0, 28, 29, 30, 31, 32, 35, 36, 37, 38, 39, 40] a0 P P114) → (MW P114 a0) → (0 ≤ a1.toInt ∧ a1.toInt ≤ 3) → (0 ≤ a2.toInt ∧ a2.toInt ≤ 1) → (0 ≤ a3.toInt ∧ a3.toInt ≤ 1) → (0 ≤ a4.toInt ∧ a4.toInt ≤ 19) → (0 ≤ v43_6.toInt ∧ v43_6.toInt ≤ 39) → (0 ≤ (pI P114 a0 0).toInt ∧ (pI P114 a0 0).toInt ≤ 0) → (0 ≤ (pI P114 a0 28).toInt ∧ (pI P114 a0 28).toInt ≤ 44) → (1 ≤ (pI P114 a0 39).toInt ∧ (pI P114 a0 39).toInt ≤ 40) → (∀ b, pR P114 a0 10 = some b → 1 ≤ (pI P114 b (a2.toInt.toNat)).toInt ∧ (pI P114 b (a2.toInt.toNat)).toInt ≤ 16) → G E ({ frames := 8, cells := 0, slots := 0, locals := 512 } : Room) D cy 7 P114 0 0 114 [(0, .ref a0), (1, .int a1), (2, .int a2), (3, .int a3), (4, .int a4), (6, .int v43_6)] [] := by
        intro P114 I114 X114 W114 hv114_1 hv114_2 hv114_3 hv114_4 hv114_6 hq114_0 hq114_1 hq114_2 hq114_3
        have h72026 := X114.at ha0
        obtain ⟨b72027, e72028, h72029⟩ := I114.fld (h72026) 10 13 2 rfl
        have hq114_3 := hq114_3 b72027 e72028
        refine g_aload_n C dX12_right_114 rfl 0 rfl ?_
        obtain ⟨b72030, e72031, h72032⟩ := I114.fld (h72026) 38 13 20 rfl
        refine g_getR C fi_X12_109 rfl e72031 (h72026).1 (h72026).2 dX12_right_115 ?_
        refine g_iload C dX12_right_118 4 rfl ?_
        refine g_iald (j := (a4.toInt.toNat)) C h72032.1 h72032.2.1 (ix_in h72032.2.2 (by omega)) dX12_right_120 ?_
        refine g_topi (fun z72033 h72034 => ?_)
        have h72034 : z72033.toInt = (pI P114 b72030 (a4.toInt.toNat)).toInt := congrArg Int32.toInt h72034
        refine g_istore (lv' := [(5, .int z72033), (0, .ref a0), (1, .int a1), (2, .int a2), (3, .int a3), (4, .int a4), (6, .int v43_6)]) C dX12_right_121 (by decide) rfl ?_
        refine s_iinc (lv0 := [(5, .int z72033), (0, .ref a0), (1, .int a1), (2, .int a2), (3, .int a3), (4, .int a4)]) (m := 1) C dX12_right_123 6 rfl (by decide) rfl (by decide) (by omega) (fun z72035 h72036 => ?_)
        have h72036 : z72035.toInt = v43_6.toInt + 1 := h72036
        refine g_goto C 43 dX12_right_126 (by decide) ?_
        refine g_lv (lv' := [(0, .ref a0), (1, .int a1), (2, .int a2), (3, .int a3), (4, .int a4), (5, .int z72033), (6, .int z72035)]) [2, 3, 4, 5, 6, 1, 0] rfl ?_
        exact ih43 P114 z72033 z72035 (by omega) I114 X114 W114 (by omega) (by omega) (by omega) (by omega) (by omega) (by omega) (fun b9 e9 => by rw [e72028] at e9; cases e9; omega)
      refine g_iload C dX12_right_43 6 rfl ?_
      refine g_aload_n C dX12_right_45 rfl 0 rfl ?_
      refine g_getI C fi_X12_361 (by decide) (h72022).1 (h72022).2 dX12_right_46 ?_
      have h72037 := I43.rg (h72022) 39 rfl
      refine b_icmp_ge C 129 dX12_right_49 (by decide) (fun h72038 => ?_) (fun h72038 => ?_)
      · have h72038 : (pI P43 a0 39).toInt ≤ v43_6.toInt := h72038
        refine g_iload C dX12_right_129 5 rfl ?_
        exact ret _ _ _ _ _ _ dX12_right_131 rfl (by decide) (by decide) ⟨I43, X43, W43, trivial⟩
      · have h72038 : v43_6.toInt < (pI P43 a0 39).toInt := h72038
        refine g_aload_n C dX12_right_52 rfl 0 rfl ?_
        refine g_callVV (rest := []) C mv_X12_336 [] (s_X12_leavesNone I43 W43) (h72022).1 (h72022).2 rfl rfl (by decide) (Nat.le_of_ble_eq_true rfl) (by decide) dX12_right_53 (fun Y72040 h72041 => ?_)
        obtain ⟨Iy72042, Xy72043, W72044⟩ := h72041
        have q72045 := Xy72043.keepF 0 (by decide)
        have q72046 := Xy72043.keepA e72024 (by decide) rfl (a2.toInt.toNat)
        have q72047 := Xy72043.keepF 39 (by decide)
        have Xz72048 : EM [0, 28, 29, 30, 31, 32, 35, 36, 37, 38, 39, 40] a0 P Y72040 := EM.tr ha0 X43 (Xy72043.mono (by decide))
        have e72049 := Xy72043.ref h72022 (by decide) e72024
        have h72050 := Xy72043.at h72022
        have h72051 := Xy72043.ar h72025
        refine g_aload_n C dX12_right_56 rfl 0 rfl ?_
        obtain ⟨b72052, e72053, h72054⟩ := Iy72042.fld (h72050) 32 15 40 rfl
        refine g_getR C fi_X12_100 rfl e72053 (h72050).1 (h72050).2 dX12_right_57 ?_
        refine g_aload_n C dX12_right_60 rfl 0 rfl ?_
        obtain ⟨b72055, e72056, h72057⟩ := Iy72042.fld (h72050) 40 13 40 rfl
        refine g_getR C fi_X12_112 rfl e72056 (h72050).1 (h72050).2 dX12_right_61 ?_
        refine g_iload C dX12_right_64 6 rfl ?_
        refine g_iald (j := (v43_6.toInt.toNat)) C h72057.1 h72057.2.1 (ix_in h72057.2.2 (by omega)) dX12_right_66 ?_
        have h72058 := Iy72042.arr e72056 rfl (v43_6.toInt.toNat)
        refine g_iconst (v := 1) C dX12_right_67 (by decide) ?_
        refine g_zast (j := ((pI Y72040 b72055 (v43_6.toInt.toNat)).toInt.toNat)) C h72054.1 h72054.2.1 (ix_in h72054.2.2 (by omega)) (Or.inr rfl) dX12_right_68 ?_
        refine gqW (ks := [32]) (Iy72042.setA e72053 h72054 (by decide) (arOk.none rfl)) (EM.setA Iy72042 e72053 rfl (by decide)) (fun Y72059 Iy72060 Xy72061 w72062 => ?_)
        have w72062 : (pI Y72059 b72052 ((pI Y72040 b72055 (v43_6.toInt.toNat)).toInt.toNat)).toInt = 1 := w72062
        have q72063 := Xy72061.keepF 0 (by decide)
        have q72064 := Xy72061.keepA e72049 (by decide) rfl (a2.toInt.toNat)
        have q72065 := Xy72061.keepF 39 (by decide)
        have q72066 := Xy72061.keepA e72056 (by decide) rfl (v43_6.toInt.toNat)
        have W72067 := W72044.keep Iy72042 Xy72061 (by decide) (by decide) (by decide)
        have Xz72068 : EM [0, 28, 29, 30, 31, 32, 35, 36, 37, 38, 39, 40] a0 P Y72059 := EM.tr ha0 Xz72048 (Xy72061.mono (by decide))
        have e72069 := Xy72061.ref h72050 (by decide) e72049
        have e72070 := Xy72061.ref h72050 (by decide) e72056
        have h72071 := Xy72061.at h72050
        have h72072 := Xy72061.ar h72051
        have h72073 := Xy72061.ar h72057
        refine g_aload_n C dX12_right_69 rfl 0 rfl ?_
        refine g_iload_n C dX12_right_70 rfl 1 rfl ?_
        refine g_iload_n C dX12_right_71 rfl 2 rfl ?_
        refine g_iload_n C dX12_right_72 rfl 3 rfl ?_
        refine g_aload_n C dX12_right_73 rfl 0 rfl ?_
        obtain ⟨b72074, e72075, h72076⟩ := Iy72060.fld (h72071) 20 13 20 rfl
        refine g_getR C fi_X12_69 rfl e72075 (h72071).1 (h72071).2 dX12_right_74 ?_
        refine g_iload_n C dX12_right_77 rfl 1 rfl ?_
        refine g_iald (j := (a1.toInt.toNat)) C h72076.1 h72076.2.1 (ix_in h72076.2.2 (by omega)) dX12_right_78 ?_
        have h72077 := Iy72060.arr e72075 rfl (a1.toInt.toNat)
        refine g_callVV (rest := []) C mv_X12_339 [.int a1, .int a2, .int a3, .int (pI Y72059 b72074 (a1.toInt.toNat))] (s_X12_gathers Iy72060 (by omega) (by omega) (by omega) (fun b9 e9 => by rw [e72069] at e9; cases e9; show 1 ≤ (pI Y72059 b72023 (a2.toInt.toNat)).toInt ∧ (pI Y72059 b72023 (a2.toInt.toNat)).toInt ≤ 16; omega) W72067) (h72071).1 (h72071).2 rfl rfl (by decide) (Nat.le_of_ble_eq_true rfl) (by decide) dX12_right_79 (fun Y72079 h72080 => ?_)
        obtain ⟨Iy72081, Xy72082, W72083, p72084⟩ := h72080
        have p72084 : (pI Y72079 a0 28).toInt ≤ 4 + (pI Y72059 b72074 (a1.toInt.toNat)).toInt := p72084
        have q72085 := Xy72082.keepF 0 (by decide)
        have q72086 := Xy72082.keepA e72069 (by decide) rfl (a2.toInt.toNat)
        have q72087 := Xy72082.keepF 39 (by decide)
        have q72088 := Xy72082.keepA e72070 (by decide) rfl (v43_6.toInt.toNat)
        have q72089 := Xy72082.keepA e72075 (by decide) rfl (a1.toInt.toNat)
        have Xz72090 : EM [0, 28, 29, 30, 31, 32, 35, 36, 37, 38, 39, 40] a0 P Y72079 := EM.tr ha0 Xz72068 (Xy72082.mono (by decide))
        have e72091 := Xy72082.ref h72071 (by decide) e72069
        have e72092 := Xy72082.ref h72071 (by decide) e72070
        have e72093 := Xy72082.ref h72071 (by decide) e72075
        have h72094 := Xy72082.at h72071
        have h72095 := Xy72082.ar h72072
        have h72096 := Xy72082.ar h72073
        have h72097 := Xy72082.ar h72076
        have h72098 := Iy72081.rg h72094 28 rfl
        refine g_aload_n C dX12_right_82 rfl 0 rfl ?_
        refine g_callVV (rest := []) C mv_X12_346 [] (s_X12_findSolved Iy72081 W72083) (h72094).1 (h72094).2 rfl rfl (by decide) (Nat.le_of_ble_eq_true rfl) (by decide) dX12_right_83 (fun Y72100 h72101 => ?_)
        obtain ⟨Iy72102, Xy72103, W72104⟩ := h72101
        have q72105 := Xy72103.keepF 0 (by decide)
        have q72106 := Xy72103.keepA e72091 (by decide) rfl (a2.toInt.toNat)
        have q72107 := Xy72103.keepF 39 (by decide)
        have q72108 := Xy72103.keepA e72092 (by decide) rfl (v43_6.toInt.toNat)
        have q72109 := Xy72103.keepA e72093 (by decide) rfl (a1.toInt.toNat)
        have q72110 := Xy72103.keepF 28 (by decide)
        have Xz72111 : EM [0, 28, 29, 30, 31, 32, 35, 36, 37, 38, 39, 40] a0 P Y72100 := EM.tr ha0 Xz72090 (Xy72103.mono (by decide))
        have e72112 := Xy72103.ref h72094 (by decide) e72091
        have e72113 := Xy72103.ref h72094 (by decide) e72092
        have e72114 := Xy72103.ref h72094 (by decide) e72093
        have h72115 := Xy72103.at h72094
        have h72116 := Xy72103.ar h72095
        have h72117 := Xy72103.ar h72096
        have h72118 := Xy72103.ar h72097
        refine g_aload_n C dX12_right_86 rfl 0 rfl ?_
        refine g_iload C dX12_right_87 4 rfl ?_
        refine g_callVI (rest := []) C mv_X12_330 [.int a4] (s_X12_isFixed Iy72102 (by omega) W72104) (h72115).1 (h72115).2 rfl rfl (by decide) (Nat.le_of_ble_eq_true rfl) (by decide) dX12_right_89 (fun r72119 Y72120 h72121 => ?_)
        obtain ⟨rfl, h72121⟩ := h72121
        have h72121 : 0 ≤ r72119.toInt ∧ r72119.toInt ≤ 1 := h72121
        refine b_if_eq C 112 dX12_right_92 (by decide) (fun h72122 => ?_) (fun h72122 => ?_)
        · have h72122 : r72119.toInt = 0 := congrArg Int32.toInt h72122
          refine g_lv (lv' := []) [] rfl ?_
          exact J112 Y72100 Iy72102 Xz72111 W72104 (by omega) (by omega) (by omega) (fun b9 e9 => by rw [e72112] at e9; cases e9; omega)
        · have h72122 : r72119.toInt ≠ 0 := ti_ne h72122
          refine g_iload C dX12_right_95 5 rfl ?_
          have u72124 := ti_rng v43_5
          refine b_if_lt C 114 dX12_right_97 (by decide) (fun h72123 => ?_) (fun h72123 => ?_)
          · have h72123 : v43_5.toInt < 0 := h72123
            refine g_lv (lv' := [(0, .ref a0), (1, .int a1), (2, .int a2), (3, .int a3), (4, .int a4), (6, .int v43_6)]) [0, 1, 2, 3, 4, 6] rfl ?_
            exact J114 Y72100 Iy72102 Xz72111 W72104 (by omega) (by omega) (by omega) (by omega) (by omega) (by omega) (by omega) (by omega) (fun b9 e9 => by rw [e72112] at e9; cases e9; omega)
          · have h72123 : 0 ≤ v43_5.toInt := h72123
            refine g_iload C dX12_right_100 5 rfl ?_
            refine g_aload_n C dX12_right_102 rfl 0 rfl ?_
            obtain ⟨b72125, e72126, h72127⟩ := Iy72102.fld (h72115) 38 13 20 rfl
            refine g_getR C fi_X12_109 rfl e72126 (h72115).1 (h72115).2 dX12_right_103 ?_
            refine g_iload C dX12_right_106 4 rfl ?_
            refine g_iald (j := (a4.toInt.toNat)) C h72127.1 h72127.2.1 (ix_in h72127.2.2 (by omega)) dX12_right_108 ?_
            have u72129 := ti_rng v43_5
            have u72130 := ti_rng (pI Y72100 b72125 (a4.toInt.toNat))
            refine b_icmp_eq C 114 dX12_right_109 (by decide) (fun h72128 => ?_) (fun h72128 => ?_)
            · have h72128 : v43_5.toInt = (pI Y72100 b72125 (a4.toInt.toNat)).toInt := congrArg Int32.toInt h72128
              refine g_lv (lv' := [(0, .ref a0), (1, .int a1), (2, .int a2), (3, .int a3), (4, .int a4), (6, .int v43_6)]) [0, 1, 2, 3, 4, 6] rfl ?_
              exact J114 Y72100 Iy72102 Xz72111 W72104 (by omega) (by omega) (by omega) (by omega) (by omega) (by omega) (by omega) (by omega) (fun b9 e9 => by rw [e72112] at e9; cases e9; omega)
            · have h72128 : v43_5.toInt ≠ (pI Y72100 b72125 (a4.toInt.toNat)).toInt := ti_ne h72128
              refine g_lv (lv' := []) [] rfl ?_
              exact J112 Y72100 Iy72102 Xz72111 W72104 (by omega) (by omega) (by omega) (fun b9 e9 => by rw [e72112] at e9; cases e9; omega)
  have J35 : ∀ (P35 : PP), (IM P35 a0) → (EM [0, 28, 29, 30, 31, 32, 35, 36, 37, 38, 39, 40] a0 P P35) → (MW P35 a0) → (0 ≤ (pI P35 a0 0).toInt ∧ (pI P35 a0 0).toInt ≤ 0) → G E ({ frames := 8, cells := 0, slots := 0, locals := 512 } : Room) D cy 7 P35 0 0 35 [] [] := by
    intro P35 I35 X35 W35 hq35_0
    have h72131 := X35.at ha0
    refine g_iconst (v := (-1)) C dX12_right_35 (by decide) ?_
    exact ret _ _ _ _ _ _ dX12_right_36 rfl (by decide) (by decide) ⟨I35, X35, W35, trivial⟩
  refine g_aload_n C dX12_right_0 rfl 0 rfl ?_
  refine g_iconst (v := 0) C dX12_right_1 (by decide) ?_
  refine g_putI C fi_X12_1 rfl (ha0).1 (ha0).2 dX12_right_2 ?_
  refine gqW (ks := [0]) (I.setI (rgOk.of rfl (by decide))) (EM.setI I (by decide)) (fun Y72132 Iy72133 Xy72134 w72135 => ?_)
  have w72135 : (pI Y72132 a0 0).toInt = 0 := w72135
  have W72136 := hW.keep I Xy72134 (by decide) (by decide) (by decide)
  have Xz72137 : EM [0, 28, 29, 30, 31, 32, 35, 36, 37, 38, 39, 40] a0 P Y72132 := Xy72134.mono (by decide)
  have h72138 := Xy72134.at ha0
  refine g_aload_n C dX12_right_5 rfl 0 rfl ?_
  refine g_iload_n C dX12_right_6 rfl 1 rfl ?_
  refine g_iload_n C dX12_right_7 rfl 2 rfl ?_
  refine g_iload_n C dX12_right_8 rfl 3 rfl ?_
  refine g_callVI (rest := []) C mv_X12_333 [.int a1, .int a2, .int a3] (s_X12_isAsked Iy72133 W72136) (h72138).1 (h72138).2 rfl rfl (by decide) (Nat.le_of_ble_eq_true rfl) (by decide) dX12_right_9 (fun r72139 Y72140 h72141 => ?_)
  obtain ⟨rfl, h72141⟩ := h72141
  obtain ⟨h72141, hi72142, hi72143⟩ := h72141
  have hi72142 : r72139.toInt = 0 ∨ (((0 : Int) ≤ a1.toInt ∧ a1.toInt ≤ (3 : Int)) ∧ ((0 : Int) ≤ a2.toInt ∧ a2.toInt ≤ (1 : Int)) ∧ ((0 : Int) ≤ a3.toInt ∧ a3.toInt ≤ (1 : Int))) := hi72142
  have h72141 : 0 ≤ r72139.toInt ∧ r72139.toInt ≤ 1 := h72141
  refine b_if_eq C 35 dX12_right_12 (by decide) (fun h72144 => ?_) (fun h72144 => ?_)
  · have h72144 : r72139.toInt = 0 := congrArg Int32.toInt h72144
    clear hi72142
    refine g_lv (lv' := []) [] rfl ?_
    exact J35 Y72132 Iy72133 Xz72137 W72136 (by omega)
  · have h72144 : r72139.toInt ≠ 0 := ti_ne h72144
    replace hi72142 := hi72142.resolve_left (by omega)
    obtain ⟨b72145, e72146, h72147⟩ := Iy72133.fld (h72138) 10 13 2 rfl
    have hi72143 := (hi72143.resolve_left (by omega)) b72145 e72146
    have hi72143 : 0 < (pI Y72132 b72145 (a2.toInt.toNat)).toInt := hi72143
    have h72148 := Iy72133.arr e72146 rfl (a2.toInt.toNat)
    refine g_aload_n C dX12_right_15 rfl 0 rfl ?_
    refine g_iload_n C dX12_right_16 rfl 2 rfl ?_
    refine g_iload C dX12_right_17 4 rfl ?_
    refine g_callVI (rest := []) C mv_X12_352 [.int a2, .int a4] (s_X12_isPage Iy72133 (by omega) W72136) (h72138).1 (h72138).2 rfl rfl (by decide) (Nat.le_of_ble_eq_true rfl) (by decide) dX12_right_19 (fun r72149 Y72150 h72151 => ?_)
    obtain ⟨rfl, h72151⟩ := h72151
    obtain ⟨h72151, hi72152⟩ := h72151
    have hi72152 : r72149.toInt = 0 ∨ (((0 : Int) ≤ a4.toInt ∧ a4.toInt ≤ (19 : Int))) := hi72152
    have h72151 : 0 ≤ r72149.toInt ∧ r72149.toInt ≤ 1 := h72151
    refine b_if_eq C 35 dX12_right_22 (by decide) (fun h72153 => ?_) (fun h72153 => ?_)
    · have h72153 : r72149.toInt = 0 := congrArg Int32.toInt h72153
      clear hi72152
      refine g_lv (lv' := []) [] rfl ?_
      exact J35 Y72132 Iy72133 Xz72137 W72136 (by omega)
    · have h72153 : r72149.toInt ≠ 0 := ti_ne h72153
      replace hi72152 := hi72152.resolve_left (by omega)
      refine g_aload_n C dX12_right_25 rfl 0 rfl ?_
      refine g_iload_n C dX12_right_26 rfl 1 rfl ?_
      refine g_iload_n C dX12_right_27 rfl 2 rfl ?_
      refine g_iload_n C dX12_right_28 rfl 3 rfl ?_
      refine g_callVI (rest := []) C mv_X12_364 [.int a1, .int a2, .int a3] (s_X12_findSlipped Iy72133 (by omega) (by omega) (by omega) (fun b9 e9 => by rw [e72146] at e9; cases e9; show 1 ≤ (pI Y72132 b72145 (a2.toInt.toNat)).toInt ∧ (pI Y72132 b72145 (a2.toInt.toNat)).toInt ≤ 16; omega) W72136) (h72138).1 (h72138).2 rfl rfl (by decide) (Nat.le_of_ble_eq_true rfl) (by decide) dX12_right_29 (fun r72154 Y72155 h72156 => ?_)
      obtain ⟨Iy72157, Xy72158, W72159, h72156⟩ := h72156
      have q72160 := Xy72158.keepF 0 (by decide)
      have q72161 := Xy72158.keepA e72146 (by decide) rfl (a2.toInt.toNat)
      have Xz72162 : EM [0, 28, 29, 30, 31, 32, 35, 36, 37, 38, 39, 40] a0 P Y72155 := EM.tr ha0 Xz72137 (Xy72158.mono (by decide))
      have e72163 := Xy72158.ref h72138 (by decide) e72146
      have h72164 := Xy72158.at h72138
      have h72165 := Xy72158.ar h72147
      have h72156 : 0 ≤ r72154.toInt ∧ r72154.toInt ≤ 1 := h72156
      refine b_if_ne C 37 dX12_right_32 (by decide) (fun h72166 => ?_) (fun h72166 => ?_)
      · have h72166 : r72154.toInt ≠ 0 := ti_ne h72166
        refine g_iconst (v := (-1)) C dX12_right_37 (by decide) ?_
        refine g_istore (lv' := [(5, .int (-1)), (0, .ref a0), (1, .int a1), (2, .int a2), (3, .int a3), (4, .int a4)]) C dX12_right_38 (by decide) rfl ?_
        refine g_iconst (v := 0) C dX12_right_40 (by decide) ?_
        refine g_istore (lv' := [(6, .int 0), (5, .int (-1)), (0, .ref a0), (1, .int a1), (2, .int a2), (3, .int a3), (4, .int a4)]) C dX12_right_41 (by decide) rfl ?_
        refine g_lv (lv' := [(0, .ref a0), (1, .int a1), (2, .int a2), (3, .int a3), (4, .int a4), (5, .int (-1)), (6, .int 0)]) [2, 3, 4, 5, 6, 1, 0] rfl ?_
        exact J43 _ Y72155 (-1) 0 (Nat.lt_succ_self _) Iy72157 Xz72162 W72159 (by omega) (by omega) (by omega) (by omega) (by decide) (by omega) (fun b9 e9 => by rw [e72163] at e9; cases e9; omega)
      · have h72166 : r72154.toInt = 0 := congrArg Int32.toInt h72166
        refine g_lv (lv' := []) [] rfl ?_
        exact J35 Y72155 Iy72157 Xz72162 W72159 (by omega)
theorem dX12_scatter_0 : decode cX12_scatter 0 = .ok (.aload_n 0, 1) := by decide +kernel
theorem dX12_scatter_1 : decode cX12_scatter 1 = .ok (.iconst 0, 1) := by decide +kernel
theorem dX12_scatter_2 : decode cX12_scatter 2 = .ok (.putfield 1, 3) := by decide +kernel
theorem dX12_scatter_5 : decode cX12_scatter 5 = .ok (.aload_n 0, 1) := by decide +kernel
theorem dX12_scatter_6 : decode cX12_scatter 6 = .ok (.iload_n 1, 1) := by decide +kernel
theorem dX12_scatter_7 : decode cX12_scatter 7 = .ok (.invokevirtual 192, 3) := by decide +kernel
theorem dX12_scatter_10 : decode cX12_scatter 10 = .ok (.ifCond .eq 30, 3) := by decide +kernel
theorem dX12_scatter_13 : decode cX12_scatter 13 = .ok (.iload_n 2, 1) := by decide +kernel
theorem dX12_scatter_14 : decode cX12_scatter 14 = .ok (.invokestatic 258, 3) := by decide +kernel
theorem dX12_scatter_17 : decode cX12_scatter 17 = .ok (.ifCond .eq 23, 3) := by decide +kernel
theorem dX12_scatter_20 : decode cX12_scatter 20 = .ok (.iload_n 3, 1) := by decide +kernel
theorem dX12_scatter_21 : decode cX12_scatter 21 = .ok (.invokestatic 258, 3) := by decide +kernel
theorem dX12_scatter_24 : decode cX12_scatter 24 = .ok (.ifCond .eq 16, 3) := by decide +kernel
theorem dX12_scatter_27 : decode cX12_scatter 27 = .ok (.iload_n 3, 1) := by decide +kernel
theorem dX12_scatter_28 : decode cX12_scatter 28 = .ok (.iload_n 2, 1) := by decide +kernel
theorem dX12_scatter_29 : decode cX12_scatter 29 = .ok (.if_icmp .lt 11, 3) := by decide +kernel
theorem dX12_scatter_32 : decode cX12_scatter 32 = .ok (.iload_n 3, 1) := by decide +kernel
theorem dX12_scatter_33 : decode cX12_scatter 33 = .ok (.iload_n 2, 1) := by decide +kernel
theorem dX12_scatter_34 : decode cX12_scatter 34 = .ok (.isub, 1) := by decide +kernel
theorem dX12_scatter_35 : decode cX12_scatter 35 = .ok (.bipush 99, 2) := by decide +kernel
theorem dX12_scatter_37 : decode cX12_scatter 37 = .ok (.if_icmp .le 5, 3) := by decide +kernel
theorem dX12_scatter_40 : decode cX12_scatter 40 = .ok (.iconst (-1), 1) := by decide +kernel
theorem dX12_scatter_41 : decode cX12_scatter 41 = .ok (.ireturn, 1) := by decide +kernel
theorem dX12_scatter_42 : decode cX12_scatter 42 = .ok (.iconst 0, 1) := by decide +kernel
theorem dX12_scatter_43 : decode cX12_scatter 43 = .ok (.istore 4, 2) := by decide +kernel
theorem dX12_scatter_45 : decode cX12_scatter 45 = .ok (.iload_n 2, 1) := by decide +kernel
theorem dX12_scatter_46 : decode cX12_scatter 46 = .ok (.istore 5, 2) := by decide +kernel
theorem dX12_scatter_48 : decode cX12_scatter 48 = .ok (.iload 5, 2) := by decide +kernel
theorem dX12_scatter_50 : decode cX12_scatter 50 = .ok (.iload_n 3, 1) := by decide +kernel
theorem dX12_scatter_51 : decode cX12_scatter 51 = .ok (.if_icmp .gt 119, 3) := by decide +kernel
theorem dX12_scatter_54 : decode cX12_scatter 54 = .ok (.aload_n 0, 1) := by decide +kernel
theorem dX12_scatter_55 : decode cX12_scatter 55 = .ok (.iload_n 1, 1) := by decide +kernel
theorem dX12_scatter_56 : decode cX12_scatter 56 = .ok (.aload_n 0, 1) := by decide +kernel
theorem dX12_scatter_57 : decode cX12_scatter 57 = .ok (.iload_n 1, 1) := by decide +kernel
theorem dX12_scatter_58 : decode cX12_scatter 58 = .ok (.iload 5, 2) := by decide +kernel
theorem dX12_scatter_60 : decode cX12_scatter 60 = .ok (.invokevirtual 261, 3) := by decide +kernel
theorem dX12_scatter_63 : decode cX12_scatter 63 = .ok (.invokevirtual 223, 3) := by decide +kernel
theorem dX12_scatter_66 : decode cX12_scatter 66 = .ok (.istore 6, 2) := by decide +kernel
theorem dX12_scatter_68 : decode cX12_scatter 68 = .ok (.iconst 0, 1) := by decide +kernel
theorem dX12_scatter_69 : decode cX12_scatter 69 = .ok (.istore 7, 2) := by decide +kernel
theorem dX12_scatter_71 : decode cX12_scatter 71 = .ok (.iload 7, 2) := by decide +kernel
theorem dX12_scatter_73 : decode cX12_scatter 73 = .ok (.iconst 4, 1) := by decide +kernel
theorem dX12_scatter_74 : decode cX12_scatter 74 = .ok (.if_icmp .ge 90, 3) := by decide +kernel
theorem dX12_scatter_77 : decode cX12_scatter 77 = .ok (.aload_n 0, 1) := by decide +kernel
theorem dX12_scatter_78 : decode cX12_scatter 78 = .ok (.iload 7, 2) := by decide +kernel
theorem dX12_scatter_80 : decode cX12_scatter 80 = .ok (.iload_n 1, 1) := by decide +kernel
theorem dX12_scatter_81 : decode cX12_scatter 81 = .ok (.iload 5, 2) := by decide +kernel
theorem dX12_scatter_83 : decode cX12_scatter 83 = .ok (.invokevirtual 402, 3) := by decide +kernel
theorem dX12_scatter_86 : decode cX12_scatter 86 = .ok (.ifCond .eq 72, 3) := by decide +kernel
theorem dX12_scatter_89 : decode cX12_scatter 89 = .ok (.aload_n 0, 1) := by decide +kernel
theorem dX12_scatter_90 : decode cX12_scatter 90 = .ok (.getfield 69, 3) := by decide +kernel
theorem dX12_scatter_93 : decode cX12_scatter 93 = .ok (.iload 7, 2) := by decide +kernel
theorem dX12_scatter_95 : decode cX12_scatter 95 = .ok (.iaload, 1) := by decide +kernel
theorem dX12_scatter_96 : decode cX12_scatter 96 = .ok (.bipush 40, 2) := by decide +kernel
theorem dX12_scatter_98 : decode cX12_scatter 98 = .ok (.if_icmp .ge 60, 3) := by decide +kernel
theorem dX12_scatter_101 : decode cX12_scatter 101 = .ok (.aload_n 0, 1) := by decide +kernel
theorem dX12_scatter_102 : decode cX12_scatter 102 = .ok (.iload 7, 2) := by decide +kernel
theorem dX12_scatter_104 : decode cX12_scatter 104 = .ok (.iload_n 1, 1) := by decide +kernel
theorem dX12_scatter_105 : decode cX12_scatter 105 = .ok (.iload 5, 2) := by decide +kernel
theorem dX12_scatter_107 : decode cX12_scatter 107 = .ok (.iload 6, 2) := by decide +kernel
theorem dX12_scatter_109 : decode cX12_scatter 109 = .ok (.iconst 3, 1) := by decide +kernel
theorem dX12_scatter_110 : decode cX12_scatter 110 = .ok (.aload_n 0, 1) := by decide +kernel
theorem dX12_scatter_111 : decode cX12_scatter 111 = .ok (.iload_n 1, 1) := by decide +kernel
theorem dX12_scatter_112 : decode cX12_scatter 112 = .ok (.iload 5, 2) := by decide +kernel
theorem dX12_scatter_114 : decode cX12_scatter 114 = .ok (.iload 6, 2) := by decide +kernel
theorem dX12_scatter_116 : decode cX12_scatter 116 = .ok (.invokevirtual 267, 3) := by decide +kernel
theorem dX12_scatter_119 : decode cX12_scatter 119 = .ok (.invokevirtual 284, 3) := by decide +kernel
theorem dX12_scatter_122 : decode cX12_scatter 122 = .ok (.istore 8, 2) := by decide +kernel
theorem dX12_scatter_124 : decode cX12_scatter 124 = .ok (.aload_n 0, 1) := by decide +kernel
theorem dX12_scatter_125 : decode cX12_scatter 125 = .ok (.iload 7, 2) := by decide +kernel
theorem dX12_scatter_127 : decode cX12_scatter 127 = .ok (.bipush 40, 2) := by decide +kernel
theorem dX12_scatter_129 : decode cX12_scatter 129 = .ok (.iload 7, 2) := by decide +kernel
theorem dX12_scatter_131 : decode cX12_scatter 131 = .ok (.imul, 1) := by decide +kernel
theorem dX12_scatter_132 : decode cX12_scatter 132 = .ok (.iload 8, 2) := by decide +kernel
theorem dX12_scatter_134 : decode cX12_scatter 134 = .ok (.iadd, 1) := by decide +kernel
theorem dX12_scatter_135 : decode cX12_scatter 135 = .ok (.invokevirtual 405, 3) := by decide +kernel
theorem dX12_scatter_138 : decode cX12_scatter 138 = .ok (.ifCond .eq 17, 3) := by decide +kernel
theorem dX12_scatter_141 : decode cX12_scatter 141 = .ok (.aload_n 0, 1) := by decide +kernel
theorem dX12_scatter_142 : decode cX12_scatter 142 = .ok (.getfield 69, 3) := by decide +kernel
theorem dX12_scatter_145 : decode cX12_scatter 145 = .ok (.iload 7, 2) := by decide +kernel
theorem dX12_scatter_147 : decode cX12_scatter 147 = .ok (.dup2, 1) := by decide +kernel
theorem dX12_scatter_148 : decode cX12_scatter 148 = .ok (.iaload, 1) := by decide +kernel
theorem dX12_scatter_149 : decode cX12_scatter 149 = .ok (.iconst 1, 1) := by decide +kernel
theorem dX12_scatter_150 : decode cX12_scatter 150 = .ok (.isub, 1) := by decide +kernel
theorem dX12_scatter_151 : decode cX12_scatter 151 = .ok (.iastore, 1) := by decide +kernel
theorem dX12_scatter_152 : decode cX12_scatter 152 = .ok (.goto 6, 3) := by decide +kernel
theorem dX12_scatter_155 : decode cX12_scatter 155 = .ok (.iinc 4 1, 3) := by decide +kernel
theorem dX12_scatter_158 : decode cX12_scatter 158 = .ok (.iinc 7 1, 3) := by decide +kernel
theorem dX12_scatter_161 : decode cX12_scatter 161 = .ok (.goto (-90), 3) := by decide +kernel
theorem dX12_scatter_164 : decode cX12_scatter 164 = .ok (.iinc 5 1, 3) := by decide +kernel
theorem dX12_scatter_167 : decode cX12_scatter 167 = .ok (.goto (-119), 3) := by decide +kernel
theorem dX12_scatter_170 : decode cX12_scatter 170 = .ok (.iload 4, 2) := by decide +kernel
theorem dX12_scatter_172 : decode cX12_scatter 172 = .ok (.ireturn, 1) := by decide +kernel
set_option maxHeartbeats 4000000 in
set_option maxRecDepth 100000 in
theorem s_X12_scatter {P : PP} {a0 : Nat} {a1 : Int32} {a2 : Int32} {a3 : Int32} (I : IM P a0) (hW : MW P a0) : CtrI yX12_scatter cX12_scatter 9 (some Jvm.ClassFile.FieldType.int) ({ frames := 6, cells := 0, slots := 0, locals := 384 } : Room) 0 0 P [.ref a0, .int a1, .int a2, .int a3] (fun r P2 => IM P2 a0 ∧ EM [0, 20, 21, 22, 23, 24, 25] a0 P P2 ∧ MW P2 a0 ∧ (True)) := by
  refine enI (lv := [(0, .ref a0), (1, .int a1), (2, .int a2), (3, .int a3)]) (by decide) (Nat.le_of_ble_eq_true rfl) rfl (fun E D cy C Ci0 ret => ?_)
  have ha0 := I.2.1
  have J48 : ∀ (n48 : Nat) (P48 : PP) (v48_4 : Int32) (v48_5 : Int32), (10000 - v48_5.toInt).toNat < n48 → (IM P48 a0) → (EM [0, 20, 21, 22, 23, 24, 25] a0 P P48) → (MW P48 a0) → (0 ≤ a1.toInt ∧ a1.toInt ≤ 1) → (0 ≤ a3.toInt ∧ a3.toInt ≤ 9999) → (0 ≤ v48_5.toInt ∧ v48_5.toInt ≤ 10000) → (0 ≤ (pI P48 a0 0).toInt ∧ (pI P48 a0 0).toInt ≤ 0) → (∀ b, pR P48 a0 10 = some b → 1 ≤ (pI P48 b (a1.toInt.toNat)).toInt ∧ (pI P48 b (a1.toInt.toNat)).toInt ≤ 16) → G E ({ frames := 6, cells := 0, slots := 0, locals := 384 } : Room) D cy 9 P48 0 0 48 [(0, .ref a0), (1, .int a1), (3, .int a3), (4, .int v48_4), (5, .int v48_5)] [] := by
    intro n48
    induction n48 with
    | zero => intro P48 v48_4 v48_5 hm48 I48 X48 W48 hv48_1 hv48_3 hv48_5 hq48_0 hq48_1; omega
    | succ n48 ih48 =>
      intro P48 v48_4 v48_5 hm48 I48 X48 W48 hv48_1 hv48_3 hv48_5 hq48_0 hq48_1
      have h75015 := X48.at ha0
      obtain ⟨b75016, e75017, h75018⟩ := I48.fld (h75015) 10 13 2 rfl
      have hq48_1 := hq48_1 b75016 e75017
      have J71 : ∀ (n71 : Nat) (P71 : PP) (v71_4 : Int32) (v71_6 : Int32) (v71_7 : Int32), (4 - v71_7.toInt).toNat < n71 → (IM P71 a0) → (EM [0, 20, 21, 22, 23, 24, 25] a0 P P71) → (MW P71 a0) → (0 ≤ a1.toInt ∧ a1.toInt ≤ 1) → (0 ≤ a3.toInt ∧ a3.toInt ≤ 9999) → (0 ≤ v48_5.toInt ∧ v48_5.toInt ≤ 9999) → (0 ≤ v71_7.toInt ∧ v71_7.toInt ≤ 4) → (0 ≤ (pI P71 a0 0).toInt ∧ (pI P71 a0 0).toInt ≤ 0) → (∀ b, pR P71 a0 10 = some b → 1 ≤ (pI P71 b (a1.toInt.toNat)).toInt ∧ (pI P71 b (a1.toInt.toNat)).toInt ≤ 16) → G E ({ frames := 6, cells := 0, slots := 0, locals := 384 } : Room) D cy 9 P71 0 0 71 [(0, .ref a0), (1, .int a1), (3, .int a3), (4, .int v71_4), (5, .int v48_5), (6, .int v71_6), (7, .int v71_7)] [] := by
        intro n71
        induction n71 with
        | zero => intro P71 v71_4 v71_6 v71_7 hm71 I71 X71 W71 hv71_1 hv71_3 hv71_5 hv71_7 hq71_0 hq71_1; omega
        | succ n71 ih71 =>
          intro P71 v71_4 v71_6 v71_7 hm71 I71 X71 W71 hv71_1 hv71_3 hv71_5 hv71_7 hq71_0 hq71_1
          have h75019 := X71.at ha0
          obtain ⟨b75020, e75021, h75022⟩ := I71.fld (h75019) 10 13 2 rfl
          have hq71_1 := hq71_1 b75020 e75021
          have J158 : ∀ (P158 : PP) (v158_4 : Int32), (IM P158 a0) → (EM [0, 20, 21, 22, 23, 24, 25] a0 P P158) → (MW P158 a0) → (0 ≤ a1.toInt ∧ a1.toInt ≤ 1) → (0 ≤ a3.toInt ∧ a3.toInt ≤ 9999) → (0 ≤ v48_5.toInt ∧ v48_5.toInt ≤ 9999) → (0 ≤ v71_7.toInt ∧ v71_7.toInt ≤ 3) → (0 ≤ (pI P158 a0 0).toInt ∧ (pI P158 a0 0).toInt ≤ 0) → (∀ b, pR P158 a0 10 = some b → 1 ≤ (pI P158 b (a1.toInt.toNat)).toInt ∧ (pI P158 b (a1.toInt.toNat)).toInt ≤ 16) → G E ({ frames := 6, cells := 0, slots := 0, locals := 384 } : Room) D cy 9 P158 0 0 158 [(0, .ref a0), (1, .int a1), (3, .int a3), (4, .int v158_4), (5, .int v48_5), (6, .int v71_6), (7, .int v71_7)] [] := by
            intro P158 v158_4 I158 X158 W158 hv158_1 hv158_3 hv158_5 hv158_7 hq158_0 hq158_1
            have h75023 := X158.at ha0
            obtain ⟨b75024, e75025, h75026⟩ := I158.fld (h75023) 10 13 2 rfl
            have hq158_1 := hq158_1 b75024 e75025
            refine s_iinc (lv0 := [(0, .ref a0), (1, .int a1), (3, .int a3), (4, .int v158_4), (5, .int v48_5), (6, .int v71_6)]) (m := 1) C dX12_scatter_158 6 rfl (by decide) rfl (by decide) (by omega) (fun z75027 h75028 => ?_)
            have h75028 : z75027.toInt = v71_7.toInt + 1 := h75028
            refine g_goto C 71 dX12_scatter_161 (by decide) ?_
            refine g_lv (lv' := [(0, .ref a0), (1, .int a1), (3, .int a3), (4, .int v158_4), (5, .int v48_5), (6, .int v71_6), (7, .int z75027)]) [1, 2, 3, 4, 5, 6, 0] rfl ?_
            exact ih71 P158 v158_4 v71_6 z75027 (by omega) I158 X158 W158 (by omega) (by omega) (by omega) (by omega) (by omega) (fun b9 e9 => by rw [e75025] at e9; cases e9; omega)
          refine g_iload C dX12_scatter_71 6 rfl ?_
          refine g_iconst (v := 4) C dX12_scatter_73 (by decide) ?_
          refine b_icmp_ge C 164 dX12_scatter_74 (by decide) (fun h75029 => ?_) (fun h75029 => ?_)
          · have h75029 : 4 ≤ v71_7.toInt := h75029
            refine s_iinc (lv0 := [(0, .ref a0), (1, .int a1), (3, .int a3), (4, .int v71_4), (6, .int v71_6), (7, .int v71_7)]) (m := 1) C dX12_scatter_164 4 rfl (by decide) rfl (by decide) (by omega) (fun z75030 h75031 => ?_)
            have h75031 : z75030.toInt = v48_5.toInt + 1 := h75031
            refine g_goto C 48 dX12_scatter_167 (by decide) ?_
            refine g_lv (lv' := [(0, .ref a0), (1, .int a1), (3, .int a3), (4, .int v71_4), (5, .int z75030)]) [1, 2, 3, 4, 0] rfl ?_
            exact ih48 P71 v71_4 z75030 (by omega) I71 X71 W71 (by omega) (by omega) (by omega) (by omega) (fun b9 e9 => by rw [e75021] at e9; cases e9; omega)
          · have h75029 : v71_7.toInt < 4 := h75029
            refine g_aload_n C dX12_scatter_77 rfl 0 rfl ?_
            refine g_iload C dX12_scatter_78 6 rfl ?_
            refine g_iload_n C dX12_scatter_80 rfl 1 rfl ?_
            refine g_iload C dX12_scatter_81 4 rfl ?_
            refine g_callVI (rest := []) C mv_X12_402 [.int v71_7, .int a1, .int v48_5] (s_X12_falls I71 (by omega) W71) (h75019).1 (h75019).2 rfl rfl (by decide) (Nat.le_of_ble_eq_true rfl) (by decide) dX12_scatter_83 (fun r75032 Y75033 h75034 => ?_)
            obtain ⟨rfl, h75034⟩ := h75034
            have h75034 : 0 ≤ r75032.toInt ∧ r75032.toInt ≤ 1 := h75034
            refine b_if_eq C 158 dX12_scatter_86 (by decide) (fun h75035 => ?_) (fun h75035 => ?_)
            · have h75035 : r75032.toInt = 0 := congrArg Int32.toInt h75035
              exact J158 P71 v71_4 I71 X71 W71 (by omega) (by omega) (by omega) (by omega) (by omega) (fun b9 e9 => by rw [e75021] at e9; cases e9; omega)
            · have h75035 : r75032.toInt ≠ 0 := ti_ne h75035
              refine g_aload_n C dX12_scatter_89 rfl 0 rfl ?_
              obtain ⟨b75036, e75037, h75038⟩ := I71.fld (h75019) 20 13 20 rfl
              refine g_getR C fi_X12_69 rfl e75037 (h75019).1 (h75019).2 dX12_scatter_90 ?_
              refine g_iload C dX12_scatter_93 6 rfl ?_
              refine g_iald (j := (v71_7.toInt.toNat)) C h75038.1 h75038.2.1 (ix_in h75038.2.2 (by omega)) dX12_scatter_95 ?_
              have h75039 := I71.arr e75037 rfl (v71_7.toInt.toNat)
              refine g_bipush (v := 40) C dX12_scatter_96 (by decide) ?_
              refine b_icmp_ge C 158 dX12_scatter_98 (by decide) (fun h75040 => ?_) (fun h75040 => ?_)
              · have h75040 : 40 ≤ (pI P71 b75036 (v71_7.toInt.toNat)).toInt := h75040
                exact J158 P71 v71_4 I71 X71 W71 (by omega) (by omega) (by omega) (by omega) (by omega) (fun b9 e9 => by rw [e75021] at e9; cases e9; omega)
              · have h75040 : (pI P71 b75036 (v71_7.toInt.toNat)).toInt < 40 := h75040
                refine g_aload_n C dX12_scatter_101 rfl 0 rfl ?_
                refine g_iload C dX12_scatter_102 6 rfl ?_
                refine g_iload_n C dX12_scatter_104 rfl 1 rfl ?_
                refine g_iload C dX12_scatter_105 4 rfl ?_
                refine g_iload C dX12_scatter_107 5 rfl ?_
                refine g_iconst (v := 3) C dX12_scatter_109 (by decide) ?_
                refine g_aload_n C dX12_scatter_110 rfl 0 rfl ?_
                refine g_iload_n C dX12_scatter_111 rfl 1 rfl ?_
                refine g_iload C dX12_scatter_112 4 rfl ?_
                refine g_iload C dX12_scatter_114 5 rfl ?_
                refine g_callVI (rest := [.int 3, .int v71_6, .int v48_5, .int a1, .int v71_7, .ref a0]) C mv_X12_267 [.int a1, .int v48_5, .int v71_6] (s_X12_sealOf I71 (by omega) W71) (h75019).1 (h75019).2 rfl rfl (by decide) (Nat.le_of_ble_eq_true rfl) (by decide) dX12_scatter_116 (fun r75041 Y75042 h75043 => ?_)
                obtain ⟨rfl, h75043⟩ := h75043
                have h75043 : True := h75043
                refine g_callVI (rest := []) C mv_X12_284 [.int v71_7, .int a1, .int v48_5, .int v71_6, .int 3, .int r75041] (s_X12_lays I71 (by omega) (by omega) (fun b9 e9 => by rw [e75037] at e9; cases e9; show 0 ≤ (pI P71 b75036 (v71_7.toInt.toNat)).toInt ∧ (pI P71 b75036 (v71_7.toInt.toNat)).toInt ≤ 39; omega) W71 (fun c9 f9 _ => by rw [e75021] at f9; cases f9; show 0 < (pI P71 b75020 (a1.toInt.toNat)).toInt; omega)) (h75019).1 (h75019).2 rfl rfl (by decide) (Nat.le_of_ble_eq_true rfl) (by decide) dX12_scatter_119 (fun r75044 Y75045 h75046 => ?_)
                obtain ⟨Iy75047, Xy75048, W75049, p75050, h75046⟩ := h75046
                have p75050 := p75050 b75036 e75037
                have p75050 : (pI Y75045 b75036 (v71_7.toInt.toNat)).toInt = (pI P71 b75036 (v71_7.toInt.toNat)).toInt + 1 := p75050
                have q75051 := Xy75048.keepF 0 (by decide)
                have q75052 := Xy75048.keepA e75021 (by decide) rfl (a1.toInt.toNat)
                have Xz75053 : EM [0, 20, 21, 22, 23, 24, 25] a0 P Y75045 := EM.tr ha0 X71 (Xy75048.mono (by decide))
                have e75054 := Xy75048.ref h75019 (by decide) e75021
                have e75055 := Xy75048.ref h75019 (by decide) e75037
                have h75056 := Xy75048.at h75019
                have h75057 := Xy75048.ar h75022
                have h75058 := Xy75048.ar h75038
                have h75046 : 0 ≤ r75044.toInt ∧ r75044.toInt ≤ 39 := h75046
                refine g_istore (lv' := [(8, .int r75044), (0, .ref a0), (1, .int a1), (3, .int a3), (4, .int v71_4), (5, .int v48_5), (6, .int v71_6), (7, .int v71_7)]) C dX12_scatter_122 (by decide) rfl ?_
                refine g_aload_n C dX12_scatter_124 rfl 1 rfl ?_
                refine g_iload C dX12_scatter_125 7 rfl ?_
                refine g_bipush (v := 40) C dX12_scatter_127 (by decide) ?_
                refine g_iload C dX12_scatter_129 7 rfl ?_
                refine s_imul C dX12_scatter_131 (by show -2147483648 ≤ 40 * v71_7.toInt ∧ 40 * v71_7.toInt ≤ 2147483647; omega) (fun z75059 h75060 => ?_)
                have h75060 : z75059.toInt = 40 * v71_7.toInt := h75060
                refine g_iload C dX12_scatter_132 0 rfl ?_
                refine s_iadd C dX12_scatter_134 (by show -2147483648 ≤ z75059.toInt + r75044.toInt ∧ z75059.toInt + r75044.toInt ≤ 2147483647; omega) (fun z75061 h75062 => ?_)
                have h75062 : z75061.toInt = z75059.toInt + r75044.toInt := h75062
                refine g_callVI (rest := []) C mv_X12_405 [.int v71_7, .int z75061] (s_X12_hasAlike Iy75047 (by omega) (by omega) W75049) (h75056).1 (h75056).2 rfl rfl (by decide) (Nat.le_of_ble_eq_true rfl) (by decide) dX12_scatter_135 (fun r75063 Y75064 h75065 => ?_)
                obtain ⟨rfl, h75065⟩ := h75065
                have h75065 : 0 ≤ r75063.toInt ∧ r75063.toInt ≤ 1 := h75065
                refine b_if_eq C 155 dX12_scatter_138 (by decide) (fun h75066 => ?_) (fun h75066 => ?_)
                · have h75066 : r75063.toInt = 0 := congrArg Int32.toInt h75066
                  refine a_iinc (lv0 := [(8, .int r75044), (0, .ref a0), (1, .int a1), (3, .int a3), (5, .int v48_5), (6, .int v71_6), (7, .int v71_7)]) C dX12_scatter_155 4 rfl (by decide) rfl (fun z75067 => ?_)
                  refine g_lv (lv' := [(0, .ref a0), (1, .int a1), (3, .int a3), (4, .int z75067), (5, .int v48_5), (6, .int v71_6), (7, .int v71_7)]) [2, 3, 4, 0, 5, 6, 7] rfl ?_
                  exact J158 Y75045 z75067 Iy75047 Xz75053 W75049 (by omega) (by omega) (by omega) (by omega) (by omega) (fun b9 e9 => by rw [e75054] at e9; cases e9; omega)
                · have h75066 : r75063.toInt ≠ 0 := ti_ne h75066
                  refine g_aload_n C dX12_scatter_141 rfl 1 rfl ?_
                  refine g_getR C fi_X12_69 rfl e75055 (h75056).1 (h75056).2 dX12_scatter_142 ?_
                  refine g_iload C dX12_scatter_145 7 rfl ?_
                  refine g_dup2_11 C dX12_scatter_147 rfl rfl ?_
                  refine g_iald (j := (v71_7.toInt.toNat)) C h75058.1 h75058.2.1 (ix_in h75058.2.2 (by omega)) dX12_scatter_148 ?_
                  refine g_iconst (v := 1) C dX12_scatter_149 (by decide) ?_
                  refine s_isub C dX12_scatter_150 (by show -2147483648 ≤ (pI Y75045 b75036 (v71_7.toInt.toNat)).toInt - 1 ∧ (pI Y75045 b75036 (v71_7.toInt.toNat)).toInt - 1 ≤ 2147483647; omega) (fun z75069 h75070 => ?_)
                  have h75070 : z75069.toInt = (pI Y75045 b75036 (v71_7.toInt.toNat)).toInt - 1 := h75070
                  refine g_iast (j := (v71_7.toInt.toNat)) C h75058.1 h75058.2.1 (ix_in h75058.2.2 (by omega)) dX12_scatter_151 ?_
                  refine gqW (ks := [20]) (Iy75047.setA e75055 h75058 (by decide) (arOk.of rfl (by omega))) (EM.setA Iy75047 e75055 rfl (by decide)) (fun Y75071 Iy75072 Xy75073 w75074 => ?_)
                  have w75074 : (pI Y75071 b75036 (v71_7.toInt.toNat)).toInt = z75069.toInt := w75074
                  have q75075 := Xy75073.keepF 0 (by decide)
                  have q75076 := Xy75073.keepA e75054 (by decide) rfl (a1.toInt.toNat)
                  have W75077 := W75049.keep Iy75047 Xy75073 (by decide) (by decide) (by decide)
                  have Xz75078 : EM [0, 20, 21, 22, 23, 24, 25] a0 P Y75071 := EM.tr ha0 Xz75053 (Xy75073.mono (by decide))
                  have e75079 := Xy75073.ref h75056 (by decide) e75054
                  have e75080 := Xy75073.ref h75056 (by decide) e75055
                  have h75081 := Xy75073.at h75056
                  have h75082 := Xy75073.ar h75057
                  have h75083 := Xy75073.ar h75058
                  refine g_goto C 158 dX12_scatter_152 (by decide) ?_
                  refine g_lv (lv' := [(0, .ref a0), (1, .int a1), (3, .int a3), (4, .int v71_4), (5, .int v48_5), (6, .int v71_6), (7, .int v71_7)]) [1, 2, 3, 4, 5, 6, 7] rfl ?_
                  exact J158 Y75071 v71_4 Iy75072 Xz75078 W75077 (by omega) (by omega) (by omega) (by omega) (by omega) (fun b9 e9 => by rw [e75079] at e9; cases e9; omega)
      refine g_iload C dX12_scatter_48 4 rfl ?_
      refine g_iload_n C dX12_scatter_50 rfl 2 rfl ?_
      refine b_icmp_gt C 170 dX12_scatter_51 (by decide) (fun h75084 => ?_) (fun h75084 => ?_)
      · have h75084 : a3.toInt < v48_5.toInt := h75084
        refine g_iload C dX12_scatter_170 3 rfl ?_
        exact ret _ _ _ _ _ _ dX12_scatter_172 rfl (by decide) (by decide) ⟨I48, X48, W48, trivial⟩
      · have h75084 : v48_5.toInt ≤ a3.toInt := h75084
        refine g_aload_n C dX12_scatter_54 rfl 0 rfl ?_
        refine g_iload_n C dX12_scatter_55 rfl 1 rfl ?_
        refine g_aload_n C dX12_scatter_56 rfl 0 rfl ?_
        refine g_iload_n C dX12_scatter_57 rfl 1 rfl ?_
        refine g_iload C dX12_scatter_58 4 rfl ?_
        refine g_callVI (rest := [.int a1, .ref a0]) C mv_X12_261 [.int a1, .int v48_5] (s_X12_setOf I48 (by omega) (fun b9 e9 => by rw [e75017] at e9; cases e9; show 1 ≤ (pI P48 b75016 (a1.toInt.toNat)).toInt ∧ (pI P48 b75016 (a1.toInt.toNat)).toInt ≤ 16; omega) W48) (h75015).1 (h75015).2 rfl rfl (by decide) (Nat.le_of_ble_eq_true rfl) (by decide) dX12_scatter_60 (fun r75085 Y75086 h75087 => ?_)
        obtain ⟨Iy75088, Xy75089, W75090, h75087⟩ := h75087
        have q75091 := Xy75089.keepF 0 (by decide)
        have q75092 := Xy75089.keepA e75017 (by decide) rfl (a1.toInt.toNat)
        have Xz75093 : EM [0, 20, 21, 22, 23, 24, 25] a0 P Y75086 := EM.tr ha0 X48 (Xy75089.mono (by decide))
        have e75094 := Xy75089.ref h75015 (by decide) e75017
        have h75095 := Xy75089.at h75015
        have h75096 := Xy75089.ar h75018
        have h75087 : True := h75087
        refine g_callVI (rest := []) C mv_X12_223 [.int a1, .int r75085] (s_X12_sumOf Iy75088 (by omega) W75090) (h75095).1 (h75095).2 rfl rfl (by decide) (Nat.le_of_ble_eq_true rfl) (by decide) dX12_scatter_63 (fun r75097 Y75098 h75099 => ?_)
        obtain ⟨rfl, h75099⟩ := h75099
        have h75099 : True := h75099
        refine g_istore (lv' := [(6, .int r75097), (0, .ref a0), (1, .int a1), (3, .int a3), (4, .int v48_4), (5, .int v48_5)]) C dX12_scatter_66 (by decide) rfl ?_
        refine g_iconst (v := 0) C dX12_scatter_68 (by decide) ?_
        refine g_istore (lv' := [(7, .int 0), (6, .int r75097), (0, .ref a0), (1, .int a1), (3, .int a3), (4, .int v48_4), (5, .int v48_5)]) C dX12_scatter_69 (by decide) rfl ?_
        refine g_lv (lv' := [(0, .ref a0), (1, .int a1), (3, .int a3), (4, .int v48_4), (5, .int v48_5), (6, .int r75097), (7, .int 0)]) [2, 3, 4, 5, 6, 1, 0] rfl ?_
        exact J71 _ Y75086 v48_4 r75097 0 (Nat.lt_succ_self _) Iy75088 Xz75093 W75090 (by omega) (by omega) (by omega) (by decide) (by omega) (fun b9 e9 => by rw [e75094] at e9; cases e9; omega)
  have J40 : ∀ (P40 : PP), (IM P40 a0) → (EM [0, 20, 21, 22, 23, 24, 25] a0 P P40) → (MW P40 a0) → (0 ≤ (pI P40 a0 0).toInt ∧ (pI P40 a0 0).toInt ≤ 0) → G E ({ frames := 6, cells := 0, slots := 0, locals := 384 } : Room) D cy 9 P40 0 0 40 [] [] := by
    intro P40 I40 X40 W40 hq40_0
    have h75100 := X40.at ha0
    refine g_iconst (v := (-1)) C dX12_scatter_40 (by decide) ?_
    exact ret _ _ _ _ _ _ dX12_scatter_41 rfl (by decide) (by decide) ⟨I40, X40, W40, trivial⟩
  refine g_aload_n C dX12_scatter_0 rfl 0 rfl ?_
  refine g_iconst (v := 0) C dX12_scatter_1 (by decide) ?_
  refine g_putI C fi_X12_1 rfl (ha0).1 (ha0).2 dX12_scatter_2 ?_
  refine gqW (ks := [0]) (I.setI (rgOk.of rfl (by decide))) (EM.setI I (by decide)) (fun Y75101 Iy75102 Xy75103 w75104 => ?_)
  have w75104 : (pI Y75101 a0 0).toInt = 0 := w75104
  have W75105 := hW.keep I Xy75103 (by decide) (by decide) (by decide)
  have Xz75106 : EM [0, 20, 21, 22, 23, 24, 25] a0 P Y75101 := Xy75103.mono (by decide)
  have h75107 := Xy75103.at ha0
  refine g_aload_n C dX12_scatter_5 rfl 0 rfl ?_
  refine g_iload_n C dX12_scatter_6 rfl 1 rfl ?_
  refine g_callVI (rest := []) C mv_X12_192 [.int a1] (s_X12_isBook Iy75102 W75105) (h75107).1 (h75107).2 rfl rfl (by decide) (Nat.le_of_ble_eq_true rfl) (by decide) dX12_scatter_7 (fun r75108 Y75109 h75110 => ?_)
  obtain ⟨rfl, h75110⟩ := h75110
  obtain ⟨h75110, hi75111, hi75112⟩ := h75110
  have hi75111 : r75108.toInt = 0 ∨ (((0 : Int) ≤ a1.toInt ∧ a1.toInt ≤ (1 : Int))) := hi75111
  have h75110 : 0 ≤ r75108.toInt ∧ r75108.toInt ≤ 1 := h75110
  refine b_if_eq C 40 dX12_scatter_10 (by decide) (fun h75113 => ?_) (fun h75113 => ?_)
  · have h75113 : r75108.toInt = 0 := congrArg Int32.toInt h75113
    clear hi75111
    refine g_lv (lv' := []) [] rfl ?_
    exact J40 Y75101 Iy75102 Xz75106 W75105 (by omega)
  · have h75113 : r75108.toInt ≠ 0 := ti_ne h75113
    replace hi75111 := hi75111.resolve_left (by omega)
    obtain ⟨b75114, e75115, h75116⟩ := Iy75102.fld (h75107) 10 13 2 rfl
    have hi75112 := (hi75112.resolve_left (by omega)) b75114 e75115
    have hi75112 : 0 < (pI Y75101 b75114 (a1.toInt.toNat)).toInt := hi75112
    have h75117 := Iy75102.arr e75115 rfl (a1.toInt.toNat)
    refine g_iload_n C dX12_scatter_13 rfl 2 rfl ?_
    refine g_callSI (b := 0) (ci := 0) (rest := []) C ms_X12_258 [.int a2] (s_X12_isNumber Iy75102.1) rfl rfl (by decide) (Nat.le_of_ble_eq_true rfl) (by decide) dX12_scatter_14 (fun r75118 Y75119 h75120 => ?_)
    obtain ⟨rfl, h75120⟩ := h75120
    obtain ⟨h75120, hi75121⟩ := h75120
    have hi75121 : r75118.toInt = 0 ∨ (((0 : Int) ≤ a2.toInt ∧ a2.toInt ≤ (9999 : Int))) := hi75121
    have h75120 : 0 ≤ r75118.toInt ∧ r75118.toInt ≤ 1 := h75120
    refine b_if_eq C 40 dX12_scatter_17 (by decide) (fun h75122 => ?_) (fun h75122 => ?_)
    · have h75122 : r75118.toInt = 0 := congrArg Int32.toInt h75122
      clear hi75121
      refine g_lv (lv' := []) [] rfl ?_
      exact J40 Y75101 Iy75102 Xz75106 W75105 (by omega)
    · have h75122 : r75118.toInt ≠ 0 := ti_ne h75122
      replace hi75121 := hi75121.resolve_left (by omega)
      refine g_iload_n C dX12_scatter_20 rfl 3 rfl ?_
      refine g_callSI (b := 0) (ci := 0) (rest := []) C ms_X12_258 [.int a3] (s_X12_isNumber Iy75102.1) rfl rfl (by decide) (Nat.le_of_ble_eq_true rfl) (by decide) dX12_scatter_21 (fun r75123 Y75124 h75125 => ?_)
      obtain ⟨rfl, h75125⟩ := h75125
      obtain ⟨h75125, hi75126⟩ := h75125
      have hi75126 : r75123.toInt = 0 ∨ (((0 : Int) ≤ a3.toInt ∧ a3.toInt ≤ (9999 : Int))) := hi75126
      have h75125 : 0 ≤ r75123.toInt ∧ r75123.toInt ≤ 1 := h75125
      refine b_if_eq C 40 dX12_scatter_24 (by decide) (fun h75127 => ?_) (fun h75127 => ?_)
      · have h75127 : r75123.toInt = 0 := congrArg Int32.toInt h75127
        clear hi75126
        refine g_lv (lv' := []) [] rfl ?_
        exact J40 Y75101 Iy75102 Xz75106 W75105 (by omega)
      · have h75127 : r75123.toInt ≠ 0 := ti_ne h75127
        replace hi75126 := hi75126.resolve_left (by omega)
        refine g_iload_n C dX12_scatter_27 rfl 3 rfl ?_
        refine g_iload_n C dX12_scatter_28 rfl 2 rfl ?_
        refine b_icmp_lt C 40 dX12_scatter_29 (by decide) (fun h75128 => ?_) (fun h75128 => ?_)
        · have h75128 : a3.toInt < a2.toInt := h75128
          refine g_lv (lv' := []) [] rfl ?_
          exact J40 Y75101 Iy75102 Xz75106 W75105 (by omega)
        · have h75128 : a2.toInt ≤ a3.toInt := h75128
          refine g_iload_n C dX12_scatter_32 rfl 3 rfl ?_
          refine g_iload_n C dX12_scatter_33 rfl 2 rfl ?_
          refine s_isub C dX12_scatter_34 (by show -2147483648 ≤ a3.toInt - a2.toInt ∧ a3.toInt - a2.toInt ≤ 2147483647; omega) (fun z75129 h75130 => ?_)
          have h75130 : z75129.toInt = a3.toInt - a2.toInt := h75130
          refine g_bipush (v := 99) C dX12_scatter_35 (by decide) ?_
          refine b_icmp_le C 42 dX12_scatter_37 (by decide) (fun h75131 => ?_) (fun h75131 => ?_)
          · have h75131 : z75129.toInt ≤ 99 := h75131
            refine g_iconst (v := 0) C dX12_scatter_42 (by decide) ?_
            refine g_istore (lv' := [(4, .int 0), (0, .ref a0), (1, .int a1), (2, .int a2), (3, .int a3)]) C dX12_scatter_43 (by decide) rfl ?_
            refine g_iload_n C dX12_scatter_45 rfl 3 rfl ?_
            refine g_istore (lv' := [(5, .int a2), (4, .int 0), (0, .ref a0), (1, .int a1), (2, .int a2), (3, .int a3)]) C dX12_scatter_46 (by decide) rfl ?_
            refine g_lv (lv' := [(0, .ref a0), (1, .int a1), (3, .int a3), (4, .int 0), (5, .int a2)]) [2, 3, 5, 1, 0] rfl ?_
            exact J48 _ Y75101 0 a2 (Nat.lt_succ_self _) Iy75102 Xz75106 W75105 (by omega) (by omega) (by omega) (by omega) (fun b9 e9 => by rw [e75115] at e9; cases e9; omega)
          · have h75131 : 99 < z75129.toInt := h75131
            refine g_lv (lv' := []) [] rfl ?_
            exact J40 Y75101 Iy75102 Xz75106 W75105 (by omega)
theorem dX12_slip_0 : decode cX12_slip 0 = .ok (.aload_n 0, 1) := by decide +kernel
theorem dX12_slip_1 : decode cX12_slip 1 = .ok (.iconst 0, 1) := by decide +kernel
theorem dX12_slip_2 : decode cX12_slip 2 = .ok (.putfield 1, 3) := by decide +kernel
theorem dX12_slip_5 : decode cX12_slip 5 = .ok (.iload_n 1, 1) := by decide +kernel
theorem dX12_slip_6 : decode cX12_slip 6 = .ok (.invokestatic 278, 3) := by decide +kernel
theorem dX12_slip_9 : decode cX12_slip 9 = .ok (.ifCond .eq 40, 3) := by decide +kernel
theorem dX12_slip_12 : decode cX12_slip 12 = .ok (.aload_n 0, 1) := by decide +kernel
theorem dX12_slip_13 : decode cX12_slip 13 = .ok (.iload_n 2, 1) := by decide +kernel
theorem dX12_slip_14 : decode cX12_slip 14 = .ok (.invokevirtual 192, 3) := by decide +kernel
theorem dX12_slip_17 : decode cX12_slip 17 = .ok (.ifCond .eq 32, 3) := by decide +kernel
theorem dX12_slip_20 : decode cX12_slip 20 = .ok (.iload_n 3, 1) := by decide +kernel
theorem dX12_slip_21 : decode cX12_slip 21 = .ok (.invokestatic 258, 3) := by decide +kernel
theorem dX12_slip_24 : decode cX12_slip 24 = .ok (.ifCond .eq 25, 3) := by decide +kernel
theorem dX12_slip_27 : decode cX12_slip 27 = .ok (.iload 4, 2) := by decide +kernel
theorem dX12_slip_29 : decode cX12_slip 29 = .ok (.iconst 1, 1) := by decide +kernel
theorem dX12_slip_30 : decode cX12_slip 30 = .ok (.ldc 195, 2) := by decide +kernel
theorem dX12_slip_32 : decode cX12_slip 32 = .ok (.invokestatic 178, 3) := by decide +kernel
theorem dX12_slip_35 : decode cX12_slip 35 = .ok (.ifCond .eq 14, 3) := by decide +kernel
theorem dX12_slip_38 : decode cX12_slip 38 = .ok (.aload_n 0, 1) := by decide +kernel
theorem dX12_slip_39 : decode cX12_slip 39 = .ok (.getfield 69, 3) := by decide +kernel
theorem dX12_slip_42 : decode cX12_slip 42 = .ok (.iload_n 1, 1) := by decide +kernel
theorem dX12_slip_43 : decode cX12_slip 43 = .ok (.iaload, 1) := by decide +kernel
theorem dX12_slip_44 : decode cX12_slip 44 = .ok (.bipush 40, 2) := by decide +kernel
theorem dX12_slip_46 : decode cX12_slip 46 = .ok (.if_icmp .ne 5, 3) := by decide +kernel
theorem dX12_slip_49 : decode cX12_slip 49 = .ok (.iconst (-1), 1) := by decide +kernel
theorem dX12_slip_50 : decode cX12_slip 50 = .ok (.ireturn, 1) := by decide +kernel
theorem dX12_slip_51 : decode cX12_slip 51 = .ok (.aload_n 0, 1) := by decide +kernel
theorem dX12_slip_52 : decode cX12_slip 52 = .ok (.iload_n 2, 1) := by decide +kernel
theorem dX12_slip_53 : decode cX12_slip 53 = .ok (.aload_n 0, 1) := by decide +kernel
theorem dX12_slip_54 : decode cX12_slip 54 = .ok (.iload_n 2, 1) := by decide +kernel
theorem dX12_slip_55 : decode cX12_slip 55 = .ok (.iload_n 3, 1) := by decide +kernel
theorem dX12_slip_56 : decode cX12_slip 56 = .ok (.invokevirtual 261, 3) := by decide +kernel
theorem dX12_slip_59 : decode cX12_slip 59 = .ok (.invokevirtual 223, 3) := by decide +kernel
theorem dX12_slip_62 : decode cX12_slip 62 = .ok (.istore 5, 2) := by decide +kernel
theorem dX12_slip_64 : decode cX12_slip 64 = .ok (.aload_n 0, 1) := by decide +kernel
theorem dX12_slip_65 : decode cX12_slip 65 = .ok (.iload_n 1, 1) := by decide +kernel
theorem dX12_slip_66 : decode cX12_slip 66 = .ok (.iload_n 2, 1) := by decide +kernel
theorem dX12_slip_67 : decode cX12_slip 67 = .ok (.iload_n 3, 1) := by decide +kernel
theorem dX12_slip_68 : decode cX12_slip 68 = .ok (.iload 5, 2) := by decide +kernel
theorem dX12_slip_70 : decode cX12_slip 70 = .ok (.iload 4, 2) := by decide +kernel
theorem dX12_slip_72 : decode cX12_slip 72 = .ok (.ixor, 1) := by decide +kernel
theorem dX12_slip_73 : decode cX12_slip 73 = .ok (.aload_n 0, 1) := by decide +kernel
theorem dX12_slip_74 : decode cX12_slip 74 = .ok (.iload_n 2, 1) := by decide +kernel
theorem dX12_slip_75 : decode cX12_slip 75 = .ok (.iload_n 3, 1) := by decide +kernel
theorem dX12_slip_76 : decode cX12_slip 76 = .ok (.iload 5, 2) := by decide +kernel
theorem dX12_slip_78 : decode cX12_slip 78 = .ok (.invokevirtual 267, 3) := by decide +kernel
theorem dX12_slip_81 : decode cX12_slip 81 = .ok (.invokevirtual 291, 3) := by decide +kernel
theorem dX12_slip_84 : decode cX12_slip 84 = .ok (.ireturn, 1) := by decide +kernel
set_option maxHeartbeats 4000000 in
set_option maxRecDepth 100000 in
theorem s_X12_slip {P : PP} {a0 : Nat} {a1 : Int32} {a2 : Int32} {a3 : Int32} {a4 : Int32} (I : IM P a0) (hW : MW P a0) : CtrI yX12_slip cX12_slip 6 (some Jvm.ClassFile.FieldType.int) ({ frames := 6, cells := 0, slots := 0, locals := 384 } : Room) 0 0 P [.ref a0, .int a1, .int a2, .int a3, .int a4] (fun r P2 => IM P2 a0 ∧ EM [0, 20, 21, 22, 23, 24, 25, 27] a0 P P2 ∧ MW P2 a0 ∧ (-1 ≤ r.toInt ∧ r.toInt ≤ 39)) := by
  refine enI (lv := [(0, .ref a0), (1, .int a1), (2, .int a2), (3, .int a3), (4, .int a4)]) (by decide) (Nat.le_of_ble_eq_true rfl) rfl (fun E D cy C Ci0 ret => ?_)
  have ha0 := I.2.1
  have J49 : ∀ (P49 : PP), (IM P49 a0) → (EM [0, 20, 21, 22, 23, 24, 25, 27] a0 P P49) → (MW P49 a0) → (0 ≤ (pI P49 a0 0).toInt ∧ (pI P49 a0 0).toInt ≤ 0) → G E ({ frames := 6, cells := 0, slots := 0, locals := 384 } : Room) D cy 6 P49 0 0 49 [] [] := by
    intro P49 I49 X49 W49 hq49_0
    have h75205 := X49.at ha0
    refine g_iconst (v := (-1)) C dX12_slip_49 (by decide) ?_
    exact ret _ _ _ _ _ _ dX12_slip_50 rfl (by decide) (by decide) ⟨I49, X49, W49, (by decide)⟩
  refine g_aload_n C dX12_slip_0 rfl 0 rfl ?_
  refine g_iconst (v := 0) C dX12_slip_1 (by decide) ?_
  refine g_putI C fi_X12_1 rfl (ha0).1 (ha0).2 dX12_slip_2 ?_
  refine gqW (ks := [0]) (I.setI (rgOk.of rfl (by decide))) (EM.setI I (by decide)) (fun Y75206 Iy75207 Xy75208 w75209 => ?_)
  have w75209 : (pI Y75206 a0 0).toInt = 0 := w75209
  have W75210 := hW.keep I Xy75208 (by decide) (by decide) (by decide)
  have Xz75211 : EM [0, 20, 21, 22, 23, 24, 25, 27] a0 P Y75206 := Xy75208.mono (by decide)
  have h75212 := Xy75208.at ha0
  refine g_iload_n C dX12_slip_5 rfl 1 rfl ?_
  refine g_callSI (b := 0) (ci := 0) (rest := []) C ms_X12_278 [.int a1] (s_X12_isQuarter Iy75207.1) rfl rfl (by decide) (Nat.le_of_ble_eq_true rfl) (by decide) dX12_slip_6 (fun r75213 Y75214 h75215 => ?_)
  obtain ⟨rfl, h75215⟩ := h75215
  obtain ⟨h75215, hi75216⟩ := h75215
  have hi75216 : r75213.toInt = 0 ∨ (((0 : Int) ≤ a1.toInt ∧ a1.toInt ≤ (3 : Int))) := hi75216
  have h75215 : 0 ≤ r75213.toInt ∧ r75213.toInt ≤ 1 := h75215
  refine b_if_eq C 49 dX12_slip_9 (by decide) (fun h75217 => ?_) (fun h75217 => ?_)
  · have h75217 : r75213.toInt = 0 := congrArg Int32.toInt h75217
    clear hi75216
    refine g_lv (lv' := []) [] rfl ?_
    exact J49 Y75206 Iy75207 Xz75211 W75210 (by omega)
  · have h75217 : r75213.toInt ≠ 0 := ti_ne h75217
    replace hi75216 := hi75216.resolve_left (by omega)
    refine g_aload_n C dX12_slip_12 rfl 0 rfl ?_
    refine g_iload_n C dX12_slip_13 rfl 2 rfl ?_
    refine g_callVI (rest := []) C mv_X12_192 [.int a2] (s_X12_isBook Iy75207 W75210) (h75212).1 (h75212).2 rfl rfl (by decide) (Nat.le_of_ble_eq_true rfl) (by decide) dX12_slip_14 (fun r75218 Y75219 h75220 => ?_)
    obtain ⟨rfl, h75220⟩ := h75220
    obtain ⟨h75220, hi75221, hi75222⟩ := h75220
    have hi75221 : r75218.toInt = 0 ∨ (((0 : Int) ≤ a2.toInt ∧ a2.toInt ≤ (1 : Int))) := hi75221
    have h75220 : 0 ≤ r75218.toInt ∧ r75218.toInt ≤ 1 := h75220
    refine b_if_eq C 49 dX12_slip_17 (by decide) (fun h75223 => ?_) (fun h75223 => ?_)
    · have h75223 : r75218.toInt = 0 := congrArg Int32.toInt h75223
      clear hi75221
      refine g_lv (lv' := []) [] rfl ?_
      exact J49 Y75206 Iy75207 Xz75211 W75210 (by omega)
    · have h75223 : r75218.toInt ≠ 0 := ti_ne h75223
      replace hi75221 := hi75221.resolve_left (by omega)
      obtain ⟨b75224, e75225, h75226⟩ := Iy75207.fld (h75212) 10 13 2 rfl
      have hi75222 := (hi75222.resolve_left (by omega)) b75224 e75225
      have hi75222 : 0 < (pI Y75206 b75224 (a2.toInt.toNat)).toInt := hi75222
      have h75227 := Iy75207.arr e75225 rfl (a2.toInt.toNat)
      refine g_iload_n C dX12_slip_20 rfl 3 rfl ?_
      refine g_callSI (b := 0) (ci := 0) (rest := []) C ms_X12_258 [.int a3] (s_X12_isNumber Iy75207.1) rfl rfl (by decide) (Nat.le_of_ble_eq_true rfl) (by decide) dX12_slip_21 (fun r75228 Y75229 h75230 => ?_)
      obtain ⟨rfl, h75230⟩ := h75230
      obtain ⟨h75230, hi75231⟩ := h75230
      have hi75231 : r75228.toInt = 0 ∨ (((0 : Int) ≤ a3.toInt ∧ a3.toInt ≤ (9999 : Int))) := hi75231
      have h75230 : 0 ≤ r75228.toInt ∧ r75228.toInt ≤ 1 := h75230
      refine b_if_eq C 49 dX12_slip_24 (by decide) (fun h75232 => ?_) (fun h75232 => ?_)
      · have h75232 : r75228.toInt = 0 := congrArg Int32.toInt h75232
        clear hi75231
        refine g_lv (lv' := []) [] rfl ?_
        exact J49 Y75206 Iy75207 Xz75211 W75210 (by omega)
      · have h75232 : r75228.toInt ≠ 0 := ti_ne h75232
        replace hi75231 := hi75231.resolve_left (by omega)
        refine g_iload C dX12_slip_27 4 rfl ?_
        refine g_iconst (v := 1) C dX12_slip_29 (by decide) ?_
        refine g_ldc (v := 65535) C kc_X12_195 dX12_slip_30 ?_
        refine g_callSI (b := 0) (ci := 0) (rest := []) C ms_X12_178 [.int a4, .int 1, .int 65535] (s_X12_within Iy75207.1) rfl rfl (by decide) (Nat.le_of_ble_eq_true rfl) (by decide) dX12_slip_32 (fun r75233 Y75234 h75235 => ?_)
        obtain ⟨rfl, h75235⟩ := h75235
        obtain ⟨h75235, hi75236⟩ := h75235
        have hi75236 : r75233.toInt = 0 ∨ (1 ≤ a4.toInt ∧ a4.toInt ≤ 65535) := hi75236
        have h75235 : 0 ≤ r75233.toInt ∧ r75233.toInt ≤ 1 := h75235
        refine b_if_eq C 49 dX12_slip_35 (by decide) (fun h75237 => ?_) (fun h75237 => ?_)
        · have h75237 : r75233.toInt = 0 := congrArg Int32.toInt h75237
          clear hi75236
          refine g_lv (lv' := []) [] rfl ?_
          exact J49 Y75206 Iy75207 Xz75211 W75210 (by omega)
        · have h75237 : r75233.toInt ≠ 0 := ti_ne h75237
          replace hi75236 := hi75236.resolve_left (by omega)
          refine g_aload_n C dX12_slip_38 rfl 0 rfl ?_
          obtain ⟨b75238, e75239, h75240⟩ := Iy75207.fld (h75212) 20 13 20 rfl
          refine g_getR C fi_X12_69 rfl e75239 (h75212).1 (h75212).2 dX12_slip_39 ?_
          refine g_iload_n C dX12_slip_42 rfl 1 rfl ?_
          refine g_iald (j := (a1.toInt.toNat)) C h75240.1 h75240.2.1 (ix_in h75240.2.2 (by omega)) dX12_slip_43 ?_
          have h75241 := Iy75207.arr e75239 rfl (a1.toInt.toNat)
          refine g_bipush (v := 40) C dX12_slip_44 (by decide) ?_
          refine b_icmp_ne C 51 dX12_slip_46 (by decide) (fun h75242 => ?_) (fun h75242 => ?_)
          · have h75242 : (pI Y75206 b75238 (a1.toInt.toNat)).toInt ≠ 40 := ti_ne h75242
            refine g_aload_n C dX12_slip_51 rfl 0 rfl ?_
            refine g_iload_n C dX12_slip_52 rfl 2 rfl ?_
            refine g_aload_n C dX12_slip_53 rfl 0 rfl ?_
            refine g_iload_n C dX12_slip_54 rfl 2 rfl ?_
            refine g_iload_n C dX12_slip_55 rfl 3 rfl ?_
            refine g_callVI (rest := [.int a2, .ref a0]) C mv_X12_261 [.int a2, .int a3] (s_X12_setOf Iy75207 (by omega) (fun b9 e9 => by rw [e75225] at e9; cases e9; show 1 ≤ (pI Y75206 b75224 (a2.toInt.toNat)).toInt ∧ (pI Y75206 b75224 (a2.toInt.toNat)).toInt ≤ 16; omega) W75210) (h75212).1 (h75212).2 rfl rfl (by decide) (Nat.le_of_ble_eq_true rfl) (by decide) dX12_slip_56 (fun r75243 Y75244 h75245 => ?_)
            obtain ⟨Iy75246, Xy75247, W75248, h75245⟩ := h75245
            have q75249 := Xy75247.keepF 0 (by decide)
            have q75250 := Xy75247.keepA e75225 (by decide) rfl (a2.toInt.toNat)
            have q75251 := Xy75247.keepA e75239 (by decide) rfl (a1.toInt.toNat)
            have Xz75252 : EM [0, 20, 21, 22, 23, 24, 25, 27] a0 P Y75244 := EM.tr ha0 Xz75211 (Xy75247.mono (by decide))
            have e75253 := Xy75247.ref h75212 (by decide) e75225
            have e75254 := Xy75247.ref h75212 (by decide) e75239
            have h75255 := Xy75247.at h75212
            have h75256 := Xy75247.ar h75226
            have h75257 := Xy75247.ar h75240
            have h75245 : True := h75245
            refine g_callVI (rest := []) C mv_X12_223 [.int a2, .int r75243] (s_X12_sumOf Iy75246 (by omega) W75248) (h75255).1 (h75255).2 rfl rfl (by decide) (Nat.le_of_ble_eq_true rfl) (by decide) dX12_slip_59 (fun r75258 Y75259 h75260 => ?_)
            obtain ⟨rfl, h75260⟩ := h75260
            have h75260 : True := h75260
            refine g_istore (lv' := [(5, .int r75258), (0, .ref a0), (1, .int a1), (2, .int a2), (3, .int a3), (4, .int a4)]) C dX12_slip_62 (by decide) rfl ?_
            refine g_aload_n C dX12_slip_64 rfl 1 rfl ?_
            refine g_iload_n C dX12_slip_65 rfl 2 rfl ?_
            refine g_iload_n C dX12_slip_66 rfl 3 rfl ?_
            refine g_iload_n C dX12_slip_67 rfl 4 rfl ?_
            refine g_iload C dX12_slip_68 0 rfl ?_
            refine g_iload C dX12_slip_70 5 rfl ?_
            refine a_ixor C dX12_slip_72 (fun z75261 => ?_)
            refine g_aload_n C dX12_slip_73 rfl 1 rfl ?_
            refine g_iload_n C dX12_slip_74 rfl 3 rfl ?_
            refine g_iload_n C dX12_slip_75 rfl 4 rfl ?_
            refine g_iload C dX12_slip_76 0 rfl ?_
            refine g_callVI (rest := [.int z75261, .int a3, .int a2, .int a1, .ref a0]) C mv_X12_267 [.int a2, .int a3, .int r75258] (s_X12_sealOf Iy75246 (by omega) W75248) (h75255).1 (h75255).2 rfl rfl (by decide) (Nat.le_of_ble_eq_true rfl) (by decide) dX12_slip_78 (fun r75263 Y75264 h75265 => ?_)
            obtain ⟨rfl, h75265⟩ := h75265
            have h75265 : True := h75265
            refine g_callVI (rest := []) C mv_X12_291 [.int a1, .int a2, .int a3, .int z75261, .int r75263] (s_X12_laysIf Iy75246 (by omega) (by omega) (fun b9 e9 => by rw [e75253] at e9; cases e9; show 1 ≤ (pI Y75244 b75224 (a2.toInt.toNat)).toInt ∧ (pI Y75244 b75224 (a2.toInt.toNat)).toInt ≤ 16; omega) (fun b9 e9 => by rw [e75254] at e9; cases e9; show 0 ≤ (pI Y75244 b75238 (a1.toInt.toNat)).toInt ∧ (pI Y75244 b75238 (a1.toInt.toNat)).toInt ≤ 39; omega) W75248) (h75255).1 (h75255).2 rfl rfl (by decide) (Nat.le_of_ble_eq_true rfl) (by decide) dX12_slip_81 (fun r75266 Y75267 h75268 => ?_)
            obtain ⟨Iy75269, Xy75270, W75271, h75268⟩ := h75268
            have q75272 := Xy75270.keepF 0 (by decide)
            have q75273 := Xy75270.keepA e75253 (by decide) rfl (a2.toInt.toNat)
            have Xz75274 : EM [0, 20, 21, 22, 23, 24, 25, 27] a0 P Y75267 := EM.tr ha0 Xz75252 (Xy75270.mono (by decide))
            have e75275 := Xy75270.ref h75255 (by decide) e75253
            have h75276 := Xy75270.at h75255
            have h75277 := Xy75270.ar h75256
            have h75268 : -1 ≤ r75266.toInt ∧ r75266.toInt ≤ 39 := h75268
            exact ret _ _ _ _ _ _ dX12_slip_84 rfl (by decide) (by decide) ⟨Iy75269, Xz75274, W75271, (by omega)⟩
          · have h75242 : (pI Y75206 b75238 (a1.toInt.toNat)).toInt = 40 := congrArg Int32.toInt h75242
            refine g_lv (lv' := []) [] rfl ?_
            exact J49 Y75206 Iy75207 Xz75211 W75210 (by omega)
theorem dX12_slipped_0 : decode cX12_slipped 0 = .ok (.aload_n 0, 1) := by decide +kernel
theorem dX12_slipped_1 : decode cX12_slipped 1 = .ok (.iconst 0, 1) := by decide +kernel
theorem dX12_slipped_2 : decode cX12_slipped 2 = .ok (.putfield 1, 3) := by decide +kernel
theorem dX12_slipped_5 : decode cX12_slipped 5 = .ok (.aload_n 0, 1) := by decide +kernel
theorem dX12_slipped_6 : decode cX12_slipped 6 = .ok (.iload_n 1, 1) := by decide +kernel
theorem dX12_slipped_7 : decode cX12_slipped 7 = .ok (.iload_n 2, 1) := by decide +kernel
theorem dX12_slipped_8 : decode cX12_slipped 8 = .ok (.iload_n 3, 1) := by decide +kernel
theorem dX12_slipped_9 : decode cX12_slipped 9 = .ok (.invokevirtual 333, 3) := by decide +kernel
theorem dX12_slipped_12 : decode cX12_slipped 12 = .ok (.ifCond .eq 23, 3) := by decide +kernel
theorem dX12_slipped_15 : decode cX12_slipped 15 = .ok (.iload 4, 2) := by decide +kernel
theorem dX12_slipped_17 : decode cX12_slipped 17 = .ok (.iconst 0, 1) := by decide +kernel
theorem dX12_slipped_18 : decode cX12_slipped 18 = .ok (.iconst 2, 1) := by decide +kernel
theorem dX12_slipped_19 : decode cX12_slipped 19 = .ok (.invokestatic 178, 3) := by decide +kernel
theorem dX12_slipped_22 : decode cX12_slipped 22 = .ok (.ifCond .eq 13, 3) := by decide +kernel
theorem dX12_slipped_25 : decode cX12_slipped 25 = .ok (.aload_n 0, 1) := by decide +kernel
theorem dX12_slipped_26 : decode cX12_slipped 26 = .ok (.iload_n 1, 1) := by decide +kernel
theorem dX12_slipped_27 : decode cX12_slipped 27 = .ok (.iload_n 2, 1) := by decide +kernel
theorem dX12_slipped_28 : decode cX12_slipped 28 = .ok (.iload_n 3, 1) := by decide +kernel
theorem dX12_slipped_29 : decode cX12_slipped 29 = .ok (.invokevirtual 364, 3) := by decide +kernel
theorem dX12_slipped_32 : decode cX12_slipped 32 = .ok (.ifCond .ne 5, 3) := by decide +kernel
theorem dX12_slipped_35 : decode cX12_slipped 35 = .ok (.iconst (-1), 1) := by decide +kernel
theorem dX12_slipped_36 : decode cX12_slipped 36 = .ok (.ireturn, 1) := by decide +kernel
theorem dX12_slipped_37 : decode cX12_slipped 37 = .ok (.iload 4, 2) := by decide +kernel
theorem dX12_slipped_39 : decode cX12_slipped 39 = .ok (.ifCond .ne 10, 3) := by decide +kernel
theorem dX12_slipped_42 : decode cX12_slipped 42 = .ok (.aload_n 0, 1) := by decide +kernel
theorem dX12_slipped_43 : decode cX12_slipped 43 = .ok (.getfield 361, 3) := by decide +kernel
theorem dX12_slipped_46 : decode cX12_slipped 46 = .ok (.goto 42, 3) := by decide +kernel
theorem dX12_slipped_49 : decode cX12_slipped 49 = .ok (.iload 4, 2) := by decide +kernel
theorem dX12_slipped_51 : decode cX12_slipped 51 = .ok (.iconst 2, 1) := by decide +kernel
theorem dX12_slipped_52 : decode cX12_slipped 52 = .ok (.if_icmp .ne 19, 3) := by decide +kernel
theorem dX12_slipped_55 : decode cX12_slipped 55 = .ok (.aload_n 0, 1) := by decide +kernel
theorem dX12_slipped_56 : decode cX12_slipped 56 = .ok (.getfield 361, 3) := by decide +kernel
theorem dX12_slipped_59 : decode cX12_slipped 59 = .ok (.iconst 1, 1) := by decide +kernel
theorem dX12_slipped_60 : decode cX12_slipped 60 = .ok (.if_icmp .ne 7, 3) := by decide +kernel
theorem dX12_slipped_63 : decode cX12_slipped 63 = .ok (.iconst 1, 1) := by decide +kernel
theorem dX12_slipped_64 : decode cX12_slipped 64 = .ok (.goto 24, 3) := by decide +kernel
theorem dX12_slipped_67 : decode cX12_slipped 67 = .ok (.iconst 0, 1) := by decide +kernel
theorem dX12_slipped_68 : decode cX12_slipped 68 = .ok (.goto 20, 3) := by decide +kernel
theorem dX12_slipped_71 : decode cX12_slipped 71 = .ok (.aload_n 0, 1) := by decide +kernel
theorem dX12_slipped_72 : decode cX12_slipped 72 = .ok (.getfield 361, 3) := by decide +kernel
theorem dX12_slipped_75 : decode cX12_slipped 75 = .ok (.ifCond .ne 7, 3) := by decide +kernel
theorem dX12_slipped_78 : decode cX12_slipped 78 = .ok (.iconst (-1), 1) := by decide +kernel
theorem dX12_slipped_79 : decode cX12_slipped 79 = .ok (.goto 9, 3) := by decide +kernel
theorem dX12_slipped_82 : decode cX12_slipped 82 = .ok (.aload_n 0, 1) := by decide +kernel
theorem dX12_slipped_83 : decode cX12_slipped 83 = .ok (.getfield 112, 3) := by decide +kernel
theorem dX12_slipped_86 : decode cX12_slipped 86 = .ok (.iconst 0, 1) := by decide +kernel
theorem dX12_slipped_87 : decode cX12_slipped 87 = .ok (.iaload, 1) := by decide +kernel
theorem dX12_slipped_88 : decode cX12_slipped 88 = .ok (.ireturn, 1) := by decide +kernel
set_option maxHeartbeats 4000000 in
set_option maxRecDepth 100000 in
theorem s_X12_slipped {P : PP} {a0 : Nat} {a1 : Int32} {a2 : Int32} {a3 : Int32} {a4 : Int32} (I : IM P a0) (hW : MW P a0) : CtrI yX12_slipped cX12_slipped 5 (some Jvm.ClassFile.FieldType.int) ({ frames := 8, cells := 0, slots := 0, locals := 512 } : Room) 0 0 P [.ref a0, .int a1, .int a2, .int a3, .int a4] (fun r P2 => IM P2 a0 ∧ EM [0, 28, 29, 30, 31, 32, 35, 36, 37, 38, 39, 40] a0 P P2 ∧ MW P2 a0 ∧ (-1 ≤ r.toInt ∧ r.toInt ≤ 40)) := by
  refine enI (lv := [(0, .ref a0), (1, .int a1), (2, .int a2), (3, .int a3), (4, .int a4)]) (by decide) (Nat.le_of_ble_eq_true rfl) rfl (fun E D cy C Ci0 ret => ?_)
  have ha0 := I.2.1
  have J35 : ∀ (P35 : PP), (IM P35 a0) → (EM [0, 28, 29, 30, 31, 32, 35, 36, 37, 38, 39, 40] a0 P P35) → (MW P35 a0) → (0 ≤ (pI P35 a0 0).toInt ∧ (pI P35 a0 0).toInt ≤ 0) → G E ({ frames := 8, cells := 0, slots := 0, locals := 512 } : Room) D cy 5 P35 0 0 35 [] [] := by
    intro P35 I35 X35 W35 hq35_0
    have h75325 := X35.at ha0
    refine g_iconst (v := (-1)) C dX12_slipped_35 (by decide) ?_
    exact ret _ _ _ _ _ _ dX12_slipped_36 rfl (by decide) (by decide) ⟨I35, X35, W35, (by decide)⟩
  refine g_aload_n C dX12_slipped_0 rfl 0 rfl ?_
  refine g_iconst (v := 0) C dX12_slipped_1 (by decide) ?_
  refine g_putI C fi_X12_1 rfl (ha0).1 (ha0).2 dX12_slipped_2 ?_
  refine gqW (ks := [0]) (I.setI (rgOk.of rfl (by decide))) (EM.setI I (by decide)) (fun Y75326 Iy75327 Xy75328 w75329 => ?_)
  have w75329 : (pI Y75326 a0 0).toInt = 0 := w75329
  have W75330 := hW.keep I Xy75328 (by decide) (by decide) (by decide)
  have Xz75331 : EM [0, 28, 29, 30, 31, 32, 35, 36, 37, 38, 39, 40] a0 P Y75326 := Xy75328.mono (by decide)
  have h75332 := Xy75328.at ha0
  refine g_aload_n C dX12_slipped_5 rfl 0 rfl ?_
  refine g_iload_n C dX12_slipped_6 rfl 1 rfl ?_
  refine g_iload_n C dX12_slipped_7 rfl 2 rfl ?_
  refine g_iload_n C dX12_slipped_8 rfl 3 rfl ?_
  refine g_callVI (rest := []) C mv_X12_333 [.int a1, .int a2, .int a3] (s_X12_isAsked Iy75327 W75330) (h75332).1 (h75332).2 rfl rfl (by decide) (Nat.le_of_ble_eq_true rfl) (by decide) dX12_slipped_9 (fun r75333 Y75334 h75335 => ?_)
  obtain ⟨rfl, h75335⟩ := h75335
  obtain ⟨h75335, hi75336, hi75337⟩ := h75335
  have hi75336 : r75333.toInt = 0 ∨ (((0 : Int) ≤ a1.toInt ∧ a1.toInt ≤ (3 : Int)) ∧ ((0 : Int) ≤ a2.toInt ∧ a2.toInt ≤ (1 : Int)) ∧ ((0 : Int) ≤ a3.toInt ∧ a3.toInt ≤ (1 : Int))) := hi75336
  have h75335 : 0 ≤ r75333.toInt ∧ r75333.toInt ≤ 1 := h75335
  refine b_if_eq C 35 dX12_slipped_12 (by decide) (fun h75338 => ?_) (fun h75338 => ?_)
  · have h75338 : r75333.toInt = 0 := congrArg Int32.toInt h75338
    clear hi75336
    refine g_lv (lv' := []) [] rfl ?_
    exact J35 Y75326 Iy75327 Xz75331 W75330 (by omega)
  · have h75338 : r75333.toInt ≠ 0 := ti_ne h75338
    replace hi75336 := hi75336.resolve_left (by omega)
    obtain ⟨b75339, e75340, h75341⟩ := Iy75327.fld (h75332) 10 13 2 rfl
    have hi75337 := (hi75337.resolve_left (by omega)) b75339 e75340
    have hi75337 : 0 < (pI Y75326 b75339 (a2.toInt.toNat)).toInt := hi75337
    have h75342 := Iy75327.arr e75340 rfl (a2.toInt.toNat)
    refine g_iload C dX12_slipped_15 4 rfl ?_
    refine g_iconst (v := 0) C dX12_slipped_17 (by decide) ?_
    refine g_iconst (v := 2) C dX12_slipped_18 (by decide) ?_
    refine g_callSI (b := 0) (ci := 0) (rest := []) C ms_X12_178 [.int a4, .int 0, .int 2] (s_X12_within Iy75327.1) rfl rfl (by decide) (Nat.le_of_ble_eq_true rfl) (by decide) dX12_slipped_19 (fun r75343 Y75344 h75345 => ?_)
    obtain ⟨rfl, h75345⟩ := h75345
    obtain ⟨h75345, hi75346⟩ := h75345
    have hi75346 : r75343.toInt = 0 ∨ (0 ≤ a4.toInt ∧ a4.toInt ≤ 2) := hi75346
    have h75345 : 0 ≤ r75343.toInt ∧ r75343.toInt ≤ 1 := h75345
    refine b_if_eq C 35 dX12_slipped_22 (by decide) (fun h75347 => ?_) (fun h75347 => ?_)
    · have h75347 : r75343.toInt = 0 := congrArg Int32.toInt h75347
      clear hi75346
      refine g_lv (lv' := []) [] rfl ?_
      exact J35 Y75326 Iy75327 Xz75331 W75330 (by omega)
    · have h75347 : r75343.toInt ≠ 0 := ti_ne h75347
      replace hi75346 := hi75346.resolve_left (by omega)
      refine g_aload_n C dX12_slipped_25 rfl 0 rfl ?_
      refine g_iload_n C dX12_slipped_26 rfl 1 rfl ?_
      refine g_iload_n C dX12_slipped_27 rfl 2 rfl ?_
      refine g_iload_n C dX12_slipped_28 rfl 3 rfl ?_
      refine g_callVI (rest := []) C mv_X12_364 [.int a1, .int a2, .int a3] (s_X12_findSlipped Iy75327 (by omega) (by omega) (by omega) (fun b9 e9 => by rw [e75340] at e9; cases e9; show 1 ≤ (pI Y75326 b75339 (a2.toInt.toNat)).toInt ∧ (pI Y75326 b75339 (a2.toInt.toNat)).toInt ≤ 16; omega) W75330) (h75332).1 (h75332).2 rfl rfl (by decide) (Nat.le_of_ble_eq_true rfl) (by decide) dX12_slipped_29 (fun r75348 Y75349 h75350 => ?_)
      obtain ⟨Iy75351, Xy75352, W75353, h75350⟩ := h75350
      have q75354 := Xy75352.keepF 0 (by decide)
      have q75355 := Xy75352.keepA e75340 (by decide) rfl (a2.toInt.toNat)
      have Xz75356 : EM [0, 28, 29, 30, 31, 32, 35, 36, 37, 38, 39, 40] a0 P Y75349 := EM.tr ha0 Xz75331 (Xy75352.mono (by decide))
      have e75357 := Xy75352.ref h75332 (by decide) e75340
      have h75358 := Xy75352.at h75332
      have h75359 := Xy75352.ar h75341
      have h75350 : 0 ≤ r75348.toInt ∧ r75348.toInt ≤ 1 := h75350
      refine b_if_ne C 37 dX12_slipped_32 (by decide) (fun h75360 => ?_) (fun h75360 => ?_)
      · have h75360 : r75348.toInt ≠ 0 := ti_ne h75360
        refine g_iload C dX12_slipped_37 4 rfl ?_
        refine b_if_ne C 49 dX12_slipped_39 (by decide) (fun h75361 => ?_) (fun h75361 => ?_)
        · have h75361 : a4.toInt ≠ 0 := ti_ne h75361
          refine g_iload C dX12_slipped_49 4 rfl ?_
          refine g_iconst (v := 2) C dX12_slipped_51 (by decide) ?_
          refine b_icmp_ne C 71 dX12_slipped_52 (by decide) (fun h75362 => ?_) (fun h75362 => ?_)
          · have h75362 : a4.toInt ≠ 2 := ti_ne h75362
            refine g_aload_n C dX12_slipped_71 rfl 0 rfl ?_
            refine g_getI C fi_X12_361 (by decide) (h75358).1 (h75358).2 dX12_slipped_72 ?_
            have h75363 := Iy75351.rg (h75358) 39 rfl
            refine b_if_ne C 82 dX12_slipped_75 (by decide) (fun h75364 => ?_) (fun h75364 => ?_)
            · have h75364 : (pI Y75349 a0 39).toInt ≠ 0 := ti_ne h75364
              refine g_aload_n C dX12_slipped_82 rfl 0 rfl ?_
              obtain ⟨b75365, e75366, h75367⟩ := Iy75351.fld (h75358) 40 13 40 rfl
              refine g_getR C fi_X12_112 rfl e75366 (h75358).1 (h75358).2 dX12_slipped_83 ?_
              refine g_iconst (v := 0) C dX12_slipped_86 (by decide) ?_
              refine g_iald (j := 0) C h75367.1 h75367.2.1 (IX.litn (j := 0) h75367.2.2 rfl (by decide) (by decide)) dX12_slipped_87 ?_
              have h75368 := Iy75351.arr e75366 rfl 0
              exact ret _ _ _ _ _ _ dX12_slipped_88 rfl (by decide) (by decide) ⟨Iy75351, Xz75356, W75353, (by omega)⟩
            · have h75364 : (pI Y75349 a0 39).toInt = 0 := congrArg Int32.toInt h75364
              refine g_iconst (v := (-1)) C dX12_slipped_78 (by decide) ?_
              refine g_goto C 88 dX12_slipped_79 (by decide) ?_
              exact ret _ _ _ _ _ _ dX12_slipped_88 rfl (by decide) (by decide) ⟨Iy75351, Xz75356, W75353, (by decide)⟩
          · have h75362 : a4.toInt = 2 := congrArg Int32.toInt h75362
            refine g_aload_n C dX12_slipped_55 rfl 0 rfl ?_
            refine g_getI C fi_X12_361 (by decide) (h75358).1 (h75358).2 dX12_slipped_56 ?_
            have h75369 := Iy75351.rg (h75358) 39 rfl
            refine g_iconst (v := 1) C dX12_slipped_59 (by decide) ?_
            refine b_icmp_ne C 67 dX12_slipped_60 (by decide) (fun h75370 => ?_) (fun h75370 => ?_)
            · have h75370 : (pI Y75349 a0 39).toInt ≠ 1 := ti_ne h75370
              refine g_iconst (v := 0) C dX12_slipped_67 (by decide) ?_
              refine g_goto C 88 dX12_slipped_68 (by decide) ?_
              exact ret _ _ _ _ _ _ dX12_slipped_88 rfl (by decide) (by decide) ⟨Iy75351, Xz75356, W75353, (by decide)⟩
            · have h75370 : (pI Y75349 a0 39).toInt = 1 := congrArg Int32.toInt h75370
              refine g_iconst (v := 1) C dX12_slipped_63 (by decide) ?_
              refine g_goto C 88 dX12_slipped_64 (by decide) ?_
              exact ret _ _ _ _ _ _ dX12_slipped_88 rfl (by decide) (by decide) ⟨Iy75351, Xz75356, W75353, (by decide)⟩
        · have h75361 : a4.toInt = 0 := congrArg Int32.toInt h75361
          refine g_aload_n C dX12_slipped_42 rfl 0 rfl ?_
          refine g_getI C fi_X12_361 (by decide) (h75358).1 (h75358).2 dX12_slipped_43 ?_
          have h75371 := Iy75351.rg (h75358) 39 rfl
          refine g_goto C 88 dX12_slipped_46 (by decide) ?_
          exact ret _ _ _ _ _ _ dX12_slipped_88 rfl (by decide) (by decide) ⟨Iy75351, Xz75356, W75353, (by omega)⟩
      · have h75360 : r75348.toInt = 0 := congrArg Int32.toInt h75360
        refine g_lv (lv' := []) [] rfl ?_
        exact J35 Y75349 Iy75351 Xz75356 W75353 (by omega)
theorem dX12_solves_0 : decode cX12_solves 0 = .ok (.aload_n 0, 1) := by decide +kernel
theorem dX12_solves_1 : decode cX12_solves 1 = .ok (.iconst 0, 1) := by decide +kernel
theorem dX12_solves_2 : decode cX12_solves 2 = .ok (.putfield 1, 3) := by decide +kernel
theorem dX12_solves_5 : decode cX12_solves 5 = .ok (.aload_n 0, 1) := by decide +kernel
theorem dX12_solves_6 : decode cX12_solves 6 = .ok (.iload_n 1, 1) := by decide +kernel
theorem dX12_solves_7 : decode cX12_solves 7 = .ok (.iload_n 2, 1) := by decide +kernel
theorem dX12_solves_8 : decode cX12_solves 8 = .ok (.iload_n 3, 1) := by decide +kernel
theorem dX12_solves_9 : decode cX12_solves 9 = .ok (.invokevirtual 333, 3) := by decide +kernel
theorem dX12_solves_12 : decode cX12_solves 12 = .ok (.ifCond .eq 13, 3) := by decide +kernel
theorem dX12_solves_15 : decode cX12_solves 15 = .ok (.iload 4, 2) := by decide +kernel
theorem dX12_solves_17 : decode cX12_solves 17 = .ok (.iconst 0, 1) := by decide +kernel
theorem dX12_solves_18 : decode cX12_solves 18 = .ok (.iconst 3, 1) := by decide +kernel
theorem dX12_solves_19 : decode cX12_solves 19 = .ok (.invokestatic 178, 3) := by decide +kernel
theorem dX12_solves_22 : decode cX12_solves 22 = .ok (.ifCond .ne 5, 3) := by decide +kernel
theorem dX12_solves_25 : decode cX12_solves 25 = .ok (.iconst (-1), 1) := by decide +kernel
theorem dX12_solves_26 : decode cX12_solves 26 = .ok (.ireturn, 1) := by decide +kernel
theorem dX12_solves_27 : decode cX12_solves 27 = .ok (.aload_n 0, 1) := by decide +kernel
theorem dX12_solves_28 : decode cX12_solves 28 = .ok (.invokevirtual 336, 3) := by decide +kernel
theorem dX12_solves_31 : decode cX12_solves 31 = .ok (.aload_n 0, 1) := by decide +kernel
theorem dX12_solves_32 : decode cX12_solves 32 = .ok (.iload_n 1, 1) := by decide +kernel
theorem dX12_solves_33 : decode cX12_solves 33 = .ok (.iload_n 2, 1) := by decide +kernel
theorem dX12_solves_34 : decode cX12_solves 34 = .ok (.iload_n 3, 1) := by decide +kernel
theorem dX12_solves_35 : decode cX12_solves 35 = .ok (.aload_n 0, 1) := by decide +kernel
theorem dX12_solves_36 : decode cX12_solves 36 = .ok (.getfield 69, 3) := by decide +kernel
theorem dX12_solves_39 : decode cX12_solves 39 = .ok (.iload_n 1, 1) := by decide +kernel
theorem dX12_solves_40 : decode cX12_solves 40 = .ok (.iaload, 1) := by decide +kernel
theorem dX12_solves_41 : decode cX12_solves 41 = .ok (.invokevirtual 339, 3) := by decide +kernel
theorem dX12_solves_44 : decode cX12_solves 44 = .ok (.aload_n 0, 1) := by decide +kernel
theorem dX12_solves_45 : decode cX12_solves 45 = .ok (.invokevirtual 346, 3) := by decide +kernel
theorem dX12_solves_48 : decode cX12_solves 48 = .ok (.iload 4, 2) := by decide +kernel
theorem dX12_solves_50 : decode cX12_solves 50 = .ok (.ifCond .ne 10, 3) := by decide +kernel
theorem dX12_solves_53 : decode cX12_solves 53 = .ok (.aload_n 0, 1) := by decide +kernel
theorem dX12_solves_54 : decode cX12_solves 54 = .ok (.invokevirtual 349, 3) := by decide +kernel
theorem dX12_solves_57 : decode cX12_solves 57 = .ok (.goto 47, 3) := by decide +kernel
theorem dX12_solves_60 : decode cX12_solves 60 = .ok (.iload 4, 2) := by decide +kernel
theorem dX12_solves_62 : decode cX12_solves 62 = .ok (.iconst 1, 1) := by decide +kernel
theorem dX12_solves_63 : decode cX12_solves 63 = .ok (.if_icmp .ne 18, 3) := by decide +kernel
theorem dX12_solves_66 : decode cX12_solves 66 = .ok (.aload_n 0, 1) := by decide +kernel
theorem dX12_solves_67 : decode cX12_solves 67 = .ok (.getfield 326, 3) := by decide +kernel
theorem dX12_solves_70 : decode cX12_solves 70 = .ok (.ifCond .eq 7, 3) := by decide +kernel
theorem dX12_solves_73 : decode cX12_solves 73 = .ok (.iconst 1, 1) := by decide +kernel
theorem dX12_solves_74 : decode cX12_solves 74 = .ok (.goto 30, 3) := by decide +kernel
theorem dX12_solves_77 : decode cX12_solves 77 = .ok (.iconst 0, 1) := by decide +kernel
theorem dX12_solves_78 : decode cX12_solves 78 = .ok (.goto 26, 3) := by decide +kernel
theorem dX12_solves_81 : decode cX12_solves 81 = .ok (.iload 4, 2) := by decide +kernel
theorem dX12_solves_83 : decode cX12_solves 83 = .ok (.iconst 2, 1) := by decide +kernel
theorem dX12_solves_84 : decode cX12_solves 84 = .ok (.if_icmp .ne 10, 3) := by decide +kernel
theorem dX12_solves_87 : decode cX12_solves 87 = .ok (.aload_n 0, 1) := by decide +kernel
theorem dX12_solves_88 : decode cX12_solves 88 = .ok (.getfield 324, 3) := by decide +kernel
theorem dX12_solves_91 : decode cX12_solves 91 = .ok (.goto 13, 3) := by decide +kernel
theorem dX12_solves_94 : decode cX12_solves 94 = .ok (.aload_n 0, 1) := by decide +kernel
theorem dX12_solves_95 : decode cX12_solves 95 = .ok (.iload_n 2, 1) := by decide +kernel
theorem dX12_solves_96 : decode cX12_solves 96 = .ok (.invokevirtual 238, 3) := by decide +kernel
theorem dX12_solves_99 : decode cX12_solves 99 = .ok (.aload_n 0, 1) := by decide +kernel
theorem dX12_solves_100 : decode cX12_solves 100 = .ok (.getfield 324, 3) := by decide +kernel
theorem dX12_solves_103 : decode cX12_solves 103 = .ok (.isub, 1) := by decide +kernel
theorem dX12_solves_104 : decode cX12_solves 104 = .ok (.ireturn, 1) := by decide +kernel
set_option maxHeartbeats 4000000 in
set_option maxRecDepth 100000 in
theorem s_X12_solves {P : PP} {a0 : Nat} {a1 : Int32} {a2 : Int32} {a3 : Int32} {a4 : Int32} (I : IM P a0) (hW : MW P a0) : CtrI yX12_solves cX12_solves 5 (some Jvm.ClassFile.FieldType.int) ({ frames := 7, cells := 0, slots := 0, locals := 448 } : Room) 0 0 P [.ref a0, .int a1, .int a2, .int a3, .int a4] (fun r P2 => IM P2 a0 ∧ EM [0, 28, 29, 30, 31, 32, 35, 36, 37, 38] a0 P P2 ∧ MW P2 a0 ∧ (True)) := by
  refine enI (lv := [(0, .ref a0), (1, .int a1), (2, .int a2), (3, .int a3), (4, .int a4)]) (by decide) (Nat.le_of_ble_eq_true rfl) rfl (fun E D cy C Ci0 ret => ?_)
  have ha0 := I.2.1
  have J25 : ∀ (P25 : PP), (IM P25 a0) → (EM [0, 28, 29, 30, 31, 32, 35, 36, 37, 38] a0 P P25) → (MW P25 a0) → (0 ≤ (pI P25 a0 0).toInt ∧ (pI P25 a0 0).toInt ≤ 0) → G E ({ frames := 7, cells := 0, slots := 0, locals := 448 } : Room) D cy 5 P25 0 0 25 [] [] := by
    intro P25 I25 X25 W25 hq25_0
    have h75462 := X25.at ha0
    refine g_iconst (v := (-1)) C dX12_solves_25 (by decide) ?_
    exact ret _ _ _ _ _ _ dX12_solves_26 rfl (by decide) (by decide) ⟨I25, X25, W25, trivial⟩
  refine g_aload_n C dX12_solves_0 rfl 0 rfl ?_
  refine g_iconst (v := 0) C dX12_solves_1 (by decide) ?_
  refine g_putI C fi_X12_1 rfl (ha0).1 (ha0).2 dX12_solves_2 ?_
  refine gqW (ks := [0]) (I.setI (rgOk.of rfl (by decide))) (EM.setI I (by decide)) (fun Y75463 Iy75464 Xy75465 w75466 => ?_)
  have w75466 : (pI Y75463 a0 0).toInt = 0 := w75466
  have W75467 := hW.keep I Xy75465 (by decide) (by decide) (by decide)
  have Xz75468 : EM [0, 28, 29, 30, 31, 32, 35, 36, 37, 38] a0 P Y75463 := Xy75465.mono (by decide)
  have h75469 := Xy75465.at ha0
  refine g_aload_n C dX12_solves_5 rfl 0 rfl ?_
  refine g_iload_n C dX12_solves_6 rfl 1 rfl ?_
  refine g_iload_n C dX12_solves_7 rfl 2 rfl ?_
  refine g_iload_n C dX12_solves_8 rfl 3 rfl ?_
  refine g_callVI (rest := []) C mv_X12_333 [.int a1, .int a2, .int a3] (s_X12_isAsked Iy75464 W75467) (h75469).1 (h75469).2 rfl rfl (by decide) (Nat.le_of_ble_eq_true rfl) (by decide) dX12_solves_9 (fun r75470 Y75471 h75472 => ?_)
  obtain ⟨rfl, h75472⟩ := h75472
  obtain ⟨h75472, hi75473, hi75474⟩ := h75472
  have hi75473 : r75470.toInt = 0 ∨ (((0 : Int) ≤ a1.toInt ∧ a1.toInt ≤ (3 : Int)) ∧ ((0 : Int) ≤ a2.toInt ∧ a2.toInt ≤ (1 : Int)) ∧ ((0 : Int) ≤ a3.toInt ∧ a3.toInt ≤ (1 : Int))) := hi75473
  have h75472 : 0 ≤ r75470.toInt ∧ r75470.toInt ≤ 1 := h75472
  refine b_if_eq C 25 dX12_solves_12 (by decide) (fun h75475 => ?_) (fun h75475 => ?_)
  · have h75475 : r75470.toInt = 0 := congrArg Int32.toInt h75475
    clear hi75473
    refine g_lv (lv' := []) [] rfl ?_
    exact J25 Y75463 Iy75464 Xz75468 W75467 (by omega)
  · have h75475 : r75470.toInt ≠ 0 := ti_ne h75475
    replace hi75473 := hi75473.resolve_left (by omega)
    obtain ⟨b75476, e75477, h75478⟩ := Iy75464.fld (h75469) 10 13 2 rfl
    have hi75474 := (hi75474.resolve_left (by omega)) b75476 e75477
    have hi75474 : 0 < (pI Y75463 b75476 (a2.toInt.toNat)).toInt := hi75474
    have h75479 := Iy75464.arr e75477 rfl (a2.toInt.toNat)
    refine g_iload C dX12_solves_15 4 rfl ?_
    refine g_iconst (v := 0) C dX12_solves_17 (by decide) ?_
    refine g_iconst (v := 3) C dX12_solves_18 (by decide) ?_
    refine g_callSI (b := 0) (ci := 0) (rest := []) C ms_X12_178 [.int a4, .int 0, .int 3] (s_X12_within Iy75464.1) rfl rfl (by decide) (Nat.le_of_ble_eq_true rfl) (by decide) dX12_solves_19 (fun r75480 Y75481 h75482 => ?_)
    obtain ⟨rfl, h75482⟩ := h75482
    obtain ⟨h75482, hi75483⟩ := h75482
    have hi75483 : r75480.toInt = 0 ∨ (0 ≤ a4.toInt ∧ a4.toInt ≤ 3) := hi75483
    have h75482 : 0 ≤ r75480.toInt ∧ r75480.toInt ≤ 1 := h75482
    refine b_if_ne C 27 dX12_solves_22 (by decide) (fun h75484 => ?_) (fun h75484 => ?_)
    · have h75484 : r75480.toInt ≠ 0 := ti_ne h75484
      replace hi75483 := hi75483.resolve_left (by omega)
      refine g_aload_n C dX12_solves_27 rfl 0 rfl ?_
      refine g_callVV (rest := []) C mv_X12_336 [] (s_X12_leavesNone Iy75464 W75467) (h75469).1 (h75469).2 rfl rfl (by decide) (Nat.le_of_ble_eq_true rfl) (by decide) dX12_solves_28 (fun Y75486 h75487 => ?_)
      obtain ⟨Iy75488, Xy75489, W75490⟩ := h75487
      have q75491 := Xy75489.keepF 0 (by decide)
      have q75492 := Xy75489.keepA e75477 (by decide) rfl (a2.toInt.toNat)
      have Xz75493 : EM [0, 28, 29, 30, 31, 32, 35, 36, 37, 38] a0 P Y75486 := EM.tr ha0 Xz75468 (Xy75489.mono (by decide))
      have e75494 := Xy75489.ref h75469 (by decide) e75477
      have h75495 := Xy75489.at h75469
      have h75496 := Xy75489.ar h75478
      refine g_aload_n C dX12_solves_31 rfl 0 rfl ?_
      refine g_iload_n C dX12_solves_32 rfl 1 rfl ?_
      refine g_iload_n C dX12_solves_33 rfl 2 rfl ?_
      refine g_iload_n C dX12_solves_34 rfl 3 rfl ?_
      refine g_aload_n C dX12_solves_35 rfl 0 rfl ?_
      obtain ⟨b75497, e75498, h75499⟩ := Iy75488.fld (h75495) 20 13 20 rfl
      refine g_getR C fi_X12_69 rfl e75498 (h75495).1 (h75495).2 dX12_solves_36 ?_
      refine g_iload_n C dX12_solves_39 rfl 1 rfl ?_
      refine g_iald (j := (a1.toInt.toNat)) C h75499.1 h75499.2.1 (ix_in h75499.2.2 (by omega)) dX12_solves_40 ?_
      have h75500 := Iy75488.arr e75498 rfl (a1.toInt.toNat)
      refine g_callVV (rest := []) C mv_X12_339 [.int a1, .int a2, .int a3, .int (pI Y75486 b75497 (a1.toInt.toNat))] (s_X12_gathers Iy75488 (by omega) (by omega) (by omega) (fun b9 e9 => by rw [e75494] at e9; cases e9; show 1 ≤ (pI Y75486 b75476 (a2.toInt.toNat)).toInt ∧ (pI Y75486 b75476 (a2.toInt.toNat)).toInt ≤ 16; omega) W75490) (h75495).1 (h75495).2 rfl rfl (by decide) (Nat.le_of_ble_eq_true rfl) (by decide) dX12_solves_41 (fun Y75502 h75503 => ?_)
      obtain ⟨Iy75504, Xy75505, W75506, p75507⟩ := h75503
      have p75507 : (pI Y75502 a0 28).toInt ≤ 4 + (pI Y75486 b75497 (a1.toInt.toNat)).toInt := p75507
      have q75508 := Xy75505.keepF 0 (by decide)
      have q75509 := Xy75505.keepA e75494 (by decide) rfl (a2.toInt.toNat)
      have q75510 := Xy75505.keepA e75498 (by decide) rfl (a1.toInt.toNat)
      have Xz75511 : EM [0, 28, 29, 30, 31, 32, 35, 36, 37, 38] a0 P Y75502 := EM.tr ha0 Xz75493 (Xy75505.mono (by decide))
      have e75512 := Xy75505.ref h75495 (by decide) e75494
      have e75513 := Xy75505.ref h75495 (by decide) e75498
      have h75514 := Xy75505.at h75495
      have h75515 := Xy75505.ar h75496
      have h75516 := Xy75505.ar h75499
      have h75517 := Iy75504.rg h75514 28 rfl
      refine g_aload_n C dX12_solves_44 rfl 0 rfl ?_
      refine g_callVV (rest := []) C mv_X12_346 [] (s_X12_findSolved Iy75504 W75506) (h75514).1 (h75514).2 rfl rfl (by decide) (Nat.le_of_ble_eq_true rfl) (by decide) dX12_solves_45 (fun Y75519 h75520 => ?_)
      obtain ⟨Iy75521, Xy75522, W75523⟩ := h75520
      have q75524 := Xy75522.keepF 0 (by decide)
      have q75525 := Xy75522.keepA e75512 (by decide) rfl (a2.toInt.toNat)
      have q75526 := Xy75522.keepA e75513 (by decide) rfl (a1.toInt.toNat)
      have q75527 := Xy75522.keepF 28 (by decide)
      have Xz75528 : EM [0, 28, 29, 30, 31, 32, 35, 36, 37, 38] a0 P Y75519 := EM.tr ha0 Xz75511 (Xy75522.mono (by decide))
      have e75529 := Xy75522.ref h75514 (by decide) e75512
      have e75530 := Xy75522.ref h75514 (by decide) e75513
      have h75531 := Xy75522.at h75514
      have h75532 := Xy75522.ar h75515
      have h75533 := Xy75522.ar h75516
      refine g_iload C dX12_solves_48 4 rfl ?_
      refine b_if_ne C 60 dX12_solves_50 (by decide) (fun h75534 => ?_) (fun h75534 => ?_)
      · have h75534 : a4.toInt ≠ 0 := ti_ne h75534
        refine g_iload C dX12_solves_60 4 rfl ?_
        refine g_iconst (v := 1) C dX12_solves_62 (by decide) ?_
        refine b_icmp_ne C 81 dX12_solves_63 (by decide) (fun h75535 => ?_) (fun h75535 => ?_)
        · have h75535 : a4.toInt ≠ 1 := ti_ne h75535
          refine g_iload C dX12_solves_81 4 rfl ?_
          refine g_iconst (v := 2) C dX12_solves_83 (by decide) ?_
          refine b_icmp_ne C 94 dX12_solves_84 (by decide) (fun h75536 => ?_) (fun h75536 => ?_)
          · have h75536 : a4.toInt ≠ 2 := ti_ne h75536
            refine g_aload_n C dX12_solves_94 rfl 0 rfl ?_
            refine g_iload_n C dX12_solves_95 rfl 2 rfl ?_
            refine g_callVI (rest := []) C mv_X12_238 [.int a2] (s_X12_allOf Iy75521 (by omega) W75523) (h75531).1 (h75531).2 rfl rfl (by decide) (Nat.le_of_ble_eq_true rfl) (by decide) dX12_solves_96 (fun r75537 Y75538 h75539 => ?_)
            obtain ⟨rfl, h75539⟩ := h75539
            obtain ⟨h75539, hi75540⟩ := h75539
            obtain ⟨b75541, e75542, h75543⟩ := Iy75521.fld (h75531) 15 13 3 rfl
            have hi75540 : r75537.toInt = 0 ∨ r75537.toInt = (pI Y75519 b75476 (a2.toInt.toNat)).toInt + (pI Y75519 b75541 (a2.toInt.toNat)).toInt := hi75540.imp id (fun z9 => z9 b75476 b75541 e75529 e75542)
            have h75544 := Iy75521.arr e75542 rfl (a2.toInt.toNat)
            have h75539 : 0 ≤ r75537.toInt ∧ r75537.toInt ≤ 20 := h75539
            refine g_aload_n C dX12_solves_99 rfl 0 rfl ?_
            refine g_getI C fi_X12_324 (by decide) (h75531).1 (h75531).2 dX12_solves_100 ?_
            refine a_isub C dX12_solves_103 (fun z75545 => ?_)
            exact ret _ _ _ _ _ _ dX12_solves_104 rfl (by decide) (by decide) ⟨Iy75521, Xz75528, W75523, trivial⟩
          · have h75536 : a4.toInt = 2 := congrArg Int32.toInt h75536
            refine g_aload_n C dX12_solves_87 rfl 0 rfl ?_
            refine g_getI C fi_X12_324 (by decide) (h75531).1 (h75531).2 dX12_solves_88 ?_
            refine g_goto C 104 dX12_solves_91 (by decide) ?_
            exact ret _ _ _ _ _ _ dX12_solves_104 rfl (by decide) (by decide) ⟨Iy75521, Xz75528, W75523, trivial⟩
        · have h75535 : a4.toInt = 1 := congrArg Int32.toInt h75535
          refine g_aload_n C dX12_solves_66 rfl 0 rfl ?_
          refine g_getI C fi_X12_326 (by decide) (h75531).1 (h75531).2 dX12_solves_67 ?_
          have h75547 := Iy75521.rg (h75531) 36 rfl
          refine b_if_eq C 77 dX12_solves_70 (by decide) (fun h75548 => ?_) (fun h75548 => ?_)
          · have h75548 : (pI Y75519 a0 36).toInt = 0 := congrArg Int32.toInt h75548
            refine g_iconst (v := 0) C dX12_solves_77 (by decide) ?_
            refine g_goto C 104 dX12_solves_78 (by decide) ?_
            exact ret _ _ _ _ _ _ dX12_solves_104 rfl (by decide) (by decide) ⟨Iy75521, Xz75528, W75523, trivial⟩
          · have h75548 : (pI Y75519 a0 36).toInt ≠ 0 := ti_ne h75548
            refine g_iconst (v := 1) C dX12_solves_73 (by decide) ?_
            refine g_goto C 104 dX12_solves_74 (by decide) ?_
            exact ret _ _ _ _ _ _ dX12_solves_104 rfl (by decide) (by decide) ⟨Iy75521, Xz75528, W75523, trivial⟩
      · have h75534 : a4.toInt = 0 := congrArg Int32.toInt h75534
        refine g_aload_n C dX12_solves_53 rfl 0 rfl ?_
        refine g_callVI (rest := []) C mv_X12_349 [] (s_X12_fixedSet Iy75521 W75523) (h75531).1 (h75531).2 rfl rfl (by decide) (Nat.le_of_ble_eq_true rfl) (by decide) dX12_solves_54 (fun r75549 Y75550 h75551 => ?_)
        obtain ⟨rfl, h75551⟩ := h75551
        have h75551 : True := h75551
        refine g_goto C 104 dX12_solves_57 (by decide) ?_
        exact ret _ _ _ _ _ _ dX12_solves_104 rfl (by decide) (by decide) ⟨Iy75521, Xz75528, W75523, trivial⟩
    · have h75484 : r75480.toInt = 0 := congrArg Int32.toInt h75484
      clear hi75483
      refine g_lv (lv' := []) [] rfl ?_
      exact J25 Y75463 Iy75464 Xz75468 W75467 (by omega)
theorem dX12_soon_0 : decode cX12_soon 0 = .ok (.aload_n 0, 1) := by decide +kernel
theorem dX12_soon_1 : decode cX12_soon 1 = .ok (.iconst 0, 1) := by decide +kernel
theorem dX12_soon_2 : decode cX12_soon 2 = .ok (.putfield 1, 3) := by decide +kernel
theorem dX12_soon_5 : decode cX12_soon 5 = .ok (.iload_n 1, 1) := by decide +kernel
theorem dX12_soon_6 : decode cX12_soon 6 = .ok (.invokestatic 278, 3) := by decide +kernel
theorem dX12_soon_9 : decode cX12_soon 9 = .ok (.ifCond .eq 30, 3) := by decide +kernel
theorem dX12_soon_12 : decode cX12_soon 12 = .ok (.aload_n 0, 1) := by decide +kernel
theorem dX12_soon_13 : decode cX12_soon 13 = .ok (.iload_n 2, 1) := by decide +kernel
theorem dX12_soon_14 : decode cX12_soon 14 = .ok (.invokevirtual 192, 3) := by decide +kernel
theorem dX12_soon_17 : decode cX12_soon 17 = .ok (.ifCond .eq 22, 3) := by decide +kernel
theorem dX12_soon_20 : decode cX12_soon 20 = .ok (.aload_n 0, 1) := by decide +kernel
theorem dX12_soon_21 : decode cX12_soon 21 = .ok (.iload_n 2, 1) := by decide +kernel
theorem dX12_soon_22 : decode cX12_soon 22 = .ok (.iload_n 3, 1) := by decide +kernel
theorem dX12_soon_23 : decode cX12_soon 23 = .ok (.invokevirtual 352, 3) := by decide +kernel
theorem dX12_soon_26 : decode cX12_soon 26 = .ok (.ifCond .eq 13, 3) := by decide +kernel
theorem dX12_soon_29 : decode cX12_soon 29 = .ok (.iload 4, 2) := by decide +kernel
theorem dX12_soon_31 : decode cX12_soon 31 = .ok (.iconst 0, 1) := by decide +kernel
theorem dX12_soon_32 : decode cX12_soon 32 = .ok (.iconst 1, 1) := by decide +kernel
theorem dX12_soon_33 : decode cX12_soon 33 = .ok (.invokestatic 178, 3) := by decide +kernel
theorem dX12_soon_36 : decode cX12_soon 36 = .ok (.ifCond .ne 5, 3) := by decide +kernel
theorem dX12_soon_39 : decode cX12_soon 39 = .ok (.iconst (-1), 1) := by decide +kernel
theorem dX12_soon_40 : decode cX12_soon 40 = .ok (.ireturn, 1) := by decide +kernel
theorem dX12_soon_41 : decode cX12_soon 41 = .ok (.aload_n 0, 1) := by decide +kernel
theorem dX12_soon_42 : decode cX12_soon 42 = .ok (.invokevirtual 336, 3) := by decide +kernel
theorem dX12_soon_45 : decode cX12_soon 45 = .ok (.iconst 0, 1) := by decide +kernel
theorem dX12_soon_46 : decode cX12_soon 46 = .ok (.istore 5, 2) := by decide +kernel
theorem dX12_soon_48 : decode cX12_soon 48 = .ok (.iload 5, 2) := by decide +kernel
theorem dX12_soon_50 : decode cX12_soon 50 = .ok (.aload_n 0, 1) := by decide +kernel
theorem dX12_soon_51 : decode cX12_soon 51 = .ok (.getfield 69, 3) := by decide +kernel
theorem dX12_soon_54 : decode cX12_soon 54 = .ok (.iload_n 1, 1) := by decide +kernel
theorem dX12_soon_55 : decode cX12_soon 55 = .ok (.iaload, 1) := by decide +kernel
theorem dX12_soon_56 : decode cX12_soon 56 = .ok (.if_icmp .gt 26, 3) := by decide +kernel
theorem dX12_soon_59 : decode cX12_soon 59 = .ok (.aload_n 0, 1) := by decide +kernel
theorem dX12_soon_60 : decode cX12_soon 60 = .ok (.iload_n 1, 1) := by decide +kernel
theorem dX12_soon_61 : decode cX12_soon 61 = .ok (.iload_n 2, 1) := by decide +kernel
theorem dX12_soon_62 : decode cX12_soon 62 = .ok (.iload_n 3, 1) := by decide +kernel
theorem dX12_soon_63 : decode cX12_soon 63 = .ok (.iload 4, 2) := by decide +kernel
theorem dX12_soon_65 : decode cX12_soon 65 = .ok (.iload 5, 2) := by decide +kernel
theorem dX12_soon_67 : decode cX12_soon 67 = .ok (.invokevirtual 355, 3) := by decide +kernel
theorem dX12_soon_70 : decode cX12_soon 70 = .ok (.ifCond .lt 6, 3) := by decide +kernel
theorem dX12_soon_73 : decode cX12_soon 73 = .ok (.iload 5, 2) := by decide +kernel
theorem dX12_soon_75 : decode cX12_soon 75 = .ok (.ireturn, 1) := by decide +kernel
theorem dX12_soon_76 : decode cX12_soon 76 = .ok (.iinc 5 1, 3) := by decide +kernel
theorem dX12_soon_79 : decode cX12_soon 79 = .ok (.goto (-31), 3) := by decide +kernel
theorem dX12_soon_82 : decode cX12_soon 82 = .ok (.iconst (-1), 1) := by decide +kernel
theorem dX12_soon_83 : decode cX12_soon 83 = .ok (.ireturn, 1) := by decide +kernel
set_option maxHeartbeats 4000000 in
set_option maxRecDepth 100000 in
theorem s_X12_soon {P : PP} {a0 : Nat} {a1 : Int32} {a2 : Int32} {a3 : Int32} {a4 : Int32} (I : IM P a0) (hW : MW P a0) : CtrI yX12_soon cX12_soon 6 (some Jvm.ClassFile.FieldType.int) ({ frames := 8, cells := 0, slots := 0, locals := 512 } : Room) 0 0 P [.ref a0, .int a1, .int a2, .int a3, .int a4] (fun r P2 => IM P2 a0 ∧ EM [0, 28, 29, 30, 31, 32, 33, 34, 35, 36, 37, 38] a0 P P2 ∧ MW P2 a0 ∧ (-1 ≤ r.toInt ∧ r.toInt ≤ 40)) := by
  refine enI (lv := [(0, .ref a0), (1, .int a1), (2, .int a2), (3, .int a3), (4, .int a4)]) (by decide) (Nat.le_of_ble_eq_true rfl) rfl (fun E D cy C Ci0 ret => ?_)
  have ha0 := I.2.1
  have J48 : ∀ (n48 : Nat) (P48 : PP) (v48_5 : Int32), (41 - v48_5.toInt).toNat < n48 → (IM P48 a0) → (EM [0, 28, 29, 30, 31, 32, 33, 34, 35, 36, 37, 38] a0 P P48) → (MW P48 a0) → (0 ≤ a1.toInt ∧ a1.toInt ≤ 3) → (0 ≤ a2.toInt ∧ a2.toInt ≤ 1) → (0 ≤ a3.toInt ∧ a3.toInt ≤ 19) → (0 ≤ a4.toInt ∧ a4.toInt ≤ 1) → (0 ≤ v48_5.toInt ∧ v48_5.toInt ≤ 41) → (0 ≤ (pI P48 a0 0).toInt ∧ (pI P48 a0 0).toInt ≤ 0) → (∀ b, pR P48 a0 10 = some b → 1 ≤ (pI P48 b (a2.toInt.toNat)).toInt ∧ (pI P48 b (a2.toInt.toNat)).toInt ≤ 16) → G E ({ frames := 8, cells := 0, slots := 0, locals := 512 } : Room) D cy 6 P48 0 0 48 [(0, .ref a0), (1, .int a1), (2, .int a2), (3, .int a3), (4, .int a4), (5, .int v48_5)] [] := by
    intro n48
    induction n48 with
    | zero => intro P48 v48_5 hm48 I48 X48 W48 hv48_1 hv48_2 hv48_3 hv48_4 hv48_5 hq48_0 hq48_1; omega
    | succ n48 ih48 =>
      intro P48 v48_5 hm48 I48 X48 W48 hv48_1 hv48_2 hv48_3 hv48_4 hv48_5 hq48_0 hq48_1
      have h76045 := X48.at ha0
      obtain ⟨b76046, e76047, h76048⟩ := I48.fld (h76045) 10 13 2 rfl
      have hq48_1 := hq48_1 b76046 e76047
      refine g_iload C dX12_soon_48 5 rfl ?_
      refine g_aload_n C dX12_soon_50 rfl 0 rfl ?_
      obtain ⟨b76049, e76050, h76051⟩ := I48.fld (h76045) 20 13 20 rfl
      refine g_getR C fi_X12_69 rfl e76050 (h76045).1 (h76045).2 dX12_soon_51 ?_
      refine g_iload_n C dX12_soon_54 rfl 1 rfl ?_
      refine g_iald (j := (a1.toInt.toNat)) C h76051.1 h76051.2.1 (ix_in h76051.2.2 (by omega)) dX12_soon_55 ?_
      have h76052 := I48.arr e76050 rfl (a1.toInt.toNat)
      refine b_icmp_gt C 82 dX12_soon_56 (by decide) (fun h76053 => ?_) (fun h76053 => ?_)
      · have h76053 : (pI P48 b76049 (a1.toInt.toNat)).toInt < v48_5.toInt := h76053
        refine g_iconst (v := (-1)) C dX12_soon_82 (by decide) ?_
        exact ret _ _ _ _ _ _ dX12_soon_83 rfl (by decide) (by decide) ⟨I48, X48, W48, (by decide)⟩
      · have h76053 : v48_5.toInt ≤ (pI P48 b76049 (a1.toInt.toNat)).toInt := h76053
        refine g_aload_n C dX12_soon_59 rfl 0 rfl ?_
        refine g_iload_n C dX12_soon_60 rfl 1 rfl ?_
        refine g_iload_n C dX12_soon_61 rfl 2 rfl ?_
        refine g_iload_n C dX12_soon_62 rfl 3 rfl ?_
        refine g_iload C dX12_soon_63 4 rfl ?_
        refine g_iload C dX12_soon_65 5 rfl ?_
        refine g_callVI (rest := []) C mv_X12_355 [.int a1, .int a2, .int a3, .int a4, .int v48_5] (s_X12_readBy I48 (by omega) (by omega) (by omega) (by omega) (fun b9 e9 => by rw [e76047] at e9; cases e9; show 1 ≤ (pI P48 b76046 (a2.toInt.toNat)).toInt ∧ (pI P48 b76046 (a2.toInt.toNat)).toInt ≤ 16; omega) W48) (h76045).1 (h76045).2 rfl rfl (by decide) (Nat.le_of_ble_eq_true rfl) (by decide) dX12_soon_67 (fun r76054 Y76055 h76056 => ?_)
        obtain ⟨Iy76057, Xy76058, W76059, h76056⟩ := h76056
        have q76060 := Xy76058.keepF 0 (by decide)
        have q76061 := Xy76058.keepA e76047 (by decide) rfl (a2.toInt.toNat)
        have q76062 := Xy76058.keepA e76050 (by decide) rfl (a1.toInt.toNat)
        have Xz76063 : EM [0, 28, 29, 30, 31, 32, 33, 34, 35, 36, 37, 38] a0 P Y76055 := EM.tr ha0 X48 (Xy76058.mono (by decide))
        have e76064 := Xy76058.ref h76045 (by decide) e76047
        have e76065 := Xy76058.ref h76045 (by decide) e76050
        have h76066 := Xy76058.at h76045
        have h76067 := Xy76058.ar h76048
        have h76068 := Xy76058.ar h76051
        have h76056 : True := h76056
        have u76070 := ti_rng r76054
        refine b_if_lt C 76 dX12_soon_70 (by decide) (fun h76069 => ?_) (fun h76069 => ?_)
        · have h76069 : r76054.toInt < 0 := h76069
          refine s_iinc (lv0 := [(0, .ref a0), (1, .int a1), (2, .int a2), (3, .int a3), (4, .int a4)]) (m := 1) C dX12_soon_76 5 rfl (by decide) rfl (by decide) (by omega) (fun z76071 h76072 => ?_)
          have h76072 : z76071.toInt = v48_5.toInt + 1 := h76072
          refine g_goto C 48 dX12_soon_79 (by decide) ?_
          refine g_lv (lv' := [(0, .ref a0), (1, .int a1), (2, .int a2), (3, .int a3), (4, .int a4), (5, .int z76071)]) [1, 2, 3, 4, 5, 0] rfl ?_
          exact ih48 Y76055 z76071 (by omega) Iy76057 Xz76063 W76059 (by omega) (by omega) (by omega) (by omega) (by omega) (by omega) (fun b9 e9 => by rw [e76064] at e9; cases e9; omega)
        · have h76069 : 0 ≤ r76054.toInt := h76069
          refine g_iload C dX12_soon_73 5 rfl ?_
          exact ret _ _ _ _ _ _ dX12_soon_75 rfl (by decide) (by decide) ⟨Iy76057, Xz76063, W76059, (by omega)⟩
  have J39 : ∀ (P39 : PP), (IM P39 a0) → (EM [0, 28, 29, 30, 31, 32, 33, 34, 35, 36, 37, 38] a0 P P39) → (MW P39 a0) → (0 ≤ (pI P39 a0 0).toInt ∧ (pI P39 a0 0).toInt ≤ 0) → G E ({ frames := 8, cells := 0, slots := 0, locals := 512 } : Room) D cy 6 P39 0 0 39 [] [] := by
    intro P39 I39 X39 W39 hq39_0
    have h76073 := X39.at ha0
    refine g_iconst (v := (-1)) C dX12_soon_39 (by decide) ?_
    exact ret _ _ _ _ _ _ dX12_soon_40 rfl (by decide) (by decide) ⟨I39, X39, W39, (by decide)⟩
  refine g_aload_n C dX12_soon_0 rfl 0 rfl ?_
  refine g_iconst (v := 0) C dX12_soon_1 (by decide) ?_
  refine g_putI C fi_X12_1 rfl (ha0).1 (ha0).2 dX12_soon_2 ?_
  refine gqW (ks := [0]) (I.setI (rgOk.of rfl (by decide))) (EM.setI I (by decide)) (fun Y76074 Iy76075 Xy76076 w76077 => ?_)
  have w76077 : (pI Y76074 a0 0).toInt = 0 := w76077
  have W76078 := hW.keep I Xy76076 (by decide) (by decide) (by decide)
  have Xz76079 : EM [0, 28, 29, 30, 31, 32, 33, 34, 35, 36, 37, 38] a0 P Y76074 := Xy76076.mono (by decide)
  have h76080 := Xy76076.at ha0
  refine g_iload_n C dX12_soon_5 rfl 1 rfl ?_
  refine g_callSI (b := 0) (ci := 0) (rest := []) C ms_X12_278 [.int a1] (s_X12_isQuarter Iy76075.1) rfl rfl (by decide) (Nat.le_of_ble_eq_true rfl) (by decide) dX12_soon_6 (fun r76081 Y76082 h76083 => ?_)
  obtain ⟨rfl, h76083⟩ := h76083
  obtain ⟨h76083, hi76084⟩ := h76083
  have hi76084 : r76081.toInt = 0 ∨ (((0 : Int) ≤ a1.toInt ∧ a1.toInt ≤ (3 : Int))) := hi76084
  have h76083 : 0 ≤ r76081.toInt ∧ r76081.toInt ≤ 1 := h76083
  refine b_if_eq C 39 dX12_soon_9 (by decide) (fun h76085 => ?_) (fun h76085 => ?_)
  · have h76085 : r76081.toInt = 0 := congrArg Int32.toInt h76085
    clear hi76084
    refine g_lv (lv' := []) [] rfl ?_
    exact J39 Y76074 Iy76075 Xz76079 W76078 (by omega)
  · have h76085 : r76081.toInt ≠ 0 := ti_ne h76085
    replace hi76084 := hi76084.resolve_left (by omega)
    refine g_aload_n C dX12_soon_12 rfl 0 rfl ?_
    refine g_iload_n C dX12_soon_13 rfl 2 rfl ?_
    refine g_callVI (rest := []) C mv_X12_192 [.int a2] (s_X12_isBook Iy76075 W76078) (h76080).1 (h76080).2 rfl rfl (by decide) (Nat.le_of_ble_eq_true rfl) (by decide) dX12_soon_14 (fun r76086 Y76087 h76088 => ?_)
    obtain ⟨rfl, h76088⟩ := h76088
    obtain ⟨h76088, hi76089, hi76090⟩ := h76088
    have hi76089 : r76086.toInt = 0 ∨ (((0 : Int) ≤ a2.toInt ∧ a2.toInt ≤ (1 : Int))) := hi76089
    have h76088 : 0 ≤ r76086.toInt ∧ r76086.toInt ≤ 1 := h76088
    refine b_if_eq C 39 dX12_soon_17 (by decide) (fun h76091 => ?_) (fun h76091 => ?_)
    · have h76091 : r76086.toInt = 0 := congrArg Int32.toInt h76091
      clear hi76089
      refine g_lv (lv' := []) [] rfl ?_
      exact J39 Y76074 Iy76075 Xz76079 W76078 (by omega)
    · have h76091 : r76086.toInt ≠ 0 := ti_ne h76091
      replace hi76089 := hi76089.resolve_left (by omega)
      obtain ⟨b76092, e76093, h76094⟩ := Iy76075.fld (h76080) 10 13 2 rfl
      have hi76090 := (hi76090.resolve_left (by omega)) b76092 e76093
      have hi76090 : 0 < (pI Y76074 b76092 (a2.toInt.toNat)).toInt := hi76090
      have h76095 := Iy76075.arr e76093 rfl (a2.toInt.toNat)
      refine g_aload_n C dX12_soon_20 rfl 0 rfl ?_
      refine g_iload_n C dX12_soon_21 rfl 2 rfl ?_
      refine g_iload_n C dX12_soon_22 rfl 3 rfl ?_
      refine g_callVI (rest := []) C mv_X12_352 [.int a2, .int a3] (s_X12_isPage Iy76075 (by omega) W76078) (h76080).1 (h76080).2 rfl rfl (by decide) (Nat.le_of_ble_eq_true rfl) (by decide) dX12_soon_23 (fun r76096 Y76097 h76098 => ?_)
      obtain ⟨rfl, h76098⟩ := h76098
      obtain ⟨h76098, hi76099⟩ := h76098
      have hi76099 : r76096.toInt = 0 ∨ (((0 : Int) ≤ a3.toInt ∧ a3.toInt ≤ (19 : Int))) := hi76099
      have h76098 : 0 ≤ r76096.toInt ∧ r76096.toInt ≤ 1 := h76098
      refine b_if_eq C 39 dX12_soon_26 (by decide) (fun h76100 => ?_) (fun h76100 => ?_)
      · have h76100 : r76096.toInt = 0 := congrArg Int32.toInt h76100
        clear hi76099
        refine g_lv (lv' := []) [] rfl ?_
        exact J39 Y76074 Iy76075 Xz76079 W76078 (by omega)
      · have h76100 : r76096.toInt ≠ 0 := ti_ne h76100
        replace hi76099 := hi76099.resolve_left (by omega)
        refine g_iload C dX12_soon_29 4 rfl ?_
        refine g_iconst (v := 0) C dX12_soon_31 (by decide) ?_
        refine g_iconst (v := 1) C dX12_soon_32 (by decide) ?_
        refine g_callSI (b := 0) (ci := 0) (rest := []) C ms_X12_178 [.int a4, .int 0, .int 1] (s_X12_within Iy76075.1) rfl rfl (by decide) (Nat.le_of_ble_eq_true rfl) (by decide) dX12_soon_33 (fun r76101 Y76102 h76103 => ?_)
        obtain ⟨rfl, h76103⟩ := h76103
        obtain ⟨h76103, hi76104⟩ := h76103
        have hi76104 : r76101.toInt = 0 ∨ (0 ≤ a4.toInt ∧ a4.toInt ≤ 1) := hi76104
        have h76103 : 0 ≤ r76101.toInt ∧ r76101.toInt ≤ 1 := h76103
        refine b_if_ne C 41 dX12_soon_36 (by decide) (fun h76105 => ?_) (fun h76105 => ?_)
        · have h76105 : r76101.toInt ≠ 0 := ti_ne h76105
          replace hi76104 := hi76104.resolve_left (by omega)
          refine g_aload_n C dX12_soon_41 rfl 0 rfl ?_
          refine g_callVV (rest := []) C mv_X12_336 [] (s_X12_leavesNone Iy76075 W76078) (h76080).1 (h76080).2 rfl rfl (by decide) (Nat.le_of_ble_eq_true rfl) (by decide) dX12_soon_42 (fun Y76107 h76108 => ?_)
          obtain ⟨Iy76109, Xy76110, W76111⟩ := h76108
          have q76112 := Xy76110.keepF 0 (by decide)
          have q76113 := Xy76110.keepA e76093 (by decide) rfl (a2.toInt.toNat)
          have Xz76114 : EM [0, 28, 29, 30, 31, 32, 33, 34, 35, 36, 37, 38] a0 P Y76107 := EM.tr ha0 Xz76079 (Xy76110.mono (by decide))
          have e76115 := Xy76110.ref h76080 (by decide) e76093
          have h76116 := Xy76110.at h76080
          have h76117 := Xy76110.ar h76094
          refine g_iconst (v := 0) C dX12_soon_45 (by decide) ?_
          refine g_istore (lv' := [(5, .int 0), (0, .ref a0), (1, .int a1), (2, .int a2), (3, .int a3), (4, .int a4)]) C dX12_soon_46 (by decide) rfl ?_
          refine g_lv (lv' := [(0, .ref a0), (1, .int a1), (2, .int a2), (3, .int a3), (4, .int a4), (5, .int 0)]) [1, 2, 3, 4, 5, 0] rfl ?_
          exact J48 _ Y76107 0 (Nat.lt_succ_self _) Iy76109 Xz76114 W76111 (by omega) (by omega) (by omega) (by omega) (by decide) (by omega) (fun b9 e9 => by rw [e76115] at e9; cases e9; omega)
        · have h76105 : r76101.toInt = 0 := congrArg Int32.toInt h76105
          clear hi76104
          refine g_lv (lv' := []) [] rfl ?_
          exact J39 Y76074 Iy76075 Xz76079 W76078 (by omega)
theorem dX12_swap_0 : decode cX12_swap 0 = .ok (.aload_n 0, 1) := by decide +kernel
theorem dX12_swap_1 : decode cX12_swap 1 = .ok (.iconst 0, 1) := by decide +kernel
theorem dX12_swap_2 : decode cX12_swap 2 = .ok (.putfield 1, 3) := by decide +kernel
theorem dX12_swap_5 : decode cX12_swap 5 = .ok (.iload_n 1, 1) := by decide +kernel
theorem dX12_swap_6 : decode cX12_swap 6 = .ok (.invokestatic 278, 3) := by decide +kernel
theorem dX12_swap_9 : decode cX12_swap 9 = .ok (.ifCond .eq 25, 3) := by decide +kernel
theorem dX12_swap_12 : decode cX12_swap 12 = .ok (.iload_n 2, 1) := by decide +kernel
theorem dX12_swap_13 : decode cX12_swap 13 = .ok (.invokestatic 278, 3) := by decide +kernel
theorem dX12_swap_16 : decode cX12_swap 16 = .ok (.ifCond .eq 18, 3) := by decide +kernel
theorem dX12_swap_19 : decode cX12_swap 19 = .ok (.iload_n 1, 1) := by decide +kernel
theorem dX12_swap_20 : decode cX12_swap 20 = .ok (.iload_n 2, 1) := by decide +kernel
theorem dX12_swap_21 : decode cX12_swap 21 = .ok (.if_icmp .eq 13, 3) := by decide +kernel
theorem dX12_swap_24 : decode cX12_swap 24 = .ok (.iload_n 3, 1) := by decide +kernel
theorem dX12_swap_25 : decode cX12_swap 25 = .ok (.iconst 0, 1) := by decide +kernel
theorem dX12_swap_26 : decode cX12_swap 26 = .ok (.bipush 40, 2) := by decide +kernel
theorem dX12_swap_28 : decode cX12_swap 28 = .ok (.invokestatic 178, 3) := by decide +kernel
theorem dX12_swap_31 : decode cX12_swap 31 = .ok (.ifCond .ne 5, 3) := by decide +kernel
theorem dX12_swap_34 : decode cX12_swap 34 = .ok (.iconst (-1), 1) := by decide +kernel
theorem dX12_swap_35 : decode cX12_swap 35 = .ok (.ireturn, 1) := by decide +kernel
theorem dX12_swap_36 : decode cX12_swap 36 = .ok (.iconst 0, 1) := by decide +kernel
theorem dX12_swap_37 : decode cX12_swap 37 = .ok (.istore 4, 2) := by decide +kernel
theorem dX12_swap_39 : decode cX12_swap 39 = .ok (.iconst 0, 1) := by decide +kernel
theorem dX12_swap_40 : decode cX12_swap 40 = .ok (.istore 5, 2) := by decide +kernel
theorem dX12_swap_42 : decode cX12_swap 42 = .ok (.iload 5, 2) := by decide +kernel
theorem dX12_swap_44 : decode cX12_swap 44 = .ok (.aload_n 0, 1) := by decide +kernel
theorem dX12_swap_45 : decode cX12_swap 45 = .ok (.getfield 69, 3) := by decide +kernel
theorem dX12_swap_48 : decode cX12_swap 48 = .ok (.iload_n 1, 1) := by decide +kernel
theorem dX12_swap_49 : decode cX12_swap 49 = .ok (.iaload, 1) := by decide +kernel
theorem dX12_swap_50 : decode cX12_swap 50 = .ok (.if_icmp .ge 107, 3) := by decide +kernel
theorem dX12_swap_53 : decode cX12_swap 53 = .ok (.iload 4, 2) := by decide +kernel
theorem dX12_swap_55 : decode cX12_swap 55 = .ok (.iload_n 3, 1) := by decide +kernel
theorem dX12_swap_56 : decode cX12_swap 56 = .ok (.if_icmp .ge 101, 3) := by decide +kernel
theorem dX12_swap_59 : decode cX12_swap 59 = .ok (.bipush 40, 2) := by decide +kernel
theorem dX12_swap_61 : decode cX12_swap 61 = .ok (.iload_n 1, 1) := by decide +kernel
theorem dX12_swap_62 : decode cX12_swap 62 = .ok (.imul, 1) := by decide +kernel
theorem dX12_swap_63 : decode cX12_swap 63 = .ok (.iload 5, 2) := by decide +kernel
theorem dX12_swap_65 : decode cX12_swap 65 = .ok (.iadd, 1) := by decide +kernel
theorem dX12_swap_66 : decode cX12_swap 66 = .ok (.istore 6, 2) := by decide +kernel
theorem dX12_swap_68 : decode cX12_swap 68 = .ok (.aload_n 0, 1) := by decide +kernel
theorem dX12_swap_69 : decode cX12_swap 69 = .ok (.getfield 69, 3) := by decide +kernel
theorem dX12_swap_72 : decode cX12_swap 72 = .ok (.iload_n 2, 1) := by decide +kernel
theorem dX12_swap_73 : decode cX12_swap 73 = .ok (.iaload, 1) := by decide +kernel
theorem dX12_swap_74 : decode cX12_swap 74 = .ok (.bipush 40, 2) := by decide +kernel
theorem dX12_swap_76 : decode cX12_swap 76 = .ok (.if_icmp .ge 27, 3) := by decide +kernel
theorem dX12_swap_79 : decode cX12_swap 79 = .ok (.aload_n 0, 1) := by decide +kernel
theorem dX12_swap_80 : decode cX12_swap 80 = .ok (.getfield 75, 3) := by decide +kernel
theorem dX12_swap_83 : decode cX12_swap 83 = .ok (.iload 6, 2) := by decide +kernel
theorem dX12_swap_85 : decode cX12_swap 85 = .ok (.iaload, 1) := by decide +kernel
theorem dX12_swap_86 : decode cX12_swap 86 = .ok (.ifCond .ge 13, 3) := by decide +kernel
theorem dX12_swap_89 : decode cX12_swap 89 = .ok (.aload_n 0, 1) := by decide +kernel
theorem dX12_swap_90 : decode cX12_swap 90 = .ok (.iload_n 2, 1) := by decide +kernel
theorem dX12_swap_91 : decode cX12_swap 91 = .ok (.invokevirtual 295, 3) := by decide +kernel
theorem dX12_swap_94 : decode cX12_swap 94 = .ok (.bipush 6, 2) := by decide +kernel
theorem dX12_swap_96 : decode cX12_swap 96 = .ok (.if_icmp .ge 7, 3) := by decide +kernel
theorem dX12_swap_99 : decode cX12_swap 99 = .ok (.iconst 1, 1) := by decide +kernel
theorem dX12_swap_100 : decode cX12_swap 100 = .ok (.goto 4, 3) := by decide +kernel
theorem dX12_swap_103 : decode cX12_swap 103 = .ok (.iconst 0, 1) := by decide +kernel
theorem dX12_swap_104 : decode cX12_swap 104 = .ok (.istore 7, 2) := by decide +kernel
theorem dX12_swap_106 : decode cX12_swap 106 = .ok (.iload 7, 2) := by decide +kernel
theorem dX12_swap_108 : decode cX12_swap 108 = .ok (.ifCond .eq 43, 3) := by decide +kernel
theorem dX12_swap_111 : decode cX12_swap 111 = .ok (.aload_n 0, 1) := by decide +kernel
theorem dX12_swap_112 : decode cX12_swap 112 = .ok (.iload_n 2, 1) := by decide +kernel
theorem dX12_swap_113 : decode cX12_swap 113 = .ok (.iload 6, 2) := by decide +kernel
theorem dX12_swap_115 : decode cX12_swap 115 = .ok (.invokevirtual 405, 3) := by decide +kernel
theorem dX12_swap_118 : decode cX12_swap 118 = .ok (.ifCond .ne 33, 3) := by decide +kernel
theorem dX12_swap_121 : decode cX12_swap 121 = .ok (.aload_n 0, 1) := by decide +kernel
theorem dX12_swap_122 : decode cX12_swap 122 = .ok (.iload 6, 2) := by decide +kernel
theorem dX12_swap_124 : decode cX12_swap 124 = .ok (.bipush 40, 2) := by decide +kernel
theorem dX12_swap_126 : decode cX12_swap 126 = .ok (.iload_n 2, 1) := by decide +kernel
theorem dX12_swap_127 : decode cX12_swap 127 = .ok (.imul, 1) := by decide +kernel
theorem dX12_swap_128 : decode cX12_swap 128 = .ok (.aload_n 0, 1) := by decide +kernel
theorem dX12_swap_129 : decode cX12_swap 129 = .ok (.getfield 69, 3) := by decide +kernel
theorem dX12_swap_132 : decode cX12_swap 132 = .ok (.iload_n 2, 1) := by decide +kernel
theorem dX12_swap_133 : decode cX12_swap 133 = .ok (.iaload, 1) := by decide +kernel
theorem dX12_swap_134 : decode cX12_swap 134 = .ok (.iadd, 1) := by decide +kernel
theorem dX12_swap_135 : decode cX12_swap 135 = .ok (.invokevirtual 274, 3) := by decide +kernel
theorem dX12_swap_138 : decode cX12_swap 138 = .ok (.aload_n 0, 1) := by decide +kernel
theorem dX12_swap_139 : decode cX12_swap 139 = .ok (.getfield 69, 3) := by decide +kernel
theorem dX12_swap_142 : decode cX12_swap 142 = .ok (.iload_n 2, 1) := by decide +kernel
theorem dX12_swap_143 : decode cX12_swap 143 = .ok (.dup2, 1) := by decide +kernel
theorem dX12_swap_144 : decode cX12_swap 144 = .ok (.iaload, 1) := by decide +kernel
theorem dX12_swap_145 : decode cX12_swap 145 = .ok (.iconst 1, 1) := by decide +kernel
theorem dX12_swap_146 : decode cX12_swap 146 = .ok (.iadd, 1) := by decide +kernel
theorem dX12_swap_147 : decode cX12_swap 147 = .ok (.iastore, 1) := by decide +kernel
theorem dX12_swap_148 : decode cX12_swap 148 = .ok (.iinc 4 1, 3) := by decide +kernel
theorem dX12_swap_151 : decode cX12_swap 151 = .ok (.iinc 5 1, 3) := by decide +kernel
theorem dX12_swap_154 : decode cX12_swap 154 = .ok (.goto (-112), 3) := by decide +kernel
theorem dX12_swap_157 : decode cX12_swap 157 = .ok (.iload 4, 2) := by decide +kernel
theorem dX12_swap_159 : decode cX12_swap 159 = .ok (.ireturn, 1) := by decide +kernel
set_option maxHeartbeats 4000000 in
set_option maxRecDepth 100000 in
theorem s_X12_swap {P : PP} {a0 : Nat} {a1 : Int32} {a2 : Int32} {a3 : Int32} (I : IM P a0) (hW : MW P a0) : CtrI yX12_swap cX12_swap 8 (some Jvm.ClassFile.FieldType.int) ({ frames := 3, cells := 0, slots := 0, locals := 192 } : Room) 0 0 P [.ref a0, .int a1, .int a2, .int a3] (fun r P2 => IM P2 a0 ∧ EM [0, 20, 21, 22, 23, 24, 25] a0 P P2 ∧ MW P2 a0 ∧ (-1 ≤ r.toInt ∧ r.toInt ≤ 40)) := by
  refine enI (lv := [(0, .ref a0), (1, .int a1), (2, .int a2), (3, .int a3)]) (by decide) (Nat.le_of_ble_eq_true rfl) rfl (fun E D cy C Ci0 ret => ?_)
  have ha0 := I.2.1
  have J157 : ∀ (P157 : PP) (v157_4 : Int32), (IM P157 a0) → (EM [0, 20, 21, 22, 23, 24, 25] a0 P P157) → (MW P157 a0) → (0 ≤ v157_4.toInt ∧ v157_4.toInt ≤ 40) → (0 ≤ (pI P157 a0 0).toInt ∧ (pI P157 a0 0).toInt ≤ 0) → G E ({ frames := 3, cells := 0, slots := 0, locals := 192 } : Room) D cy 8 P157 0 0 157 [(4, .int v157_4)] [] := by
    intro P157 v157_4 I157 X157 W157 hv157_4 hq157_0
    have h77324 := X157.at ha0
    refine g_iload C dX12_swap_157 0 rfl ?_
    exact ret _ _ _ _ _ _ dX12_swap_159 rfl (by decide) (by decide) ⟨I157, X157, W157, (by omega)⟩
  have J42 : ∀ (n42 : Nat) (P42 : PP) (v42_4 : Int32) (v42_5 : Int32), (40 - v42_5.toInt).toNat < n42 → (IM P42 a0) → (EM [0, 20, 21, 22, 23, 24, 25] a0 P P42) → (MW P42 a0) → (0 ≤ a1.toInt ∧ a1.toInt ≤ 3) → (0 ≤ a2.toInt ∧ a2.toInt ≤ 3) → (0 ≤ a3.toInt ∧ a3.toInt ≤ 40) → (0 ≤ v42_4.toInt ∧ v42_4.toInt ≤ 40) → (0 ≤ v42_5.toInt ∧ v42_5.toInt ≤ 40) → (0 ≤ (pI P42 a0 0).toInt ∧ (pI P42 a0 0).toInt ≤ 0) → G E ({ frames := 3, cells := 0, slots := 0, locals := 192 } : Room) D cy 8 P42 0 0 42 [(0, .ref a0), (1, .int a1), (2, .int a2), (3, .int a3), (4, .int v42_4), (5, .int v42_5)] [] := by
    intro n42
    induction n42 with
    | zero => intro P42 v42_4 v42_5 hm42 I42 X42 W42 hv42_1 hv42_2 hv42_3 hv42_4 hv42_5 hq42_0; omega
    | succ n42 ih42 =>
      intro P42 v42_4 v42_5 hm42 I42 X42 W42 hv42_1 hv42_2 hv42_3 hv42_4 hv42_5 hq42_0
      have h77325 := X42.at ha0
      have J151 : ∀ (P151 : PP) (v151_4 : Int32), (IM P151 a0) → (EM [0, 20, 21, 22, 23, 24, 25] a0 P P151) → (MW P151 a0) → (0 ≤ a1.toInt ∧ a1.toInt ≤ 3) → (0 ≤ a2.toInt ∧ a2.toInt ≤ 3) → (1 ≤ a3.toInt ∧ a3.toInt ≤ 40) → (0 ≤ v151_4.toInt ∧ v151_4.toInt ≤ 40) → (0 ≤ v42_5.toInt ∧ v42_5.toInt ≤ 39) → (0 ≤ (pI P151 a0 0).toInt ∧ (pI P151 a0 0).toInt ≤ 0) → G E ({ frames := 3, cells := 0, slots := 0, locals := 192 } : Room) D cy 8 P151 0 0 151 [(0, .ref a0), (1, .int a1), (2, .int a2), (3, .int a3), (4, .int v151_4), (5, .int v42_5)] [] := by
        intro P151 v151_4 I151 X151 W151 hv151_1 hv151_2 hv151_3 hv151_4 hv151_5 hq151_0
        have h77326 := X151.at ha0
        refine s_iinc (lv0 := [(0, .ref a0), (1, .int a1), (2, .int a2), (3, .int a3), (4, .int v151_4)]) (m := 1) C dX12_swap_151 5 rfl (by decide) rfl (by decide) (by omega) (fun z77327 h77328 => ?_)
        have h77328 : z77327.toInt = v42_5.toInt + 1 := h77328
        refine g_goto C 42 dX12_swap_154 (by decide) ?_
        refine g_lv (lv' := [(0, .ref a0), (1, .int a1), (2, .int a2), (3, .int a3), (4, .int v151_4), (5, .int z77327)]) [1, 2, 3, 4, 5, 0] rfl ?_
        exact ih42 P151 v151_4 z77327 (by omega) I151 X151 W151 (by omega) (by omega) (by omega) (by omega) (by omega) (by omega)
      have J104 : ∀ (v104_6 : Int32) (v104_s0 : Int32), (0 ≤ a1.toInt ∧ a1.toInt ≤ 3) → (0 ≤ a2.toInt ∧ a2.toInt ≤ 3) → (1 ≤ a3.toInt ∧ a3.toInt ≤ 40) → (0 ≤ v42_4.toInt ∧ v42_4.toInt ≤ 39) → (0 ≤ v42_5.toInt ∧ v42_5.toInt ≤ 39) → (0 ≤ v104_6.toInt ∧ v104_6.toInt ≤ 159) → (0 ≤ v104_s0.toInt ∧ v104_s0.toInt ≤ 1) → (0 ≤ (pI P42 a0 0).toInt ∧ (pI P42 a0 0).toInt ≤ 0) → (∀ b, pR P42 a0 20 = some b → 1 ≤ (pI P42 b (a1.toInt.toNat)).toInt ∧ (pI P42 b (a1.toInt.toNat)).toInt ≤ 40) → (∀ b920, pR P42 a0 20 = some b920 → v104_s0.toInt = 0 ∨ (pI P42 b920 (a2.toInt.toNat)).toInt ≤ 39) → G E ({ frames := 3, cells := 0, slots := 0, locals := 192 } : Room) D cy 8 P42 0 0 104 [(0, .ref a0), (1, .int a1), (2, .int a2), (3, .int a3), (4, .int v42_4), (5, .int v42_5), (6, .int v104_6)] [.int v104_s0] := by
        intro v104_6 v104_s0 hv104_1 hv104_2 hv104_3 hv104_4 hv104_5 hv104_6 hv104_s0 hq104_0 hq104_1 rel104_0
        have h77329 := X42.at ha0
        obtain ⟨b77330, e77331, h77332⟩ := I42.fld (h77329) 20 13 20 rfl
        have hq104_1 := hq104_1 b77330 e77331
        have rel104_0 := rel104_0 b77330 e77331
        have h77333 := I42.arr e77331 rfl (a2.toInt.toNat)
        refine g_istore (lv' := [(7, .int v104_s0), (0, .ref a0), (1, .int a1), (2, .int a2), (3, .int a3), (4, .int v42_4), (5, .int v42_5), (6, .int v104_6)]) C dX12_swap_104 (by decide) rfl ?_
        refine g_iload C dX12_swap_106 0 rfl ?_
        refine b_if_eq C 151 dX12_swap_108 (by decide) (fun h77334 => ?_) (fun h77334 => ?_)
        · have h77334 : v104_s0.toInt = 0 := congrArg Int32.toInt h77334
          refine g_lv (lv' := [(0, .ref a0), (1, .int a1), (2, .int a2), (3, .int a3), (4, .int v42_4), (5, .int v42_5)]) [1, 2, 3, 4, 5, 6] rfl ?_
          exact J151 P42 v42_4 I42 X42 W42 (by omega) (by omega) (by omega) (by omega) (by omega) (by omega)
        · have h77334 : v104_s0.toInt ≠ 0 := ti_ne h77334
          refine g_aload_n C dX12_swap_111 rfl 1 rfl ?_
          refine g_iload_n C dX12_swap_112 rfl 3 rfl ?_
          refine g_iload C dX12_swap_113 7 rfl ?_
          refine g_callVI (rest := []) C mv_X12_405 [.int a2, .int v104_6] (s_X12_hasAlike I42 (by omega) (by omega) W42) (h77329).1 (h77329).2 rfl rfl (by decide) (Nat.le_of_ble_eq_true rfl) (by decide) dX12_swap_115 (fun r77335 Y77336 h77337 => ?_)
          obtain ⟨rfl, h77337⟩ := h77337
          have h77337 : 0 ≤ r77335.toInt ∧ r77335.toInt ≤ 1 := h77337
          refine b_if_ne C 151 dX12_swap_118 (by decide) (fun h77338 => ?_) (fun h77338 => ?_)
          · have h77338 : r77335.toInt ≠ 0 := ti_ne h77338
            refine g_lv (lv' := [(0, .ref a0), (1, .int a1), (2, .int a2), (3, .int a3), (4, .int v42_4), (5, .int v42_5)]) [1, 2, 3, 4, 5, 6] rfl ?_
            exact J151 P42 v42_4 I42 X42 W42 (by omega) (by omega) (by omega) (by omega) (by omega) (by omega)
          · have h77338 : r77335.toInt = 0 := congrArg Int32.toInt h77338
            refine g_aload_n C dX12_swap_121 rfl 1 rfl ?_
            refine g_iload C dX12_swap_122 7 rfl ?_
            refine g_bipush (v := 40) C dX12_swap_124 (by decide) ?_
            refine g_iload_n C dX12_swap_126 rfl 3 rfl ?_
            refine s_imul C dX12_swap_127 (by show -2147483648 ≤ 40 * a2.toInt ∧ 40 * a2.toInt ≤ 2147483647; omega) (fun z77339 h77340 => ?_)
            have h77340 : z77339.toInt = 40 * a2.toInt := h77340
            refine g_aload_n C dX12_swap_128 rfl 1 rfl ?_
            refine g_getR C fi_X12_69 rfl e77331 (h77329).1 (h77329).2 dX12_swap_129 ?_
            refine g_iload_n C dX12_swap_132 rfl 3 rfl ?_
            refine g_iald (j := (a2.toInt.toNat)) C h77332.1 h77332.2.1 (ix_in h77332.2.2 (by omega)) dX12_swap_133 ?_
            refine s_iadd C dX12_swap_134 (by show -2147483648 ≤ z77339.toInt + (pI P42 b77330 (a2.toInt.toNat)).toInt ∧ z77339.toInt + (pI P42 b77330 (a2.toInt.toNat)).toInt ≤ 2147483647; omega) (fun z77341 h77342 => ?_)
            have h77342 : z77341.toInt = z77339.toInt + (pI P42 b77330 (a2.toInt.toNat)).toInt := h77342
            refine g_callVV (rest := []) C mv_X12_274 [.int v104_6, .int z77341] (s_X12_moves I42 (by omega) (by omega) W42) (h77329).1 (h77329).2 rfl rfl (by decide) (Nat.le_of_ble_eq_true rfl) (by decide) dX12_swap_135 (fun Y77344 h77345 => ?_)
            obtain ⟨Iy77346, Xy77347, W77348⟩ := h77345
            have q77349 := Xy77347.keepF 0 (by decide)
            have q77350 := Xy77347.keepA e77331 (by decide) rfl (a1.toInt.toNat)
            have q77351 := Xy77347.keepA e77331 (by decide) rfl (a2.toInt.toNat)
            have Xz77352 : EM [0, 20, 21, 22, 23, 24, 25] a0 P Y77344 := EM.tr ha0 X42 (Xy77347.mono (by decide))
            have e77353 := Xy77347.ref h77329 (by decide) e77331
            have h77354 := Xy77347.at h77329
            have h77355 := Xy77347.ar h77332
            refine g_aload_n C dX12_swap_138 rfl 1 rfl ?_
            refine g_getR C fi_X12_69 rfl e77353 (h77354).1 (h77354).2 dX12_swap_139 ?_
            refine g_iload_n C dX12_swap_142 rfl 3 rfl ?_
            refine g_dup2_11 C dX12_swap_143 rfl rfl ?_
            refine g_iald (j := (a2.toInt.toNat)) C h77355.1 h77355.2.1 (ix_in h77355.2.2 (by omega)) dX12_swap_144 ?_
            refine g_iconst (v := 1) C dX12_swap_145 (by decide) ?_
            refine s_iadd C dX12_swap_146 (by show -2147483648 ≤ (pI Y77344 b77330 (a2.toInt.toNat)).toInt + 1 ∧ (pI Y77344 b77330 (a2.toInt.toNat)).toInt + 1 ≤ 2147483647; omega) (fun z77356 h77357 => ?_)
            have h77357 : z77356.toInt = (pI Y77344 b77330 (a2.toInt.toNat)).toInt + 1 := h77357
            refine g_iast (j := (a2.toInt.toNat)) C h77355.1 h77355.2.1 (ix_in h77355.2.2 (by omega)) dX12_swap_147 ?_
            refine gqW (ks := [20]) (Iy77346.setA e77353 h77355 (by decide) (arOk.of rfl (by omega))) (EM.setA Iy77346 e77353 rfl (by decide)) (fun Y77358 Iy77359 Xy77360 w77361 => ?_)
            have w77361 : (pI Y77358 b77330 (a2.toInt.toNat)).toInt = z77356.toInt := w77361
            have q77362 := Xy77360.keepF 0 (by decide)
            have W77363 := W77348.keep Iy77346 Xy77360 (by decide) (by decide) (by decide)
            have Xz77364 : EM [0, 20, 21, 22, 23, 24, 25] a0 P Y77358 := EM.tr ha0 Xz77352 (Xy77360.mono (by decide))
            have e77365 := Xy77360.ref h77354 (by decide) e77353
            have h77366 := Xy77360.at h77354
            have h77367 := Xy77360.ar h77355
            refine s_iinc (lv0 := [(7, .int v104_s0), (0, .ref a0), (1, .int a1), (2, .int a2), (3, .int a3), (5, .int v42_5), (6, .int v104_6)]) (m := 1) C dX12_swap_148 5 rfl (by decide) rfl (by decide) (by omega) (fun z77368 h77369 => ?_)
            have h77369 : z77368.toInt = v42_4.toInt + 1 := h77369
            refine g_lv (lv' := [(0, .ref a0), (1, .int a1), (2, .int a2), (3, .int a3), (4, .int z77368), (5, .int v42_5)]) [2, 3, 4, 5, 0, 6] rfl ?_
            exact J151 Y77358 z77368 Iy77359 Xz77364 W77363 (by omega) (by omega) (by omega) (by omega) (by omega) (by omega)
      have J103 : ∀ (v103_6 : Int32), (0 ≤ a1.toInt ∧ a1.toInt ≤ 3) → (0 ≤ a2.toInt ∧ a2.toInt ≤ 3) → (1 ≤ a3.toInt ∧ a3.toInt ≤ 40) → (0 ≤ v42_4.toInt ∧ v42_4.toInt ≤ 39) → (0 ≤ v42_5.toInt ∧ v42_5.toInt ≤ 39) → (0 ≤ v103_6.toInt ∧ v103_6.toInt ≤ 159) → (0 ≤ (pI P42 a0 0).toInt ∧ (pI P42 a0 0).toInt ≤ 0) → (∀ b, pR P42 a0 20 = some b → 1 ≤ (pI P42 b (a1.toInt.toNat)).toInt ∧ (pI P42 b (a1.toInt.toNat)).toInt ≤ 40) → (∀ b, pR P42 a0 20 = some b → 0 ≤ (pI P42 b (a2.toInt.toNat)).toInt ∧ (pI P42 b (a2.toInt.toNat)).toInt ≤ 40) → G E ({ frames := 3, cells := 0, slots := 0, locals := 192 } : Room) D cy 8 P42 0 0 103 [(0, .ref a0), (1, .int a1), (2, .int a2), (3, .int a3), (4, .int v42_4), (5, .int v42_5), (6, .int v103_6)] [] := by
        intro v103_6 hv103_1 hv103_2 hv103_3 hv103_4 hv103_5 hv103_6 hq103_0 hq103_1 hq103_2
        have h77370 := X42.at ha0
        obtain ⟨b77371, e77372, h77373⟩ := I42.fld (h77370) 20 13 20 rfl
        have hq103_1 := hq103_1 b77371 e77372
        have hq103_2 := hq103_2 b77371 e77372
        refine g_iconst (v := 0) C dX12_swap_103 (by decide) ?_
        exact J104 v103_6 0 (by omega) (by omega) (by omega) (by omega) (by omega) (by omega) (by decide) (by omega) (fun b9 e9 => by rw [e77372] at e9; cases e9; omega) (by intro b920 e920; rw [e77372] at e920; cases e920; show 0 = 0 ∨ (pI P42 b77371 (a2.toInt.toNat)).toInt ≤ 39; omega)
      have J99 : ∀ (v99_6 : Int32), (0 ≤ a1.toInt ∧ a1.toInt ≤ 3) → (0 ≤ a2.toInt ∧ a2.toInt ≤ 3) → (1 ≤ a3.toInt ∧ a3.toInt ≤ 40) → (0 ≤ v42_4.toInt ∧ v42_4.toInt ≤ 39) → (0 ≤ v42_5.toInt ∧ v42_5.toInt ≤ 39) → (0 ≤ v99_6.toInt ∧ v99_6.toInt ≤ 159) → (0 ≤ (pI P42 a0 0).toInt ∧ (pI P42 a0 0).toInt ≤ 0) → (∀ b, pR P42 a0 20 = some b → 1 ≤ (pI P42 b (a1.toInt.toNat)).toInt ∧ (pI P42 b (a1.toInt.toNat)).toInt ≤ 40) → (∀ b, pR P42 a0 20 = some b → 0 ≤ (pI P42 b (a2.toInt.toNat)).toInt ∧ (pI P42 b (a2.toInt.toNat)).toInt ≤ 39) → G E ({ frames := 3, cells := 0, slots := 0, locals := 192 } : Room) D cy 8 P42 0 0 99 [(0, .ref a0), (1, .int a1), (2, .int a2), (3, .int a3), (4, .int v42_4), (5, .int v42_5), (6, .int v99_6)] [] := by
        intro v99_6 hv99_1 hv99_2 hv99_3 hv99_4 hv99_5 hv99_6 hq99_0 hq99_1 hq99_2
        have h77374 := X42.at ha0
        obtain ⟨b77375, e77376, h77377⟩ := I42.fld (h77374) 20 13 20 rfl
        have hq99_1 := hq99_1 b77375 e77376
        have hq99_2 := hq99_2 b77375 e77376
        refine g_iconst (v := 1) C dX12_swap_99 (by decide) ?_
        refine g_goto C 104 dX12_swap_100 (by decide) ?_
        exact J104 v99_6 1 (by omega) (by omega) (by omega) (by omega) (by omega) (by omega) (by decide) (by omega) (fun b9 e9 => by rw [e77376] at e9; cases e9; omega) (by intro b920 e920; rw [e77376] at e920; cases e920; show 1 = 0 ∨ (pI P42 b77375 (a2.toInt.toNat)).toInt ≤ 39; omega)
      refine g_iload C dX12_swap_42 5 rfl ?_
      refine g_aload_n C dX12_swap_44 rfl 0 rfl ?_
      obtain ⟨b77378, e77379, h77380⟩ := I42.fld (h77325) 20 13 20 rfl
      refine g_getR C fi_X12_69 rfl e77379 (h77325).1 (h77325).2 dX12_swap_45 ?_
      refine g_iload_n C dX12_swap_48 rfl 1 rfl ?_
      refine g_iald (j := (a1.toInt.toNat)) C h77380.1 h77380.2.1 (ix_in h77380.2.2 (by omega)) dX12_swap_49 ?_
      have h77381 := I42.arr e77379 rfl (a1.toInt.toNat)
      refine b_icmp_ge C 157 dX12_swap_50 (by decide) (fun h77382 => ?_) (fun h77382 => ?_)
      · have h77382 : (pI P42 b77378 (a1.toInt.toNat)).toInt ≤ v42_5.toInt := h77382
        refine g_lv (lv' := [(4, .int v42_4)]) [4] rfl ?_
        exact J157 P42 v42_4 I42 X42 W42 (by omega) (by omega)
      · have h77382 : v42_5.toInt < (pI P42 b77378 (a1.toInt.toNat)).toInt := h77382
        refine g_iload C dX12_swap_53 4 rfl ?_
        refine g_iload_n C dX12_swap_55 rfl 3 rfl ?_
        refine b_icmp_ge C 157 dX12_swap_56 (by decide) (fun h77383 => ?_) (fun h77383 => ?_)
        · have h77383 : a3.toInt ≤ v42_4.toInt := h77383
          refine g_lv (lv' := [(4, .int v42_4)]) [4] rfl ?_
          exact J157 P42 v42_4 I42 X42 W42 (by omega) (by omega)
        · have h77383 : v42_4.toInt < a3.toInt := h77383
          refine g_bipush (v := 40) C dX12_swap_59 (by decide) ?_
          refine g_iload_n C dX12_swap_61 rfl 1 rfl ?_
          refine s_imul C dX12_swap_62 (by show -2147483648 ≤ 40 * a1.toInt ∧ 40 * a1.toInt ≤ 2147483647; omega) (fun z77384 h77385 => ?_)
          have h77385 : z77384.toInt = 40 * a1.toInt := h77385
          refine g_iload C dX12_swap_63 5 rfl ?_
          refine s_iadd C dX12_swap_65 (by show -2147483648 ≤ z77384.toInt + v42_5.toInt ∧ z77384.toInt + v42_5.toInt ≤ 2147483647; omega) (fun z77386 h77387 => ?_)
          have h77387 : z77386.toInt = z77384.toInt + v42_5.toInt := h77387
          refine g_istore (lv' := [(6, .int z77386), (0, .ref a0), (1, .int a1), (2, .int a2), (3, .int a3), (4, .int v42_4), (5, .int v42_5)]) C dX12_swap_66 (by decide) rfl ?_
          refine g_aload_n C dX12_swap_68 rfl 1 rfl ?_
          refine g_getR C fi_X12_69 rfl e77379 (h77325).1 (h77325).2 dX12_swap_69 ?_
          refine g_iload_n C dX12_swap_72 rfl 3 rfl ?_
          refine g_iald (j := (a2.toInt.toNat)) C h77380.1 h77380.2.1 (ix_in h77380.2.2 (by omega)) dX12_swap_73 ?_
          have h77388 := I42.arr e77379 rfl (a2.toInt.toNat)
          refine g_bipush (v := 40) C dX12_swap_74 (by decide) ?_
          refine b_icmp_ge C 103 dX12_swap_76 (by decide) (fun h77389 => ?_) (fun h77389 => ?_)
          · have h77389 : 40 ≤ (pI P42 b77378 (a2.toInt.toNat)).toInt := h77389
            refine g_lv (lv' := [(0, .ref a0), (1, .int a1), (2, .int a2), (3, .int a3), (4, .int v42_4), (5, .int v42_5), (6, .int z77386)]) [1, 2, 3, 4, 5, 6, 0] rfl ?_
            exact J103 z77386 (by omega) (by omega) (by omega) (by omega) (by omega) (by omega) (by omega) (fun b9 e9 => by rw [e77379] at e9; cases e9; omega) (fun b9 e9 => by rw [e77379] at e9; cases e9; omega)
          · have h77389 : (pI P42 b77378 (a2.toInt.toNat)).toInt < 40 := h77389
            refine g_aload_n C dX12_swap_79 rfl 1 rfl ?_
            obtain ⟨b77390, e77391, h77392⟩ := I42.fld (h77325) 22 13 800 rfl
            refine g_getR C fi_X12_75 rfl e77391 (h77325).1 (h77325).2 dX12_swap_80 ?_
            refine g_iload C dX12_swap_83 0 rfl ?_
            refine g_iald (j := (z77386.toInt.toNat)) C h77392.1 h77392.2.1 (ix_in h77392.2.2 (by omega)) dX12_swap_85 ?_
            have h77393 := I42.arr e77391 rfl (z77386.toInt.toNat)
            refine b_if_ge C 99 dX12_swap_86 (by decide) (fun h77394 => ?_) (fun h77394 => ?_)
            · have h77394 : 0 ≤ (pI P42 b77390 (z77386.toInt.toNat)).toInt := h77394
              refine g_lv (lv' := [(0, .ref a0), (1, .int a1), (2, .int a2), (3, .int a3), (4, .int v42_4), (5, .int v42_5), (6, .int z77386)]) [1, 2, 3, 4, 5, 6, 0] rfl ?_
              exact J99 z77386 (by omega) (by omega) (by omega) (by omega) (by omega) (by omega) (by omega) (fun b9 e9 => by rw [e77379] at e9; cases e9; omega) (fun b9 e9 => by rw [e77379] at e9; cases e9; omega)
            · have h77394 : (pI P42 b77390 (z77386.toInt.toNat)).toInt < 0 := h77394
              refine g_aload_n C dX12_swap_89 rfl 1 rfl ?_
              refine g_iload_n C dX12_swap_90 rfl 3 rfl ?_
              refine g_callVI (rest := []) C mv_X12_295 [.int a2] (s_X12_namelessIn I42 (by omega) W42) (h77325).1 (h77325).2 rfl rfl (by decide) (Nat.le_of_ble_eq_true rfl) (by decide) dX12_swap_91 (fun r77395 Y77396 h77397 => ?_)
              obtain ⟨rfl, h77397⟩ := h77397
              have h77397 : True := h77397
              refine g_bipush (v := 6) C dX12_swap_94 (by decide) ?_
              have u77399 := ti_rng r77395
              refine b_icmp_ge C 103 dX12_swap_96 (by decide) (fun h77398 => ?_) (fun h77398 => ?_)
              · have h77398 : 6 ≤ r77395.toInt := h77398
                refine g_lv (lv' := [(0, .ref a0), (1, .int a1), (2, .int a2), (3, .int a3), (4, .int v42_4), (5, .int v42_5), (6, .int z77386)]) [1, 2, 3, 4, 5, 6, 0] rfl ?_
                exact J103 z77386 (by omega) (by omega) (by omega) (by omega) (by omega) (by omega) (by omega) (fun b9 e9 => by rw [e77379] at e9; cases e9; omega) (fun b9 e9 => by rw [e77379] at e9; cases e9; omega)
              · have h77398 : r77395.toInt < 6 := h77398
                refine g_lv (lv' := [(0, .ref a0), (1, .int a1), (2, .int a2), (3, .int a3), (4, .int v42_4), (5, .int v42_5), (6, .int z77386)]) [1, 2, 3, 4, 5, 6, 0] rfl ?_
                exact J99 z77386 (by omega) (by omega) (by omega) (by omega) (by omega) (by omega) (by omega) (fun b9 e9 => by rw [e77379] at e9; cases e9; omega) (fun b9 e9 => by rw [e77379] at e9; cases e9; omega)
  have J34 : ∀ (P34 : PP), (IM P34 a0) → (EM [0, 20, 21, 22, 23, 24, 25] a0 P P34) → (MW P34 a0) → (0 ≤ (pI P34 a0 0).toInt ∧ (pI P34 a0 0).toInt ≤ 0) → G E ({ frames := 3, cells := 0, slots := 0, locals := 192 } : Room) D cy 8 P34 0 0 34 [] [] := by
    intro P34 I34 X34 W34 hq34_0
    have h77400 := X34.at ha0
    refine g_iconst (v := (-1)) C dX12_swap_34 (by decide) ?_
    exact ret _ _ _ _ _ _ dX12_swap_35 rfl (by decide) (by decide) ⟨I34, X34, W34, (by decide)⟩
  refine g_aload_n C dX12_swap_0 rfl 0 rfl ?_
  refine g_iconst (v := 0) C dX12_swap_1 (by decide) ?_
  refine g_putI C fi_X12_1 rfl (ha0).1 (ha0).2 dX12_swap_2 ?_
  refine gqW (ks := [0]) (I.setI (rgOk.of rfl (by decide))) (EM.setI I (by decide)) (fun Y77401 Iy77402 Xy77403 w77404 => ?_)
  have w77404 : (pI Y77401 a0 0).toInt = 0 := w77404
  have W77405 := hW.keep I Xy77403 (by decide) (by decide) (by decide)
  have Xz77406 : EM [0, 20, 21, 22, 23, 24, 25] a0 P Y77401 := Xy77403.mono (by decide)
  have h77407 := Xy77403.at ha0
  refine g_iload_n C dX12_swap_5 rfl 1 rfl ?_
  refine g_callSI (b := 0) (ci := 0) (rest := []) C ms_X12_278 [.int a1] (s_X12_isQuarter Iy77402.1) rfl rfl (by decide) (Nat.le_of_ble_eq_true rfl) (by decide) dX12_swap_6 (fun r77408 Y77409 h77410 => ?_)
  obtain ⟨rfl, h77410⟩ := h77410
  obtain ⟨h77410, hi77411⟩ := h77410
  have hi77411 : r77408.toInt = 0 ∨ (((0 : Int) ≤ a1.toInt ∧ a1.toInt ≤ (3 : Int))) := hi77411
  have h77410 : 0 ≤ r77408.toInt ∧ r77408.toInt ≤ 1 := h77410
  refine b_if_eq C 34 dX12_swap_9 (by decide) (fun h77412 => ?_) (fun h77412 => ?_)
  · have h77412 : r77408.toInt = 0 := congrArg Int32.toInt h77412
    clear hi77411
    refine g_lv (lv' := []) [] rfl ?_
    exact J34 Y77401 Iy77402 Xz77406 W77405 (by omega)
  · have h77412 : r77408.toInt ≠ 0 := ti_ne h77412
    replace hi77411 := hi77411.resolve_left (by omega)
    refine g_iload_n C dX12_swap_12 rfl 2 rfl ?_
    refine g_callSI (b := 0) (ci := 0) (rest := []) C ms_X12_278 [.int a2] (s_X12_isQuarter Iy77402.1) rfl rfl (by decide) (Nat.le_of_ble_eq_true rfl) (by decide) dX12_swap_13 (fun r77413 Y77414 h77415 => ?_)
    obtain ⟨rfl, h77415⟩ := h77415
    obtain ⟨h77415, hi77416⟩ := h77415
    have hi77416 : r77413.toInt = 0 ∨ (((0 : Int) ≤ a2.toInt ∧ a2.toInt ≤ (3 : Int))) := hi77416
    have h77415 : 0 ≤ r77413.toInt ∧ r77413.toInt ≤ 1 := h77415
    refine b_if_eq C 34 dX12_swap_16 (by decide) (fun h77417 => ?_) (fun h77417 => ?_)
    · have h77417 : r77413.toInt = 0 := congrArg Int32.toInt h77417
      clear hi77416
      refine g_lv (lv' := []) [] rfl ?_
      exact J34 Y77401 Iy77402 Xz77406 W77405 (by omega)
    · have h77417 : r77413.toInt ≠ 0 := ti_ne h77417
      replace hi77416 := hi77416.resolve_left (by omega)
      refine g_iload_n C dX12_swap_19 rfl 1 rfl ?_
      refine g_iload_n C dX12_swap_20 rfl 2 rfl ?_
      refine b_icmp_eq C 34 dX12_swap_21 (by decide) (fun h77418 => ?_) (fun h77418 => ?_)
      · have h77418 : a1.toInt = a2.toInt := congrArg Int32.toInt h77418
        refine g_lv (lv' := []) [] rfl ?_
        exact J34 Y77401 Iy77402 Xz77406 W77405 (by omega)
      · have h77418 : a1.toInt ≠ a2.toInt := ti_ne h77418
        refine g_iload_n C dX12_swap_24 rfl 3 rfl ?_
        refine g_iconst (v := 0) C dX12_swap_25 (by decide) ?_
        refine g_bipush (v := 40) C dX12_swap_26 (by decide) ?_
        refine g_callSI (b := 0) (ci := 0) (rest := []) C ms_X12_178 [.int a3, .int 0, .int 40] (s_X12_within Iy77402.1) rfl rfl (by decide) (Nat.le_of_ble_eq_true rfl) (by decide) dX12_swap_28 (fun r77419 Y77420 h77421 => ?_)
        obtain ⟨rfl, h77421⟩ := h77421
        obtain ⟨h77421, hi77422⟩ := h77421
        have hi77422 : r77419.toInt = 0 ∨ (0 ≤ a3.toInt ∧ a3.toInt ≤ 40) := hi77422
        have h77421 : 0 ≤ r77419.toInt ∧ r77419.toInt ≤ 1 := h77421
        refine b_if_ne C 36 dX12_swap_31 (by decide) (fun h77423 => ?_) (fun h77423 => ?_)
        · have h77423 : r77419.toInt ≠ 0 := ti_ne h77423
          replace hi77422 := hi77422.resolve_left (by omega)
          refine g_iconst (v := 0) C dX12_swap_36 (by decide) ?_
          refine g_istore (lv' := [(4, .int 0), (0, .ref a0), (1, .int a1), (2, .int a2), (3, .int a3)]) C dX12_swap_37 (by decide) rfl ?_
          refine g_iconst (v := 0) C dX12_swap_39 (by decide) ?_
          refine g_istore (lv' := [(5, .int 0), (4, .int 0), (0, .ref a0), (1, .int a1), (2, .int a2), (3, .int a3)]) C dX12_swap_40 (by decide) rfl ?_
          refine g_lv (lv' := [(0, .ref a0), (1, .int a1), (2, .int a2), (3, .int a3), (4, .int 0), (5, .int 0)]) [2, 3, 4, 5, 1, 0] rfl ?_
          exact J42 _ Y77401 0 0 (Nat.lt_succ_self _) Iy77402 Xz77406 W77405 (by omega) (by omega) (by omega) (by decide) (by decide) (by omega)
        · have h77423 : r77419.toInt = 0 := congrArg Int32.toInt h77423
          clear hi77422
          refine g_lv (lv' := []) [] rfl ?_
          exact J34 Y77401 Iy77402 Xz77406 W77405 (by omega)
theorem dX12_takeNumber_0 : decode cX12_takeNumber 0 = .ok (.aload_n 0, 1) := by decide +kernel
theorem dX12_takeNumber_1 : decode cX12_takeNumber 1 = .ok (.getfield 162, 3) := by decide +kernel
theorem dX12_takeNumber_4 : decode cX12_takeNumber 4 = .ok (.ifCond .ne 24, 3) := by decide +kernel
theorem dX12_takeNumber_7 : decode cX12_takeNumber 7 = .ok (.aload_n 0, 1) := by decide +kernel
theorem dX12_takeNumber_8 : decode cX12_takeNumber 8 = .ok (.getfield 24, 3) := by decide +kernel
theorem dX12_takeNumber_11 : decode cX12_takeNumber 11 = .ok (.aload_n 0, 1) := by decide +kernel
theorem dX12_takeNumber_12 : decode cX12_takeNumber 12 = .ok (.getfield 159, 3) := by decide +kernel
theorem dX12_takeNumber_15 : decode cX12_takeNumber 15 = .ok (.iaload, 1) := by decide +kernel
theorem dX12_takeNumber_16 : decode cX12_takeNumber 16 = .ok (.iconst 2, 1) := by decide +kernel
theorem dX12_takeNumber_17 : decode cX12_takeNumber 17 = .ok (.if_icmp .eq 11, 3) := by decide +kernel
theorem dX12_takeNumber_20 : decode cX12_takeNumber 20 = .ok (.aload_n 0, 1) := by decide +kernel
theorem dX12_takeNumber_21 : decode cX12_takeNumber 21 = .ok (.iconst 1, 1) := by decide +kernel
theorem dX12_takeNumber_22 : decode cX12_takeNumber 22 = .ok (.invokevirtual 168, 3) := by decide +kernel
theorem dX12_takeNumber_25 : decode cX12_takeNumber 25 = .ok (.goto 45, 3) := by decide +kernel
theorem dX12_takeNumber_28 : decode cX12_takeNumber 28 = .ok (.aload_n 0, 1) := by decide +kernel
theorem dX12_takeNumber_29 : decode cX12_takeNumber 29 = .ok (.getfield 162, 3) := by decide +kernel
theorem dX12_takeNumber_32 : decode cX12_takeNumber 32 = .ok (.ifCond .ne 38, 3) := by decide +kernel
theorem dX12_takeNumber_35 : decode cX12_takeNumber 35 = .ok (.aload_n 0, 1) := by decide +kernel
theorem dX12_takeNumber_36 : decode cX12_takeNumber 36 = .ok (.getfield 30, 3) := by decide +kernel
theorem dX12_takeNumber_39 : decode cX12_takeNumber 39 = .ok (.aload_n 0, 1) := by decide +kernel
theorem dX12_takeNumber_40 : decode cX12_takeNumber 40 = .ok (.getfield 159, 3) := by decide +kernel
theorem dX12_takeNumber_43 : decode cX12_takeNumber 43 = .ok (.laload, 1) := by decide +kernel
theorem dX12_takeNumber_44 : decode cX12_takeNumber 44 = .ok (.iload_n 1, 1) := by decide +kernel
theorem dX12_takeNumber_45 : decode cX12_takeNumber 45 = .ok (.i2l, 1) := by decide +kernel
theorem dX12_takeNumber_46 : decode cX12_takeNumber 46 = .ok (.lcmp, 1) := by decide +kernel
theorem dX12_takeNumber_47 : decode cX12_takeNumber 47 = .ok (.ifCond .lt 18, 3) := by decide +kernel
theorem dX12_takeNumber_50 : decode cX12_takeNumber 50 = .ok (.aload_n 0, 1) := by decide +kernel
theorem dX12_takeNumber_51 : decode cX12_takeNumber 51 = .ok (.getfield 30, 3) := by decide +kernel
theorem dX12_takeNumber_54 : decode cX12_takeNumber 54 = .ok (.aload_n 0, 1) := by decide +kernel
theorem dX12_takeNumber_55 : decode cX12_takeNumber 55 = .ok (.getfield 159, 3) := by decide +kernel
theorem dX12_takeNumber_58 : decode cX12_takeNumber 58 = .ok (.laload, 1) := by decide +kernel
theorem dX12_takeNumber_59 : decode cX12_takeNumber 59 = .ok (.iload_n 2, 1) := by decide +kernel
theorem dX12_takeNumber_60 : decode cX12_takeNumber 60 = .ok (.i2l, 1) := by decide +kernel
theorem dX12_takeNumber_61 : decode cX12_takeNumber 61 = .ok (.lcmp, 1) := by decide +kernel
theorem dX12_takeNumber_62 : decode cX12_takeNumber 62 = .ok (.ifCond .le 8, 3) := by decide +kernel
theorem dX12_takeNumber_70 : decode cX12_takeNumber 70 = .ok (.aload_n 0, 1) := by decide +kernel
theorem dX12_takeNumber_71 : decode cX12_takeNumber 71 = .ok (.getfield 162, 3) := by decide +kernel
theorem dX12_takeNumber_74 : decode cX12_takeNumber 74 = .ok (.ifCond .le 5, 3) := by decide +kernel
theorem dX12_takeNumber_79 : decode cX12_takeNumber 79 = .ok (.aload_n 0, 1) := by decide +kernel
theorem dX12_takeNumber_80 : decode cX12_takeNumber 80 = .ok (.dup, 1) := by decide +kernel
theorem dX12_takeNumber_81 : decode cX12_takeNumber 81 = .ok (.getfield 159, 3) := by decide +kernel
theorem dX12_takeNumber_84 : decode cX12_takeNumber 84 = .ok (.iconst 1, 1) := by decide +kernel
theorem dX12_takeNumber_85 : decode cX12_takeNumber 85 = .ok (.iadd, 1) := by decide +kernel
theorem dX12_takeNumber_86 : decode cX12_takeNumber 86 = .ok (.putfield 159, 3) := by decide +kernel
theorem dX12_takeSign_0 : decode cX12_takeSign 0 = .ok (.aload_n 0, 1) := by decide +kernel
theorem dX12_takeSign_1 : decode cX12_takeSign 1 = .ok (.iload_n 1, 1) := by decide +kernel
theorem dX12_takeSign_2 : decode cX12_takeSign 2 = .ok (.invokevirtual 165, 3) := by decide +kernel
theorem dX12_takeSign_5 : decode cX12_takeSign 5 = .ok (.ifCond .eq 16, 3) := by decide +kernel
theorem dX12_takeSign_8 : decode cX12_takeSign 8 = .ok (.aload_n 0, 1) := by decide +kernel
theorem dX12_takeSign_9 : decode cX12_takeSign 9 = .ok (.dup, 1) := by decide +kernel
theorem dX12_takeSign_10 : decode cX12_takeSign 10 = .ok (.getfield 159, 3) := by decide +kernel
theorem dX12_takeSign_13 : decode cX12_takeSign 13 = .ok (.iconst 1, 1) := by decide +kernel
theorem dX12_takeSign_14 : decode cX12_takeSign 14 = .ok (.iadd, 1) := by decide +kernel
theorem dX12_takeSign_15 : decode cX12_takeSign 15 = .ok (.putfield 159, 3) := by decide +kernel
theorem dX12_takeSign_21 : decode cX12_takeSign 21 = .ok (.aload_n 0, 1) := by decide +kernel
theorem dX12_takeSign_22 : decode cX12_takeSign 22 = .ok (.iconst 1, 1) := by decide +kernel
theorem dX12_takeSign_23 : decode cX12_takeSign 23 = .ok (.invokevirtual 168, 3) := by decide +kernel
theorem dX12_takeSign_26 : decode cX12_takeSign 26 = .ok (.return_, 1) := by decide +kernel
theorem dX12_tocome_0 : decode cX12_tocome 0 = .ok (.aload_n 0, 1) := by decide +kernel
theorem dX12_tocome_1 : decode cX12_tocome 1 = .ok (.iconst 0, 1) := by decide +kernel
theorem dX12_tocome_2 : decode cX12_tocome 2 = .ok (.putfield 1, 3) := by decide +kernel
theorem dX12_tocome_5 : decode cX12_tocome 5 = .ok (.iload_n 1, 1) := by decide +kernel
theorem dX12_tocome_6 : decode cX12_tocome 6 = .ok (.invokestatic 278, 3) := by decide +kernel
theorem dX12_tocome_9 : decode cX12_tocome 9 = .ok (.ifCond .eq 20, 3) := by decide +kernel
theorem dX12_tocome_12 : decode cX12_tocome 12 = .ok (.aload_n 0, 1) := by decide +kernel
theorem dX12_tocome_13 : decode cX12_tocome 13 = .ok (.iload_n 2, 1) := by decide +kernel
theorem dX12_tocome_14 : decode cX12_tocome 14 = .ok (.invokevirtual 192, 3) := by decide +kernel
theorem dX12_tocome_17 : decode cX12_tocome 17 = .ok (.ifCond .eq 12, 3) := by decide +kernel
theorem dX12_tocome_20 : decode cX12_tocome 20 = .ok (.iload_n 3, 1) := by decide +kernel
theorem dX12_tocome_21 : decode cX12_tocome 21 = .ok (.iconst 0, 1) := by decide +kernel
theorem dX12_tocome_22 : decode cX12_tocome 22 = .ok (.iconst 1, 1) := by decide +kernel
theorem dX12_tocome_23 : decode cX12_tocome 23 = .ok (.invokestatic 178, 3) := by decide +kernel
theorem dX12_tocome_26 : decode cX12_tocome 26 = .ok (.ifCond .ne 5, 3) := by decide +kernel
theorem dX12_tocome_29 : decode cX12_tocome 29 = .ok (.iconst (-1), 1) := by decide +kernel
theorem dX12_tocome_30 : decode cX12_tocome 30 = .ok (.ireturn, 1) := by decide +kernel
theorem dX12_tocome_31 : decode cX12_tocome 31 = .ok (.aload_n 0, 1) := by decide +kernel
theorem dX12_tocome_32 : decode cX12_tocome 32 = .ok (.invokevirtual 336, 3) := by decide +kernel
theorem dX12_tocome_35 : decode cX12_tocome 35 = .ok (.iconst (-1), 1) := by decide +kernel
theorem dX12_tocome_36 : decode cX12_tocome 36 = .ok (.istore 4, 2) := by decide +kernel
theorem dX12_tocome_38 : decode cX12_tocome 38 = .ok (.iconst 0, 1) := by decide +kernel
theorem dX12_tocome_39 : decode cX12_tocome 39 = .ok (.istore 5, 2) := by decide +kernel
theorem dX12_tocome_41 : decode cX12_tocome 41 = .ok (.iload 5, 2) := by decide +kernel
theorem dX12_tocome_43 : decode cX12_tocome 43 = .ok (.sipush 2048, 3) := by decide +kernel
theorem dX12_tocome_46 : decode cX12_tocome 46 = .ok (.if_icmp .ge 47, 3) := by decide +kernel
theorem dX12_tocome_49 : decode cX12_tocome 49 = .ok (.iload 4, 2) := by decide +kernel
theorem dX12_tocome_51 : decode cX12_tocome 51 = .ok (.ifCond .lt 16, 3) := by decide +kernel
theorem dX12_tocome_54 : decode cX12_tocome 54 = .ok (.iload 5, 2) := by decide +kernel
theorem dX12_tocome_56 : decode cX12_tocome 56 = .ok (.invokestatic 264, 3) := by decide +kernel
theorem dX12_tocome_59 : decode cX12_tocome 59 = .ok (.iload 4, 2) := by decide +kernel
theorem dX12_tocome_61 : decode cX12_tocome 61 = .ok (.invokestatic 264, 3) := by decide +kernel
theorem dX12_tocome_64 : decode cX12_tocome 64 = .ok (.if_icmp .ge 23, 3) := by decide +kernel
theorem dX12_tocome_67 : decode cX12_tocome 67 = .ok (.aload_n 0, 1) := by decide +kernel
theorem dX12_tocome_68 : decode cX12_tocome 68 = .ok (.iload_n 1, 1) := by decide +kernel
theorem dX12_tocome_69 : decode cX12_tocome 69 = .ok (.iload_n 2, 1) := by decide +kernel
theorem dX12_tocome_70 : decode cX12_tocome 70 = .ok (.iload 5, 2) := by decide +kernel
theorem dX12_tocome_72 : decode cX12_tocome 72 = .ok (.invokevirtual 374, 3) := by decide +kernel
theorem dX12_tocome_75 : decode cX12_tocome 75 = .ok (.ifCond .eq 8, 3) := by decide +kernel
theorem dX12_tocome_78 : decode cX12_tocome 78 = .ok (.iload 5, 2) := by decide +kernel
theorem dX12_tocome_80 : decode cX12_tocome 80 = .ok (.goto 5, 3) := by decide +kernel
theorem dX12_tocome_83 : decode cX12_tocome 83 = .ok (.iload 4, 2) := by decide +kernel
theorem dX12_tocome_85 : decode cX12_tocome 85 = .ok (.istore 4, 2) := by decide +kernel
theorem dX12_tocome_87 : decode cX12_tocome 87 = .ok (.iinc 5 1, 3) := by decide +kernel
theorem dX12_tocome_90 : decode cX12_tocome 90 = .ok (.goto (-49), 3) := by decide +kernel
theorem dX12_tocome_93 : decode cX12_tocome 93 = .ok (.iload 4, 2) := by decide +kernel
theorem dX12_tocome_95 : decode cX12_tocome 95 = .ok (.ifCond .ge 7, 3) := by decide +kernel
theorem dX12_tocome_98 : decode cX12_tocome 98 = .ok (.iconst (-1), 1) := by decide +kernel
theorem dX12_tocome_99 : decode cX12_tocome 99 = .ok (.goto 17, 3) := by decide +kernel
theorem dX12_tocome_102 : decode cX12_tocome 102 = .ok (.iload_n 3, 1) := by decide +kernel
theorem dX12_tocome_103 : decode cX12_tocome 103 = .ok (.ifCond .ne 11, 3) := by decide +kernel
theorem dX12_tocome_106 : decode cX12_tocome 106 = .ok (.iload 4, 2) := by decide +kernel
theorem dX12_tocome_108 : decode cX12_tocome 108 = .ok (.invokestatic 264, 3) := by decide +kernel
theorem dX12_tocome_111 : decode cX12_tocome 111 = .ok (.goto 5, 3) := by decide +kernel
theorem dX12_tocome_114 : decode cX12_tocome 114 = .ok (.iload 4, 2) := by decide +kernel
theorem dX12_tocome_116 : decode cX12_tocome 116 = .ok (.ireturn, 1) := by decide +kernel
set_option maxHeartbeats 4000000 in
set_option maxRecDepth 100000 in
theorem s_X12_tocome {P : PP} {a0 : Nat} {a1 : Int32} {a2 : Int32} {a3 : Int32} (I : IM P a0) (hW : MW P a0) : CtrI yX12_tocome cX12_tocome 6 (some Jvm.ClassFile.FieldType.int) ({ frames := 8, cells := 0, slots := 0, locals := 512 } : Room) 0 0 P [.ref a0, .int a1, .int a2, .int a3] (fun r P2 => IM P2 a0 ∧ EM [0, 28, 29, 30, 31, 32, 35, 36, 37, 38] a0 P P2 ∧ MW P2 a0 ∧ (-1 ≤ r.toInt ∧ r.toInt ≤ 9999)) := by
  refine enI (lv := [(0, .ref a0), (1, .int a1), (2, .int a2), (3, .int a3)]) (by decide) (Nat.le_of_ble_eq_true rfl) rfl (fun E D cy C Ci0 ret => ?_)
  have ha0 := I.2.1
  have J41 : ∀ (n41 : Nat) (P41 : PP) (v41_4 : Int32) (v41_5 : Int32), (9999 - v41_5.toInt).toNat < n41 → (IM P41 a0) → (EM [0, 28, 29, 30, 31, 32, 35, 36, 37, 38] a0 P P41) → (MW P41 a0) → (0 ≤ a1.toInt ∧ a1.toInt ≤ 3) → (0 ≤ a2.toInt ∧ a2.toInt ≤ 1) → (0 ≤ a3.toInt ∧ a3.toInt ≤ 1) → (-1 ≤ v41_4.toInt ∧ v41_4.toInt ≤ 9999) → (0 ≤ v41_5.toInt ∧ v41_5.toInt ≤ 9999) → (0 ≤ (pI P41 a0 0).toInt ∧ (pI P41 a0 0).toInt ≤ 0) → (∀ b, pR P41 a0 10 = some b → 1 ≤ (pI P41 b (a2.toInt.toNat)).toInt ∧ (pI P41 b (a2.toInt.toNat)).toInt ≤ 16) → G E ({ frames := 8, cells := 0, slots := 0, locals := 512 } : Room) D cy 6 P41 0 0 41 [(0, .ref a0), (1, .int a1), (2, .int a2), (3, .int a3), (4, .int v41_4), (5, .int v41_5)] [] := by
    intro n41
    induction n41 with
    | zero => intro P41 v41_4 v41_5 hm41 I41 X41 W41 hv41_1 hv41_2 hv41_3 hv41_4 hv41_5 hq41_0 hq41_1; omega
    | succ n41 ih41 =>
      intro P41 v41_4 v41_5 hm41 I41 X41 W41 hv41_1 hv41_2 hv41_3 hv41_4 hv41_5 hq41_0 hq41_1
      have h78824 := X41.at ha0
      obtain ⟨b78825, e78826, h78827⟩ := I41.fld (h78824) 10 13 2 rfl
      have hq41_1 := hq41_1 b78825 e78826
      have J87 : ∀ (P87 : PP) (v87_4 : Int32), (IM P87 a0) → (EM [0, 28, 29, 30, 31, 32, 35, 36, 37, 38] a0 P P87) → (MW P87 a0) → (0 ≤ a1.toInt ∧ a1.toInt ≤ 3) → (0 ≤ a2.toInt ∧ a2.toInt ≤ 1) → (0 ≤ a3.toInt ∧ a3.toInt ≤ 1) → (-1 ≤ v87_4.toInt ∧ v87_4.toInt ≤ 9999) → (0 ≤ v41_5.toInt ∧ v41_5.toInt ≤ 2047) → (0 ≤ (pI P87 a0 0).toInt ∧ (pI P87 a0 0).toInt ≤ 0) → (∀ b, pR P87 a0 10 = some b → 1 ≤ (pI P87 b (a2.toInt.toNat)).toInt ∧ (pI P87 b (a2.toInt.toNat)).toInt ≤ 16) → G E ({ frames := 8, cells := 0, slots := 0, locals := 512 } : Room) D cy 6 P87 0 0 87 [(0, .ref a0), (1, .int a1), (2, .int a2), (3, .int a3), (4, .int v87_4), (5, .int v41_5)] [] := by
        intro P87 v87_4 I87 X87 W87 hv87_1 hv87_2 hv87_3 hv87_4 hv87_5 hq87_0 hq87_1
        have h78828 := X87.at ha0
        obtain ⟨b78829, e78830, h78831⟩ := I87.fld (h78828) 10 13 2 rfl
        have hq87_1 := hq87_1 b78829 e78830
        refine s_iinc (lv0 := [(0, .ref a0), (1, .int a1), (2, .int a2), (3, .int a3), (4, .int v87_4)]) (m := 1) C dX12_tocome_87 5 rfl (by decide) rfl (by decide) (by omega) (fun z78832 h78833 => ?_)
        have h78833 : z78832.toInt = v41_5.toInt + 1 := h78833
        refine g_goto C 41 dX12_tocome_90 (by decide) ?_
        refine g_lv (lv' := [(0, .ref a0), (1, .int a1), (2, .int a2), (3, .int a3), (4, .int v87_4), (5, .int z78832)]) [1, 2, 3, 4, 5, 0] rfl ?_
        exact ih41 P87 v87_4 z78832 (by omega) I87 X87 W87 (by omega) (by omega) (by omega) (by omega) (by omega) (by omega) (fun b9 e9 => by rw [e78830] at e9; cases e9; omega)
      have J85 : ∀ (P85 : PP) (v85_s0 : Int32), (IM P85 a0) → (EM [0, 28, 29, 30, 31, 32, 35, 36, 37, 38] a0 P P85) → (MW P85 a0) → (0 ≤ a1.toInt ∧ a1.toInt ≤ 3) → (0 ≤ a2.toInt ∧ a2.toInt ≤ 1) → (0 ≤ a3.toInt ∧ a3.toInt ≤ 1) → (0 ≤ v41_5.toInt ∧ v41_5.toInt ≤ 2047) → (-1 ≤ v85_s0.toInt ∧ v85_s0.toInt ≤ 9999) → (0 ≤ (pI P85 a0 0).toInt ∧ (pI P85 a0 0).toInt ≤ 0) → (∀ b, pR P85 a0 10 = some b → 1 ≤ (pI P85 b (a2.toInt.toNat)).toInt ∧ (pI P85 b (a2.toInt.toNat)).toInt ≤ 16) → G E ({ frames := 8, cells := 0, slots := 0, locals := 512 } : Room) D cy 6 P85 0 0 85 [(0, .ref a0), (1, .int a1), (2, .int a2), (3, .int a3), (5, .int v41_5)] [.int v85_s0] := by
        intro P85 v85_s0 I85 X85 W85 hv85_1 hv85_2 hv85_3 hv85_5 hv85_s0 hq85_0 hq85_1
        have h78834 := X85.at ha0
        obtain ⟨b78835, e78836, h78837⟩ := I85.fld (h78834) 10 13 2 rfl
        have hq85_1 := hq85_1 b78835 e78836
        refine g_istore (lv' := [(4, .int v85_s0), (0, .ref a0), (1, .int a1), (2, .int a2), (3, .int a3), (5, .int v41_5)]) C dX12_tocome_85 (by decide) rfl ?_
        refine g_lv (lv' := [(0, .ref a0), (1, .int a1), (2, .int a2), (3, .int a3), (4, .int v85_s0), (5, .int v41_5)]) [1, 2, 3, 4, 0, 5] rfl ?_
        exact J87 P85 v85_s0 I85 X85 W85 (by omega) (by omega) (by omega) (by omega) (by omega) (by omega) (fun b9 e9 => by rw [e78836] at e9; cases e9; omega)
      have J67 : (0 ≤ a1.toInt ∧ a1.toInt ≤ 3) → (0 ≤ a2.toInt ∧ a2.toInt ≤ 1) → (0 ≤ a3.toInt ∧ a3.toInt ≤ 1) → (0 ≤ v41_5.toInt ∧ v41_5.toInt ≤ 2047) → (0 ≤ (pI P41 a0 0).toInt ∧ (pI P41 a0 0).toInt ≤ 0) → (∀ b, pR P41 a0 10 = some b → 1 ≤ (pI P41 b (a2.toInt.toNat)).toInt ∧ (pI P41 b (a2.toInt.toNat)).toInt ≤ 16) → G E ({ frames := 8, cells := 0, slots := 0, locals := 512 } : Room) D cy 6 P41 0 0 67 [(0, .ref a0), (1, .int a1), (2, .int a2), (3, .int a3), (4, .int v41_4), (5, .int v41_5)] [] := by
        intro hv67_1 hv67_2 hv67_3 hv67_5 hq67_0 hq67_1
        have h78838 := X41.at ha0
        obtain ⟨b78839, e78840, h78841⟩ := I41.fld (h78838) 10 13 2 rfl
        have hq67_1 := hq67_1 b78839 e78840
        refine g_aload_n C dX12_tocome_67 rfl 0 rfl ?_
        refine g_iload_n C dX12_tocome_68 rfl 1 rfl ?_
        refine g_iload_n C dX12_tocome_69 rfl 2 rfl ?_
        refine g_iload C dX12_tocome_70 5 rfl ?_
        refine g_callVI (rest := []) C mv_X12_374 [.int a1, .int a2, .int v41_5] (s_X12_isAllWith I41 (by omega) (by omega) (fun b9 e9 => by rw [e78840] at e9; cases e9; show 1 ≤ (pI P41 b78839 (a2.toInt.toNat)).toInt ∧ (pI P41 b78839 (a2.toInt.toNat)).toInt ≤ 16; omega) W41) (h78838).1 (h78838).2 rfl rfl (by decide) (Nat.le_of_ble_eq_true rfl) (by decide) dX12_tocome_72 (fun r78842 Y78843 h78844 => ?_)
        obtain ⟨Iy78845, Xy78846, W78847, h78844⟩ := h78844
        have q78848 := Xy78846.keepF 0 (by decide)
        have q78849 := Xy78846.keepA e78840 (by decide) rfl (a2.toInt.toNat)
        have Xz78850 : EM [0, 28, 29, 30, 31, 32, 35, 36, 37, 38] a0 P Y78843 := EM.tr ha0 X41 (Xy78846.mono (by decide))
        have e78851 := Xy78846.ref h78838 (by decide) e78840
        have h78852 := Xy78846.at h78838
        have h78853 := Xy78846.ar h78841
        have h78844 : 0 ≤ r78842.toInt ∧ r78842.toInt ≤ 1 := h78844
        refine b_if_eq C 83 dX12_tocome_75 (by decide) (fun h78854 => ?_) (fun h78854 => ?_)
        · have h78854 : r78842.toInt = 0 := congrArg Int32.toInt h78854
          refine g_iload C dX12_tocome_83 4 rfl ?_
          refine g_lv (lv' := [(0, .ref a0), (1, .int a1), (2, .int a2), (3, .int a3), (5, .int v41_5)]) [0, 1, 2, 3, 5] rfl ?_
          exact J85 Y78843 v41_4 Iy78845 Xz78850 W78847 (by omega) (by omega) (by omega) (by omega) (by omega) (by omega) (fun b9 e9 => by rw [e78851] at e9; cases e9; omega)
        · have h78854 : r78842.toInt ≠ 0 := ti_ne h78854
          refine g_iload C dX12_tocome_78 5 rfl ?_
          refine g_goto C 85 dX12_tocome_80 (by decide) ?_
          refine g_lv (lv' := [(0, .ref a0), (1, .int a1), (2, .int a2), (3, .int a3), (5, .int v41_5)]) [0, 1, 2, 3, 5] rfl ?_
          exact J85 Y78843 v41_5 Iy78845 Xz78850 W78847 (by omega) (by omega) (by omega) (by omega) (by omega) (by omega) (fun b9 e9 => by rw [e78851] at e9; cases e9; omega)
      refine g_iload C dX12_tocome_41 5 rfl ?_
      refine g_sipush (v := 2048) C dX12_tocome_43 (by decide) ?_
      refine b_icmp_ge C 93 dX12_tocome_46 (by decide) (fun h78855 => ?_) (fun h78855 => ?_)
      · have h78855 : 2048 ≤ v41_5.toInt := h78855
        refine g_iload C dX12_tocome_93 4 rfl ?_
        refine b_if_ge C 102 dX12_tocome_95 (by decide) (fun h78856 => ?_) (fun h78856 => ?_)
        · have h78856 : 0 ≤ v41_4.toInt := h78856
          refine g_iload_n C dX12_tocome_102 rfl 3 rfl ?_
          refine b_if_ne C 114 dX12_tocome_103 (by decide) (fun h78857 => ?_) (fun h78857 => ?_)
          · have h78857 : a3.toInt ≠ 0 := ti_ne h78857
            refine g_iload C dX12_tocome_114 4 rfl ?_
            exact ret _ _ _ _ _ _ dX12_tocome_116 rfl (by decide) (by decide) ⟨I41, X41, W41, (by omega)⟩
          · have h78857 : a3.toInt = 0 := congrArg Int32.toInt h78857
            refine g_iload C dX12_tocome_106 4 rfl ?_
            refine g_callSI (b := 0) (ci := 0) (rest := []) C ms_X12_264 [.int v41_4] (s_X12_bits I41.1) rfl rfl (by decide) (Nat.le_of_ble_eq_true rfl) (by decide) dX12_tocome_108 (fun r78858 Y78859 h78860 => ?_)
            obtain ⟨rfl, h78860⟩ := h78860
            obtain ⟨h78860, hi78861⟩ := h78860
            have hi78861 : r78858.toInt = 0 ∨ v41_4.toInt ≠ 0 := hi78861
            have h78860 : 0 ≤ r78858.toInt ∧ r78858.toInt ≤ 20 := h78860
            refine g_goto C 116 dX12_tocome_111 (by decide) ?_
            exact ret _ _ _ _ _ _ dX12_tocome_116 rfl (by decide) (by decide) ⟨I41, X41, W41, (by omega)⟩
        · have h78856 : v41_4.toInt < 0 := h78856
          refine g_iconst (v := (-1)) C dX12_tocome_98 (by decide) ?_
          refine g_goto C 116 dX12_tocome_99 (by decide) ?_
          exact ret _ _ _ _ _ _ dX12_tocome_116 rfl (by decide) (by decide) ⟨I41, X41, W41, (by decide)⟩
      · have h78855 : v41_5.toInt < 2048 := h78855
        refine g_iload C dX12_tocome_49 4 rfl ?_
        refine b_if_lt C 67 dX12_tocome_51 (by decide) (fun h78862 => ?_) (fun h78862 => ?_)
        · have h78862 : v41_4.toInt < 0 := h78862
          exact J67 (by omega) (by omega) (by omega) (by omega) (by omega) (fun b9 e9 => by rw [e78826] at e9; cases e9; omega)
        · have h78862 : 0 ≤ v41_4.toInt := h78862
          refine g_iload C dX12_tocome_54 5 rfl ?_
          refine g_callSI (b := 0) (ci := 0) (rest := []) C ms_X12_264 [.int v41_5] (s_X12_bits I41.1) rfl rfl (by decide) (Nat.le_of_ble_eq_true rfl) (by decide) dX12_tocome_56 (fun r78863 Y78864 h78865 => ?_)
          obtain ⟨rfl, h78865⟩ := h78865
          obtain ⟨h78865, hi78866⟩ := h78865
          have hi78866 : r78863.toInt = 0 ∨ v41_5.toInt ≠ 0 := hi78866
          have h78865 : 0 ≤ r78863.toInt ∧ r78863.toInt ≤ 20 := h78865
          refine g_iload C dX12_tocome_59 4 rfl ?_
          refine g_callSI (b := 0) (ci := 0) (rest := [.int r78863]) C ms_X12_264 [.int v41_4] (s_X12_bits I41.1) rfl rfl (by decide) (Nat.le_of_ble_eq_true rfl) (by decide) dX12_tocome_61 (fun r78867 Y78868 h78869 => ?_)
          obtain ⟨rfl, h78869⟩ := h78869
          obtain ⟨h78869, hi78870⟩ := h78869
          have hi78870 : r78867.toInt = 0 ∨ v41_4.toInt ≠ 0 := hi78870
          have h78869 : 0 ≤ r78867.toInt ∧ r78867.toInt ≤ 20 := h78869
          refine b_icmp_ge C 87 dX12_tocome_64 (by decide) (fun h78871 => ?_) (fun h78871 => ?_)
          · have h78871 : r78867.toInt ≤ r78863.toInt := h78871
            exact J87 P41 v41_4 I41 X41 W41 (by omega) (by omega) (by omega) (by omega) (by omega) (by omega) (fun b9 e9 => by rw [e78826] at e9; cases e9; omega)
          · have h78871 : r78863.toInt < r78867.toInt := h78871
            exact J67 (by omega) (by omega) (by omega) (by omega) (by omega) (fun b9 e9 => by rw [e78826] at e9; cases e9; omega)
  have J29 : ∀ (P29 : PP), (IM P29 a0) → (EM [0, 28, 29, 30, 31, 32, 35, 36, 37, 38] a0 P P29) → (MW P29 a0) → (0 ≤ (pI P29 a0 0).toInt ∧ (pI P29 a0 0).toInt ≤ 0) → G E ({ frames := 8, cells := 0, slots := 0, locals := 512 } : Room) D cy 6 P29 0 0 29 [] [] := by
    intro P29 I29 X29 W29 hq29_0
    have h78872 := X29.at ha0
    refine g_iconst (v := (-1)) C dX12_tocome_29 (by decide) ?_
    exact ret _ _ _ _ _ _ dX12_tocome_30 rfl (by decide) (by decide) ⟨I29, X29, W29, (by decide)⟩
  refine g_aload_n C dX12_tocome_0 rfl 0 rfl ?_
  refine g_iconst (v := 0) C dX12_tocome_1 (by decide) ?_
  refine g_putI C fi_X12_1 rfl (ha0).1 (ha0).2 dX12_tocome_2 ?_
  refine gqW (ks := [0]) (I.setI (rgOk.of rfl (by decide))) (EM.setI I (by decide)) (fun Y78873 Iy78874 Xy78875 w78876 => ?_)
  have w78876 : (pI Y78873 a0 0).toInt = 0 := w78876
  have W78877 := hW.keep I Xy78875 (by decide) (by decide) (by decide)
  have Xz78878 : EM [0, 28, 29, 30, 31, 32, 35, 36, 37, 38] a0 P Y78873 := Xy78875.mono (by decide)
  have h78879 := Xy78875.at ha0
  refine g_iload_n C dX12_tocome_5 rfl 1 rfl ?_
  refine g_callSI (b := 0) (ci := 0) (rest := []) C ms_X12_278 [.int a1] (s_X12_isQuarter Iy78874.1) rfl rfl (by decide) (Nat.le_of_ble_eq_true rfl) (by decide) dX12_tocome_6 (fun r78880 Y78881 h78882 => ?_)
  obtain ⟨rfl, h78882⟩ := h78882
  obtain ⟨h78882, hi78883⟩ := h78882
  have hi78883 : r78880.toInt = 0 ∨ (((0 : Int) ≤ a1.toInt ∧ a1.toInt ≤ (3 : Int))) := hi78883
  have h78882 : 0 ≤ r78880.toInt ∧ r78880.toInt ≤ 1 := h78882
  refine b_if_eq C 29 dX12_tocome_9 (by decide) (fun h78884 => ?_) (fun h78884 => ?_)
  · have h78884 : r78880.toInt = 0 := congrArg Int32.toInt h78884
    clear hi78883
    refine g_lv (lv' := []) [] rfl ?_
    exact J29 Y78873 Iy78874 Xz78878 W78877 (by omega)
  · have h78884 : r78880.toInt ≠ 0 := ti_ne h78884
    replace hi78883 := hi78883.resolve_left (by omega)
    refine g_aload_n C dX12_tocome_12 rfl 0 rfl ?_
    refine g_iload_n C dX12_tocome_13 rfl 2 rfl ?_
    refine g_callVI (rest := []) C mv_X12_192 [.int a2] (s_X12_isBook Iy78874 W78877) (h78879).1 (h78879).2 rfl rfl (by decide) (Nat.le_of_ble_eq_true rfl) (by decide) dX12_tocome_14 (fun r78885 Y78886 h78887 => ?_)
    obtain ⟨rfl, h78887⟩ := h78887
    obtain ⟨h78887, hi78888, hi78889⟩ := h78887
    have hi78888 : r78885.toInt = 0 ∨ (((0 : Int) ≤ a2.toInt ∧ a2.toInt ≤ (1 : Int))) := hi78888
    have h78887 : 0 ≤ r78885.toInt ∧ r78885.toInt ≤ 1 := h78887
    refine b_if_eq C 29 dX12_tocome_17 (by decide) (fun h78890 => ?_) (fun h78890 => ?_)
    · have h78890 : r78885.toInt = 0 := congrArg Int32.toInt h78890
      clear hi78888
      refine g_lv (lv' := []) [] rfl ?_
      exact J29 Y78873 Iy78874 Xz78878 W78877 (by omega)
    · have h78890 : r78885.toInt ≠ 0 := ti_ne h78890
      replace hi78888 := hi78888.resolve_left (by omega)
      obtain ⟨b78891, e78892, h78893⟩ := Iy78874.fld (h78879) 10 13 2 rfl
      have hi78889 := (hi78889.resolve_left (by omega)) b78891 e78892
      have hi78889 : 0 < (pI Y78873 b78891 (a2.toInt.toNat)).toInt := hi78889
      have h78894 := Iy78874.arr e78892 rfl (a2.toInt.toNat)
      refine g_iload_n C dX12_tocome_20 rfl 3 rfl ?_
      refine g_iconst (v := 0) C dX12_tocome_21 (by decide) ?_
      refine g_iconst (v := 1) C dX12_tocome_22 (by decide) ?_
      refine g_callSI (b := 0) (ci := 0) (rest := []) C ms_X12_178 [.int a3, .int 0, .int 1] (s_X12_within Iy78874.1) rfl rfl (by decide) (Nat.le_of_ble_eq_true rfl) (by decide) dX12_tocome_23 (fun r78895 Y78896 h78897 => ?_)
      obtain ⟨rfl, h78897⟩ := h78897
      obtain ⟨h78897, hi78898⟩ := h78897
      have hi78898 : r78895.toInt = 0 ∨ (0 ≤ a3.toInt ∧ a3.toInt ≤ 1) := hi78898
      have h78897 : 0 ≤ r78895.toInt ∧ r78895.toInt ≤ 1 := h78897
      refine b_if_ne C 31 dX12_tocome_26 (by decide) (fun h78899 => ?_) (fun h78899 => ?_)
      · have h78899 : r78895.toInt ≠ 0 := ti_ne h78899
        replace hi78898 := hi78898.resolve_left (by omega)
        refine g_aload_n C dX12_tocome_31 rfl 0 rfl ?_
        refine g_callVV (rest := []) C mv_X12_336 [] (s_X12_leavesNone Iy78874 W78877) (h78879).1 (h78879).2 rfl rfl (by decide) (Nat.le_of_ble_eq_true rfl) (by decide) dX12_tocome_32 (fun Y78901 h78902 => ?_)
        obtain ⟨Iy78903, Xy78904, W78905⟩ := h78902
        have q78906 := Xy78904.keepF 0 (by decide)
        have q78907 := Xy78904.keepA e78892 (by decide) rfl (a2.toInt.toNat)
        have Xz78908 : EM [0, 28, 29, 30, 31, 32, 35, 36, 37, 38] a0 P Y78901 := EM.tr ha0 Xz78878 (Xy78904.mono (by decide))
        have e78909 := Xy78904.ref h78879 (by decide) e78892
        have h78910 := Xy78904.at h78879
        have h78911 := Xy78904.ar h78893
        refine g_iconst (v := (-1)) C dX12_tocome_35 (by decide) ?_
        refine g_istore (lv' := [(4, .int (-1)), (0, .ref a0), (1, .int a1), (2, .int a2), (3, .int a3)]) C dX12_tocome_36 (by decide) rfl ?_
        refine g_iconst (v := 0) C dX12_tocome_38 (by decide) ?_
        refine g_istore (lv' := [(5, .int 0), (4, .int (-1)), (0, .ref a0), (1, .int a1), (2, .int a2), (3, .int a3)]) C dX12_tocome_39 (by decide) rfl ?_
        refine g_lv (lv' := [(0, .ref a0), (1, .int a1), (2, .int a2), (3, .int a3), (4, .int (-1)), (5, .int 0)]) [2, 3, 4, 5, 1, 0] rfl ?_
        exact J41 _ Y78901 (-1) 0 (Nat.lt_succ_self _) Iy78903 Xz78908 W78905 (by omega) (by omega) (by omega) (by decide) (by decide) (by omega) (fun b9 e9 => by rw [e78909] at e9; cases e9; omega)
      · have h78899 : r78895.toInt = 0 := congrArg Int32.toInt h78899
        clear hi78898
        refine g_lv (lv' := []) [] rfl ?_
        exact J29 Y78873 Iy78874 Xz78878 W78877 (by omega)
theorem dX12_told_0 : decode cX12_told 0 = .ok (.aload_n 0, 1) := by decide +kernel
theorem dX12_told_1 : decode cX12_told 1 = .ok (.iconst 0, 1) := by decide +kernel
theorem dX12_told_2 : decode cX12_told 2 = .ok (.putfield 1, 3) := by decide +kernel
theorem dX12_told_5 : decode cX12_told 5 = .ok (.aload_n 0, 1) := by decide +kernel
theorem dX12_told_6 : decode cX12_told 6 = .ok (.iload_n 1, 1) := by decide +kernel
theorem dX12_told_7 : decode cX12_told 7 = .ok (.invokevirtual 192, 3) := by decide +kernel
theorem dX12_told_10 : decode cX12_told 10 = .ok (.ifCond .eq 27, 3) := by decide +kernel
theorem dX12_told_13 : decode cX12_told 13 = .ok (.iload_n 2, 1) := by decide +kernel
theorem dX12_told_14 : decode cX12_told 14 = .ok (.iconst 0, 1) := by decide +kernel
theorem dX12_told_15 : decode cX12_told 15 = .ok (.aload_n 0, 1) := by decide +kernel
theorem dX12_told_16 : decode cX12_told 16 = .ok (.iload_n 1, 1) := by decide +kernel
theorem dX12_told_17 : decode cX12_told 17 = .ok (.invokevirtual 238, 3) := by decide +kernel
theorem dX12_told_20 : decode cX12_told 20 = .ok (.iconst 1, 1) := by decide +kernel
theorem dX12_told_21 : decode cX12_told 21 = .ok (.isub, 1) := by decide +kernel
theorem dX12_told_22 : decode cX12_told 22 = .ok (.invokestatic 178, 3) := by decide +kernel
theorem dX12_told_25 : decode cX12_told 25 = .ok (.ifCond .eq 12, 3) := by decide +kernel
theorem dX12_told_28 : decode cX12_told 28 = .ok (.aload_n 0, 1) := by decide +kernel
theorem dX12_told_29 : decode cX12_told 29 = .ok (.iload_n 1, 1) := by decide +kernel
theorem dX12_told_30 : decode cX12_told 30 = .ok (.iload_n 2, 1) := by decide +kernel
theorem dX12_told_31 : decode cX12_told 31 = .ok (.invokevirtual 271, 3) := by decide +kernel
theorem dX12_valueOf_0 : decode cX12_valueOf 0 = .ok (.iload_n 2, 1) := by decide +kernel
theorem dX12_valueOf_1 : decode cX12_valueOf 1 = .ok (.aload_n 0, 1) := by decide +kernel
theorem dX12_valueOf_2 : decode cX12_valueOf 2 = .ok (.getfield 45, 3) := by decide +kernel
theorem dX12_valueOf_5 : decode cX12_valueOf 5 = .ok (.iload_n 1, 1) := by decide +kernel
theorem dX12_valueOf_6 : decode cX12_valueOf 6 = .ok (.iaload, 1) := by decide +kernel
theorem dX12_valueOf_7 : decode cX12_valueOf 7 = .ok (.if_icmp .ge 15, 3) := by decide +kernel
theorem dX12_valueOf_10 : decode cX12_valueOf 10 = .ok (.aload_n 0, 1) := by decide +kernel
theorem dX12_valueOf_11 : decode cX12_valueOf 11 = .ok (.getfield 48, 3) := by decide +kernel
theorem dX12_valueOf_14 : decode cX12_valueOf 14 = .ok (.bipush 16, 2) := by decide +kernel
theorem dX12_valueOf_16 : decode cX12_valueOf 16 = .ok (.iload_n 1, 1) := by decide +kernel
theorem dX12_valueOf_17 : decode cX12_valueOf 17 = .ok (.imul, 1) := by decide +kernel
theorem dX12_valueOf_18 : decode cX12_valueOf 18 = .ok (.iload_n 2, 1) := by decide +kernel
theorem dX12_valueOf_19 : decode cX12_valueOf 19 = .ok (.iadd, 1) := by decide +kernel
theorem dX12_valueOf_20 : decode cX12_valueOf 20 = .ok (.iaload, 1) := by decide +kernel
theorem dX12_valueOf_21 : decode cX12_valueOf 21 = .ok (.ireturn, 1) := by decide +kernel
theorem dX12_valueOf_22 : decode cX12_valueOf 22 = .ok (.aload_n 0, 1) := by decide +kernel
theorem dX12_valueOf_23 : decode cX12_valueOf 23 = .ok (.iload_n 1, 1) := by decide +kernel
theorem dX12_valueOf_24 : decode cX12_valueOf 24 = .ok (.aload_n 0, 1) := by decide +kernel
theorem dX12_valueOf_25 : decode cX12_valueOf 25 = .ok (.getfield 63, 3) := by decide +kernel
theorem dX12_valueOf_28 : decode cX12_valueOf 28 = .ok (.iconst 4, 1) := by decide +kernel
theorem dX12_valueOf_29 : decode cX12_valueOf 29 = .ok (.iload_n 1, 1) := by decide +kernel
theorem dX12_valueOf_30 : decode cX12_valueOf 30 = .ok (.imul, 1) := by decide +kernel
theorem dX12_valueOf_31 : decode cX12_valueOf 31 = .ok (.iload_n 2, 1) := by decide +kernel
theorem dX12_valueOf_32 : decode cX12_valueOf 32 = .ok (.iadd, 1) := by decide +kernel
theorem dX12_valueOf_33 : decode cX12_valueOf 33 = .ok (.aload_n 0, 1) := by decide +kernel
theorem dX12_valueOf_34 : decode cX12_valueOf 34 = .ok (.getfield 45, 3) := by decide +kernel
theorem dX12_valueOf_37 : decode cX12_valueOf 37 = .ok (.iload_n 1, 1) := by decide +kernel
theorem dX12_valueOf_38 : decode cX12_valueOf 38 = .ok (.iaload, 1) := by decide +kernel
theorem dX12_valueOf_39 : decode cX12_valueOf 39 = .ok (.isub, 1) := by decide +kernel
theorem dX12_valueOf_40 : decode cX12_valueOf 40 = .ok (.iaload, 1) := by decide +kernel
theorem dX12_valueOf_41 : decode cX12_valueOf 41 = .ok (.invokevirtual 223, 3) := by decide +kernel
theorem dX12_valueOf_44 : decode cX12_valueOf 44 = .ok (.ireturn, 1) := by decide +kernel
set_option maxHeartbeats 4000000 in
set_option maxRecDepth 100000 in
theorem s_X12_valueOf {P : PP} {a0 : Nat} {a1 : Int32} {a2 : Int32} (I : IM P a0) (ha1 : 0 ≤ a1.toInt ∧ a1.toInt ≤ 1) (ha2 : 0 ≤ a2.toInt ∧ a2.toInt ≤ 19) (hW : MW P a0) (hv : ∀ b c, pR P a0 10 = some b → pR P a0 15 = some c → a2.toInt < (pI P b (a1.toInt.toNat)).toInt + (pI P c (a1.toInt.toNat)).toInt) : CtrI yX12_valueOf cX12_valueOf 3 (some Jvm.ClassFile.FieldType.int) ({ frames := 2, cells := 0, slots := 0, locals := 128 } : Room) 0 0 P [.ref a0, .int a1, .int a2] (fun r P2 => P = P2 ∧ (True)) := by
  refine enI (lv := [(0, .ref a0), (1, .int a1), (2, .int a2)]) (by decide) (Nat.le_of_ble_eq_true rfl) rfl (fun E D cy C Ci0 ret => ?_)
  have ha0 := I.2.1
  refine g_iload_n C dX12_valueOf_0 rfl 2 rfl ?_
  refine g_aload_n C dX12_valueOf_1 rfl 0 rfl ?_
  obtain ⟨b78972, e78973, h78974⟩ := I.fld (ha0) 10 13 2 rfl
  refine g_getR C fi_X12_45 rfl e78973 (ha0).1 (ha0).2 dX12_valueOf_2 ?_
  refine g_iload_n C dX12_valueOf_5 rfl 1 rfl ?_
  refine g_iald (j := (a1.toInt.toNat)) C h78974.1 h78974.2.1 (ix_in h78974.2.2 (by omega)) dX12_valueOf_6 ?_
  have h78975 := I.arr e78973 rfl (a1.toInt.toNat)
  refine b_icmp_ge C 22 dX12_valueOf_7 (by decide) (fun h78976 => ?_) (fun h78976 => ?_)
  · have h78976 : (pI P b78972 (a1.toInt.toNat)).toInt ≤ a2.toInt := h78976
    obtain ⟨b78977, e78978, h78979⟩ := I.fld (ha0) 15 13 3 rfl
    have hv := hv b78972 b78977 e78973 e78978
    have h78980 := I.arr e78978 rfl (a1.toInt.toNat)
    refine g_aload_n C dX12_valueOf_22 rfl 0 rfl ?_
    refine g_iload_n C dX12_valueOf_23 rfl 1 rfl ?_
    refine g_aload_n C dX12_valueOf_24 rfl 0 rfl ?_
    obtain ⟨b78981, e78982, h78983⟩ := I.fld (ha0) 16 13 12 rfl
    refine g_getR C fi_X12_63 rfl e78982 (ha0).1 (ha0).2 dX12_valueOf_25 ?_
    refine g_iconst (v := 4) C dX12_valueOf_28 (by decide) ?_
    refine g_iload_n C dX12_valueOf_29 rfl 1 rfl ?_
    refine s_imul C dX12_valueOf_30 (by show -2147483648 ≤ 4 * a1.toInt ∧ 4 * a1.toInt ≤ 2147483647; omega) (fun z78984 h78985 => ?_)
    have h78985 : z78984.toInt = 4 * a1.toInt := h78985
    refine g_iload_n C dX12_valueOf_31 rfl 2 rfl ?_
    refine s_iadd C dX12_valueOf_32 (by show -2147483648 ≤ z78984.toInt + a2.toInt ∧ z78984.toInt + a2.toInt ≤ 2147483647; omega) (fun z78986 h78987 => ?_)
    have h78987 : z78986.toInt = z78984.toInt + a2.toInt := h78987
    refine g_aload_n C dX12_valueOf_33 rfl 0 rfl ?_
    refine g_getR C fi_X12_45 rfl e78973 (ha0).1 (ha0).2 dX12_valueOf_34 ?_
    refine g_iload_n C dX12_valueOf_37 rfl 1 rfl ?_
    refine g_iald (j := (a1.toInt.toNat)) C h78974.1 h78974.2.1 (ix_in h78974.2.2 (by omega)) dX12_valueOf_38 ?_
    refine s_isub C dX12_valueOf_39 (by show -2147483648 ≤ z78986.toInt - (pI P b78972 (a1.toInt.toNat)).toInt ∧ z78986.toInt - (pI P b78972 (a1.toInt.toNat)).toInt ≤ 2147483647; omega) (fun z78988 h78989 => ?_)
    have h78989 : z78988.toInt = z78986.toInt - (pI P b78972 (a1.toInt.toNat)).toInt := h78989
    refine g_iald (j := (z78988.toInt.toNat)) C h78983.1 h78983.2.1 (ix_in h78983.2.2 (by omega)) dX12_valueOf_40 ?_
    refine g_callVI (rest := []) C mv_X12_223 [.int a1, .int (pI P b78981 (z78988.toInt.toNat))] (s_X12_sumOf I (by omega) hW) (ha0).1 (ha0).2 rfl rfl (by decide) (Nat.le_of_ble_eq_true rfl) (by decide) dX12_valueOf_41 (fun r78990 Y78991 h78992 => ?_)
    obtain ⟨rfl, h78992⟩ := h78992
    have h78992 : True := h78992
    exact ret _ _ _ _ _ _ dX12_valueOf_44 rfl (by decide) (by decide) ⟨rfl, trivial⟩
  · have h78976 : a2.toInt < (pI P b78972 (a1.toInt.toNat)).toInt := h78976
    refine g_aload_n C dX12_valueOf_10 rfl 0 rfl ?_
    obtain ⟨b78993, e78994, h78995⟩ := I.fld (ha0) 11 13 32 rfl
    refine g_getR C fi_X12_48 rfl e78994 (ha0).1 (ha0).2 dX12_valueOf_11 ?_
    refine g_bipush (v := 16) C dX12_valueOf_14 (by decide) ?_
    refine g_iload_n C dX12_valueOf_16 rfl 1 rfl ?_
    refine s_imul C dX12_valueOf_17 (by show -2147483648 ≤ 16 * a1.toInt ∧ 16 * a1.toInt ≤ 2147483647; omega) (fun z78996 h78997 => ?_)
    have h78997 : z78996.toInt = 16 * a1.toInt := h78997
    refine g_iload_n C dX12_valueOf_18 rfl 2 rfl ?_
    refine s_iadd C dX12_valueOf_19 (by show -2147483648 ≤ z78996.toInt + a2.toInt ∧ z78996.toInt + a2.toInt ≤ 2147483647; omega) (fun z78998 h78999 => ?_)
    have h78999 : z78998.toInt = z78996.toInt + a2.toInt := h78999
    refine g_iald (j := (z78998.toInt.toNat)) C h78995.1 h78995.2.1 (ix_in h78995.2.2 (by omega)) dX12_valueOf_20 ?_
    exact ret _ _ _ _ _ _ dX12_valueOf_21 rfl (by decide) (by decide) ⟨rfl, trivial⟩
theorem dX12_told_34 : decode cX12_told 34 = .ok (.goto 4, 3) := by decide +kernel
theorem dX12_told_37 : decode cX12_told 37 = .ok (.iconst (-1), 1) := by decide +kernel
theorem dX12_told_38 : decode cX12_told 38 = .ok (.ireturn, 1) := by decide +kernel
set_option maxHeartbeats 4000000 in
set_option maxRecDepth 100000 in
theorem s_X12_told {P : PP} {a0 : Nat} {a1 : Int32} {a2 : Int32} (I : IM P a0) (hW : MW P a0) : CtrI yX12_told cX12_told 3 (some Jvm.ClassFile.FieldType.int) ({ frames := 3, cells := 0, slots := 0, locals := 192 } : Room) 0 0 P [.ref a0, .int a1, .int a2] (fun r P2 => IM P2 a0 ∧ EM [0] a0 P P2 ∧ MW P2 a0 ∧ (True)) := by
  refine enI (lv := [(0, .ref a0), (1, .int a1), (2, .int a2)]) (by decide) (Nat.le_of_ble_eq_true rfl) rfl (fun E D cy C Ci0 ret => ?_)
  have ha0 := I.2.1
  have J37 : ∀ (P37 : PP), (IM P37 a0) → (EM [0] a0 P P37) → (MW P37 a0) → (0 ≤ (pI P37 a0 0).toInt ∧ (pI P37 a0 0).toInt ≤ 0) → G E ({ frames := 3, cells := 0, slots := 0, locals := 192 } : Room) D cy 3 P37 0 0 37 [] [] := by
    intro P37 I37 X37 W37 hq37_0
    have h79036 := X37.at ha0
    refine g_iconst (v := (-1)) C dX12_told_37 (by decide) ?_
    exact ret _ _ _ _ _ _ dX12_told_38 rfl (by decide) (by decide) ⟨I37, X37, W37, trivial⟩
  refine g_aload_n C dX12_told_0 rfl 0 rfl ?_
  refine g_iconst (v := 0) C dX12_told_1 (by decide) ?_
  refine g_putI C fi_X12_1 rfl (ha0).1 (ha0).2 dX12_told_2 ?_
  refine gqW (ks := [0]) (I.setI (rgOk.of rfl (by decide))) (EM.setI I (by decide)) (fun Y79037 Iy79038 Xy79039 w79040 => ?_)
  have w79040 : (pI Y79037 a0 0).toInt = 0 := w79040
  have W79041 := hW.keep I Xy79039 (by decide) (by decide) (by decide)
  have Xz79042 : EM [0] a0 P Y79037 := Xy79039.mono (by decide)
  have h79043 := Xy79039.at ha0
  refine g_aload_n C dX12_told_5 rfl 0 rfl ?_
  refine g_iload_n C dX12_told_6 rfl 1 rfl ?_
  refine g_callVI (rest := []) C mv_X12_192 [.int a1] (s_X12_isBook Iy79038 W79041) (h79043).1 (h79043).2 rfl rfl (by decide) (Nat.le_of_ble_eq_true rfl) (by decide) dX12_told_7 (fun r79044 Y79045 h79046 => ?_)
  obtain ⟨rfl, h79046⟩ := h79046
  obtain ⟨h79046, hi79047, hi79048⟩ := h79046
  have hi79047 : r79044.toInt = 0 ∨ (((0 : Int) ≤ a1.toInt ∧ a1.toInt ≤ (1 : Int))) := hi79047
  have h79046 : 0 ≤ r79044.toInt ∧ r79044.toInt ≤ 1 := h79046
  refine b_if_eq C 37 dX12_told_10 (by decide) (fun h79049 => ?_) (fun h79049 => ?_)
  · have h79049 : r79044.toInt = 0 := congrArg Int32.toInt h79049
    clear hi79047
    refine g_lv (lv' := []) [] rfl ?_
    exact J37 Y79037 Iy79038 Xz79042 W79041 (by omega)
  · have h79049 : r79044.toInt ≠ 0 := ti_ne h79049
    replace hi79047 := hi79047.resolve_left (by omega)
    obtain ⟨b79050, e79051, h79052⟩ := Iy79038.fld (h79043) 10 13 2 rfl
    have hi79048 := (hi79048.resolve_left (by omega)) b79050 e79051
    have hi79048 : 0 < (pI Y79037 b79050 (a1.toInt.toNat)).toInt := hi79048
    have h79053 := Iy79038.arr e79051 rfl (a1.toInt.toNat)
    refine g_iload_n C dX12_told_13 rfl 2 rfl ?_
    refine g_iconst (v := 0) C dX12_told_14 (by decide) ?_
    refine g_aload_n C dX12_told_15 rfl 0 rfl ?_
    refine g_iload_n C dX12_told_16 rfl 1 rfl ?_
    refine g_callVI (rest := [.int 0, .int a2]) C mv_X12_238 [.int a1] (s_X12_allOf Iy79038 (by omega) W79041) (h79043).1 (h79043).2 rfl rfl (by decide) (Nat.le_of_ble_eq_true rfl) (by decide) dX12_told_17 (fun r79054 Y79055 h79056 => ?_)
    obtain ⟨rfl, h79056⟩ := h79056
    obtain ⟨h79056, hi79057⟩ := h79056
    obtain ⟨b79058, e79059, h79060⟩ := Iy79038.fld (h79043) 15 13 3 rfl
    have hi79057 : r79054.toInt = 0 ∨ r79054.toInt = (pI Y79037 b79050 (a1.toInt.toNat)).toInt + (pI Y79037 b79058 (a1.toInt.toNat)).toInt := hi79057.imp id (fun z9 => z9 b79050 b79058 e79051 e79059)
    have h79061 := Iy79038.arr e79059 rfl (a1.toInt.toNat)
    have h79056 : 0 ≤ r79054.toInt ∧ r79054.toInt ≤ 20 := h79056
    refine g_iconst (v := 1) C dX12_told_20 (by decide) ?_
    refine s_isub C dX12_told_21 (by show -2147483648 ≤ r79054.toInt - 1 ∧ r79054.toInt - 1 ≤ 2147483647; omega) (fun z79062 h79063 => ?_)
    have h79063 : z79062.toInt = r79054.toInt - 1 := h79063
    refine g_callSI (b := 0) (ci := 0) (rest := []) C ms_X12_178 [.int a2, .int 0, .int z79062] (s_X12_within Iy79038.1) rfl rfl (by decide) (Nat.le_of_ble_eq_true rfl) (by decide) dX12_told_22 (fun r79064 Y79065 h79066 => ?_)
    obtain ⟨rfl, h79066⟩ := h79066
    obtain ⟨h79066, hi79067⟩ := h79066
    have hi79067 : r79064.toInt = 0 ∨ (0 ≤ a2.toInt ∧ a2.toInt ≤ z79062.toInt) := hi79067
    have h79066 : 0 ≤ r79064.toInt ∧ r79064.toInt ≤ 1 := h79066
    refine b_if_eq C 37 dX12_told_25 (by decide) (fun h79068 => ?_) (fun h79068 => ?_)
    · have h79068 : r79064.toInt = 0 := congrArg Int32.toInt h79068
      clear hi79067
      refine g_lv (lv' := []) [] rfl ?_
      exact J37 Y79037 Iy79038 Xz79042 W79041 (by omega)
    · have h79068 : r79064.toInt ≠ 0 := ti_ne h79068
      replace hi79067 := hi79067.resolve_left (by omega)
      refine g_aload_n C dX12_told_28 rfl 0 rfl ?_
      refine g_iload_n C dX12_told_29 rfl 1 rfl ?_
      refine g_iload_n C dX12_told_30 rfl 2 rfl ?_
      refine g_callVI (rest := []) C mv_X12_271 [.int a1, .int a2] (s_X12_valueOf Iy79038 (by omega) (by omega) W79041 (fun b9 c9 e9 f9 => by rw [e79051] at e9; cases e9; rw [e79059] at f9; cases f9; show a2.toInt < (pI Y79037 b79050 (a1.toInt.toNat)).toInt + (pI Y79037 b79058 (a1.toInt.toNat)).toInt; omega)) (h79043).1 (h79043).2 rfl rfl (by decide) (Nat.le_of_ble_eq_true rfl) (by decide) dX12_told_31 (fun r79069 Y79070 h79071 => ?_)
      obtain ⟨rfl, h79071⟩ := h79071
      have h79071 : True := h79071
      refine g_goto C 38 dX12_told_34 (by decide) ?_
      exact ret _ _ _ _ _ _ dX12_told_38 rfl (by decide) (by decide) ⟨Iy79038, Xz79042, W79041, trivial⟩
