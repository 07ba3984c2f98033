theorem dX12_readLine_77 : decode cX12_readLine 77 = .ok (.goto 38, 3) := by decide +kernel
theorem dX12_readLine_80 : decode cX12_readLine 80 = .ok (.iload_n 1, 1) := by decide +kernel
theorem dX12_readLine_81 : decode cX12_readLine 81 = .ok (.ifCond .eq 11, 3) := by decide +kernel
theorem dX12_readLine_84 : decode cX12_readLine 84 = .ok (.aload_n 0, 1) := by decide +kernel
theorem dX12_readLine_85 : decode cX12_readLine 85 = .ok (.iconst 3, 1) := by decide +kernel
theorem dX12_readLine_86 : decode cX12_readLine 86 = .ok (.invokevirtual 168, 3) := by decide +kernel
theorem dX12_readLine_89 : decode cX12_readLine 89 = .ok (.goto 26, 3) := by decide +kernel
theorem dX12_readLine_92 : decode cX12_readLine 92 = .ok (.aload_n 0, 1) := by decide +kernel
theorem dX12_readLine_93 : decode cX12_readLine 93 = .ok (.iconst 2, 1) := by decide +kernel
theorem dX12_readLine_94 : decode cX12_readLine 94 = .ok (.invokevirtual 172, 3) := by decide +kernel
theorem dX12_readLine_97 : decode cX12_readLine 97 = .ok (.ifCond .eq 18, 3) := by decide +kernel
theorem dX12_readLine_100 : decode cX12_readLine 100 = .ok (.aload_n 0, 1) := by decide +kernel
theorem dX12_readLine_101 : decode cX12_readLine 101 = .ok (.getfield 60, 3) := by decide +kernel
theorem dX12_readLine_104 : decode cX12_readLine 104 = .ok (.iconst 2, 1) := by decide +kernel
theorem dX12_readLine_105 : decode cX12_readLine 105 = .ok (.iaload, 1) := by decide +kernel
theorem dX12_readLine_106 : decode cX12_readLine 106 = .ok (.iconst 4, 1) := by decide +kernel
theorem dX12_readLine_107 : decode cX12_readLine 107 = .ok (.if_icmp .ne 8, 3) := by decide +kernel
theorem dX12_readLine_110 : decode cX12_readLine 110 = .ok (.aload_n 0, 1) := by decide +kernel
theorem dX12_readLine_111 : decode cX12_readLine 111 = .ok (.iconst 5, 1) := by decide +kernel
theorem dX12_readLine_112 : decode cX12_readLine 112 = .ok (.invokevirtual 168, 3) := by decide +kernel
theorem dX12_readLine_115 : decode cX12_readLine 115 = .ok (.aload_n 0, 1) := by decide +kernel
theorem dX12_readLine_116 : decode cX12_readLine 116 = .ok (.getfield 162, 3) := by decide +kernel
theorem dX12_readLine_119 : decode cX12_readLine 119 = .ok (.ifCond .le 4, 3) := by decide +kernel
theorem dX12_readLine_123 : decode cX12_readLine 123 = .ok (.aload_n 0, 1) := by decide +kernel
theorem dX12_readLine_124 : decode cX12_readLine 124 = .ok (.iconst 0, 1) := by decide +kernel
theorem dX12_readLine_125 : decode cX12_readLine 125 = .ok (.invokevirtual 175, 3) := by decide +kernel
theorem dX12_readOdds_0 : decode cX12_readOdds 0 = .ok (.aload_n 0, 1) := by decide +kernel
theorem dX12_readOdds_1 : decode cX12_readOdds 1 = .ok (.getfield 24, 3) := by decide +kernel
theorem dX12_readOdds_4 : decode cX12_readOdds 4 = .ok (.aload_n 0, 1) := by decide +kernel
theorem dX12_readOdds_5 : decode cX12_readOdds 5 = .ok (.getfield 159, 3) := by decide +kernel
theorem dX12_readOdds_8 : decode cX12_readOdds 8 = .ok (.iaload, 1) := by decide +kernel
theorem dX12_readOdds_9 : decode cX12_readOdds 9 = .ok (.iconst 2, 1) := by decide +kernel
theorem dX12_readOdds_10 : decode cX12_readOdds 10 = .ok (.if_icmp .ne 59, 3) := by decide +kernel
theorem dX12_readOdds_13 : decode cX12_readOdds 13 = .ok (.aload_n 0, 1) := by decide +kernel
theorem dX12_readOdds_14 : decode cX12_readOdds 14 = .ok (.getfield 30, 3) := by decide +kernel
theorem dX12_readOdds_17 : decode cX12_readOdds 17 = .ok (.aload_n 0, 1) := by decide +kernel
theorem dX12_readOdds_18 : decode cX12_readOdds 18 = .ok (.getfield 159, 3) := by decide +kernel
theorem dX12_readOdds_21 : decode cX12_readOdds 21 = .ok (.laload, 1) := by decide +kernel
theorem dX12_readOdds_22 : decode cX12_readOdds 22 = .ok (.lconst 1, 1) := by decide +kernel
theorem dX12_readOdds_23 : decode cX12_readOdds 23 = .ok (.lcmp, 1) := by decide +kernel
theorem dX12_readOdds_24 : decode cX12_readOdds 24 = .ok (.ifCond .lt 45, 3) := by decide +kernel
theorem dX12_readOdds_27 : decode cX12_readOdds 27 = .ok (.aload_n 0, 1) := by decide +kernel
theorem dX12_readOdds_28 : decode cX12_readOdds 28 = .ok (.getfield 30, 3) := by decide +kernel
theorem dX12_readOdds_31 : decode cX12_readOdds 31 = .ok (.aload_n 0, 1) := by decide +kernel
theorem dX12_readOdds_32 : decode cX12_readOdds 32 = .ok (.getfield 159, 3) := by decide +kernel
theorem dX12_readOdds_35 : decode cX12_readOdds 35 = .ok (.laload, 1) := by decide +kernel
theorem dX12_readOdds_36 : decode cX12_readOdds 36 = .ok (.ldc2_w 221, 3) := by decide +kernel
theorem dX12_readOdds_39 : decode cX12_readOdds 39 = .ok (.lcmp, 1) := by decide +kernel
theorem dX12_readOdds_40 : decode cX12_readOdds 40 = .ok (.ifCond .gt 29, 3) := by decide +kernel
theorem dX12_readOdds_43 : decode cX12_readOdds 43 = .ok (.aload_n 0, 1) := by decide +kernel
theorem dX12_readOdds_44 : decode cX12_readOdds 44 = .ok (.getfield 51, 3) := by decide +kernel
theorem dX12_readOdds_47 : decode cX12_readOdds 47 = .ok (.bipush 42, 2) := by decide +kernel
theorem dX12_readOdds_49 : decode cX12_readOdds 49 = .ok (.aload_n 0, 1) := by decide +kernel
theorem dX12_readOdds_50 : decode cX12_readOdds 50 = .ok (.getfield 30, 3) := by decide +kernel
theorem dX12_readOdds_53 : decode cX12_readOdds 53 = .ok (.aload_n 0, 1) := by decide +kernel
theorem dX12_readOdds_54 : decode cX12_readOdds 54 = .ok (.getfield 159, 3) := by decide +kernel
theorem dX12_readOdds_57 : decode cX12_readOdds 57 = .ok (.laload, 1) := by decide +kernel
theorem dX12_readOdds_58 : decode cX12_readOdds 58 = .ok (.l2i, 1) := by decide +kernel
theorem dX12_readOdds_59 : decode cX12_readOdds 59 = .ok (.iadd, 1) := by decide +kernel
theorem dX12_readOdds_60 : decode cX12_readOdds 60 = .ok (.iaload, 1) := by decide +kernel
theorem dX12_readSum_0 : decode cX12_readSum 0 = .ok (.iconst 0, 1) := by decide +kernel
theorem dX12_readSum_1 : decode cX12_readSum 1 = .ok (.istore_n 1, 1) := by decide +kernel
theorem dX12_readSum_2 : decode cX12_readSum 2 = .ok (.iconst 0, 1) := by decide +kernel
theorem dX12_readSum_3 : decode cX12_readSum 3 = .ok (.istore_n 2, 1) := by decide +kernel
theorem dX12_readSum_4 : decode cX12_readSum 4 = .ok (.aload_n 0, 1) := by decide +kernel
theorem dX12_readSum_5 : decode cX12_readSum 5 = .ok (.getfield 162, 3) := by decide +kernel
theorem dX12_readSum_8 : decode cX12_readSum 8 = .ok (.ifCond .ne 97, 3) := by decide +kernel
theorem dX12_readSum_11 : decode cX12_readSum 11 = .ok (.iload_n 2, 1) := by decide +kernel
theorem dX12_readSum_12 : decode cX12_readSum 12 = .ok (.iconst 2, 1) := by decide +kernel
theorem dX12_readSum_13 : decode cX12_readSum 13 = .ok (.if_icmp .lt 16, 3) := by decide +kernel
theorem dX12_readSum_105 : decode cX12_readSum 105 = .ok (.aload_n 0, 1) := by decide +kernel
theorem dX12_readSum_106 : decode cX12_readSum 106 = .ok (.getfield 63, 3) := by decide +kernel
theorem dX12_readSum_109 : decode cX12_readSum 109 = .ok (.bipush 8, 2) := by decide +kernel
theorem dX12_readSum_111 : decode cX12_readSum 111 = .ok (.aload_n 0, 1) := by decide +kernel
theorem dX12_readSum_112 : decode cX12_readSum 112 = .ok (.getfield 60, 3) := by decide +kernel
theorem dX12_readSum_115 : decode cX12_readSum 115 = .ok (.iconst 2, 1) := by decide +kernel
theorem dX12_readSum_116 : decode cX12_readSum 116 = .ok (.iaload, 1) := by decide +kernel
theorem dX12_readSum_117 : decode cX12_readSum 117 = .ok (.iadd, 1) := by decide +kernel
theorem dX12_readSum_118 : decode cX12_readSum 118 = .ok (.iload_n 1, 1) := by decide +kernel
theorem dX12_readSum_119 : decode cX12_readSum 119 = .ok (.iastore, 1) := by decide +kernel
theorem dX12_right_0 : decode cX12_right 0 = .ok (.aload_n 0, 1) := by decide +kernel
theorem dX12_right_1 : decode cX12_right 1 = .ok (.iconst 0, 1) := by decide +kernel
theorem dX12_right_2 : decode cX12_right 2 = .ok (.putfield 1, 3) := by decide +kernel
theorem dX12_right_5 : decode cX12_right 5 = .ok (.aload_n 0, 1) := by decide +kernel
theorem dX12_right_6 : decode cX12_right 6 = .ok (.iload_n 1, 1) := by decide +kernel
theorem dX12_right_7 : decode cX12_right 7 = .ok (.iload_n 2, 1) := by decide +kernel
theorem dX12_right_8 : decode cX12_right 8 = .ok (.iload_n 3, 1) := by decide +kernel
theorem dX12_right_9 : decode cX12_right 9 = .ok (.invokevirtual 333, 3) := by decide +kernel
theorem dX12_right_12 : decode cX12_right 12 = .ok (.ifCond .eq 23, 3) := by decide +kernel
theorem dX12_right_15 : decode cX12_right 15 = .ok (.aload_n 0, 1) := by decide +kernel
theorem dX12_right_16 : decode cX12_right 16 = .ok (.iload_n 2, 1) := by decide +kernel
theorem dX12_right_17 : decode cX12_right 17 = .ok (.iload 4, 2) := by decide +kernel
theorem dX12_right_19 : decode cX12_right 19 = .ok (.invokevirtual 352, 3) := by decide +kernel
theorem dX12_right_22 : decode cX12_right 22 = .ok (.ifCond .eq 13, 3) := by decide +kernel
theorem dX12_right_25 : decode cX12_right 25 = .ok (.aload_n 0, 1) := by decide +kernel
theorem dX12_right_26 : decode cX12_right 26 = .ok (.iload_n 1, 1) := by decide +kernel
theorem dX12_right_27 : decode cX12_right 27 = .ok (.iload_n 2, 1) := by decide +kernel
theorem dX12_right_28 : decode cX12_right 28 = .ok (.iload_n 3, 1) := by decide +kernel
theorem dX12_right_29 : decode cX12_right 29 = .ok (.invokevirtual 364, 3) := by decide +kernel
theorem dX12_right_32 : decode cX12_right 32 = .ok (.ifCond .ne 5, 3) := by decide +kernel
theorem dX12_right_35 : decode cX12_right 35 = .ok (.iconst (-1), 1) := by decide +kernel
theorem dX12_right_36 : decode cX12_right 36 = .ok (.ireturn, 1) := by decide +kernel
theorem dX12_right_37 : decode cX12_right 37 = .ok (.iconst (-1), 1) := by decide +kernel
theorem dX12_right_38 : decode cX12_right 38 = .ok (.istore 5, 2) := by decide +kernel
theorem dX12_right_40 : decode cX12_right 40 = .ok (.iconst 0, 1) := by decide +kernel
theorem dX12_right_41 : decode cX12_right 41 = .ok (.istore 6, 2) := by decide +kernel
theorem dX12_right_43 : decode cX12_right 43 = .ok (.iload 6, 2) := by decide +kernel
theorem dX12_right_45 : decode cX12_right 45 = .ok (.aload_n 0, 1) := by decide +kernel
theorem dX12_right_46 : decode cX12_right 46 = .ok (.getfield 361, 3) := by decide +kernel
theorem dX12_right_49 : decode cX12_right 49 = .ok (.if_icmp .ge 80, 3) := by decide +kernel
theorem dX12_right_52 : decode cX12_right 52 = .ok (.aload_n 0, 1) := by decide +kernel
theorem dX12_right_53 : decode cX12_right 53 = .ok (.invokevirtual 336, 3) := by decide +kernel
theorem dX12_right_56 : decode cX12_right 56 = .ok (.aload_n 0, 1) := by decide +kernel
theorem dX12_right_57 : decode cX12_right 57 = .ok (.getfield 100, 3) := by decide +kernel
theorem dX12_right_60 : decode cX12_right 60 = .ok (.aload_n 0, 1) := by decide +kernel
theorem dX12_right_61 : decode cX12_right 61 = .ok (.getfield 112, 3) := by decide +kernel
theorem dX12_right_64 : decode cX12_right 64 = .ok (.iload 6, 2) := by decide +kernel
theorem dX12_right_66 : decode cX12_right 66 = .ok (.iaload, 1) := by decide +kernel
theorem dX12_right_67 : decode cX12_right 67 = .ok (.iconst 1, 1) := by decide +kernel
theorem dX12_right_68 : decode cX12_right 68 = .ok (.bastore, 1) := by decide +kernel
theorem dX12_right_69 : decode cX12_right 69 = .ok (.aload_n 0, 1) := by decide +kernel
theorem dX12_right_70 : decode cX12_right 70 = .ok (.iload_n 1, 1) := by decide +kernel
theorem dX12_right_71 : decode cX12_right 71 = .ok (.iload_n 2, 1) := by decide +kernel
theorem dX12_right_72 : decode cX12_right 72 = .ok (.iload_n 3, 1) := by decide +kernel
theorem dX12_right_73 : decode cX12_right 73 = .ok (.aload_n 0, 1) := by decide +kernel
theorem dX12_right_74 : decode cX12_right 74 = .ok (.getfield 69, 3) := by decide +kernel
theorem dX12_right_77 : decode cX12_right 77 = .ok (.iload_n 1, 1) := by decide +kernel
theorem dX12_right_78 : decode cX12_right 78 = .ok (.iaload, 1) := by decide +kernel
theorem dX12_right_79 : decode cX12_right 79 = .ok (.invokevirtual 339, 3) := by decide +kernel
theorem dX12_right_82 : decode cX12_right 82 = .ok (.aload_n 0, 1) := by decide +kernel
theorem dX12_right_83 : decode cX12_right 83 = .ok (.invokevirtual 346, 3) := by decide +kernel
theorem dX12_right_86 : decode cX12_right 86 = .ok (.aload_n 0, 1) := by decide +kernel
theorem dX12_right_87 : decode cX12_right 87 = .ok (.iload 4, 2) := by decide +kernel
theorem dX12_right_89 : decode cX12_right 89 = .ok (.invokevirtual 330, 3) := by decide +kernel
theorem dX12_right_92 : decode cX12_right 92 = .ok (.ifCond .eq 20, 3) := by decide +kernel
theorem dX12_right_95 : decode cX12_right 95 = .ok (.iload 5, 2) := by decide +kernel
theorem dX12_right_97 : decode cX12_right 97 = .ok (.ifCond .lt 17, 3) := by decide +kernel
theorem dX12_right_100 : decode cX12_right 100 = .ok (.iload 5, 2) := by decide +kernel
theorem dX12_right_102 : decode cX12_right 102 = .ok (.aload_n 0, 1) := by decide +kernel
theorem dX12_right_103 : decode cX12_right 103 = .ok (.getfield 109, 3) := by decide +kernel
theorem dX12_right_106 : decode cX12_right 106 = .ok (.iload 4, 2) := by decide +kernel
theorem dX12_right_108 : decode cX12_right 108 = .ok (.iaload, 1) := by decide +kernel
theorem dX12_right_109 : decode cX12_right 109 = .ok (.if_icmp .eq 5, 3) := by decide +kernel
theorem dX12_right_112 : decode cX12_right 112 = .ok (.iconst (-1), 1) := by decide +kernel
theorem dX12_right_113 : decode cX12_right 113 = .ok (.ireturn, 1) := by decide +kernel
theorem dX12_right_114 : decode cX12_right 114 = .ok (.aload_n 0, 1) := by decide +kernel
theorem dX12_right_115 : decode cX12_right 115 = .ok (.getfield 109, 3) := by decide +kernel
theorem dX12_right_118 : decode cX12_right 118 = .ok (.iload 4, 2) := by decide +kernel
theorem dX12_right_120 : decode cX12_right 120 = .ok (.iaload, 1) := by decide +kernel
theorem dX12_right_121 : decode cX12_right 121 = .ok (.istore 5, 2) := by decide +kernel
theorem dX12_right_123 : decode cX12_right 123 = .ok (.iinc 6 1, 3) := by decide +kernel
theorem dX12_right_126 : decode cX12_right 126 = .ok (.goto (-83), 3) := by decide +kernel
theorem dX12_right_129 : decode cX12_right 129 = .ok (.iload 5, 2) := by decide +kernel
theorem dX12_right_131 : decode cX12_right 131 = .ok (.ireturn, 1) := by decide +kernel
set_option maxHeartbeats 4000000 in
set_option maxRecDepth 100000 in
theorem s_X12_right {P : PP} {a0 : Nat} {a1 : Int32} {a2 : Int32} {a3 : Int32} {a4 : Int32} (I : IM P a0) (hW : MW P a0) : CtrI yX12_right cX12_right 7 (some Jvm.ClassFile.FieldType.int) ({ frames := 8, cells := 0, slots := 0, locals := 512 } : Room) 0 0 P [.ref a0, .int a1, .int a2, .int a3, .int a4] (fun r P2 => IM P2 a0 ∧ EM [0, 28, 29, 30, 31, 32, 35, 36, 37, 38, 39, 40] a0 P P2 ∧ MW P2 a0 ∧ (True)) := by
  refine enI (lv := [(0, .ref a0), (1, .int a1), (2, .int a2), (3, .int a3), (4, .int a4)]) (by decide) (Nat.le_of_ble_eq_true rfl) rfl (fun E D cy C Ci0 ret => ?_)
  have ha0 := I.2.1
  have J112 : ∀ (P112 : PP), (IM P112 a0) → (EM [0, 28, 29, 30, 31, 32, 35, 36, 37, 38, 39, 40] a0 P P112) → (MW P112 a0) → (0 ≤ (pI P112 a0 0).toInt ∧ (pI P112 a0 0).toInt ≤ 0) → (0 ≤ (pI P112 a0 28).toInt ∧ (pI P112 a0 28).toInt ≤ 44) → (1 ≤ (pI P112 a0 39).toInt ∧ (pI P112 a0 39).toInt ≤ 40) → (∀ b, pR P112 a0 10 = some b → 1 ≤ (pI P112 b (a2.toInt.toNat)).toInt ∧ (pI P112 b (a2.toInt.toNat)).toInt ≤ 16) → G E ({ frames := 8, cells := 0, slots := 0, locals := 512 } : Room) D cy 7 P112 0 0 112 [] [] := by
    intro P112 I112 X112 W112 hq112_0 hq112_1 hq112_2 hq112_3
    have h70879 := X112.at ha0
    obtain ⟨b70880, e70881, h70882⟩ := I112.fld (h70879) 10 13 2 rfl
    have hq112_3 := hq112_3 b70880 e70881
    refine g_iconst (v := (-1)) C dX12_right_112 (by decide) ?_
    exact ret _ _ _ _ _ _ dX12_right_113 rfl (by decide) (by decide) ⟨I112, X112, W112, trivial⟩
  have J43 : ∀ (n43 : Nat) (P43 : PP) (v43_5 : Int32) (v43_6 : Int32), (40 - v43_6.toInt).toNat < n43 → (IM P43 a0) → (EM [0, 28, 29, 30, 31, 32, 35, 36, 37, 38, 39, 40] a0 P P43) → (MW P43 a0) → (0 ≤ a1.toInt ∧ a1.toInt ≤ 3) → (0 ≤ a2.toInt ∧ a2.toInt ≤ 1) → (0 ≤ a3.toInt ∧ a3.toInt ≤ 1) → (0 ≤ a4.toInt ∧ a4.toInt ≤ 19) → (0 ≤ v43_6.toInt ∧ v43_6.toInt ≤ 40) → (0 ≤ (pI P43 a0 0).toInt ∧ (pI P43 a0 0).toInt ≤ 0) → (∀ b, pR P43 a0 10 = some b → 1 ≤ (pI P43 b (a2.toInt.toNat)).toInt ∧ (pI P43 b (a2.toInt.toNat)).toInt ≤ 16) → G E ({ frames := 8, cells := 0, slots := 0, locals := 512 } : Room) D cy 7 P43 0 0 43 [(0, .ref a0), (1, .int a1), (2, .int a2), (3, .int a3), (4, .int a4), (5, .int v43_5), (6, .int v43_6)] [] := by
    intro n43
    induction n43 with
    | zero => intro P43 v43_5 v43_6 hm43 I43 X43 W43 hv43_1 hv43_2 hv43_3 hv43_4 hv43_6 hq43_0 hq43_1; omega
    | succ n43 ih43 =>
      intro P43 v43_5 v43_6 hm43 I43 X43 W43 hv43_1 hv43_2 hv43_3 hv43_4 hv43_6 hq43_0 hq43_1
      have h70883 := X43.at ha0
      obtain ⟨b70884, e70885, h70886⟩ := I43.fld (h70883) 10 13 2 rfl
      have hq43_1 := hq43_1 b70884 e70885
      have J114 : ∀ (P114 : PP), (IM P114 a0) → (EM [0, 28, 29, 30, 31, 32, 35, 36, 37, 38, 39, 40] a0 P P114) → (MW P114 a0) → (0 ≤ a1.toInt ∧ a1.toInt ≤ 3) → (0 ≤ a2.toInt ∧ a2.toInt ≤ 1) → (0 ≤ a3.toInt ∧ a3.toInt ≤ 1) → (0 ≤ a4.toInt ∧ a4.toInt ≤ 19) → (0 ≤ v43_6.toInt ∧ v43_6.toInt ≤ 39) → (0 ≤ (pI P114 a0 0).toInt ∧ (pI P114 a0 0).toInt ≤ 0) → (0 ≤ (pI P114 a0 28).toInt ∧ (pI P114 a0 28).toInt ≤ 44) → (1 ≤ (pI P114 a0 39).toInt ∧ (pI P114 a0 39).toInt ≤ 40) → (∀ b, pR P114 a0 10 = some b → 1 ≤ (pI P114 b (a2.toInt.toNat)).toInt ∧ (pI P114 b (a2.toInt.toNat)).toInt ≤ 16) → G E ({ frames := 8, cells := 0, slots := 0, locals := 512 } : Room) D cy 7 P114 0 0 114 [(0, .ref a0), (1, .int a1), (2, .int a2), (3, .int a3), (4, .int a4), (6, .int v43_6)] [] := by
        intro P114 I114 X114 W114 hv114_1 hv114_2 hv114_3 hv114_4 hv114_6 hq114_0 hq114_1 hq114_2 hq114_3
        have h70887 := X114.at ha0
        obtain ⟨b70888, e70889, h70890⟩ := I114.fld (h70887) 10 13 2 rfl
        have hq114_3 := hq114_3 b70888 e70889
        refine g_aload_n C dX12_right_114 rfl 0 rfl ?_
        obtain ⟨b70891, e70892, h70893⟩ := I114.fld (h70887) 38 13 20 rfl
        refine g_getR C fi_X12_109 rfl e70892 (h70887).1 (h70887).2 dX12_right_115 ?_
        refine g_iload C dX12_right_118 4 rfl ?_
        refine g_iald (j := (a4.toInt.toNat)) C h70893.1 h70893.2.1 (ix_in h70893.2.2 (by omega)) dX12_right_120 ?_
        refine g_topi (fun z70894 h70895 => ?_)
        have h70895 : z70894.toInt = (pI P114 b70891 (a4.toInt.toNat)).toInt := congrArg Int32.toInt h70895
        refine g_istore (lv' := [(5, .int z70894), (0, .ref a0), (1, .int a1), (2, .int a2), (3, .int a3), (4, .int a4), (6, .int v43_6)]) C dX12_right_121 (by decide) rfl ?_
        refine s_iinc (lv0 := [(5, .int z70894), (0, .ref a0), (1, .int a1), (2, .int a2), (3, .int a3), (4, .int a4)]) (m := 1) C dX12_right_123 6 rfl (by decide) rfl (by decide) (by omega) (fun z70896 h70897 => ?_)
        have h70897 : z70896.toInt = v43_6.toInt + 1 := h70897
        refine g_goto C 43 dX12_right_126 (by decide) ?_
        refine g_lv (lv' := [(0, .ref a0), (1, .int a1), (2, .int a2), (3, .int a3), (4, .int a4), (5, .int z70894), (6, .int z70896)]) [2, 3, 4, 5, 6, 1, 0] rfl ?_
        exact ih43 P114 z70894 z70896 (by omega) I114 X114 W114 (by omega) (by omega) (by omega) (by omega) (by omega) (by omega) (fun b9 e9 => by rw [e70889] at e9; cases e9; omega)
      refine g_iload C dX12_right_43 6 rfl ?_
      refine g_aload_n C dX12_right_45 rfl 0 rfl ?_
      refine g_getI C fi_X12_361 (by decide) (h70883).1 (h70883).2 dX12_right_46 ?_
      have h70898 := I43.rg (h70883) 39 rfl
      refine b_icmp_ge C 129 dX12_right_49 (by decide) (fun h70899 => ?_) (fun h70899 => ?_)
      · have h70899 : (pI P43 a0 39).toInt ≤ v43_6.toInt := h70899
        refine g_iload C dX12_right_129 5 rfl ?_
        exact ret _ _ _ _ _ _ dX12_right_131 rfl (by decide) (by decide) ⟨I43, X43, W43, trivial⟩
      · have h70899 : v43_6.toInt < (pI P43 a0 39).toInt := h70899
        refine g_aload_n C dX12_right_52 rfl 0 rfl ?_
        refine g_callVV (rest := []) C mv_X12_336 [] (s_X12_leavesNone I43 W43) (h70883).1 (h70883).2 rfl rfl (by decide) (Nat.le_of_ble_eq_true rfl) (by decide) dX12_right_53 (fun Y70901 h70902 => ?_)
        obtain ⟨Iy70903, Xy70904, W70905⟩ := h70902
        have q70906 := Xy70904.keepF 0 (by decide)
        have q70907 := Xy70904.keepA e70885 (by decide) rfl (a2.toInt.toNat)
        have q70908 := Xy70904.keepF 39 (by decide)
        have Xz70909 : EM [0, 28, 29, 30, 31, 32, 35, 36, 37, 38, 39, 40] a0 P Y70901 := EM.tr ha0 X43 (Xy70904.mono (by decide))
        have e70910 := Xy70904.ref h70883 (by decide) e70885
        have h70911 := Xy70904.at h70883
        have h70912 := Xy70904.ar h70886
        refine g_aload_n C dX12_right_56 rfl 0 rfl ?_
        obtain ⟨b70913, e70914, h70915⟩ := Iy70903.fld (h70911) 32 15 40 rfl
        refine g_getR C fi_X12_100 rfl e70914 (h70911).1 (h70911).2 dX12_right_57 ?_
        refine g_aload_n C dX12_right_60 rfl 0 rfl ?_
        obtain ⟨b70916, e70917, h70918⟩ := Iy70903.fld (h70911) 40 13 40 rfl
        refine g_getR C fi_X12_112 rfl e70917 (h70911).1 (h70911).2 dX12_right_61 ?_
        refine g_iload C dX12_right_64 6 rfl ?_
        refine g_iald (j := (v43_6.toInt.toNat)) C h70918.1 h70918.2.1 (ix_in h70918.2.2 (by omega)) dX12_right_66 ?_
        have h70919 := Iy70903.arr e70917 rfl (v43_6.toInt.toNat)
        refine g_iconst (v := 1) C dX12_right_67 (by decide) ?_
        refine g_zast (j := ((pI Y70901 b70916 (v43_6.toInt.toNat)).toInt.toNat)) C h70915.1 h70915.2.1 (ix_in h70915.2.2 (by omega)) (Or.inr rfl) dX12_right_68 ?_
        refine gqW (ks := [32]) (Iy70903.setA e70914 h70915 (by decide) (arOk.none rfl)) (EM.setA Iy70903 e70914 rfl (by decide)) (fun Y70920 Iy70921 Xy70922 w70923 => ?_)
        have w70923 : (pI Y70920 b70913 ((pI Y70901 b70916 (v43_6.toInt.toNat)).toInt.toNat)).toInt = 1 := w70923
        have q70924 := Xy70922.keepF 0 (by decide)
        have q70925 := Xy70922.keepA e70910 (by decide) rfl (a2.toInt.toNat)
        have q70926 := Xy70922.keepF 39 (by decide)
        have q70927 := Xy70922.keepA e70917 (by decide) rfl (v43_6.toInt.toNat)
        have W70928 := W70905.keep Iy70903 Xy70922 (by decide) (by decide) (by decide)
        have Xz70929 : EM [0, 28, 29, 30, 31, 32, 35, 36, 37, 38, 39, 40] a0 P Y70920 := EM.tr ha0 Xz70909 (Xy70922.mono (by decide))
        have e70930 := Xy70922.ref h70911 (by decide) e70910
        have e70931 := Xy70922.ref h70911 (by decide) e70917
        have h70932 := Xy70922.at h70911
        have h70933 := Xy70922.ar h70912
        have h70934 := Xy70922.ar h70918
        refine g_aload_n C dX12_right_69 rfl 0 rfl ?_
        refine g_iload_n C dX12_right_70 rfl 1 rfl ?_
        refine g_iload_n C dX12_right_71 rfl 2 rfl ?_
        refine g_iload_n C dX12_right_72 rfl 3 rfl ?_
        refine g_aload_n C dX12_right_73 rfl 0 rfl ?_
        obtain ⟨b70935, e70936, h70937⟩ := Iy70921.fld (h70932) 20 13 20 rfl
        refine g_getR C fi_X12_69 rfl e70936 (h70932).1 (h70932).2 dX12_right_74 ?_
        refine g_iload_n C dX12_right_77 rfl 1 rfl ?_
        refine g_iald (j := (a1.toInt.toNat)) C h70937.1 h70937.2.1 (ix_in h70937.2.2 (by omega)) dX12_right_78 ?_
        have h70938 := Iy70921.arr e70936 rfl (a1.toInt.toNat)
        refine g_callVV (rest := []) C mv_X12_339 [.int a1, .int a2, .int a3, .int (pI Y70920 b70935 (a1.toInt.toNat))] (s_X12_gathers Iy70921 (by omega) (by omega) (by omega) (fun b9 e9 => by rw [e70930] at e9; cases e9; show 1 ≤ (pI Y70920 b70884 (a2.toInt.toNat)).toInt ∧ (pI Y70920 b70884 (a2.toInt.toNat)).toInt ≤ 16; omega) W70928) (h70932).1 (h70932).2 rfl rfl (by decide) (Nat.le_of_ble_eq_true rfl) (by decide) dX12_right_79 (fun Y70940 h70941 => ?_)
        obtain ⟨Iy70942, Xy70943, W70944, p70945⟩ := h70941
        have p70945 : (pI Y70940 a0 28).toInt ≤ 4 + (pI Y70920 b70935 (a1.toInt.toNat)).toInt := p70945
        have q70946 := Xy70943.keepF 0 (by decide)
        have q70947 := Xy70943.keepA e70930 (by decide) rfl (a2.toInt.toNat)
        have q70948 := Xy70943.keepF 39 (by decide)
        have q70949 := Xy70943.keepA e70931 (by decide) rfl (v43_6.toInt.toNat)
        have q70950 := Xy70943.keepA e70936 (by decide) rfl (a1.toInt.toNat)
        have Xz70951 : EM [0, 28, 29, 30, 31, 32, 35, 36, 37, 38, 39, 40] a0 P Y70940 := EM.tr ha0 Xz70929 (Xy70943.mono (by decide))
        have e70952 := Xy70943.ref h70932 (by decide) e70930
        have e70953 := Xy70943.ref h70932 (by decide) e70931
        have e70954 := Xy70943.ref h70932 (by decide) e70936
        have h70955 := Xy70943.at h70932
        have h70956 := Xy70943.ar h70933
        have h70957 := Xy70943.ar h70934
        have h70958 := Xy70943.ar h70937
        have h70959 := Iy70942.rg h70955 28 rfl
        refine g_aload_n C dX12_right_82 rfl 0 rfl ?_
        refine g_callVV (rest := []) C mv_X12_346 [] (s_X12_findSolved Iy70942 W70944) (h70955).1 (h70955).2 rfl rfl (by decide) (Nat.le_of_ble_eq_true rfl) (by decide) dX12_right_83 (fun Y70961 h70962 => ?_)
        obtain ⟨Iy70963, Xy70964, W70965⟩ := h70962
        have q70966 := Xy70964.keepF 0 (by decide)
        have q70967 := Xy70964.keepA e70952 (by decide) rfl (a2.toInt.toNat)
        have q70968 := Xy70964.keepF 39 (by decide)
        have q70969 := Xy70964.keepA e70953 (by decide) rfl (v43_6.toInt.toNat)
        have q70970 := Xy70964.keepA e70954 (by decide) rfl (a1.toInt.toNat)
        have q70971 := Xy70964.keepF 28 (by decide)
        have Xz70972 : EM [0, 28, 29, 30, 31, 32, 35, 36, 37, 38, 39, 40] a0 P Y70961 := EM.tr ha0 Xz70951 (Xy70964.mono (by decide))
        have e70973 := Xy70964.ref h70955 (by decide) e70952
        have e70974 := Xy70964.ref h70955 (by decide) e70953
        have e70975 := Xy70964.ref h70955 (by decide) e70954
        have h70976 := Xy70964.at h70955
        have h70977 := Xy70964.ar h70956
        have h70978 := Xy70964.ar h70957
        have h70979 := Xy70964.ar h70958
        refine g_aload_n C dX12_right_86 rfl 0 rfl ?_
        refine g_iload C dX12_right_87 4 rfl ?_
        refine g_callVI (rest := []) C mv_X12_330 [.int a4] (s_X12_isFixed Iy70963 (by omega) W70965) (h70976).1 (h70976).2 rfl rfl (by decide) (Nat.le_of_ble_eq_true rfl) (by decide) dX12_right_89 (fun r70980 Y70981 h70982 => ?_)
        obtain ⟨rfl, h70982⟩ := h70982
        have h70982 : 0 ≤ r70980.toInt ∧ r70980.toInt ≤ 1 := h70982
        refine b_if_eq C 112 dX12_right_92 (by decide) (fun h70983 => ?_) (fun h70983 => ?_)
        · have h70983 : r70980.toInt = 0 := congrArg Int32.toInt h70983
          refine g_lv (lv' := []) [] rfl ?_
          exact J112 Y70961 Iy70963 Xz70972 W70965 (by omega) (by omega) (by omega) (fun b9 e9 => by rw [e70973] at e9; cases e9; omega)
        · have h70983 : r70980.toInt ≠ 0 := ti_ne h70983
          refine g_iload C dX12_right_95 5 rfl ?_
          have u70985 := ti_rng v43_5
          refine b_if_lt C 114 dX12_right_97 (by decide) (fun h70984 => ?_) (fun h70984 => ?_)
          · have h70984 : v43_5.toInt < 0 := h70984
            refine g_lv (lv' := [(0, .ref a0), (1, .int a1), (2, .int a2), (3, .int a3), (4, .int a4), (6, .int v43_6)]) [0, 1, 2, 3, 4, 6] rfl ?_
            exact J114 Y70961 Iy70963 Xz70972 W70965 (by omega) (by omega) (by omega) (by omega) (by omega) (by omega) (by omega) (by omega) (fun b9 e9 => by rw [e70973] at e9; cases e9; omega)
          · have h70984 : 0 ≤ v43_5.toInt := h70984
            refine g_iload C dX12_right_100 5 rfl ?_
            refine g_aload_n C dX12_right_102 rfl 0 rfl ?_
            obtain ⟨b70986, e70987, h70988⟩ := Iy70963.fld (h70976) 38 13 20 rfl
            refine g_getR C fi_X12_109 rfl e70987 (h70976).1 (h70976).2 dX12_right_103 ?_
            refine g_iload C dX12_right_106 4 rfl ?_
            refine g_iald (j := (a4.toInt.toNat)) C h70988.1 h70988.2.1 (ix_in h70988.2.2 (by omega)) dX12_right_108 ?_
            have u70990 := ti_rng v43_5
            have u70991 := ti_rng (pI Y70961 b70986 (a4.toInt.toNat))
            refine b_icmp_eq C 114 dX12_right_109 (by decide) (fun h70989 => ?_) (fun h70989 => ?_)
            · have h70989 : v43_5.toInt = (pI Y70961 b70986 (a4.toInt.toNat)).toInt := congrArg Int32.toInt h70989
              refine g_lv (lv' := [(0, .ref a0), (1, .int a1), (2, .int a2), (3, .int a3), (4, .int a4), (6, .int v43_6)]) [0, 1, 2, 3, 4, 6] rfl ?_
              exact J114 Y70961 Iy70963 Xz70972 W70965 (by omega) (by omega) (by omega) (by omega) (by omega) (by omega) (by omega) (by omega) (fun b9 e9 => by rw [e70973] at e9; cases e9; omega)
            · have h70989 : v43_5.toInt ≠ (pI Y70961 b70986 (a4.toInt.toNat)).toInt := ti_ne h70989
              refine g_lv (lv' := []) [] rfl ?_
              exact J112 Y70961 Iy70963 Xz70972 W70965 (by omega) (by omega) (by omega) (fun b9 e9 => by rw [e70973] at e9; cases e9; omega)
  have J35 : ∀ (P35 : PP), (IM P35 a0) → (EM [0, 28, 29, 30, 31, 32, 35, 36, 37, 38, 39, 40] a0 P P35) → (MW P35 a0) → (0 ≤ (pI P35 a0 0).toInt ∧ (pI P35 a0 0).toInt ≤ 0) → G E ({ frames := 8, cells := 0, slots := 0, locals := 512 } : Room) D cy 7 P35 0 0 35 [] [] := by
    intro P35 I35 X35 W35 hq35_0
    have h70992 := X35.at ha0
    refine g_iconst (v := (-1)) C dX12_right_35 (by decide) ?_
    exact ret _ _ _ _ _ _ dX12_right_36 rfl (by decide) (by decide) ⟨I35, X35, W35, trivial⟩
  refine g_aload_n C dX12_right_0 rfl 0 rfl ?_
  refine g_iconst (v := 0) C dX12_right_1 (by decide) ?_
  refine g_putI C fi_X12_1 rfl (ha0).1 (ha0).2 dX12_right_2 ?_
  refine gqW (ks := [0]) (I.setI (rgOk.of rfl (by decide))) (EM.setI I (by decide)) (fun Y70993 Iy70994 Xy70995 w70996 => ?_)
  have w70996 : (pI Y70993 a0 0).toInt = 0 := w70996
  have W70997 := hW.keep I Xy70995 (by decide) (by decide) (by decide)
  have Xz70998 : EM [0, 28, 29, 30, 31, 32, 35, 36, 37, 38, 39, 40] a0 P Y70993 := Xy70995.mono (by decide)
  have h70999 := Xy70995.at ha0
  refine g_aload_n C dX12_right_5 rfl 0 rfl ?_
  refine g_iload_n C dX12_right_6 rfl 1 rfl ?_
  refine g_iload_n C dX12_right_7 rfl 2 rfl ?_
  refine g_iload_n C dX12_right_8 rfl 3 rfl ?_
  refine g_callVI (rest := []) C mv_X12_333 [.int a1, .int a2, .int a3] (s_X12_isAsked Iy70994 W70997) (h70999).1 (h70999).2 rfl rfl (by decide) (Nat.le_of_ble_eq_true rfl) (by decide) dX12_right_9 (fun r71000 Y71001 h71002 => ?_)
  obtain ⟨rfl, h71002⟩ := h71002
  obtain ⟨h71002, hi71003, hi71004⟩ := h71002
  have hi71003 : r71000.toInt = 0 ∨ (((0 : Int) ≤ a1.toInt ∧ a1.toInt ≤ (3 : Int)) ∧ ((0 : Int) ≤ a2.toInt ∧ a2.toInt ≤ (1 : Int)) ∧ ((0 : Int) ≤ a3.toInt ∧ a3.toInt ≤ (1 : Int))) := hi71003
  have h71002 : 0 ≤ r71000.toInt ∧ r71000.toInt ≤ 1 := h71002
  refine b_if_eq C 35 dX12_right_12 (by decide) (fun h71005 => ?_) (fun h71005 => ?_)
  · have h71005 : r71000.toInt = 0 := congrArg Int32.toInt h71005
    clear hi71003
    refine g_lv (lv' := []) [] rfl ?_
    exact J35 Y70993 Iy70994 Xz70998 W70997 (by omega)
  · have h71005 : r71000.toInt ≠ 0 := ti_ne h71005
    replace hi71003 := hi71003.resolve_left (by omega)
    obtain ⟨b71006, e71007, h71008⟩ := Iy70994.fld (h70999) 10 13 2 rfl
    have hi71004 := (hi71004.resolve_left (by omega)) b71006 e71007
    have hi71004 : 0 < (pI Y70993 b71006 (a2.toInt.toNat)).toInt := hi71004
    have h71009 := Iy70994.arr e71007 rfl (a2.toInt.toNat)
    refine g_aload_n C dX12_right_15 rfl 0 rfl ?_
    refine g_iload_n C dX12_right_16 rfl 2 rfl ?_
    refine g_iload C dX12_right_17 4 rfl ?_
    refine g_callVI (rest := []) C mv_X12_352 [.int a2, .int a4] (s_X12_isPage Iy70994 (by omega) W70997) (h70999).1 (h70999).2 rfl rfl (by decide) (Nat.le_of_ble_eq_true rfl) (by decide) dX12_right_19 (fun r71010 Y71011 h71012 => ?_)
    obtain ⟨rfl, h71012⟩ := h71012
    obtain ⟨h71012, hi71013⟩ := h71012
    have hi71013 : r71010.toInt = 0 ∨ (((0 : Int) ≤ a4.toInt ∧ a4.toInt ≤ (19 : Int))) := hi71013
    have h71012 : 0 ≤ r71010.toInt ∧ r71010.toInt ≤ 1 := h71012
    refine b_if_eq C 35 dX12_right_22 (by decide) (fun h71014 => ?_) (fun h71014 => ?_)
    · have h71014 : r71010.toInt = 0 := congrArg Int32.toInt h71014
      clear hi71013
      refine g_lv (lv' := []) [] rfl ?_
      exact J35 Y70993 Iy70994 Xz70998 W70997 (by omega)
    · have h71014 : r71010.toInt ≠ 0 := ti_ne h71014
      replace hi71013 := hi71013.resolve_left (by omega)
      refine g_aload_n C dX12_right_25 rfl 0 rfl ?_
      refine g_iload_n C dX12_right_26 rfl 1 rfl ?_
      refine g_iload_n C dX12_right_27 rfl 2 rfl ?_
      refine g_iload_n C dX12_right_28 rfl 3 rfl ?_
      refine g_callVI (rest := []) C mv_X12_364 [.int a1, .int a2, .int a3] (s_X12_findSlipped Iy70994 (by omega) (by omega) (by omega) (fun b9 e9 => by rw [e71007] at e9; cases e9; show 1 ≤ (pI Y70993 b71006 (a2.toInt.toNat)).toInt ∧ (pI Y70993 b71006 (a2.toInt.toNat)).toInt ≤ 16; omega) W70997) (h70999).1 (h70999).2 rfl rfl (by decide) (Nat.le_of_ble_eq_true rfl) (by decide) dX12_right_29 (fun r71015 Y71016 h71017 => ?_)
      obtain ⟨Iy71018, Xy71019, W71020, h71017⟩ := h71017
      have q71021 := Xy71019.keepF 0 (by decide)
      have q71022 := Xy71019.keepA e71007 (by decide) rfl (a2.toInt.toNat)
      have Xz71023 : EM [0, 28, 29, 30, 31, 32, 35, 36, 37, 38, 39, 40] a0 P Y71016 := EM.tr ha0 Xz70998 (Xy71019.mono (by decide))
      have e71024 := Xy71019.ref h70999 (by decide) e71007
      have h71025 := Xy71019.at h70999
      have h71026 := Xy71019.ar h71008
      have h71017 : 0 ≤ r71015.toInt ∧ r71015.toInt ≤ 1 := h71017
      refine b_if_ne C 37 dX12_right_32 (by decide) (fun h71027 => ?_) (fun h71027 => ?_)
      · have h71027 : r71015.toInt ≠ 0 := ti_ne h71027
        refine g_iconst (v := (-1)) C dX12_right_37 (by decide) ?_
        refine g_istore (lv' := [(5, .int (-1)), (0, .ref a0), (1, .int a1), (2, .int a2), (3, .int a3), (4, .int a4)]) C dX12_right_38 (by decide) rfl ?_
        refine g_iconst (v := 0) C dX12_right_40 (by decide) ?_
        refine g_istore (lv' := [(6, .int 0), (5, .int (-1)), (0, .ref a0), (1, .int a1), (2, .int a2), (3, .int a3), (4, .int a4)]) C dX12_right_41 (by decide) rfl ?_
        refine g_lv (lv' := [(0, .ref a0), (1, .int a1), (2, .int a2), (3, .int a3), (4, .int a4), (5, .int (-1)), (6, .int 0)]) [2, 3, 4, 5, 6, 1, 0] rfl ?_
        exact J43 _ Y71016 (-1) 0 (Nat.lt_succ_self _) Iy71018 Xz71023 W71020 (by omega) (by omega) (by omega) (by omega) (by decide) (by omega) (fun b9 e9 => by rw [e71024] at e9; cases e9; omega)
      · have h71027 : r71015.toInt = 0 := congrArg Int32.toInt h71027
        refine g_lv (lv' := []) [] rfl ?_
        exact J35 Y71016 Iy71018 Xz71023 W71020 (by omega)
theorem dX12_scatter_0 : decode cX12_scatter 0 = .ok (.aload_n 0, 1) := by decide +kernel
theorem dX12_scatter_1 : decode cX12_scatter 1 = .ok (.iconst 0, 1) := by decide +kernel
theorem dX12_scatter_2 : decode cX12_scatter 2 = .ok (.putfield 1, 3) := by decide +kernel
theorem dX12_scatter_5 : decode cX12_scatter 5 = .ok (.aload_n 0, 1) := by decide +kernel
theorem dX12_scatter_6 : decode cX12_scatter 6 = .ok (.iload_n 1, 1) := by decide +kernel
theorem dX12_scatter_7 : decode cX12_scatter 7 = .ok (.invokevirtual 192, 3) := by decide +kernel
theorem dX12_scatter_10 : decode cX12_scatter 10 = .ok (.ifCond .eq 30, 3) := by decide +kernel
theorem dX12_scatter_13 : decode cX12_scatter 13 = .ok (.iload_n 2, 1) := by decide +kernel
theorem dX12_scatter_14 : decode cX12_scatter 14 = .ok (.invokestatic 258, 3) := by decide +kernel
theorem dX12_scatter_17 : decode cX12_scatter 17 = .ok (.ifCond .eq 23, 3) := by decide +kernel
theorem dX12_scatter_20 : decode cX12_scatter 20 = .ok (.iload_n 3, 1) := by decide +kernel
theorem dX12_scatter_21 : decode cX12_scatter 21 = .ok (.invokestatic 258, 3) := by decide +kernel
theorem dX12_scatter_24 : decode cX12_scatter 24 = .ok (.ifCond .eq 16, 3) := by decide +kernel
theorem dX12_scatter_27 : decode cX12_scatter 27 = .ok (.iload_n 3, 1) := by decide +kernel
theorem dX12_scatter_28 : decode cX12_scatter 28 = .ok (.iload_n 2, 1) := by decide +kernel
theorem dX12_scatter_29 : decode cX12_scatter 29 = .ok (.if_icmp .lt 11, 3) := by decide +kernel
theorem dX12_scatter_32 : decode cX12_scatter 32 = .ok (.iload_n 3, 1) := by decide +kernel
theorem dX12_scatter_33 : decode cX12_scatter 33 = .ok (.iload_n 2, 1) := by decide +kernel
theorem dX12_scatter_34 : decode cX12_scatter 34 = .ok (.isub, 1) := by decide +kernel
theorem dX12_scatter_35 : decode cX12_scatter 35 = .ok (.bipush 99, 2) := by decide +kernel
theorem dX12_scatter_37 : decode cX12_scatter 37 = .ok (.if_icmp .le 5, 3) := by decide +kernel
theorem dX12_scatter_40 : decode cX12_scatter 40 = .ok (.iconst (-1), 1) := by decide +kernel
theorem dX12_scatter_41 : decode cX12_scatter 41 = .ok (.ireturn, 1) := by decide +kernel
theorem dX12_scatter_42 : decode cX12_scatter 42 = .ok (.iconst 0, 1) := by decide +kernel
theorem dX12_scatter_43 : decode cX12_scatter 43 = .ok (.istore 4, 2) := by decide +kernel
theorem dX12_scatter_45 : decode cX12_scatter 45 = .ok (.iload_n 2, 1) := by decide +kernel
theorem dX12_scatter_46 : decode cX12_scatter 46 = .ok (.istore 5, 2) := by decide +kernel
theorem dX12_scatter_48 : decode cX12_scatter 48 = .ok (.iload 5, 2) := by decide +kernel
theorem dX12_scatter_50 : decode cX12_scatter 50 = .ok (.iload_n 3, 1) := by decide +kernel
theorem dX12_scatter_51 : decode cX12_scatter 51 = .ok (.if_icmp .gt 119, 3) := by decide +kernel
theorem dX12_scatter_54 : decode cX12_scatter 54 = .ok (.aload_n 0, 1) := by decide +kernel
theorem dX12_scatter_55 : decode cX12_scatter 55 = .ok (.iload_n 1, 1) := by decide +kernel
theorem dX12_scatter_56 : decode cX12_scatter 56 = .ok (.aload_n 0, 1) := by decide +kernel
theorem dX12_scatter_57 : decode cX12_scatter 57 = .ok (.iload_n 1, 1) := by decide +kernel
theorem dX12_scatter_58 : decode cX12_scatter 58 = .ok (.iload 5, 2) := by decide +kernel
theorem dX12_scatter_60 : decode cX12_scatter 60 = .ok (.invokevirtual 261, 3) := by decide +kernel
theorem dX12_scatter_63 : decode cX12_scatter 63 = .ok (.invokevirtual 223, 3) := by decide +kernel
theorem dX12_scatter_66 : decode cX12_scatter 66 = .ok (.istore 6, 2) := by decide +kernel
theorem dX12_scatter_68 : decode cX12_scatter 68 = .ok (.iconst 0, 1) := by decide +kernel
theorem dX12_scatter_69 : decode cX12_scatter 69 = .ok (.istore 7, 2) := by decide +kernel
theorem dX12_scatter_71 : decode cX12_scatter 71 = .ok (.iload 7, 2) := by decide +kernel
theorem dX12_scatter_73 : decode cX12_scatter 73 = .ok (.iconst 4, 1) := by decide +kernel
theorem dX12_scatter_74 : decode cX12_scatter 74 = .ok (.if_icmp .ge 90, 3) := by decide +kernel
theorem dX12_scatter_77 : decode cX12_scatter 77 = .ok (.aload_n 0, 1) := by decide +kernel
theorem dX12_scatter_78 : decode cX12_scatter 78 = .ok (.iload 7, 2) := by decide +kernel
theorem dX12_scatter_80 : decode cX12_scatter 80 = .ok (.iload_n 1, 1) := by decide +kernel
theorem dX12_scatter_81 : decode cX12_scatter 81 = .ok (.iload 5, 2) := by decide +kernel
theorem dX12_scatter_83 : decode cX12_scatter 83 = .ok (.invokevirtual 402, 3) := by decide +kernel
theorem dX12_scatter_86 : decode cX12_scatter 86 = .ok (.ifCond .eq 72, 3) := by decide +kernel
theorem dX12_scatter_89 : decode cX12_scatter 89 = .ok (.aload_n 0, 1) := by decide +kernel
theorem dX12_scatter_90 : decode cX12_scatter 90 = .ok (.getfield 69, 3) := by decide +kernel
theorem dX12_scatter_93 : decode cX12_scatter 93 = .ok (.iload 7, 2) := by decide +kernel
theorem dX12_scatter_95 : decode cX12_scatter 95 = .ok (.iaload, 1) := by decide +kernel
theorem dX12_scatter_96 : decode cX12_scatter 96 = .ok (.bipush 40, 2) := by decide +kernel
theorem dX12_scatter_98 : decode cX12_scatter 98 = .ok (.if_icmp .ge 60, 3) := by decide +kernel
theorem dX12_scatter_101 : decode cX12_scatter 101 = .ok (.aload_n 0, 1) := by decide +kernel
theorem dX12_scatter_102 : decode cX12_scatter 102 = .ok (.iload 7, 2) := by decide +kernel
theorem dX12_scatter_104 : decode cX12_scatter 104 = .ok (.iload_n 1, 1) := by decide +kernel
theorem dX12_scatter_105 : decode cX12_scatter 105 = .ok (.iload 5, 2) := by decide +kernel
theorem dX12_scatter_107 : decode cX12_scatter 107 = .ok (.iload 6, 2) := by decide +kernel
theorem dX12_scatter_109 : decode cX12_scatter 109 = .ok (.iconst 3, 1) := by decide +kernel
theorem dX12_scatter_110 : decode cX12_scatter 110 = .ok (.aload_n 0, 1) := by decide +kernel
theorem dX12_scatter_111 : decode cX12_scatter 111 = .ok (.iload_n 1, 1) := by decide +kernel
theorem dX12_scatter_112 : decode cX12_scatter 112 = .ok (.iload 5, 2) := by decide +kernel
theorem dX12_scatter_114 : decode cX12_scatter 114 = .ok (.iload 6, 2) := by decide +kernel
theorem dX12_scatter_116 : decode cX12_scatter 116 = .ok (.invokevirtual 267, 3) := by decide +kernel
theorem dX12_scatter_119 : decode cX12_scatter 119 = .ok (.invokevirtual 284, 3) := by decide +kernel
theorem dX12_scatter_122 : decode cX12_scatter 122 = .ok (.istore 8, 2) := by decide +kernel
theorem dX12_scatter_124 : decode cX12_scatter 124 = .ok (.aload_n 0, 1) := by decide +kernel
theorem dX12_scatter_125 : decode cX12_scatter 125 = .ok (.iload 7, 2) := by decide +kernel
theorem dX12_scatter_127 : decode cX12_scatter 127 = .ok (.bipush 40, 2) := by decide +kernel
theorem dX12_scatter_129 : decode cX12_scatter 129 = .ok (.iload 7, 2) := by decide +kernel
theorem dX12_scatter_131 : decode cX12_scatter 131 = .ok (.imul, 1) := by decide +kernel
theorem dX12_scatter_132 : decode cX12_scatter 132 = .ok (.iload 8, 2) := by decide +kernel
theorem dX12_scatter_134 : decode cX12_scatter 134 = .ok (.iadd, 1) := by decide +kernel
theorem dX12_scatter_135 : decode cX12_scatter 135 = .ok (.invokevirtual 405, 3) := by decide +kernel
theorem dX12_scatter_138 : decode cX12_scatter 138 = .ok (.ifCond .eq 17, 3) := by decide +kernel
theorem dX12_scatter_141 : decode cX12_scatter 141 = .ok (.aload_n 0, 1) := by decide +kernel
theorem dX12_scatter_142 : decode cX12_scatter 142 = .ok (.getfield 69, 3) := by decide +kernel
theorem dX12_scatter_145 : decode cX12_scatter 145 = .ok (.iload 7, 2) := by decide +kernel
theorem dX12_scatter_147 : decode cX12_scatter 147 = .ok (.dup2, 1) := by decide +kernel
theorem dX12_scatter_148 : decode cX12_scatter 148 = .ok (.iaload, 1) := by decide +kernel
theorem dX12_scatter_149 : decode cX12_scatter 149 = .ok (.iconst 1, 1) := by decide +kernel
theorem dX12_scatter_150 : decode cX12_scatter 150 = .ok (.isub, 1) := by decide +kernel
theorem dX12_scatter_151 : decode cX12_scatter 151 = .ok (.iastore, 1) := by decide +kernel
theorem dX12_scatter_152 : decode cX12_scatter 152 = .ok (.goto 6, 3) := by decide +kernel
theorem dX12_scatter_155 : decode cX12_scatter 155 = .ok (.iinc 4 1, 3) := by decide +kernel
theorem dX12_scatter_158 : decode cX12_scatter 158 = .ok (.iinc 7 1, 3) := by decide +kernel
theorem dX12_scatter_161 : decode cX12_scatter 161 = .ok (.goto (-90), 3) := by decide +kernel
theorem dX12_scatter_164 : decode cX12_scatter 164 = .ok (.iinc 5 1, 3) := by decide +kernel
theorem dX12_scatter_167 : decode cX12_scatter 167 = .ok (.goto (-119), 3) := by decide +kernel
theorem dX12_scatter_170 : decode cX12_scatter 170 = .ok (.iload 4, 2) := by decide +kernel
theorem dX12_scatter_172 : decode cX12_scatter 172 = .ok (.ireturn, 1) := by decide +kernel
set_option maxHeartbeats 4000000 in
set_option maxRecDepth 100000 in
theorem s_X12_scatter {P : PP} {a0 : Nat} {a1 : Int32} {a2 : Int32} {a3 : Int32} (I : IM P a0) (hW : MW P a0) : CtrI yX12_scatter cX12_scatter 9 (some Jvm.ClassFile.FieldType.int) ({ frames := 6, cells := 0, slots := 0, locals := 384 } : Room) 0 0 P [.ref a0, .int a1, .int a2, .int a3] (fun r P2 => IM P2 a0 ∧ EM [0, 20, 21, 22, 23, 24, 25] a0 P P2 ∧ MW P2 a0 ∧ (True)) := by
  refine enI (lv := [(0, .ref a0), (1, .int a1), (2, .int a2), (3, .int a3)]) (by decide) (Nat.le_of_ble_eq_true rfl) rfl (fun E D cy C Ci0 ret => ?_)
  have ha0 := I.2.1
  have J48 : ∀ (n48 : Nat) (P48 : PP) (v48_4 : Int32) (v48_5 : Int32), (10000 - v48_5.toInt).toNat < n48 → (IM P48 a0) → (EM [0, 20, 21, 22, 23, 24, 25] a0 P P48) → (MW P48 a0) → (0 ≤ a1.toInt ∧ a1.toInt ≤ 1) → (0 ≤ a3.toInt ∧ a3.toInt ≤ 9999) → (0 ≤ v48_5.toInt ∧ v48_5.toInt ≤ 10000) → (0 ≤ (pI P48 a0 0).toInt ∧ (pI P48 a0 0).toInt ≤ 0) → (∀ b, pR P48 a0 10 = some b → 1 ≤ (pI P48 b (a1.toInt.toNat)).toInt ∧ (pI P48 b (a1.toInt.toNat)).toInt ≤ 16) → G E ({ frames := 6, cells := 0, slots := 0, locals := 384 } : Room) D cy 9 P48 0 0 48 [(0, .ref a0), (1, .int a1), (3, .int a3), (4, .int v48_4), (5, .int v48_5)] [] := by
    intro n48
    induction n48 with
    | zero => intro P48 v48_4 v48_5 hm48 I48 X48 W48 hv48_1 hv48_3 hv48_5 hq48_0 hq48_1; omega
    | succ n48 ih48 =>
      intro P48 v48_4 v48_5 hm48 I48 X48 W48 hv48_1 hv48_3 hv48_5 hq48_0 hq48_1
      have h73876 := X48.at ha0
      obtain ⟨b73877, e73878, h73879⟩ := I48.fld (h73876) 10 13 2 rfl
      have hq48_1 := hq48_1 b73877 e73878
      have J71 : ∀ (n71 : Nat) (P71 : PP) (v71_4 : Int32) (v71_6 : Int32) (v71_7 : Int32), (4 - v71_7.toInt).toNat < n71 → (IM P71 a0) → (EM [0, 20, 21, 22, 23, 24, 25] a0 P P71) → (MW P71 a0) → (0 ≤ a1.toInt ∧ a1.toInt ≤ 1) → (0 ≤ a3.toInt ∧ a3.toInt ≤ 9999) → (0 ≤ v48_5.toInt ∧ v48_5.toInt ≤ 9999) → (0 ≤ v71_7.toInt ∧ v71_7.toInt ≤ 4) → (0 ≤ (pI P71 a0 0).toInt ∧ (pI P71 a0 0).toInt ≤ 0) → (∀ b, pR P71 a0 10 = some b → 1 ≤ (pI P71 b (a1.toInt.toNat)).toInt ∧ (pI P71 b (a1.toInt.toNat)).toInt ≤ 16) → G E ({ frames := 6, cells := 0, slots := 0, locals := 384 } : Room) D cy 9 P71 0 0 71 [(0, .ref a0), (1, .int a1), (3, .int a3), (4, .int v71_4), (5, .int v48_5), (6, .int v71_6), (7, .int v71_7)] [] := by
        intro n71
        induction n71 with
        | zero => intro P71 v71_4 v71_6 v71_7 hm71 I71 X71 W71 hv71_1 hv71_3 hv71_5 hv71_7 hq71_0 hq71_1; omega
        | succ n71 ih71 =>
          intro P71 v71_4 v71_6 v71_7 hm71 I71 X71 W71 hv71_1 hv71_3 hv71_5 hv71_7 hq71_0 hq71_1
          have h73880 := X71.at ha0
          obtain ⟨b73881, e73882, h73883⟩ := I71.fld (h73880) 10 13 2 rfl
          have hq71_1 := hq71_1 b73881 e73882
          have J158 : ∀ (P158 : PP) (v158_4 : Int32), (IM P158 a0) → (EM [0, 20, 21, 22, 23, 24, 25] a0 P P158) → (MW P158 a0) → (0 ≤ a1.toInt ∧ a1.toInt ≤ 1) → (0 ≤ a3.toInt ∧ a3.toInt ≤ 9999) → (0 ≤ v48_5.toInt ∧ v48_5.toInt ≤ 9999) → (0 ≤ v71_7.toInt ∧ v71_7.toInt ≤ 3) → (0 ≤ (pI P158 a0 0).toInt ∧ (pI P158 a0 0).toInt ≤ 0) → (∀ b, pR P158 a0 10 = some b → 1 ≤ (pI P158 b (a1.toInt.toNat)).toInt ∧ (pI P158 b (a1.toInt.toNat)).toInt ≤ 16) → G E ({ frames := 6, cells := 0, slots := 0, locals := 384 } : Room) D cy 9 P158 0 0 158 [(0, .ref a0), (1, .int a1), (3, .int a3), (4, .int v158_4), (5, .int v48_5), (6, .int v71_6), (7, .int v71_7)] [] := by
            intro P158 v158_4 I158 X158 W158 hv158_1 hv158_3 hv158_5 hv158_7 hq158_0 hq158_1
            have h73884 := X158.at ha0
            obtain ⟨b73885, e73886, h73887⟩ := I158.fld (h73884) 10 13 2 rfl
            have hq158_1 := hq158_1 b73885 e73886
            refine s_iinc (lv0 := [(0, .ref a0), (1, .int a1), (3, .int a3), (4, .int v158_4), (5, .int v48_5), (6, .int v71_6)]) (m := 1) C dX12_scatter_158 6 rfl (by decide) rfl (by decide) (by omega) (fun z73888 h73889 => ?_)
            have h73889 : z73888.toInt = v71_7.toInt + 1 := h73889
            refine g_goto C 71 dX12_scatter_161 (by decide) ?_
            refine g_lv (lv' := [(0, .ref a0), (1, .int a1), (3, .int a3), (4, .int v158_4), (5, .int v48_5), (6, .int v71_6), (7, .int z73888)]) [1, 2, 3, 4, 5, 6, 0] rfl ?_
            exact ih71 P158 v158_4 v71_6 z73888 (by omega) I158 X158 W158 (by omega) (by omega) (by omega) (by omega) (by omega) (fun b9 e9 => by rw [e73886] at e9; cases e9; omega)
          refine g_iload C dX12_scatter_71 6 rfl ?_
          refine g_iconst (v := 4) C dX12_scatter_73 (by decide) ?_
          refine b_icmp_ge C 164 dX12_scatter_74 (by decide) (fun h73890 => ?_) (fun h73890 => ?_)
          · have h73890 : 4 ≤ v71_7.toInt := h73890
            refine s_iinc (lv0 := [(0, .ref a0), (1, .int a1), (3, .int a3), (4, .int v71_4), (6, .int v71_6), (7, .int v71_7)]) (m := 1) C dX12_scatter_164 4 rfl (by decide) rfl (by decide) (by omega) (fun z73891 h73892 => ?_)
            have h73892 : z73891.toInt = v48_5.toInt + 1 := h73892
            refine g_goto C 48 dX12_scatter_167 (by decide) ?_
            refine g_lv (lv' := [(0, .ref a0), (1, .int a1), (3, .int a3), (4, .int v71_4), (5, .int z73891)]) [1, 2, 3, 4, 0] rfl ?_
            exact ih48 P71 v71_4 z73891 (by omega) I71 X71 W71 (by omega) (by omega) (by omega) (by omega) (fun b9 e9 => by rw [e73882] at e9; cases e9; omega)
          · have h73890 : v71_7.toInt < 4 := h73890
            refine g_aload_n C dX12_scatter_77 rfl 0 rfl ?_
            refine g_iload C dX12_scatter_78 6 rfl ?_
            refine g_iload_n C dX12_scatter_80 rfl 1 rfl ?_
            refine g_iload C dX12_scatter_81 4 rfl ?_
            refine g_callVI (rest := []) C mv_X12_402 [.int v71_7, .int a1, .int v48_5] (s_X12_falls I71 (by omega) W71) (h73880).1 (h73880).2 rfl rfl (by decide) (Nat.le_of_ble_eq_true rfl) (by decide) dX12_scatter_83 (fun r73893 Y73894 h73895 => ?_)
            obtain ⟨rfl, h73895⟩ := h73895
            have h73895 : 0 ≤ r73893.toInt ∧ r73893.toInt ≤ 1 := h73895
            refine b_if_eq C 158 dX12_scatter_86 (by decide) (fun h73896 => ?_) (fun h73896 => ?_)
            · have h73896 : r73893.toInt = 0 := congrArg Int32.toInt h73896
              exact J158 P71 v71_4 I71 X71 W71 (by omega) (by omega) (by omega) (by omega) (by omega) (fun b9 e9 => by rw [e73882] at e9; cases e9; omega)
            · have h73896 : r73893.toInt ≠ 0 := ti_ne h73896
              refine g_aload_n C dX12_scatter_89 rfl 0 rfl ?_
              obtain ⟨b73897, e73898, h73899⟩ := I71.fld (h73880) 20 13 20 rfl
              refine g_getR C fi_X12_69 rfl e73898 (h73880).1 (h73880).2 dX12_scatter_90 ?_
              refine g_iload C dX12_scatter_93 6 rfl ?_
              refine g_iald (j := (v71_7.toInt.toNat)) C h73899.1 h73899.2.1 (ix_in h73899.2.2 (by omega)) dX12_scatter_95 ?_
              have h73900 := I71.arr e73898 rfl (v71_7.toInt.toNat)
              refine g_bipush (v := 40) C dX12_scatter_96 (by decide) ?_
              refine b_icmp_ge C 158 dX12_scatter_98 (by decide) (fun h73901 => ?_) (fun h73901 => ?_)
              · have h73901 : 40 ≤ (pI P71 b73897 (v71_7.toInt.toNat)).toInt := h73901
                exact J158 P71 v71_4 I71 X71 W71 (by omega) (by omega) (by omega) (by omega) (by omega) (fun b9 e9 => by rw [e73882] at e9; cases e9; omega)
              · have h73901 : (pI P71 b73897 (v71_7.toInt.toNat)).toInt < 40 := h73901
                refine g_aload_n C dX12_scatter_101 rfl 0 rfl ?_
                refine g_iload C dX12_scatter_102 6 rfl ?_
                refine g_iload_n C dX12_scatter_104 rfl 1 rfl ?_
                refine g_iload C dX12_scatter_105 4 rfl ?_
                refine g_iload C dX12_scatter_107 5 rfl ?_
                refine g_iconst (v := 3) C dX12_scatter_109 (by decide) ?_
                refine g_aload_n C dX12_scatter_110 rfl 0 rfl ?_
                refine g_iload_n C dX12_scatter_111 rfl 1 rfl ?_
                refine g_iload C dX12_scatter_112 4 rfl ?_
                refine g_iload C dX12_scatter_114 5 rfl ?_
                refine g_callVI (rest := [.int 3, .int v71_6, .int v48_5, .int a1, .int v71_7, .ref a0]) C mv_X12_267 [.int a1, .int v48_5, .int v71_6] (s_X12_sealOf I71 (by omega) W71) (h73880).1 (h73880).2 rfl rfl (by decide) (Nat.le_of_ble_eq_true rfl) (by decide) dX12_scatter_116 (fun r73902 Y73903 h73904 => ?_)
                obtain ⟨rfl, h73904⟩ := h73904
                have h73904 : True := h73904
                refine g_callVI (rest := []) C mv_X12_284 [.int v71_7, .int a1, .int v48_5, .int v71_6, .int 3, .int r73902] (s_X12_lays I71 (by omega) (by omega) (fun b9 e9 => by rw [e73898] at e9; cases e9; show 0 ≤ (pI P71 b73897 (v71_7.toInt.toNat)).toInt ∧ (pI P71 b73897 (v71_7.toInt.toNat)).toInt ≤ 39; omega) W71 (fun c9 f9 _ => by rw [e73882] at f9; cases f9; show 0 < (pI P71 b73881 (a1.toInt.toNat)).toInt; omega)) (h73880).1 (h73880).2 rfl rfl (by decide) (Nat.le_of_ble_eq_true rfl) (by decide) dX12_scatter_119 (fun r73905 Y73906 h73907 => ?_)
                obtain ⟨Iy73908, Xy73909, W73910, p73911, h73907⟩ := h73907
                have p73911 := p73911 b73897 e73898
                have p73911 : (pI Y73906 b73897 (v71_7.toInt.toNat)).toInt = (pI P71 b73897 (v71_7.toInt.toNat)).toInt + 1 := p73911
                have q73912 := Xy73909.keepF 0 (by decide)
                have q73913 := Xy73909.keepA e73882 (by decide) rfl (a1.toInt.toNat)
                have Xz73914 : EM [0, 20, 21, 22, 23, 24, 25] a0 P Y73906 := EM.tr ha0 X71 (Xy73909.mono (by decide))
                have e73915 := Xy73909.ref h73880 (by decide) e73882
                have e73916 := Xy73909.ref h73880 (by decide) e73898
                have h73917 := Xy73909.at h73880
                have h73918 := Xy73909.ar h73883
                have h73919 := Xy73909.ar h73899
                have h73907 : 0 ≤ r73905.toInt ∧ r73905.toInt ≤ 39 := h73907
                refine g_istore (lv' := [(8, .int r73905), (0, .ref a0), (1, .int a1), (3, .int a3), (4, .int v71_4), (5, .int v48_5), (6, .int v71_6), (7, .int v71_7)]) C dX12_scatter_122 (by decide) rfl ?_
                refine g_aload_n C dX12_scatter_124 rfl 1 rfl ?_
                refine g_iload C dX12_scatter_125 7 rfl ?_
                refine g_bipush (v := 40) C dX12_scatter_127 (by decide) ?_
                refine g_iload C dX12_scatter_129 7 rfl ?_
                refine s_imul C dX12_scatter_131 (by show -2147483648 ≤ 40 * v71_7.toInt ∧ 40 * v71_7.toInt ≤ 2147483647; omega) (fun z73920 h73921 => ?_)
                have h73921 : z73920.toInt = 40 * v71_7.toInt := h73921
                refine g_iload C dX12_scatter_132 0 rfl ?_
                refine s_iadd C dX12_scatter_134 (by show -2147483648 ≤ z73920.toInt + r73905.toInt ∧ z73920.toInt + r73905.toInt ≤ 2147483647; omega) (fun z73922 h73923 => ?_)
                have h73923 : z73922.toInt = z73920.toInt + r73905.toInt := h73923
                refine g_callVI (rest := []) C mv_X12_405 [.int v71_7, .int z73922] (s_X12_hasAlike Iy73908 (by omega) (by omega) W73910) (h73917).1 (h73917).2 rfl rfl (by decide) (Nat.le_of_ble_eq_true rfl) (by decide) dX12_scatter_135 (fun r73924 Y73925 h73926 => ?_)
                obtain ⟨rfl, h73926⟩ := h73926
                have h73926 : 0 ≤ r73924.toInt ∧ r73924.toInt ≤ 1 := h73926
                refine b_if_eq C 155 dX12_scatter_138 (by decide) (fun h73927 => ?_) (fun h73927 => ?_)
                · have h73927 : r73924.toInt = 0 := congrArg Int32.toInt h73927
                  refine a_iinc (lv0 := [(8, .int r73905), (0, .ref a0), (1, .int a1), (3, .int a3), (5, .int v48_5), (6, .int v71_6), (7, .int v71_7)]) C dX12_scatter_155 4 rfl (by decide) rfl (fun z73928 => ?_)
                  refine g_lv (lv' := [(0, .ref a0), (1, .int a1), (3, .int a3), (4, .int z73928), (5, .int v48_5), (6, .int v71_6), (7, .int v71_7)]) [2, 3, 4, 0, 5, 6, 7] rfl ?_
                  exact J158 Y73906 z73928 Iy73908 Xz73914 W73910 (by omega) (by omega) (by omega) (by omega) (by omega) (fun b9 e9 => by rw [e73915] at e9; cases e9; omega)
                · have h73927 : r73924.toInt ≠ 0 := ti_ne h73927
                  refine g_aload_n C dX12_scatter_141 rfl 1 rfl ?_
                  refine g_getR C fi_X12_69 rfl e73916 (h73917).1 (h73917).2 dX12_scatter_142 ?_
                  refine g_iload C dX12_scatter_145 7 rfl ?_
                  refine g_dup2_11 C dX12_scatter_147 rfl rfl ?_
                  refine g_iald (j := (v71_7.toInt.toNat)) C h73919.1 h73919.2.1 (ix_in h73919.2.2 (by omega)) dX12_scatter_148 ?_
                  refine g_iconst (v := 1) C dX12_scatter_149 (by decide) ?_
                  refine s_isub C dX12_scatter_150 (by show -2147483648 ≤ (pI Y73906 b73897 (v71_7.toInt.toNat)).toInt - 1 ∧ (pI Y73906 b73897 (v71_7.toInt.toNat)).toInt - 1 ≤ 2147483647; omega) (fun z73930 h73931 => ?_)
                  have h73931 : z73930.toInt = (pI Y73906 b73897 (v71_7.toInt.toNat)).toInt - 1 := h73931
                  refine g_iast (j := (v71_7.toInt.toNat)) C h73919.1 h73919.2.1 (ix_in h73919.2.2 (by omega)) dX12_scatter_151 ?_
                  refine gqW (ks := [20]) (Iy73908.setA e73916 h73919 (by decide) (arOk.of rfl (by omega))) (EM.setA Iy73908 e73916 rfl (by decide)) (fun Y73932 Iy73933 Xy73934 w73935 => ?_)
                  have w73935 : (pI Y73932 b73897 (v71_7.toInt.toNat)).toInt = z73930.toInt := w73935
                  have q73936 := Xy73934.keepF 0 (by decide)
                  have q73937 := Xy73934.keepA e73915 (by decide) rfl (a1.toInt.toNat)
                  have W73938 := W73910.keep Iy73908 Xy73934 (by decide) (by decide) (by decide)
                  have Xz73939 : EM [0, 20, 21, 22, 23, 24, 25] a0 P Y73932 := EM.tr ha0 Xz73914 (Xy73934.mono (by decide))
                  have e73940 := Xy73934.ref h73917 (by decide) e73915
                  have e73941 := Xy73934.ref h73917 (by decide) e73916
                  have h73942 := Xy73934.at h73917
                  have h73943 := Xy73934.ar h73918
                  have h73944 := Xy73934.ar h73919
                  refine g_goto C 158 dX12_scatter_152 (by decide) ?_
                  refine g_lv (lv' := [(0, .ref a0), (1, .int a1), (3, .int a3), (4, .int v71_4), (5, .int v48_5), (6, .int v71_6), (7, .int v71_7)]) [1, 2, 3, 4, 5, 6, 7] rfl ?_
                  exact J158 Y73932 v71_4 Iy73933 Xz73939 W73938 (by omega) (by omega) (by omega) (by omega) (by omega) (fun b9 e9 => by rw [e73940] at e9; cases e9; omega)
      refine g_iload C dX12_scatter_48 4 rfl ?_
      refine g_iload_n C dX12_scatter_50 rfl 2 rfl ?_
      refine b_icmp_gt C 170 dX12_scatter_51 (by decide) (fun h73945 => ?_) (fun h73945 => ?_)
      · have h73945 : a3.toInt < v48_5.toInt := h73945
        refine g_iload C dX12_scatter_170 3 rfl ?_
        exact ret _ _ _ _ _ _ dX12_scatter_172 rfl (by decide) (by decide) ⟨I48, X48, W48, trivial⟩
      · have h73945 : v48_5.toInt ≤ a3.toInt := h73945
        refine g_aload_n C dX12_scatter_54 rfl 0 rfl ?_
        refine g_iload_n C dX12_scatter_55 rfl 1 rfl ?_
        refine g_aload_n C dX12_scatter_56 rfl 0 rfl ?_
        refine g_iload_n C dX12_scatter_57 rfl 1 rfl ?_
        refine g_iload C dX12_scatter_58 4 rfl ?_
        refine g_callVI (rest := [.int a1, .ref a0]) C mv_X12_261 [.int a1, .int v48_5] (s_X12_setOf I48 (by omega) (fun b9 e9 => by rw [e73878] at e9; cases e9; show 1 ≤ (pI P48 b73877 (a1.toInt.toNat)).toInt ∧ (pI P48 b73877 (a1.toInt.toNat)).toInt ≤ 16; omega) W48) (h73876).1 (h73876).2 rfl rfl (by decide) (Nat.le_of_ble_eq_true rfl) (by decide) dX12_scatter_60 (fun r73946 Y73947 h73948 => ?_)
        obtain ⟨Iy73949, Xy73950, W73951, h73948⟩ := h73948
        have q73952 := Xy73950.keepF 0 (by decide)
        have q73953 := Xy73950.keepA e73878 (by decide) rfl (a1.toInt.toNat)
        have Xz73954 : EM [0, 20, 21, 22, 23, 24, 25] a0 P Y73947 := EM.tr ha0 X48 (Xy73950.mono (by decide))
        have e73955 := Xy73950.ref h73876 (by decide) e73878
        have h73956 := Xy73950.at h73876
        have h73957 := Xy73950.ar h73879
        have h73948 : True := h73948
        refine g_callVI (rest := []) C mv_X12_223 [.int a1, .int r73946] (s_X12_sumOf Iy73949 (by omega) W73951) (h73956).1 (h73956).2 rfl rfl (by decide) (Nat.le_of_ble_eq_true rfl) (by decide) dX12_scatter_63 (fun r73958 Y73959 h73960 => ?_)
        obtain ⟨rfl, h73960⟩ := h73960
        have h73960 : True := h73960
        refine g_istore (lv' := [(6, .int r73958), (0, .ref a0), (1, .int a1), (3, .int a3), (4, .int v48_4), (5, .int v48_5)]) C dX12_scatter_66 (by decide) rfl ?_
        refine g_iconst (v := 0) C dX12_scatter_68 (by decide) ?_
        refine g_istore (lv' := [(7, .int 0), (6, .int r73958), (0, .ref a0), (1, .int a1), (3, .int a3), (4, .int v48_4), (5, .int v48_5)]) C dX12_scatter_69 (by decide) rfl ?_
        refine g_lv (lv' := [(0, .ref a0), (1, .int a1), (3, .int a3), (4, .int v48_4), (5, .int v48_5), (6, .int r73958), (7, .int 0)]) [2, 3, 4, 5, 6, 1, 0] rfl ?_
        exact J71 _ Y73947 v48_4 r73958 0 (Nat.lt_succ_self _) Iy73949 Xz73954 W73951 (by omega) (by omega) (by omega) (by decide) (by omega) (fun b9 e9 => by rw [e73955] at e9; cases e9; omega)
  have J40 : ∀ (P40 : PP), (IM P40 a0) → (EM [0, 20, 21, 22, 23, 24, 25] a0 P P40) → (MW P40 a0) → (0 ≤ (pI P40 a0 0).toInt ∧ (pI P40 a0 0).toInt ≤ 0) → G E ({ frames := 6, cells := 0, slots := 0, locals := 384 } : Room) D cy 9 P40 0 0 40 [] [] := by
    intro P40 I40 X40 W40 hq40_0
    have h73961 := X40.at ha0
    refine g_iconst (v := (-1)) C dX12_scatter_40 (by decide) ?_
    exact ret _ _ _ _ _ _ dX12_scatter_41 rfl (by decide) (by decide) ⟨I40, X40, W40, trivial⟩
  refine g_aload_n C dX12_scatter_0 rfl 0 rfl ?_
  refine g_iconst (v := 0) C dX12_scatter_1 (by decide) ?_
  refine g_putI C fi_X12_1 rfl (ha0).1 (ha0).2 dX12_scatter_2 ?_
  refine gqW (ks := [0]) (I.setI (rgOk.of rfl (by decide))) (EM.setI I (by decide)) (fun Y73962 Iy73963 Xy73964 w73965 => ?_)
  have w73965 : (pI Y73962 a0 0).toInt = 0 := w73965
  have W73966 := hW.keep I Xy73964 (by decide) (by decide) (by decide)
  have Xz73967 : EM [0, 20, 21, 22, 23, 24, 25] a0 P Y73962 := Xy73964.mono (by decide)
  have h73968 := Xy73964.at ha0
  refine g_aload_n C dX12_scatter_5 rfl 0 rfl ?_
  refine g_iload_n C dX12_scatter_6 rfl 1 rfl ?_
  refine g_callVI (rest := []) C mv_X12_192 [.int a1] (s_X12_isBook Iy73963 W73966) (h73968).1 (h73968).2 rfl rfl (by decide) (Nat.le_of_ble_eq_true rfl) (by decide) dX12_scatter_7 (fun r73969 Y73970 h73971 => ?_)
  obtain ⟨rfl, h73971⟩ := h73971
  obtain ⟨h73971, hi73972, hi73973⟩ := h73971
  have hi73972 : r73969.toInt = 0 ∨ (((0 : Int) ≤ a1.toInt ∧ a1.toInt ≤ (1 : Int))) := hi73972
  have h73971 : 0 ≤ r73969.toInt ∧ r73969.toInt ≤ 1 := h73971
  refine b_if_eq C 40 dX12_scatter_10 (by decide) (fun h73974 => ?_) (fun h73974 => ?_)
  · have h73974 : r73969.toInt = 0 := congrArg Int32.toInt h73974
    clear hi73972
    refine g_lv (lv' := []) [] rfl ?_
    exact J40 Y73962 Iy73963 Xz73967 W73966 (by omega)
  · have h73974 : r73969.toInt ≠ 0 := ti_ne h73974
    replace hi73972 := hi73972.resolve_left (by omega)
    obtain ⟨b73975, e73976, h73977⟩ := Iy73963.fld (h73968) 10 13 2 rfl
    have hi73973 := (hi73973.resolve_left (by omega)) b73975 e73976
    have hi73973 : 0 < (pI Y73962 b73975 (a1.toInt.toNat)).toInt := hi73973
    have h73978 := Iy73963.arr e73976 rfl (a1.toInt.toNat)
    refine g_iload_n C dX12_scatter_13 rfl 2 rfl ?_
    refine g_callSI (b := 0) (ci := 0) (rest := []) C ms_X12_258 [.int a2] (s_X12_isNumber Iy73963.1) rfl rfl (by decide) (Nat.le_of_ble_eq_true rfl) (by decide) dX12_scatter_14 (fun r73979 Y73980 h73981 => ?_)
    obtain ⟨rfl, h73981⟩ := h73981
    obtain ⟨h73981, hi73982⟩ := h73981
    have hi73982 : r73979.toInt = 0 ∨ (((0 : Int) ≤ a2.toInt ∧ a2.toInt ≤ (9999 : Int))) := hi73982
    have h73981 : 0 ≤ r73979.toInt ∧ r73979.toInt ≤ 1 := h73981
    refine b_if_eq C 40 dX12_scatter_17 (by decide) (fun h73983 => ?_) (fun h73983 => ?_)
    · have h73983 : r73979.toInt = 0 := congrArg Int32.toInt h73983
      clear hi73982
      refine g_lv (lv' := []) [] rfl ?_
      exact J40 Y73962 Iy73963 Xz73967 W73966 (by omega)
    · have h73983 : r73979.toInt ≠ 0 := ti_ne h73983
      replace hi73982 := hi73982.resolve_left (by omega)
      refine g_iload_n C dX12_scatter_20 rfl 3 rfl ?_
      refine g_callSI (b := 0) (ci := 0) (rest := []) C ms_X12_258 [.int a3] (s_X12_isNumber Iy73963.1) rfl rfl (by decide) (Nat.le_of_ble_eq_true rfl) (by decide) dX12_scatter_21 (fun r73984 Y73985 h73986 => ?_)
      obtain ⟨rfl, h73986⟩ := h73986
      obtain ⟨h73986, hi73987⟩ := h73986
      have hi73987 : r73984.toInt = 0 ∨ (((0 : Int) ≤ a3.toInt ∧ a3.toInt ≤ (9999 : Int))) := hi73987
      have h73986 : 0 ≤ r73984.toInt ∧ r73984.toInt ≤ 1 := h73986
      refine b_if_eq C 40 dX12_scatter_24 (by decide) (fun h73988 => ?_) (fun h73988 => ?_)
      · have h73988 : r73984.toInt = 0 := congrArg Int32.toInt h73988
        clear hi73987
        refine g_lv (lv' := []) [] rfl ?_
        exact J40 Y73962 Iy73963 Xz73967 W73966 (by omega)
      · have h73988 : r73984.toInt ≠ 0 := ti_ne h73988
        replace hi73987 := hi73987.resolve_left (by omega)
        refine g_iload_n C dX12_scatter_27 rfl 3 rfl ?_
        refine g_iload_n C dX12_scatter_28 rfl 2 rfl ?_
        refine b_icmp_lt C 40 dX12_scatter_29 (by decide) (fun h73989 => ?_) (fun h73989 => ?_)
        · have h73989 : a3.toInt < a2.toInt := h73989
          refine g_lv (lv' := []) [] rfl ?_
          exact J40 Y73962 Iy73963 Xz73967 W73966 (by omega)
        · have h73989 : a2.toInt ≤ a3.toInt := h73989
          refine g_iload_n C dX12_scatter_32 rfl 3 rfl ?_
          refine g_iload_n C dX12_scatter_33 rfl 2 rfl ?_
          refine s_isub C dX12_scatter_34 (by show -2147483648 ≤ a3.toInt - a2.toInt ∧ a3.toInt - a2.toInt ≤ 2147483647; omega) (fun z73990 h73991 => ?_)
          have h73991 : z73990.toInt = a3.toInt - a2.toInt := h73991
          refine g_bipush (v := 99) C dX12_scatter_35 (by decide) ?_
          refine b_icmp_le C 42 dX12_scatter_37 (by decide) (fun h73992 => ?_) (fun h73992 => ?_)
          · have h73992 : z73990.toInt ≤ 99 := h73992
            refine g_iconst (v := 0) C dX12_scatter_42 (by decide) ?_
            refine g_istore (lv' := [(4, .int 0), (0, .ref a0), (1, .int a1), (2, .int a2), (3, .int a3)]) C dX12_scatter_43 (by decide) rfl ?_
            refine g_iload_n C dX12_scatter_45 rfl 3 rfl ?_
            refine g_istore (lv' := [(5, .int a2), (4, .int 0), (0, .ref a0), (1, .int a1), (2, .int a2), (3, .int a3)]) C dX12_scatter_46 (by decide) rfl ?_
            refine g_lv (lv' := [(0, .ref a0), (1, .int a1), (3, .int a3), (4, .int 0), (5, .int a2)]) [2, 3, 5, 1, 0] rfl ?_
            exact J48 _ Y73962 0 a2 (Nat.lt_succ_self _) Iy73963 Xz73967 W73966 (by omega) (by omega) (by omega) (by omega) (fun b9 e9 => by rw [e73976] at e9; cases e9; omega)
          · have h73992 : 99 < z73990.toInt := h73992
            refine g_lv (lv' := []) [] rfl ?_
            exact J40 Y73962 Iy73963 Xz73967 W73966 (by omega)
theorem dX12_slip_0 : decode cX12_slip 0 = .ok (.aload_n 0, 1) := by decide +kernel
theorem dX12_slip_1 : decode cX12_slip 1 = .ok (.iconst 0, 1) := by decide +kernel
theorem dX12_slip_2 : decode cX12_slip 2 = .ok (.putfield 1, 3) := by decide +kernel
theorem dX12_slip_5 : decode cX12_slip 5 = .ok (.iload_n 1, 1) := by decide +kernel
theorem dX12_slip_6 : decode cX12_slip 6 = .ok (.invokestatic 278, 3) := by decide +kernel
theorem dX12_slip_9 : decode cX12_slip 9 = .ok (.ifCond .eq 40, 3) := by decide +kernel
theorem dX12_slip_12 : decode cX12_slip 12 = .ok (.aload_n 0, 1) := by decide +kernel
theorem dX12_slip_13 : decode cX12_slip 13 = .ok (.iload_n 2, 1) := by decide +kernel
theorem dX12_slip_14 : decode cX12_slip 14 = .ok (.invokevirtual 192, 3) := by decide +kernel
theorem dX12_slip_17 : decode cX12_slip 17 = .ok (.ifCond .eq 32, 3) := by decide +kernel
theorem dX12_slip_20 : decode cX12_slip 20 = .ok (.iload_n 3, 1) := by decide +kernel
theorem dX12_slip_21 : decode cX12_slip 21 = .ok (.invokestatic 258, 3) := by decide +kernel
theorem dX12_slip_24 : decode cX12_slip 24 = .ok (.ifCond .eq 25, 3) := by decide +kernel
theorem dX12_slip_27 : decode cX12_slip 27 = .ok (.iload 4, 2) := by decide +kernel
theorem dX12_slip_29 : decode cX12_slip 29 = .ok (.iconst 1, 1) := by decide +kernel
theorem dX12_slip_30 : decode cX12_slip 30 = .ok (.ldc 195, 2) := by decide +kernel
theorem dX12_slip_32 : decode cX12_slip 32 = .ok (.invokestatic 178, 3) := by decide +kernel
theorem dX12_slip_35 : decode cX12_slip 35 = .ok (.ifCond .eq 14, 3) := by decide +kernel
theorem dX12_slip_38 : decode cX12_slip 38 = .ok (.aload_n 0, 1) := by decide +kernel
theorem dX12_slip_39 : decode cX12_slip 39 = .ok (.getfield 69, 3) := by decide +kernel
theorem dX12_slip_42 : decode cX12_slip 42 = .ok (.iload_n 1, 1) := by decide +kernel
theorem dX12_slip_43 : decode cX12_slip 43 = .ok (.iaload, 1) := by decide +kernel
theorem dX12_slip_44 : decode cX12_slip 44 = .ok (.bipush 40, 2) := by decide +kernel
theorem dX12_slip_46 : decode cX12_slip 46 = .ok (.if_icmp .ne 5, 3) := by decide +kernel
theorem dX12_slip_49 : decode cX12_slip 49 = .ok (.iconst (-1), 1) := by decide +kernel
theorem dX12_slip_50 : decode cX12_slip 50 = .ok (.ireturn, 1) := by decide +kernel
theorem dX12_slip_51 : decode cX12_slip 51 = .ok (.aload_n 0, 1) := by decide +kernel
theorem dX12_slip_52 : decode cX12_slip 52 = .ok (.iload_n 2, 1) := by decide +kernel
theorem dX12_slip_53 : decode cX12_slip 53 = .ok (.aload_n 0, 1) := by decide +kernel
theorem dX12_slip_54 : decode cX12_slip 54 = .ok (.iload_n 2, 1) := by decide +kernel
theorem dX12_slip_55 : decode cX12_slip 55 = .ok (.iload_n 3, 1) := by decide +kernel
theorem dX12_slip_56 : decode cX12_slip 56 = .ok (.invokevirtual 261, 3) := by decide +kernel
theorem dX12_slip_59 : decode cX12_slip 59 = .ok (.invokevirtual 223, 3) := by decide +kernel
theorem dX12_slip_62 : decode cX12_slip 62 = .ok (.istore 5, 2) := by decide +kernel
theorem dX12_slip_64 : decode cX12_slip 64 = .ok (.aload_n 0, 1) := by decide +kernel
theorem dX12_slip_65 : decode cX12_slip 65 = .ok (.iload_n 1, 1) := by decide +kernel
theorem dX12_slip_66 : decode cX12_slip 66 = .ok (.iload_n 2, 1) := by decide +kernel
theorem dX12_slip_67 : decode cX12_slip 67 = .ok (.iload_n 3, 1) := by decide +kernel
theorem dX12_slip_68 : decode cX12_slip 68 = .ok (.iload 5, 2) := by decide +kernel
theorem dX12_slip_70 : decode cX12_slip 70 = .ok (.iload 4, 2) := by decide +kernel
theorem dX12_slip_72 : decode cX12_slip 72 = .ok (.ixor, 1) := by decide +kernel
theorem dX12_slip_73 : decode cX12_slip 73 = .ok (.aload_n 0, 1) := by decide +kernel
theorem dX12_slip_74 : decode cX12_slip 74 = .ok (.iload_n 2, 1) := by decide +kernel
theorem dX12_slip_75 : decode cX12_slip 75 = .ok (.iload_n 3, 1) := by decide +kernel
theorem dX12_slip_76 : decode cX12_slip 76 = .ok (.iload 5, 2) := by decide +kernel
theorem dX12_slip_78 : decode cX12_slip 78 = .ok (.invokevirtual 267, 3) := by decide +kernel
theorem dX12_slip_81 : decode cX12_slip 81 = .ok (.invokevirtual 291, 3) := by decide +kernel
theorem dX12_slip_84 : decode cX12_slip 84 = .ok (.ireturn, 1) := by decide +kernel
set_option maxHeartbeats 4000000 in
set_option maxRecDepth 100000 in
theorem s_X12_slip {P : PP} {a0 : Nat} {a1 : Int32} {a2 : Int32} {a3 : Int32} {a4 : Int32} (I : IM P a0) (hW : MW P a0) : CtrI yX12_slip cX12_slip 6 (some Jvm.ClassFile.FieldType.int) ({ frames := 6, cells := 0, slots := 0, locals := 384 } : Room) 0 0 P [.ref a0, .int a1, .int a2, .int a3, .int a4] (fun r P2 => IM P2 a0 ∧ EM [0, 20, 21, 22, 23, 24, 25, 27] a0 P P2 ∧ MW P2 a0 ∧ (-1 ≤ r.toInt ∧ r.toInt ≤ 39)) := by
  refine enI (lv := [(0, .ref a0), (1, .int a1), (2, .int a2), (3, .int a3), (4, .int a4)]) (by decide) (Nat.le_of_ble_eq_true rfl) rfl (fun E D cy C Ci0 ret => ?_)
  have ha0 := I.2.1
  have J49 : ∀ (P49 : PP), (IM P49 a0) → (EM [0, 20, 21, 22, 23, 24, 25, 27] a0 P P49) → (MW P49 a0) → (0 ≤ (pI P49 a0 0).toInt ∧ (pI P49 a0 0).toInt ≤ 0) → G E ({ frames := 6, cells := 0, slots := 0, locals := 384 } : Room) D cy 6 P49 0 0 49 [] [] := by
    intro P49 I49 X49 W49 hq49_0
    have h74066 := X49.at ha0
    refine g_iconst (v := (-1)) C dX12_slip_49 (by decide) ?_
    exact ret _ _ _ _ _ _ dX12_slip_50 rfl (by decide) (by decide) ⟨I49, X49, W49, (by decide)⟩
  refine g_aload_n C dX12_slip_0 rfl 0 rfl ?_
  refine g_iconst (v := 0) C dX12_slip_1 (by decide) ?_
  refine g_putI C fi_X12_1 rfl (ha0).1 (ha0).2 dX12_slip_2 ?_
  refine gqW (ks := [0]) (I.setI (rgOk.of rfl (by decide))) (EM.setI I (by decide)) (fun Y74067 Iy74068 Xy74069 w74070 => ?_)
  have w74070 : (pI Y74067 a0 0).toInt = 0 := w74070
  have W74071 := hW.keep I Xy74069 (by decide) (by decide) (by decide)
  have Xz74072 : EM [0, 20, 21, 22, 23, 24, 25, 27] a0 P Y74067 := Xy74069.mono (by decide)
  have h74073 := Xy74069.at ha0
  refine g_iload_n C dX12_slip_5 rfl 1 rfl ?_
  refine g_callSI (b := 0) (ci := 0) (rest := []) C ms_X12_278 [.int a1] (s_X12_isQuarter Iy74068.1) rfl rfl (by decide) (Nat.le_of_ble_eq_true rfl) (by decide) dX12_slip_6 (fun r74074 Y74075 h74076 => ?_)
  obtain ⟨rfl, h74076⟩ := h74076
  obtain ⟨h74076, hi74077⟩ := h74076
  have hi74077 : r74074.toInt = 0 ∨ (((0 : Int) ≤ a1.toInt ∧ a1.toInt ≤ (3 : Int))) := hi74077
  have h74076 : 0 ≤ r74074.toInt ∧ r74074.toInt ≤ 1 := h74076
  refine b_if_eq C 49 dX12_slip_9 (by decide) (fun h74078 => ?_) (fun h74078 => ?_)
  · have h74078 : r74074.toInt = 0 := congrArg Int32.toInt h74078
    clear hi74077
    refine g_lv (lv' := []) [] rfl ?_
    exact J49 Y74067 Iy74068 Xz74072 W74071 (by omega)
  · have h74078 : r74074.toInt ≠ 0 := ti_ne h74078
    replace hi74077 := hi74077.resolve_left (by omega)
    refine g_aload_n C dX12_slip_12 rfl 0 rfl ?_
    refine g_iload_n C dX12_slip_13 rfl 2 rfl ?_
    refine g_callVI (rest := []) C mv_X12_192 [.int a2] (s_X12_isBook Iy74068 W74071) (h74073).1 (h74073).2 rfl rfl (by decide) (Nat.le_of_ble_eq_true rfl) (by decide) dX12_slip_14 (fun r74079 Y74080 h74081 => ?_)
    obtain ⟨rfl, h74081⟩ := h74081
    obtain ⟨h74081, hi74082, hi74083⟩ := h74081
    have hi74082 : r74079.toInt = 0 ∨ (((0 : Int) ≤ a2.toInt ∧ a2.toInt ≤ (1 : Int))) := hi74082
    have h74081 : 0 ≤ r74079.toInt ∧ r74079.toInt ≤ 1 := h74081
    refine b_if_eq C 49 dX12_slip_17 (by decide) (fun h74084 => ?_) (fun h74084 => ?_)
    · have h74084 : r74079.toInt = 0 := congrArg Int32.toInt h74084
      clear hi74082
      refine g_lv (lv' := []) [] rfl ?_
      exact J49 Y74067 Iy74068 Xz74072 W74071 (by omega)
    · have h74084 : r74079.toInt ≠ 0 := ti_ne h74084
      replace hi74082 := hi74082.resolve_left (by omega)
      obtain ⟨b74085, e74086, h74087⟩ := Iy74068.fld (h74073) 10 13 2 rfl
      have hi74083 := (hi74083.resolve_left (by omega)) b74085 e74086
      have hi74083 : 0 < (pI Y74067 b74085 (a2.toInt.toNat)).toInt := hi74083
      have h74088 := Iy74068.arr e74086 rfl (a2.toInt.toNat)
      refine g_iload_n C dX12_slip_20 rfl 3 rfl ?_
      refine g_callSI (b := 0) (ci := 0) (rest := []) C ms_X12_258 [.int a3] (s_X12_isNumber Iy74068.1) rfl rfl (by decide) (Nat.le_of_ble_eq_true rfl) (by decide) dX12_slip_21 (fun r74089 Y74090 h74091 => ?_)
      obtain ⟨rfl, h74091⟩ := h74091
      obtain ⟨h74091, hi74092⟩ := h74091
      have hi74092 : r74089.toInt = 0 ∨ (((0 : Int) ≤ a3.toInt ∧ a3.toInt ≤ (9999 : Int))) := hi74092
      have h74091 : 0 ≤ r74089.toInt ∧ r74089.toInt ≤ 1 := h74091
      refine b_if_eq C 49 dX12_slip_24 (by decide) (fun h74093 => ?_) (fun h74093 => ?_)
      · have h74093 : r74089.toInt = 0 := congrArg Int32.toInt h74093
        clear hi74092
        refine g_lv (lv' := []) [] rfl ?_
        exact J49 Y74067 Iy74068 Xz74072 W74071 (by omega)
      · have h74093 : r74089.toInt ≠ 0 := ti_ne h74093
        replace hi74092 := hi74092.resolve_left (by omega)
        refine g_iload C dX12_slip_27 4 rfl ?_
        refine g_iconst (v := 1) C dX12_slip_29 (by decide) ?_
        refine g_ldc (v := 65535) C kc_X12_195 dX12_slip_30 ?_
        refine g_callSI (b := 0) (ci := 0) (rest := []) C ms_X12_178 [.int a4, .int 1, .int 65535] (s_X12_within Iy74068.1) rfl rfl (by decide) (Nat.le_of_ble_eq_true rfl) (by decide) dX12_slip_32 (fun r74094 Y74095 h74096 => ?_)
        obtain ⟨rfl, h74096⟩ := h74096
        obtain ⟨h74096, hi74097⟩ := h74096
        have hi74097 : r74094.toInt = 0 ∨ (1 ≤ a4.toInt ∧ a4.toInt ≤ 65535) := hi74097
        have h74096 : 0 ≤ r74094.toInt ∧ r74094.toInt ≤ 1 := h74096
        refine b_if_eq C 49 dX12_slip_35 (by decide) (fun h74098 => ?_) (fun h74098 => ?_)
        · have h74098 : r74094.toInt = 0 := congrArg Int32.toInt h74098
          clear hi74097
          refine g_lv (lv' := []) [] rfl ?_
          exact J49 Y74067 Iy74068 Xz74072 W74071 (by omega)
        · have h74098 : r74094.toInt ≠ 0 := ti_ne h74098
          replace hi74097 := hi74097.resolve_left (by omega)
          refine g_aload_n C dX12_slip_38 rfl 0 rfl ?_
          obtain ⟨b74099, e74100, h74101⟩ := Iy74068.fld (h74073) 20 13 20 rfl
          refine g_getR C fi_X12_69 rfl e74100 (h74073).1 (h74073).2 dX12_slip_39 ?_
          refine g_iload_n C dX12_slip_42 rfl 1 rfl ?_
          refine g_iald (j := (a1.toInt.toNat)) C h74101.1 h74101.2.1 (ix_in h74101.2.2 (by omega)) dX12_slip_43 ?_
          have h74102 := Iy74068.arr e74100 rfl (a1.toInt.toNat)
          refine g_bipush (v := 40) C dX12_slip_44 (by decide) ?_
          refine b_icmp_ne C 51 dX12_slip_46 (by decide) (fun h74103 => ?_) (fun h74103 => ?_)
          · have h74103 : (pI Y74067 b74099 (a1.toInt.toNat)).toInt ≠ 40 := ti_ne h74103
            refine g_aload_n C dX12_slip_51 rfl 0 rfl ?_
            refine g_iload_n C dX12_slip_52 rfl 2 rfl ?_
            refine g_aload_n C dX12_slip_53 rfl 0 rfl ?_
            refine g_iload_n C dX12_slip_54 rfl 2 rfl ?_
            refine g_iload_n C dX12_slip_55 rfl 3 rfl ?_
            refine g_callVI (rest := [.int a2, .ref a0]) C mv_X12_261 [.int a2, .int a3] (s_X12_setOf Iy74068 (by omega) (fun b9 e9 => by rw [e74086] at e9; cases e9; show 1 ≤ (pI Y74067 b74085 (a2.toInt.toNat)).toInt ∧ (pI Y74067 b74085 (a2.toInt.toNat)).toInt ≤ 16; omega) W74071) (h74073).1 (h74073).2 rfl rfl (by decide) (Nat.le_of_ble_eq_true rfl) (by decide) dX12_slip_56 (fun r74104 Y74105 h74106 => ?_)
            obtain ⟨Iy74107, Xy74108, W74109, h74106⟩ := h74106
            have q74110 := Xy74108.keepF 0 (by decide)
            have q74111 := Xy74108.keepA e74086 (by decide) rfl (a2.toInt.toNat)
            have q74112 := Xy74108.keepA e74100 (by decide) rfl (a1.toInt.toNat)
            have Xz74113 : EM [0, 20, 21, 22, 23, 24, 25, 27] a0 P Y74105 := EM.tr ha0 Xz74072 (Xy74108.mono (by decide))
            have e74114 := Xy74108.ref h74073 (by decide) e74086
            have e74115 := Xy74108.ref h74073 (by decide) e74100
            have h74116 := Xy74108.at h74073
            have h74117 := Xy74108.ar h74087
            have h74118 := Xy74108.ar h74101
            have h74106 : True := h74106
            refine g_callVI (rest := []) C mv_X12_223 [.int a2, .int r74104] (s_X12_sumOf Iy74107 (by omega) W74109) (h74116).1 (h74116).2 rfl rfl (by decide) (Nat.le_of_ble_eq_true rfl) (by decide) dX12_slip_59 (fun r74119 Y74120 h74121 => ?_)
            obtain ⟨rfl, h74121⟩ := h74121
            have h74121 : True := h74121
            refine g_istore (lv' := [(5, .int r74119), (0, .ref a0), (1, .int a1), (2, .int a2), (3, .int a3), (4, .int a4)]) C dX12_slip_62 (by decide) rfl ?_
            refine g_aload_n C dX12_slip_64 rfl 1 rfl ?_
            refine g_iload_n C dX12_slip_65 rfl 2 rfl ?_
            refine g_iload_n C dX12_slip_66 rfl 3 rfl ?_
            refine g_iload_n C dX12_slip_67 rfl 4 rfl ?_
            refine g_iload C dX12_slip_68 0 rfl ?_
            refine g_iload C dX12_slip_70 5 rfl ?_
            refine a_ixor C dX12_slip_72 (fun z74122 => ?_)
            refine g_aload_n C dX12_slip_73 rfl 1 rfl ?_
            refine g_iload_n C dX12_slip_74 rfl 3 rfl ?_
            refine g_iload_n C dX12_slip_75 rfl 4 rfl ?_
            refine g_iload C dX12_slip_76 0 rfl ?_
            refine g_callVI (rest := [.int z74122, .int a3, .int a2, .int a1, .ref a0]) C mv_X12_267 [.int a2, .int a3, .int r74119] (s_X12_sealOf Iy74107 (by omega) W74109) (h74116).1 (h74116).2 rfl rfl (by decide) (Nat.le_of_ble_eq_true rfl) (by decide) dX12_slip_78 (fun r74124 Y74125 h74126 => ?_)
            obtain ⟨rfl, h74126⟩ := h74126
            have h74126 : True := h74126
            refine g_callVI (rest := []) C mv_X12_291 [.int a1, .int a2, .int a3, .int z74122, .int r74124] (s_X12_laysIf Iy74107 (by omega) (by omega) (fun b9 e9 => by rw [e74114] at e9; cases e9; show 1 ≤ (pI Y74105 b74085 (a2.toInt.toNat)).toInt ∧ (pI Y74105 b74085 (a2.toInt.toNat)).toInt ≤ 16; omega) (fun b9 e9 => by rw [e74115] at e9; cases e9; show 0 ≤ (pI Y74105 b74099 (a1.toInt.toNat)).toInt ∧ (pI Y74105 b74099 (a1.toInt.toNat)).toInt ≤ 39; omega) W74109) (h74116).1 (h74116).2 rfl rfl (by decide) (Nat.le_of_ble_eq_true rfl) (by decide) dX12_slip_81 (fun r74127 Y74128 h74129 => ?_)
            obtain ⟨Iy74130, Xy74131, W74132, h74129⟩ := h74129
            have q74133 := Xy74131.keepF 0 (by decide)
            have q74134 := Xy74131.keepA e74114 (by decide) rfl (a2.toInt.toNat)
            have Xz74135 : EM [0, 20, 21, 22, 23, 24, 25, 27] a0 P Y74128 := EM.tr ha0 Xz74113 (Xy74131.mono (by decide))
            have e74136 := Xy74131.ref h74116 (by decide) e74114
            have h74137 := Xy74131.at h74116
            have h74138 := Xy74131.ar h74117
            have h74129 : -1 ≤ r74127.toInt ∧ r74127.toInt ≤ 39 := h74129
            exact ret _ _ _ _ _ _ dX12_slip_84 rfl (by decide) (by decide) ⟨Iy74130, Xz74135, W74132, (by omega)⟩
          · have h74103 : (pI Y74067 b74099 (a1.toInt.toNat)).toInt = 40 := congrArg Int32.toInt h74103
            refine g_lv (lv' := []) [] rfl ?_
            exact J49 Y74067 Iy74068 Xz74072 W74071 (by omega)
theorem dX12_slipped_0 : decode cX12_slipped 0 = .ok (.aload_n 0, 1) := by decide +kernel
theorem dX12_slipped_1 : decode cX12_slipped 1 = .ok (.iconst 0, 1) := by decide +kernel
theorem dX12_slipped_2 : decode cX12_slipped 2 = .ok (.putfield 1, 3) := by decide +kernel
theorem dX12_slipped_5 : decode cX12_slipped 5 = .ok (.aload_n 0, 1) := by decide +kernel
theorem dX12_slipped_6 : decode cX12_slipped 6 = .ok (.iload_n 1, 1) := by decide +kernel
theorem dX12_slipped_7 : decode cX12_slipped 7 = .ok (.iload_n 2, 1) := by decide +kernel
theorem dX12_slipped_8 : decode cX12_slipped 8 = .ok (.iload_n 3, 1) := by decide +kernel
theorem dX12_slipped_9 : decode cX12_slipped 9 = .ok (.invokevirtual 333, 3) := by decide +kernel
theorem dX12_slipped_12 : decode cX12_slipped 12 = .ok (.ifCond .eq 23, 3) := by decide +kernel
theorem dX12_slipped_15 : decode cX12_slipped 15 = .ok (.iload 4, 2) := by decide +kernel
theorem dX12_slipped_17 : decode cX12_slipped 17 = .ok (.iconst 0, 1) := by decide +kernel
theorem dX12_slipped_18 : decode cX12_slipped 18 = .ok (.iconst 2, 1) := by decide +kernel
theorem dX12_slipped_19 : decode cX12_slipped 19 = .ok (.invokestatic 178, 3) := by decide +kernel
theorem dX12_slipped_22 : decode cX12_slipped 22 = .ok (.ifCond .eq 13, 3) := by decide +kernel
theorem dX12_slipped_25 : decode cX12_slipped 25 = .ok (.aload_n 0, 1) := by decide +kernel
theorem dX12_slipped_26 : decode cX12_slipped 26 = .ok (.iload_n 1, 1) := by decide +kernel
theorem dX12_slipped_27 : decode cX12_slipped 27 = .ok (.iload_n 2, 1) := by decide +kernel
theorem dX12_slipped_28 : decode cX12_slipped 28 = .ok (.iload_n 3, 1) := by decide +kernel
theorem dX12_slipped_29 : decode cX12_slipped 29 = .ok (.invokevirtual 364, 3) := by decide +kernel
theorem dX12_slipped_32 : decode cX12_slipped 32 = .ok (.ifCond .ne 5, 3) := by decide +kernel
theorem dX12_slipped_35 : decode cX12_slipped 35 = .ok (.iconst (-1), 1) := by decide +kernel
theorem dX12_slipped_36 : decode cX12_slipped 36 = .ok (.ireturn, 1) := by decide +kernel
theorem dX12_slipped_37 : decode cX12_slipped 37 = .ok (.iload 4, 2) := by decide +kernel
theorem dX12_slipped_39 : decode cX12_slipped 39 = .ok (.ifCond .ne 10, 3) := by decide +kernel
theorem dX12_slipped_42 : decode cX12_slipped 42 = .ok (.aload_n 0, 1) := by decide +kernel
theorem dX12_slipped_43 : decode cX12_slipped 43 = .ok (.getfield 361, 3) := by decide +kernel
theorem dX12_slipped_46 : decode cX12_slipped 46 = .ok (.goto 42, 3) := by decide +kernel
theorem dX12_slipped_49 : decode cX12_slipped 49 = .ok (.iload 4, 2) := by decide +kernel
theorem dX12_slipped_51 : decode cX12_slipped 51 = .ok (.iconst 2, 1) := by decide +kernel
theorem dX12_slipped_52 : decode cX12_slipped 52 = .ok (.if_icmp .ne 19, 3) := by decide +kernel
theorem dX12_slipped_55 : decode cX12_slipped 55 = .ok (.aload_n 0, 1) := by decide +kernel
theorem dX12_slipped_56 : decode cX12_slipped 56 = .ok (.getfield 361, 3) := by decide +kernel
theorem dX12_slipped_59 : decode cX12_slipped 59 = .ok (.iconst 1, 1) := by decide +kernel
theorem dX12_slipped_60 : decode cX12_slipped 60 = .ok (.if_icmp .ne 7, 3) := by decide +kernel
theorem dX12_slipped_63 : decode cX12_slipped 63 = .ok (.iconst 1, 1) := by decide +kernel
theorem dX12_slipped_64 : decode cX12_slipped 64 = .ok (.goto 24, 3) := by decide +kernel
theorem dX12_slipped_67 : decode cX12_slipped 67 = .ok (.iconst 0, 1) := by decide +kernel
theorem dX12_slipped_68 : decode cX12_slipped 68 = .ok (.goto 20, 3) := by decide +kernel
theorem dX12_slipped_71 : decode cX12_slipped 71 = .ok (.aload_n 0, 1) := by decide +kernel
theorem dX12_slipped_72 : decode cX12_slipped 72 = .ok (.getfield 361, 3) := by decide +kernel
theorem dX12_slipped_75 : decode cX12_slipped 75 = .ok (.ifCond .ne 7, 3) := by decide +kernel
theorem dX12_slipped_78 : decode cX12_slipped 78 = .ok (.iconst (-1), 1) := by decide +kernel
theorem dX12_slipped_79 : decode cX12_slipped 79 = .ok (.goto 9, 3) := by decide +kernel
theorem dX12_slipped_82 : decode cX12_slipped 82 = .ok (.aload_n 0, 1) := by decide +kernel
theorem dX12_slipped_83 : decode cX12_slipped 83 = .ok (.getfield 112, 3) := by decide +kernel
theorem dX12_slipped_86 : decode cX12_slipped 86 = .ok (.iconst 0, 1) := by decide +kernel
theorem dX12_slipped_87 : decode cX12_slipped 87 = .ok (.iaload, 1) := by decide +kernel
theorem dX12_slipped_88 : decode cX12_slipped 88 = .ok (.ireturn, 1) := by decide +kernel
set_option maxHeartbeats 4000000 in
set_option maxRecDepth 100000 in
theorem s_X12_slipped {P : PP} {a0 : Nat} {a1 : Int32} {a2 : Int32} {a3 : Int32} {a4 : Int32} (I : IM P a0) (hW : MW P a0) : CtrI yX12_slipped cX12_slipped 5 (some Jvm.ClassFile.FieldType.int) ({ frames := 8, cells := 0, slots := 0, locals := 512 } : Room) 0 0 P [.ref a0, .int a1, .int a2, .int a3, .int a4] (fun r P2 => IM P2 a0 ∧ EM [0, 28, 29, 30, 31, 32, 35, 36, 37, 38, 39, 40] a0 P P2 ∧ MW P2 a0 ∧ (-1 ≤ r.toInt ∧ r.toInt ≤ 40)) := by
  refine enI (lv := [(0, .ref a0), (1, .int a1), (2, .int a2), (3, .int a3), (4, .int a4)]) (by decide) (Nat.le_of_ble_eq_true rfl) rfl (fun E D cy C Ci0 ret => ?_)
  have ha0 := I.2.1
  have J35 : ∀ (P35 : PP), (IM P35 a0) → (EM [0, 28, 29, 30, 31, 32, 35, 36, 37, 38, 39, 40] a0 P P35) → (MW P35 a0) → (0 ≤ (pI P35 a0 0).toInt ∧ (pI P35 a0 0).toInt ≤ 0) → G E ({ frames := 8, cells := 0, slots := 0, locals := 512 } : Room) D cy 5 P35 0 0 35 [] [] := by
    intro P35 I35 X35 W35 hq35_0
    have h74186 := X35.at ha0
    refine g_iconst (v := (-1)) C dX12_slipped_35 (by decide) ?_
    exact ret _ _ _ _ _ _ dX12_slipped_36 rfl (by decide) (by decide) ⟨I35, X35, W35, (by decide)⟩
  refine g_aload_n C dX12_slipped_0 rfl 0 rfl ?_
  refine g_iconst (v := 0) C dX12_slipped_1 (by decide) ?_
  refine g_putI C fi_X12_1 rfl (ha0).1 (ha0).2 dX12_slipped_2 ?_
  refine gqW (ks := [0]) (I.setI (rgOk.of rfl (by decide))) (EM.setI I (by decide)) (fun Y74187 Iy74188 Xy74189 w74190 => ?_)
  have w74190 : (pI Y74187 a0 0).toInt = 0 := w74190
  have W74191 := hW.keep I Xy74189 (by decide) (by decide) (by decide)
  have Xz74192 : EM [0, 28, 29, 30, 31, 32, 35, 36, 37, 38, 39, 40] a0 P Y74187 := Xy74189.mono (by decide)
  have h74193 := Xy74189.at ha0
  refine g_aload_n C dX12_slipped_5 rfl 0 rfl ?_
  refine g_iload_n C dX12_slipped_6 rfl 1 rfl ?_
  refine g_iload_n C dX12_slipped_7 rfl 2 rfl ?_
  refine g_iload_n C dX12_slipped_8 rfl 3 rfl ?_
  refine g_callVI (rest := []) C mv_X12_333 [.int a1, .int a2, .int a3] (s_X12_isAsked Iy74188 W74191) (h74193).1 (h74193).2 rfl rfl (by decide) (Nat.le_of_ble_eq_true rfl) (by decide) dX12_slipped_9 (fun r74194 Y74195 h74196 => ?_)
  obtain ⟨rfl, h74196⟩ := h74196
  obtain ⟨h74196, hi74197, hi74198⟩ := h74196
  have hi74197 : r74194.toInt = 0 ∨ (((0 : Int) ≤ a1.toInt ∧ a1.toInt ≤ (3 : Int)) ∧ ((0 : Int) ≤ a2.toInt ∧ a2.toInt ≤ (1 : Int)) ∧ ((0 : Int) ≤ a3.toInt ∧ a3.toInt ≤ (1 : Int))) := hi74197
  have h74196 : 0 ≤ r74194.toInt ∧ r74194.toInt ≤ 1 := h74196
  refine b_if_eq C 35 dX12_slipped_12 (by decide) (fun h74199 => ?_) (fun h74199 => ?_)
  · have h74199 : r74194.toInt = 0 := congrArg Int32.toInt h74199
    clear hi74197
    refine g_lv (lv' := []) [] rfl ?_
    exact J35 Y74187 Iy74188 Xz74192 W74191 (by omega)
  · have h74199 : r74194.toInt ≠ 0 := ti_ne h74199
    replace hi74197 := hi74197.resolve_left (by omega)
    obtain ⟨b74200, e74201, h74202⟩ := Iy74188.fld (h74193) 10 13 2 rfl
    have hi74198 := (hi74198.resolve_left (by omega)) b74200 e74201
    have hi74198 : 0 < (pI Y74187 b74200 (a2.toInt.toNat)).toInt := hi74198
    have h74203 := Iy74188.arr e74201 rfl (a2.toInt.toNat)
    refine g_iload C dX12_slipped_15 4 rfl ?_
    refine g_iconst (v := 0) C dX12_slipped_17 (by decide) ?_
    refine g_iconst (v := 2) C dX12_slipped_18 (by decide) ?_
    refine g_callSI (b := 0) (ci := 0) (rest := []) C ms_X12_178 [.int a4, .int 0, .int 2] (s_X12_within Iy74188.1) rfl rfl (by decide) (Nat.le_of_ble_eq_true rfl) (by decide) dX12_slipped_19 (fun r74204 Y74205 h74206 => ?_)
    obtain ⟨rfl, h74206⟩ := h74206
    obtain ⟨h74206, hi74207⟩ := h74206
    have hi74207 : r74204.toInt = 0 ∨ (0 ≤ a4.toInt ∧ a4.toInt ≤ 2) := hi74207
    have h74206 : 0 ≤ r74204.toInt ∧ r74204.toInt ≤ 1 := h74206
    refine b_if_eq C 35 dX12_slipped_22 (by decide) (fun h74208 => ?_) (fun h74208 => ?_)
    · have h74208 : r74204.toInt = 0 := congrArg Int32.toInt h74208
      clear hi74207
      refine g_lv (lv' := []) [] rfl ?_
      exact J35 Y74187 Iy74188 Xz74192 W74191 (by omega)
    · have h74208 : r74204.toInt ≠ 0 := ti_ne h74208
      replace hi74207 := hi74207.resolve_left (by omega)
      refine g_aload_n C dX12_slipped_25 rfl 0 rfl ?_
      refine g_iload_n C dX12_slipped_26 rfl 1 rfl ?_
      refine g_iload_n C dX12_slipped_27 rfl 2 rfl ?_
      refine g_iload_n C dX12_slipped_28 rfl 3 rfl ?_
      refine g_callVI (rest := []) C mv_X12_364 [.int a1, .int a2, .int a3] (s_X12_findSlipped Iy74188 (by omega) (by omega) (by omega) (fun b9 e9 => by rw [e74201] at e9; cases e9; show 1 ≤ (pI Y74187 b74200 (a2.toInt.toNat)).toInt ∧ (pI Y74187 b74200 (a2.toInt.toNat)).toInt ≤ 16; omega) W74191) (h74193).1 (h74193).2 rfl rfl (by decide) (Nat.le_of_ble_eq_true rfl) (by decide) dX12_slipped_29 (fun r74209 Y74210 h74211 => ?_)
      obtain ⟨Iy74212, Xy74213, W74214, h74211⟩ := h74211
      have q74215 := Xy74213.keepF 0 (by decide)
      have q74216 := Xy74213.keepA e74201 (by decide) rfl (a2.toInt.toNat)
      have Xz74217 : EM [0, 28, 29, 30, 31, 32, 35, 36, 37, 38, 39, 40] a0 P Y74210 := EM.tr ha0 Xz74192 (Xy74213.mono (by decide))
      have e74218 := Xy74213.ref h74193 (by decide) e74201
      have h74219 := Xy74213.at h74193
      have h74220 := Xy74213.ar h74202
      have h74211 : 0 ≤ r74209.toInt ∧ r74209.toInt ≤ 1 := h74211
      refine b_if_ne C 37 dX12_slipped_32 (by decide) (fun h74221 => ?_) (fun h74221 => ?_)
      · have h74221 : r74209.toInt ≠ 0 := ti_ne h74221
        refine g_iload C dX12_slipped_37 4 rfl ?_
        refine b_if_ne C 49 dX12_slipped_39 (by decide) (fun h74222 => ?_) (fun h74222 => ?_)
        · have h74222 : a4.toInt ≠ 0 := ti_ne h74222
          refine g_iload C dX12_slipped_49 4 rfl ?_
          refine g_iconst (v := 2) C dX12_slipped_51 (by decide) ?_
          refine b_icmp_ne C 71 dX12_slipped_52 (by decide) (fun h74223 => ?_) (fun h74223 => ?_)
          · have h74223 : a4.toInt ≠ 2 := ti_ne h74223
            refine g_aload_n C dX12_slipped_71 rfl 0 rfl ?_
            refine g_getI C fi_X12_361 (by decide) (h74219).1 (h74219).2 dX12_slipped_72 ?_
            have h74224 := Iy74212.rg (h74219) 39 rfl
            refine b_if_ne C 82 dX12_slipped_75 (by decide) (fun h74225 => ?_) (fun h74225 => ?_)
            · have h74225 : (pI Y74210 a0 39).toInt ≠ 0 := ti_ne h74225
              refine g_aload_n C dX12_slipped_82 rfl 0 rfl ?_
              obtain ⟨b74226, e74227, h74228⟩ := Iy74212.fld (h74219) 40 13 40 rfl
              refine g_getR C fi_X12_112 rfl e74227 (h74219).1 (h74219).2 dX12_slipped_83 ?_
              refine g_iconst (v := 0) C dX12_slipped_86 (by decide) ?_
              refine g_iald (j := 0) C h74228.1 h74228.2.1 (IX.litn (j := 0) h74228.2.2 rfl (by decide) (by decide)) dX12_slipped_87 ?_
              have h74229 := Iy74212.arr e74227 rfl 0
              exact ret _ _ _ _ _ _ dX12_slipped_88 rfl (by decide) (by decide) ⟨Iy74212, Xz74217, W74214, (by omega)⟩
            · have h74225 : (pI Y74210 a0 39).toInt = 0 := congrArg Int32.toInt h74225
              refine g_iconst (v := (-1)) C dX12_slipped_78 (by decide) ?_
              refine g_goto C 88 dX12_slipped_79 (by decide) ?_
              exact ret _ _ _ _ _ _ dX12_slipped_88 rfl (by decide) (by decide) ⟨Iy74212, Xz74217, W74214, (by decide)⟩
          · have h74223 : a4.toInt = 2 := congrArg Int32.toInt h74223
            refine g_aload_n C dX12_slipped_55 rfl 0 rfl ?_
            refine g_getI C fi_X12_361 (by decide) (h74219).1 (h74219).2 dX12_slipped_56 ?_
            have h74230 := Iy74212.rg (h74219) 39 rfl
            refine g_iconst (v := 1) C dX12_slipped_59 (by decide) ?_
            refine b_icmp_ne C 67 dX12_slipped_60 (by decide) (fun h74231 => ?_) (fun h74231 => ?_)
            · have h74231 : (pI Y74210 a0 39).toInt ≠ 1 := ti_ne h74231
              refine g_iconst (v := 0) C dX12_slipped_67 (by decide) ?_
              refine g_goto C 88 dX12_slipped_68 (by decide) ?_
              exact ret _ _ _ _ _ _ dX12_slipped_88 rfl (by decide) (by decide) ⟨Iy74212, Xz74217, W74214, (by decide)⟩
            · have h74231 : (pI Y74210 a0 39).toInt = 1 := congrArg Int32.toInt h74231
              refine g_iconst (v := 1) C dX12_slipped_63 (by decide) ?_
              refine g_goto C 88 dX12_slipped_64 (by decide) ?_
              exact ret _ _ _ _ _ _ dX12_slipped_88 rfl (by decide) (by decide) ⟨Iy74212, Xz74217, W74214, (by decide)⟩
        · have h74222 : a4.toInt = 0 := congrArg Int32.toInt h74222
          refine g_aload_n C dX12_slipped_42 rfl 0 rfl ?_
          refine g_getI C fi_X12_361 (by decide) (h74219).1 (h74219).2 dX12_slipped_43 ?_
          have h74232 := Iy74212.rg (h74219) 39 rfl
          refine g_goto C 88 dX12_slipped_46 (by decide) ?_
          exact ret _ _ _ _ _ _ dX12_slipped_88 rfl (by decide) (by decide) ⟨Iy74212, Xz74217, W74214, (by omega)⟩
      · have h74221 : r74209.toInt = 0 := congrArg Int32.toInt h74221
        refine g_lv (lv' := []) [] rfl ?_
        exact J35 Y74210 Iy74212 Xz74217 W74214 (by omega)
theorem dX12_solves_0 : decode cX12_solves 0 = .ok (.aload_n 0, 1) := by decide +kernel
theorem dX12_solves_1 : decode cX12_solves 1 = .ok (.iconst 0, 1) := by decide +kernel
theorem dX12_solves_2 : decode cX12_solves 2 = .ok (.putfield 1, 3) := by decide +kernel
theorem dX12_solves_5 : decode cX12_solves 5 = .ok (.aload_n 0, 1) := by decide +kernel
theorem dX12_solves_6 : decode cX12_solves 6 = .ok (.iload_n 1, 1) := by decide +kernel
theorem dX12_solves_7 : decode cX12_solves 7 = .ok (.iload_n 2, 1) := by decide +kernel
theorem dX12_solves_8 : decode cX12_solves 8 = .ok (.iload_n 3, 1) := by decide +kernel
theorem dX12_solves_9 : decode cX12_solves 9 = .ok (.invokevirtual 333, 3) := by decide +kernel
theorem dX12_solves_12 : decode cX12_solves 12 = .ok (.ifCond .eq 13, 3) := by decide +kernel
theorem dX12_solves_15 : decode cX12_solves 15 = .ok (.iload 4, 2) := by decide +kernel
theorem dX12_solves_17 : decode cX12_solves 17 = .ok (.iconst 0, 1) := by decide +kernel
theorem dX12_solves_18 : decode cX12_solves 18 = .ok (.iconst 3, 1) := by decide +kernel
theorem dX12_solves_19 : decode cX12_solves 19 = .ok (.invokestatic 178, 3) := by decide +kernel
theorem dX12_solves_22 : decode cX12_solves 22 = .ok (.ifCond .ne 5, 3) := by decide +kernel
theorem dX12_solves_25 : decode cX12_solves 25 = .ok (.iconst (-1), 1) := by decide +kernel
theorem dX12_solves_26 : decode cX12_solves 26 = .ok (.ireturn, 1) := by decide +kernel
theorem dX12_solves_27 : decode cX12_solves 27 = .ok (.aload_n 0, 1) := by decide +kernel
theorem dX12_solves_28 : decode cX12_solves 28 = .ok (.invokevirtual 336, 3) := by decide +kernel
theorem dX12_solves_31 : decode cX12_solves 31 = .ok (.aload_n 0, 1) := by decide +kernel
theorem dX12_solves_32 : decode cX12_solves 32 = .ok (.iload_n 1, 1) := by decide +kernel
theorem dX12_solves_33 : decode cX12_solves 33 = .ok (.iload_n 2, 1) := by decide +kernel
theorem dX12_solves_34 : decode cX12_solves 34 = .ok (.iload_n 3, 1) := by decide +kernel
theorem dX12_solves_35 : decode cX12_solves 35 = .ok (.aload_n 0, 1) := by decide +kernel
theorem dX12_solves_36 : decode cX12_solves 36 = .ok (.getfield 69, 3) := by decide +kernel
theorem dX12_solves_39 : decode cX12_solves 39 = .ok (.iload_n 1, 1) := by decide +kernel
theorem dX12_solves_40 : decode cX12_solves 40 = .ok (.iaload, 1) := by decide +kernel
theorem dX12_solves_41 : decode cX12_solves 41 = .ok (.invokevirtual 339, 3) := by decide +kernel
theorem dX12_solves_44 : decode cX12_solves 44 = .ok (.aload_n 0, 1) := by decide +kernel
theorem dX12_solves_45 : decode cX12_solves 45 = .ok (.invokevirtual 346, 3) := by decide +kernel
theorem dX12_solves_48 : decode cX12_solves 48 = .ok (.iload 4, 2) := by decide +kernel
theorem dX12_solves_50 : decode cX12_solves 50 = .ok (.ifCond .ne 10, 3) := by decide +kernel
theorem dX12_solves_53 : decode cX12_solves 53 = .ok (.aload_n 0, 1) := by decide +kernel
theorem dX12_solves_54 : decode cX12_solves 54 = .ok (.invokevirtual 349, 3) := by decide +kernel
theorem dX12_solves_57 : decode cX12_solves 57 = .ok (.goto 47, 3) := by decide +kernel
theorem dX12_solves_60 : decode cX12_solves 60 = .ok (.iload 4, 2) := by decide +kernel
theorem dX12_solves_62 : decode cX12_solves 62 = .ok (.iconst 1, 1) := by decide +kernel
theorem dX12_solves_63 : decode cX12_solves 63 = .ok (.if_icmp .ne 18, 3) := by decide +kernel
theorem dX12_solves_66 : decode cX12_solves 66 = .ok (.aload_n 0, 1) := by decide +kernel
theorem dX12_solves_67 : decode cX12_solves 67 = .ok (.getfield 326, 3) := by decide +kernel
theorem dX12_solves_70 : decode cX12_solves 70 = .ok (.ifCond .eq 7, 3) := by decide +kernel
theorem dX12_solves_73 : decode cX12_solves 73 = .ok (.iconst 1, 1) := by decide +kernel
theorem dX12_solves_74 : decode cX12_solves 74 = .ok (.goto 30, 3) := by decide +kernel
theorem dX12_solves_77 : decode cX12_solves 77 = .ok (.iconst 0, 1) := by decide +kernel
theorem dX12_solves_78 : decode cX12_solves 78 = .ok (.goto 26, 3) := by decide +kernel
theorem dX12_solves_81 : decode cX12_solves 81 = .ok (.iload 4, 2) := by decide +kernel
theorem dX12_solves_83 : decode cX12_solves 83 = .ok (.iconst 2, 1) := by decide +kernel
theorem dX12_solves_84 : decode cX12_solves 84 = .ok (.if_icmp .ne 10, 3) := by decide +kernel
theorem dX12_solves_87 : decode cX12_solves 87 = .ok (.aload_n 0, 1) := by decide +kernel
theorem dX12_solves_88 : decode cX12_solves 88 = .ok (.getfield 324, 3) := by decide +kernel
theorem dX12_solves_91 : decode cX12_solves 91 = .ok (.goto 13, 3) := by decide +kernel
theorem dX12_solves_94 : decode cX12_solves 94 = .ok (.aload_n 0, 1) := by decide +kernel
theorem dX12_solves_95 : decode cX12_solves 95 = .ok (.iload_n 2, 1) := by decide +kernel
theorem dX12_solves_96 : decode cX12_solves 96 = .ok (.invokevirtual 238, 3) := by decide +kernel
theorem dX12_solves_99 : decode cX12_solves 99 = .ok (.aload_n 0, 1) := by decide +kernel
theorem dX12_solves_100 : decode cX12_solves 100 = .ok (.getfield 324, 3) := by decide +kernel
theorem dX12_solves_103 : decode cX12_solves 103 = .ok (.isub, 1) := by decide +kernel
theorem dX12_solves_104 : decode cX12_solves 104 = .ok (.ireturn, 1) := by decide +kernel
set_option maxHeartbeats 4000000 in
set_option maxRecDepth 100000 in
theorem s_X12_solves {P : PP} {a0 : Nat} {a1 : Int32} {a2 : Int32} {a3 : Int32} {a4 : Int32} (I : IM P a0) (hW : MW P a0) : CtrI yX12_solves cX12_solves 5 (some Jvm.ClassFile.FieldType.int) ({ frames := 7, cells := 0, slots := 0, locals := 448 } : Room) 0 0 P [.ref a0, .int a1, .int a2, .int a3, .int a4] (fun r P2 => IM P2 a0 ∧ EM [0, 28, 29, 30, 31, 32, 35, 36, 37, 38] a0 P P2 ∧ MW P2 a0 ∧ (True)) := by
  refine enI (lv := [(0, .ref a0), (1, .int a1), (2, .int a2), (3, .int a3), (4, .int a4)]) (by decide) (Nat.le_of_ble_eq_true rfl) rfl (fun E D cy C Ci0 ret => ?_)
  have ha0 := I.2.1
  have J25 : ∀ (P25 : PP), (IM P25 a0) → (EM [0, 28, 29, 30, 31, 32, 35, 36, 37, 38] a0 P P25) → (MW P25 a0) → (0 ≤ (pI P25 a0 0).toInt ∧ (pI P25 a0 0).toInt ≤ 0) → G E ({ frames := 7, cells := 0, slots := 0, locals := 448 } : Room) D cy 5 P25 0 0 25 [] [] := by
    intro P25 I25 X25 W25 hq25_0
    have h74323 := X25.at ha0
    refine g_iconst (v := (-1)) C dX12_solves_25 (by decide) ?_
    exact ret _ _ _ _ _ _ dX12_solves_26 rfl (by decide) (by decide) ⟨I25, X25, W25, trivial⟩
  refine g_aload_n C dX12_solves_0 rfl 0 rfl ?_
  refine g_iconst (v := 0) C dX12_solves_1 (by decide) ?_
  refine g_putI C fi_X12_1 rfl (ha0).1 (ha0).2 dX12_solves_2 ?_
  refine gqW (ks := [0]) (I.setI (rgOk.of rfl (by decide))) (EM.setI I (by decide)) (fun Y74324 Iy74325 Xy74326 w74327 => ?_)
  have w74327 : (pI Y74324 a0 0).toInt = 0 := w74327
  have W74328 := hW.keep I Xy74326 (by decide) (by decide) (by decide)
  have Xz74329 : EM [0, 28, 29, 30, 31, 32, 35, 36, 37, 38] a0 P Y74324 := Xy74326.mono (by decide)
  have h74330 := Xy74326.at ha0
  refine g_aload_n C dX12_solves_5 rfl 0 rfl ?_
  refine g_iload_n C dX12_solves_6 rfl 1 rfl ?_
  refine g_iload_n C dX12_solves_7 rfl 2 rfl ?_
  refine g_iload_n C dX12_solves_8 rfl 3 rfl ?_
  refine g_callVI (rest := []) C mv_X12_333 [.int a1, .int a2, .int a3] (s_X12_isAsked Iy74325 W74328) (h74330).1 (h74330).2 rfl rfl (by decide) (Nat.le_of_ble_eq_true rfl) (by decide) dX12_solves_9 (fun r74331 Y74332 h74333 => ?_)
  obtain ⟨rfl, h74333⟩ := h74333
  obtain ⟨h74333, hi74334, hi74335⟩ := h74333
  have hi74334 : r74331.toInt = 0 ∨ (((0 : Int) ≤ a1.toInt ∧ a1.toInt ≤ (3 : Int)) ∧ ((0 : Int) ≤ a2.toInt ∧ a2.toInt ≤ (1 : Int)) ∧ ((0 : Int) ≤ a3.toInt ∧ a3.toInt ≤ (1 : Int))) := hi74334
  have h74333 : 0 ≤ r74331.toInt ∧ r74331.toInt ≤ 1 := h74333
  refine b_if_eq C 25 dX12_solves_12 (by decide) (fun h74336 => ?_) (fun h74336 => ?_)
  · have h74336 : r74331.toInt = 0 := congrArg Int32.toInt h74336
    clear hi74334
    refine g_lv (lv' := []) [] rfl ?_
    exact J25 Y74324 Iy74325 Xz74329 W74328 (by omega)
  · have h74336 : r74331.toInt ≠ 0 := ti_ne h74336
    replace hi74334 := hi74334.resolve_left (by omega)
    obtain ⟨b74337, e74338, h74339⟩ := Iy74325.fld (h74330) 10 13 2 rfl
    have hi74335 := (hi74335.resolve_left (by omega)) b74337 e74338
    have hi74335 : 0 < (pI Y74324 b74337 (a2.toInt.toNat)).toInt := hi74335
    have h74340 := Iy74325.arr e74338 rfl (a2.toInt.toNat)
    refine g_iload C dX12_solves_15 4 rfl ?_
    refine g_iconst (v := 0) C dX12_solves_17 (by decide) ?_
    refine g_iconst (v := 3) C dX12_solves_18 (by decide) ?_
    refine g_callSI (b := 0) (ci := 0) (rest := []) C ms_X12_178 [.int a4, .int 0, .int 3] (s_X12_within Iy74325.1) rfl rfl (by decide) (Nat.le_of_ble_eq_true rfl) (by decide) dX12_solves_19 (fun r74341 Y74342 h74343 => ?_)
    obtain ⟨rfl, h74343⟩ := h74343
    obtain ⟨h74343, hi74344⟩ := h74343
    have hi74344 : r74341.toInt = 0 ∨ (0 ≤ a4.toInt ∧ a4.toInt ≤ 3) := hi74344
    have h74343 : 0 ≤ r74341.toInt ∧ r74341.toInt ≤ 1 := h74343
    refine b_if_ne C 27 dX12_solves_22 (by decide) (fun h74345 => ?_) (fun h74345 => ?_)
    · have h74345 : r74341.toInt ≠ 0 := ti_ne h74345
      replace hi74344 := hi74344.resolve_left (by omega)
      refine g_aload_n C dX12_solves_27 rfl 0 rfl ?_
      refine g_callVV (rest := []) C mv_X12_336 [] (s_X12_leavesNone Iy74325 W74328) (h74330).1 (h74330).2 rfl rfl (by decide) (Nat.le_of_ble_eq_true rfl) (by decide) dX12_solves_28 (fun Y74347 h74348 => ?_)
      obtain ⟨Iy74349, Xy74350, W74351⟩ := h74348
      have q74352 := Xy74350.keepF 0 (by decide)
      have q74353 := Xy74350.keepA e74338 (by decide) rfl (a2.toInt.toNat)
      have Xz74354 : EM [0, 28, 29, 30, 31, 32, 35, 36, 37, 38] a0 P Y74347 := EM.tr ha0 Xz74329 (Xy74350.mono (by decide))
      have e74355 := Xy74350.ref h74330 (by decide) e74338
      have h74356 := Xy74350.at h74330
      have h74357 := Xy74350.ar h74339
      refine g_aload_n C dX12_solves_31 rfl 0 rfl ?_
      refine g_iload_n C dX12_solves_32 rfl 1 rfl ?_
      refine g_iload_n C dX12_solves_33 rfl 2 rfl ?_
      refine g_iload_n C dX12_solves_34 rfl 3 rfl ?_
      refine g_aload_n C dX12_solves_35 rfl 0 rfl ?_
      obtain ⟨b74358, e74359, h74360⟩ := Iy74349.fld (h74356) 20 13 20 rfl
      refine g_getR C fi_X12_69 rfl e74359 (h74356).1 (h74356).2 dX12_solves_36 ?_
      refine g_iload_n C dX12_solves_39 rfl 1 rfl ?_
      refine g_iald (j := (a1.toInt.toNat)) C h74360.1 h74360.2.1 (ix_in h74360.2.2 (by omega)) dX12_solves_40 ?_
      have h74361 := Iy74349.arr e74359 rfl (a1.toInt.toNat)
      refine g_callVV (rest := []) C mv_X12_339 [.int a1, .int a2, .int a3, .int (pI Y74347 b74358 (a1.toInt.toNat))] (s_X12_gathers Iy74349 (by omega) (by omega) (by omega) (fun b9 e9 => by rw [e74355] at e9; cases e9; show 1 ≤ (pI Y74347 b74337 (a2.toInt.toNat)).toInt ∧ (pI Y74347 b74337 (a2.toInt.toNat)).toInt ≤ 16; omega) W74351) (h74356).1 (h74356).2 rfl rfl (by decide) (Nat.le_of_ble_eq_true rfl) (by decide) dX12_solves_41 (fun Y74363 h74364 => ?_)
      obtain ⟨Iy74365, Xy74366, W74367, p74368⟩ := h74364
      have p74368 : (pI Y74363 a0 28).toInt ≤ 4 + (pI Y74347 b74358 (a1.toInt.toNat)).toInt := p74368
      have q74369 := Xy74366.keepF 0 (by decide)
      have q74370 := Xy74366.keepA e74355 (by decide) rfl (a2.toInt.toNat)
      have q74371 := Xy74366.keepA e74359 (by decide) rfl (a1.toInt.toNat)
      have Xz74372 : EM [0, 28, 29, 30, 31, 32, 35, 36, 37, 38] a0 P Y74363 := EM.tr ha0 Xz74354 (Xy74366.mono (by decide))
      have e74373 := Xy74366.ref h74356 (by decide) e74355
      have e74374 := Xy74366.ref h74356 (by decide) e74359
      have h74375 := Xy74366.at h74356
      have h74376 := Xy74366.ar h74357
      have h74377 := Xy74366.ar h74360
      have h74378 := Iy74365.rg h74375 28 rfl
      refine g_aload_n C dX12_solves_44 rfl 0 rfl ?_
      refine g_callVV (rest := []) C mv_X12_346 [] (s_X12_findSolved Iy74365 W74367) (h74375).1 (h74375).2 rfl rfl (by decide) (Nat.le_of_ble_eq_true rfl) (by decide) dX12_solves_45 (fun Y74380 h74381 => ?_)
      obtain ⟨Iy74382, Xy74383, W74384⟩ := h74381
      have q74385 := Xy74383.keepF 0 (by decide)
      have q74386 := Xy74383.keepA e74373 (by decide) rfl (a2.toInt.toNat)
      have q74387 := Xy74383.keepA e74374 (by decide) rfl (a1.toInt.toNat)
      have q74388 := Xy74383.keepF 28 (by decide)
      have Xz74389 : EM [0, 28, 29, 30, 31, 32, 35, 36, 37, 38] a0 P Y74380 := EM.tr ha0 Xz74372 (Xy74383.mono (by decide))
      have e74390 := Xy74383.ref h74375 (by decide) e74373
      have e74391 := Xy74383.ref h74375 (by decide) e74374
      have h74392 := Xy74383.at h74375
      have h74393 := Xy74383.ar h74376
      have h74394 := Xy74383.ar h74377
      refine g_iload C dX12_solves_48 4 rfl ?_
      refine b_if_ne C 60 dX12_solves_50 (by decide) (fun h74395 => ?_) (fun h74395 => ?_)
      · have h74395 : a4.toInt ≠ 0 := ti_ne h74395
        refine g_iload C dX12_solves_60 4 rfl ?_
        refine g_iconst (v := 1) C dX12_solves_62 (by decide) ?_
        refine b_icmp_ne C 81 dX12_solves_63 (by decide) (fun h74396 => ?_) (fun h74396 => ?_)
        · have h74396 : a4.toInt ≠ 1 := ti_ne h74396
          refine g_iload C dX12_solves_81 4 rfl ?_
          refine g_iconst (v := 2) C dX12_solves_83 (by decide) ?_
          refine b_icmp_ne C 94 dX12_solves_84 (by decide) (fun h74397 => ?_) (fun h74397 => ?_)
          · have h74397 : a4.toInt ≠ 2 := ti_ne h74397
            refine g_aload_n C dX12_solves_94 rfl 0 rfl ?_
            refine g_iload_n C dX12_solves_95 rfl 2 rfl ?_
            refine g_callVI (rest := []) C mv_X12_238 [.int a2] (s_X12_allOf Iy74382 (by omega) W74384) (h74392).1 (h74392).2 rfl rfl (by decide) (Nat.le_of_ble_eq_true rfl) (by decide) dX12_solves_96 (fun r74398 Y74399 h74400 => ?_)
            obtain ⟨rfl, h74400⟩ := h74400
            obtain ⟨h74400, hi74401⟩ := h74400
            obtain ⟨b74402, e74403, h74404⟩ := Iy74382.fld (h74392) 15 13 3 rfl
            have hi74401 : r74398.toInt = 0 ∨ r74398.toInt = (pI Y74380 b74337 (a2.toInt.toNat)).toInt + (pI Y74380 b74402 (a2.toInt.toNat)).toInt := hi74401.imp id (fun z9 => z9 b74337 b74402 e74390 e74403)
            have h74405 := Iy74382.arr e74403 rfl (a2.toInt.toNat)
            have h74400 : 0 ≤ r74398.toInt ∧ r74398.toInt ≤ 20 := h74400
            refine g_aload_n C dX12_solves_99 rfl 0 rfl ?_
            refine g_getI C fi_X12_324 (by decide) (h74392).1 (h74392).2 dX12_solves_100 ?_
            refine a_isub C dX12_solves_103 (fun z74406 => ?_)
            exact ret _ _ _ _ _ _ dX12_solves_104 rfl (by decide) (by decide) ⟨Iy74382, Xz74389, W74384, trivial⟩
          · have h74397 : a4.toInt = 2 := congrArg Int32.toInt h74397
            refine g_aload_n C dX12_solves_87 rfl 0 rfl ?_
            refine g_getI C fi_X12_324 (by decide) (h74392).1 (h74392).2 dX12_solves_88 ?_
            refine g_goto C 104 dX12_solves_91 (by decide) ?_
            exact ret _ _ _ _ _ _ dX12_solves_104 rfl (by decide) (by decide) ⟨Iy74382, Xz74389, W74384, trivial⟩
        · have h74396 : a4.toInt = 1 := congrArg Int32.toInt h74396
          refine g_aload_n C dX12_solves_66 rfl 0 rfl ?_
          refine g_getI C fi_X12_326 (by decide) (h74392).1 (h74392).2 dX12_solves_67 ?_
          have h74408 := Iy74382.rg (h74392) 36 rfl
          refine b_if_eq C 77 dX12_solves_70 (by decide) (fun h74409 => ?_) (fun h74409 => ?_)
          · have h74409 : (pI Y74380 a0 36).toInt = 0 := congrArg Int32.toInt h74409
            refine g_iconst (v := 0) C dX12_solves_77 (by decide) ?_
            refine g_goto C 104 dX12_solves_78 (by decide) ?_
            exact ret _ _ _ _ _ _ dX12_solves_104 rfl (by decide) (by decide) ⟨Iy74382, Xz74389, W74384, trivial⟩
          · have h74409 : (pI Y74380 a0 36).toInt ≠ 0 := ti_ne h74409
            refine g_iconst (v := 1) C dX12_solves_73 (by decide) ?_
            refine g_goto C 104 dX12_solves_74 (by decide) ?_
            exact ret _ _ _ _ _ _ dX12_solves_104 rfl (by decide) (by decide) ⟨Iy74382, Xz74389, W74384, trivial⟩
      · have h74395 : a4.toInt = 0 := congrArg Int32.toInt h74395
        refine g_aload_n C dX12_solves_53 rfl 0 rfl ?_
        refine g_callVI (rest := []) C mv_X12_349 [] (s_X12_fixedSet Iy74382 W74384) (h74392).1 (h74392).2 rfl rfl (by decide) (Nat.le_of_ble_eq_true rfl) (by decide) dX12_solves_54 (fun r74410 Y74411 h74412 => ?_)
        obtain ⟨rfl, h74412⟩ := h74412
        have h74412 : True := h74412
        refine g_goto C 104 dX12_solves_57 (by decide) ?_
        exact ret _ _ _ _ _ _ dX12_solves_104 rfl (by decide) (by decide) ⟨Iy74382, Xz74389, W74384, trivial⟩
    · have h74345 : r74341.toInt = 0 := congrArg Int32.toInt h74345
      clear hi74344
      refine g_lv (lv' := []) [] rfl ?_
      exact J25 Y74324 Iy74325 Xz74329 W74328 (by omega)
theorem dX12_soon_0 : decode cX12_soon 0 = .ok (.aload_n 0, 1) := by decide +kernel
theorem dX12_soon_1 : decode cX12_soon 1 = .ok (.iconst 0, 1) := by decide +kernel
theorem dX12_soon_2 : decode cX12_soon 2 = .ok (.putfield 1, 3) := by decide +kernel
theorem dX12_soon_5 : decode cX12_soon 5 = .ok (.iload_n 1, 1) := by decide +kernel
theorem dX12_soon_6 : decode cX12_soon 6 = .ok (.invokestatic 278, 3) := by decide +kernel
theorem dX12_soon_9 : decode cX12_soon 9 = .ok (.ifCond .eq 30, 3) := by decide +kernel
theorem dX12_soon_12 : decode cX12_soon 12 = .ok (.aload_n 0, 1) := by decide +kernel
theorem dX12_soon_13 : decode cX12_soon 13 = .ok (.iload_n 2, 1) := by decide +kernel
theorem dX12_soon_14 : decode cX12_soon 14 = .ok (.invokevirtual 192, 3) := by decide +kernel
theorem dX12_soon_17 : decode cX12_soon 17 = .ok (.ifCond .eq 22, 3) := by decide +kernel
theorem dX12_soon_20 : decode cX12_soon 20 = .ok (.aload_n 0, 1) := by decide +kernel
theorem dX12_soon_21 : decode cX12_soon 21 = .ok (.iload_n 2, 1) := by decide +kernel
theorem dX12_soon_22 : decode cX12_soon 22 = .ok (.iload_n 3, 1) := by decide +kernel
theorem dX12_soon_23 : decode cX12_soon 23 = .ok (.invokevirtual 352, 3) := by decide +kernel
theorem dX12_soon_26 : decode cX12_soon 26 = .ok (.ifCond .eq 13, 3) := by decide +kernel
theorem dX12_soon_29 : decode cX12_soon 29 = .ok (.iload 4, 2) := by decide +kernel
theorem dX12_soon_31 : decode cX12_soon 31 = .ok (.iconst 0, 1) := by decide +kernel
theorem dX12_soon_32 : decode cX12_soon 32 = .ok (.iconst 1, 1) := by decide +kernel
theorem dX12_soon_33 : decode cX12_soon 33 = .ok (.invokestatic 178, 3) := by decide +kernel
theorem dX12_soon_36 : decode cX12_soon 36 = .ok (.ifCond .ne 5, 3) := by decide +kernel
theorem dX12_soon_39 : decode cX12_soon 39 = .ok (.iconst (-1), 1) := by decide +kernel
theorem dX12_soon_40 : decode cX12_soon 40 = .ok (.ireturn, 1) := by decide +kernel
theorem dX12_soon_41 : decode cX12_soon 41 = .ok (.aload_n 0, 1) := by decide +kernel
theorem dX12_soon_42 : decode cX12_soon 42 = .ok (.invokevirtual 336, 3) := by decide +kernel
theorem dX12_soon_45 : decode cX12_soon 45 = .ok (.iconst 0, 1) := by decide +kernel
theorem dX12_soon_46 : decode cX12_soon 46 = .ok (.istore 5, 2) := by decide +kernel
theorem dX12_soon_48 : decode cX12_soon 48 = .ok (.iload 5, 2) := by decide +kernel
theorem dX12_soon_50 : decode cX12_soon 50 = .ok (.aload_n 0, 1) := by decide +kernel
theorem dX12_soon_51 : decode cX12_soon 51 = .ok (.getfield 69, 3) := by decide +kernel
theorem dX12_soon_54 : decode cX12_soon 54 = .ok (.iload_n 1, 1) := by decide +kernel
theorem dX12_soon_55 : decode cX12_soon 55 = .ok (.iaload, 1) := by decide +kernel
theorem dX12_soon_56 : decode cX12_soon 56 = .ok (.if_icmp .gt 26, 3) := by decide +kernel
theorem dX12_soon_59 : decode cX12_soon 59 = .ok (.aload_n 0, 1) := by decide +kernel
theorem dX12_soon_60 : decode cX12_soon 60 = .ok (.iload_n 1, 1) := by decide +kernel
theorem dX12_soon_61 : decode cX12_soon 61 = .ok (.iload_n 2, 1) := by decide +kernel
theorem dX12_soon_62 : decode cX12_soon 62 = .ok (.iload_n 3, 1) := by decide +kernel
theorem dX12_soon_63 : decode cX12_soon 63 = .ok (.iload 4, 2) := by decide +kernel
theorem dX12_soon_65 : decode cX12_soon 65 = .ok (.iload 5, 2) := by decide +kernel
theorem dX12_soon_67 : decode cX12_soon 67 = .ok (.invokevirtual 355, 3) := by decide +kernel
theorem dX12_soon_70 : decode cX12_soon 70 = .ok (.ifCond .lt 6, 3) := by decide +kernel
theorem dX12_soon_73 : decode cX12_soon 73 = .ok (.iload 5, 2) := by decide +kernel
theorem dX12_soon_75 : decode cX12_soon 75 = .ok (.ireturn, 1) := by decide +kernel
theorem dX12_soon_76 : decode cX12_soon 76 = .ok (.iinc 5 1, 3) := by decide +kernel
theorem dX12_soon_79 : decode cX12_soon 79 = .ok (.goto (-31), 3) := by decide +kernel
theorem dX12_soon_82 : decode cX12_soon 82 = .ok (.iconst (-1), 1) := by decide +kernel
theorem dX12_soon_83 : decode cX12_soon 83 = .ok (.ireturn, 1) := by decide +kernel
set_option maxHeartbeats 4000000 in
set_option maxRecDepth 100000 in
theorem s_X12_soon {P : PP} {a0 : Nat} {a1 : Int32} {a2 : Int32} {a3 : Int32} {a4 : Int32} (I : IM P a0) (hW : MW P a0) : CtrI yX12_soon cX12_soon 6 (some Jvm.ClassFile.FieldType.int) ({ frames := 8, cells := 0, slots := 0, locals := 512 } : Room) 0 0 P [.ref a0, .int a1, .int a2, .int a3, .int a4] (fun r P2 => IM P2 a0 ∧ EM [0, 28, 29, 30, 31, 32, 33, 34, 35, 36, 37, 38] a0 P P2 ∧ MW P2 a0 ∧ (-1 ≤ r.toInt ∧ r.toInt ≤ 40)) := by
  refine enI (lv := [(0, .ref a0), (1, .int a1), (2, .int a2), (3, .int a3), (4, .int a4)]) (by decide) (Nat.le_of_ble_eq_true rfl) rfl (fun E D cy C Ci0 ret => ?_)
  have ha0 := I.2.1
  have J48 : ∀ (n48 : Nat) (P48 : PP) (v48_5 : Int32), (41 - v48_5.toInt).toNat < n48 → (IM P48 a0) → (EM [0, 28, 29, 30, 31, 32, 33, 34, 35, 36, 37, 38] a0 P P48) → (MW P48 a0) → (0 ≤ a1.toInt ∧ a1.toInt ≤ 3) → (0 ≤ a2.toInt ∧ a2.toInt ≤ 1) → (0 ≤ a3.toInt ∧ a3.toInt ≤ 19) → (0 ≤ a4.toInt ∧ a4.toInt ≤ 1) → (0 ≤ v48_5.toInt ∧ v48_5.toInt ≤ 41) → (0 ≤ (pI P48 a0 0).toInt ∧ (pI P48 a0 0).toInt ≤ 0) → (∀ b, pR P48 a0 10 = some b → 1 ≤ (pI P48 b (a2.toInt.toNat)).toInt ∧ (pI P48 b (a2.toInt.toNat)).toInt ≤ 16) → G E ({ frames := 8, cells := 0, slots := 0, locals := 512 } : Room) D cy 6 P48 0 0 48 [(0, .ref a0), (1, .int a1), (2, .int a2), (3, .int a3), (4, .int a4), (5, .int v48_5)] [] := by
    intro n48
    induction n48 with
    | zero => intro P48 v48_5 hm48 I48 X48 W48 hv48_1 hv48_2 hv48_3 hv48_4 hv48_5 hq48_0 hq48_1; omega
    | succ n48 ih48 =>
      intro P48 v48_5 hm48 I48 X48 W48 hv48_1 hv48_2 hv48_3 hv48_4 hv48_5 hq48_0 hq48_1
      have h74906 := X48.at ha0
      obtain ⟨b74907, e74908, h74909⟩ := I48.fld (h74906) 10 13 2 rfl
      have hq48_1 := hq48_1 b74907 e74908
      refine g_iload C dX12_soon_48 5 rfl ?_
      refine g_aload_n C dX12_soon_50 rfl 0 rfl ?_
      obtain ⟨b74910, e74911, h74912⟩ := I48.fld (h74906) 20 13 20 rfl
      refine g_getR C fi_X12_69 rfl e74911 (h74906).1 (h74906).2 dX12_soon_51 ?_
      refine g_iload_n C dX12_soon_54 rfl 1 rfl ?_
      refine g_iald (j := (a1.toInt.toNat)) C h74912.1 h74912.2.1 (ix_in h74912.2.2 (by omega)) dX12_soon_55 ?_
      have h74913 := I48.arr e74911 rfl (a1.toInt.toNat)
      refine b_icmp_gt C 82 dX12_soon_56 (by decide) (fun h74914 => ?_) (fun h74914 => ?_)
      · have h74914 : (pI P48 b74910 (a1.toInt.toNat)).toInt < v48_5.toInt := h74914
        refine g_iconst (v := (-1)) C dX12_soon_82 (by decide) ?_
        exact ret _ _ _ _ _ _ dX12_soon_83 rfl (by decide) (by decide) ⟨I48, X48, W48, (by decide)⟩
      · have h74914 : v48_5.toInt ≤ (pI P48 b74910 (a1.toInt.toNat)).toInt := h74914
        refine g_aload_n C dX12_soon_59 rfl 0 rfl ?_
        refine g_iload_n C dX12_soon_60 rfl 1 rfl ?_
        refine g_iload_n C dX12_soon_61 rfl 2 rfl ?_
        refine g_iload_n C dX12_soon_62 rfl 3 rfl ?_
        refine g_iload C dX12_soon_63 4 rfl ?_
        refine g_iload C dX12_soon_65 5 rfl ?_
        refine g_callVI (rest := []) C mv_X12_355 [.int a1, .int a2, .int a3, .int a4, .int v48_5] (s_X12_readBy I48 (by omega) (by omega) (by omega) (by omega) (fun b9 e9 => by rw [e74908] at e9; cases e9; show 1 ≤ (pI P48 b74907 (a2.toInt.toNat)).toInt ∧ (pI P48 b74907 (a2.toInt.toNat)).toInt ≤ 16; omega) W48) (h74906).1 (h74906).2 rfl rfl (by decide) (Nat.le_of_ble_eq_true rfl) (by decide) dX12_soon_67 (fun r74915 Y74916 h74917 => ?_)
        obtain ⟨Iy74918, Xy74919, W74920, h74917⟩ := h74917
        have q74921 := Xy74919.keepF 0 (by decide)
        have q74922 := Xy74919.keepA e74908 (by decide) rfl (a2.toInt.toNat)
        have q74923 := Xy74919.keepA e74911 (by decide) rfl (a1.toInt.toNat)
        have Xz74924 : EM [0, 28, 29, 30, 31, 32, 33, 34, 35, 36, 37, 38] a0 P Y74916 := EM.tr ha0 X48 (Xy74919.mono (by decide))
        have e74925 := Xy74919.ref h74906 (by decide) e74908
        have e74926 := Xy74919.ref h74906 (by decide) e74911
        have h74927 := Xy74919.at h74906
        have h74928 := Xy74919.ar h74909
        have h74929 := Xy74919.ar h74912
        have h74917 : True := h74917
        have u74931 := ti_rng r74915
        refine b_if_lt C 76 dX12_soon_70 (by decide) (fun h74930 => ?_) (fun h74930 => ?_)
        · have h74930 : r74915.toInt < 0 := h74930
          refine s_iinc (lv0 := [(0, .ref a0), (1, .int a1), (2, .int a2), (3, .int a3), (4, .int a4)]) (m := 1) C dX12_soon_76 5 rfl (by decide) rfl (by decide) (by omega) (fun z74932 h74933 => ?_)
          have h74933 : z74932.toInt = v48_5.toInt + 1 := h74933
          refine g_goto C 48 dX12_soon_79 (by decide) ?_
          refine g_lv (lv' := [(0, .ref a0), (1, .int a1), (2, .int a2), (3, .int a3), (4, .int a4), (5, .int z74932)]) [1, 2, 3, 4, 5, 0] rfl ?_
          exact ih48 Y74916 z74932 (by omega) Iy74918 Xz74924 W74920 (by omega) (by omega) (by omega) (by omega) (by omega) (by omega) (fun b9 e9 => by rw [e74925] at e9; cases e9; omega)
        · have h74930 : 0 ≤ r74915.toInt := h74930
          refine g_iload C dX12_soon_73 5 rfl ?_
          exact ret _ _ _ _ _ _ dX12_soon_75 rfl (by decide) (by decide) ⟨Iy74918, Xz74924, W74920, (by omega)⟩
  have J39 : ∀ (P39 : PP), (IM P39 a0) → (EM [0, 28, 29, 30, 31, 32, 33, 34, 35, 36, 37, 38] a0 P P39) → (MW P39 a0) → (0 ≤ (pI P39 a0 0).toInt ∧ (pI P39 a0 0).toInt ≤ 0) → G E ({ frames := 8, cells := 0, slots := 0, locals := 512 } : Room) D cy 6 P39 0 0 39 [] [] := by
    intro P39 I39 X39 W39 hq39_0
    have h74934 := X39.at ha0
    refine g_iconst (v := (-1)) C dX12_soon_39 (by decide) ?_
    exact ret _ _ _ _ _ _ dX12_soon_40 rfl (by decide) (by decide) ⟨I39, X39, W39, (by decide)⟩
  refine g_aload_n C dX12_soon_0 rfl 0 rfl ?_
  refine g_iconst (v := 0) C dX12_soon_1 (by decide) ?_
  refine g_putI C fi_X12_1 rfl (ha0).1 (ha0).2 dX12_soon_2 ?_
  refine gqW (ks := [0]) (I.setI (rgOk.of rfl (by decide))) (EM.setI I (by decide)) (fun Y74935 Iy74936 Xy74937 w74938 => ?_)
  have w74938 : (pI Y74935 a0 0).toInt = 0 := w74938
  have W74939 := hW.keep I Xy74937 (by decide) (by decide) (by decide)
  have Xz74940 : EM [0, 28, 29, 30, 31, 32, 33, 34, 35, 36, 37, 38] a0 P Y74935 := Xy74937.mono (by decide)
  have h74941 := Xy74937.at ha0
  refine g_iload_n C dX12_soon_5 rfl 1 rfl ?_
  refine g_callSI (b := 0) (ci := 0) (rest := []) C ms_X12_278 [.int a1] (s_X12_isQuarter Iy74936.1) rfl rfl (by decide) (Nat.le_of_ble_eq_true rfl) (by decide) dX12_soon_6 (fun r74942 Y74943 h74944 => ?_)
  obtain ⟨rfl, h74944⟩ := h74944
  obtain ⟨h74944, hi74945⟩ := h74944
  have hi74945 : r74942.toInt = 0 ∨ (((0 : Int) ≤ a1.toInt ∧ a1.toInt ≤ (3 : Int))) := hi74945
  have h74944 : 0 ≤ r74942.toInt ∧ r74942.toInt ≤ 1 := h74944
  refine b_if_eq C 39 dX12_soon_9 (by decide) (fun h74946 => ?_) (fun h74946 => ?_)
  · have h74946 : r74942.toInt = 0 := congrArg Int32.toInt h74946
    clear hi74945
    refine g_lv (lv' := []) [] rfl ?_
    exact J39 Y74935 Iy74936 Xz74940 W74939 (by omega)
  · have h74946 : r74942.toInt ≠ 0 := ti_ne h74946
    replace hi74945 := hi74945.resolve_left (by omega)
    refine g_aload_n C dX12_soon_12 rfl 0 rfl ?_
    refine g_iload_n C dX12_soon_13 rfl 2 rfl ?_
    refine g_callVI (rest := []) C mv_X12_192 [.int a2] (s_X12_isBook Iy74936 W74939) (h74941).1 (h74941).2 rfl rfl (by decide) (Nat.le_of_ble_eq_true rfl) (by decide) dX12_soon_14 (fun r74947 Y74948 h74949 => ?_)
    obtain ⟨rfl, h74949⟩ := h74949
    obtain ⟨h74949, hi74950, hi74951⟩ := h74949
    have hi74950 : r74947.toInt = 0 ∨ (((0 : Int) ≤ a2.toInt ∧ a2.toInt ≤ (1 : Int))) := hi74950
    have h74949 : 0 ≤ r74947.toInt ∧ r74947.toInt ≤ 1 := h74949
    refine b_if_eq C 39 dX12_soon_17 (by decide) (fun h74952 => ?_) (fun h74952 => ?_)
    · have h74952 : r74947.toInt = 0 := congrArg Int32.toInt h74952
      clear hi74950
      refine g_lv (lv' := []) [] rfl ?_
      exact J39 Y74935 Iy74936 Xz74940 W74939 (by omega)
    · have h74952 : r74947.toInt ≠ 0 := ti_ne h74952
      replace hi74950 := hi74950.resolve_left (by omega)
      obtain ⟨b74953, e74954, h74955⟩ := Iy74936.fld (h74941) 10 13 2 rfl
      have hi74951 := (hi74951.resolve_left (by omega)) b74953 e74954
      have hi74951 : 0 < (pI Y74935 b74953 (a2.toInt.toNat)).toInt := hi74951
      have h74956 := Iy74936.arr e74954 rfl (a2.toInt.toNat)
      refine g_aload_n C dX12_soon_20 rfl 0 rfl ?_
      refine g_iload_n C dX12_soon_21 rfl 2 rfl ?_
      refine g_iload_n C dX12_soon_22 rfl 3 rfl ?_
      refine g_callVI (rest := []) C mv_X12_352 [.int a2, .int a3] (s_X12_isPage Iy74936 (by omega) W74939) (h74941).1 (h74941).2 rfl rfl (by decide) (Nat.le_of_ble_eq_true rfl) (by decide) dX12_soon_23 (fun r74957 Y74958 h74959 => ?_)
      obtain ⟨rfl, h74959⟩ := h74959
      obtain ⟨h74959, hi74960⟩ := h74959
      have hi74960 : r74957.toInt = 0 ∨ (((0 : Int) ≤ a3.toInt ∧ a3.toInt ≤ (19 : Int))) := hi74960
      have h74959 : 0 ≤ r74957.toInt ∧ r74957.toInt ≤ 1 := h74959
      refine b_if_eq C 39 dX12_soon_26 (by decide) (fun h74961 => ?_) (fun h74961 => ?_)
      · have h74961 : r74957.toInt = 0 := congrArg Int32.toInt h74961
        clear hi74960
        refine g_lv (lv' := []) [] rfl ?_
        exact J39 Y74935 Iy74936 Xz74940 W74939 (by omega)
      · have h74961 : r74957.toInt ≠ 0 := ti_ne h74961
        replace hi74960 := hi74960.resolve_left (by omega)
        refine g_iload C dX12_soon_29 4 rfl ?_
        refine g_iconst (v := 0) C dX12_soon_31 (by decide) ?_
        refine g_iconst (v := 1) C dX12_soon_32 (by decide) ?_
        refine g_callSI (b := 0) (ci := 0) (rest := []) C ms_X12_178 [.int a4, .int 0, .int 1] (s_X12_within Iy74936.1) rfl rfl (by decide) (Nat.le_of_ble_eq_true rfl) (by decide) dX12_soon_33 (fun r74962 Y74963 h74964 => ?_)
        obtain ⟨rfl, h74964⟩ := h74964
        obtain ⟨h74964, hi74965⟩ := h74964
        have hi74965 : r74962.toInt = 0 ∨ (0 ≤ a4.toInt ∧ a4.toInt ≤ 1) := hi74965
        have h74964 : 0 ≤ r74962.toInt ∧ r74962.toInt ≤ 1 := h74964
        refine b_if_ne C 41 dX12_soon_36 (by decide) (fun h74966 => ?_) (fun h74966 => ?_)
        · have h74966 : r74962.toInt ≠ 0 := ti_ne h74966
          replace hi74965 := hi74965.resolve_left (by omega)
          refine g_aload_n C dX12_soon_41 rfl 0 rfl ?_
          refine g_callVV (rest := []) C mv_X12_336 [] (s_X12_leavesNone Iy74936 W74939) (h74941).1 (h74941).2 rfl rfl (by decide) (Nat.le_of_ble_eq_true rfl) (by decide) dX12_soon_42 (fun Y74968 h74969 => ?_)
          obtain ⟨Iy74970, Xy74971, W74972⟩ := h74969
          have q74973 := Xy74971.keepF 0 (by decide)
          have q74974 := Xy74971.keepA e74954 (by decide) rfl (a2.toInt.toNat)
          have Xz74975 : EM [0, 28, 29, 30, 31, 32, 33, 34, 35, 36, 37, 38] a0 P Y74968 := EM.tr ha0 Xz74940 (Xy74971.mono (by decide))
          have e74976 := Xy74971.ref h74941 (by decide) e74954
          have h74977 := Xy74971.at h74941
          have h74978 := Xy74971.ar h74955
          refine g_iconst (v := 0) C dX12_soon_45 (by decide) ?_
          refine g_istore (lv' := [(5, .int 0), (0, .ref a0), (1, .int a1), (2, .int a2), (3, .int a3), (4, .int a4)]) C dX12_soon_46 (by decide) rfl ?_
          refine g_lv (lv' := [(0, .ref a0), (1, .int a1), (2, .int a2), (3, .int a3), (4, .int a4), (5, .int 0)]) [1, 2, 3, 4, 5, 0] rfl ?_
          exact J48 _ Y74968 0 (Nat.lt_succ_self _) Iy74970 Xz74975 W74972 (by omega) (by omega) (by omega) (by omega) (by decide) (by omega) (fun b9 e9 => by rw [e74976] at e9; cases e9; omega)
        · have h74966 : r74962.toInt = 0 := congrArg Int32.toInt h74966
          clear hi74965
          refine g_lv (lv' := []) [] rfl ?_
          exact J39 Y74935 Iy74936 Xz74940 W74939 (by omega)
theorem dX12_swap_0 : decode cX12_swap 0 = .ok (.aload_n 0, 1) := by decide +kernel
theorem dX12_swap_1 : decode cX12_swap 1 = .ok (.iconst 0, 1) := by decide +kernel
theorem dX12_swap_2 : decode cX12_swap 2 = .ok (.putfield 1, 3) := by decide +kernel
theorem dX12_swap_5 : decode cX12_swap 5 = .ok (.iload_n 1, 1) := by decide +kernel
theorem dX12_swap_6 : decode cX12_swap 6 = .ok (.invokestatic 278, 3) := by decide +kernel
theorem dX12_swap_9 : decode cX12_swap 9 = .ok (.ifCond .eq 25, 3) := by decide +kernel
theorem dX12_swap_12 : decode cX12_swap 12 = .ok (.iload_n 2, 1) := by decide +kernel
theorem dX12_swap_13 : decode cX12_swap 13 = .ok (.invokestatic 278, 3) := by decide +kernel
theorem dX12_swap_16 : decode cX12_swap 16 = .ok (.ifCond .eq 18, 3) := by decide +kernel
theorem dX12_swap_19 : decode cX12_swap 19 = .ok (.iload_n 1, 1) := by decide +kernel
theorem dX12_swap_20 : decode cX12_swap 20 = .ok (.iload_n 2, 1) := by decide +kernel
theorem dX12_swap_21 : decode cX12_swap 21 = .ok (.if_icmp .eq 13, 3) := by decide +kernel
theorem dX12_swap_24 : decode cX12_swap 24 = .ok (.iload_n 3, 1) := by decide +kernel
theorem dX12_swap_25 : decode cX12_swap 25 = .ok (.iconst 0, 1) := by decide +kernel
theorem dX12_swap_26 : decode cX12_swap 26 = .ok (.bipush 40, 2) := by decide +kernel
theorem dX12_swap_28 : decode cX12_swap 28 = .ok (.invokestatic 178, 3) := by decide +kernel
theorem dX12_swap_31 : decode cX12_swap 31 = .ok (.ifCond .ne 5, 3) := by decide +kernel
theorem dX12_swap_34 : decode cX12_swap 34 = .ok (.iconst (-1), 1) := by decide +kernel
theorem dX12_swap_35 : decode cX12_swap 35 = .ok (.ireturn, 1) := by decide +kernel
theorem dX12_swap_36 : decode cX12_swap 36 = .ok (.iconst 0, 1) := by decide +kernel
theorem dX12_swap_37 : decode cX12_swap 37 = .ok (.istore 4, 2) := by decide +kernel
theorem dX12_swap_39 : decode cX12_swap 39 = .ok (.iconst 0, 1) := by decide +kernel
theorem dX12_swap_40 : decode cX12_swap 40 = .ok (.istore 5, 2) := by decide +kernel
theorem dX12_swap_42 : decode cX12_swap 42 = .ok (.iload 5, 2) := by decide +kernel
theorem dX12_swap_44 : decode cX12_swap 44 = .ok (.aload_n 0, 1) := by decide +kernel
theorem dX12_swap_45 : decode cX12_swap 45 = .ok (.getfield 69, 3) := by decide +kernel
theorem dX12_swap_48 : decode cX12_swap 48 = .ok (.iload_n 1, 1) := by decide +kernel
theorem dX12_swap_49 : decode cX12_swap 49 = .ok (.iaload, 1) := by decide +kernel
theorem dX12_swap_50 : decode cX12_swap 50 = .ok (.if_icmp .ge 107, 3) := by decide +kernel
theorem dX12_swap_53 : decode cX12_swap 53 = .ok (.iload 4, 2) := by decide +kernel
theorem dX12_swap_55 : decode cX12_swap 55 = .ok (.iload_n 3, 1) := by decide +kernel
theorem dX12_swap_56 : decode cX12_swap 56 = .ok (.if_icmp .ge 101, 3) := by decide +kernel
theorem dX12_swap_59 : decode cX12_swap 59 = .ok (.bipush 40, 2) := by decide +kernel
theorem dX12_swap_61 : decode cX12_swap 61 = .ok (.iload_n 1, 1) := by decide +kernel
theorem dX12_swap_62 : decode cX12_swap 62 = .ok (.imul, 1) := by decide +kernel
theorem dX12_swap_63 : decode cX12_swap 63 = .ok (.iload 5, 2) := by decide +kernel
theorem dX12_swap_65 : decode cX12_swap 65 = .ok (.iadd, 1) := by decide +kernel
theorem dX12_swap_66 : decode cX12_swap 66 = .ok (.istore 6, 2) := by decide +kernel
theorem dX12_swap_68 : decode cX12_swap 68 = .ok (.aload_n 0, 1) := by decide +kernel
theorem dX12_swap_69 : decode cX12_swap 69 = .ok (.getfield 69, 3) := by decide +kernel
theorem dX12_swap_72 : decode cX12_swap 72 = .ok (.iload_n 2, 1) := by decide +kernel
theorem dX12_swap_73 : decode cX12_swap 73 = .ok (.iaload, 1) := by decide +kernel
theorem dX12_swap_74 : decode cX12_swap 74 = .ok (.bipush 40, 2) := by decide +kernel
theorem dX12_swap_76 : decode cX12_swap 76 = .ok (.if_icmp .ge 27, 3) := by decide +kernel
theorem dX12_swap_79 : decode cX12_swap 79 = .ok (.aload_n 0, 1) := by decide +kernel
theorem dX12_swap_80 : decode cX12_swap 80 = .ok (.getfield 75, 3) := by decide +kernel
theorem dX12_swap_83 : decode cX12_swap 83 = .ok (.iload 6, 2) := by decide +kernel
theorem dX12_swap_85 : decode cX12_swap 85 = .ok (.iaload, 1) := by decide +kernel
theorem dX12_swap_86 : decode cX12_swap 86 = .ok (.ifCond .ge 13, 3) := by decide +kernel
theorem dX12_swap_89 : decode cX12_swap 89 = .ok (.aload_n 0, 1) := by decide +kernel
theorem dX12_swap_90 : decode cX12_swap 90 = .ok (.iload_n 2, 1) := by decide +kernel
theorem dX12_swap_91 : decode cX12_swap 91 = .ok (.invokevirtual 295, 3) := by decide +kernel
theorem dX12_swap_94 : decode cX12_swap 94 = .ok (.bipush 6, 2) := by decide +kernel
theorem dX12_swap_96 : decode cX12_swap 96 = .ok (.if_icmp .ge 7, 3) := by decide +kernel
theorem dX12_swap_99 : decode cX12_swap 99 = .ok (.iconst 1, 1) := by decide +kernel
theorem dX12_swap_100 : decode cX12_swap 100 = .ok (.goto 4, 3) := by decide +kernel
theorem dX12_swap_103 : decode cX12_swap 103 = .ok (.iconst 0, 1) := by decide +kernel
theorem dX12_swap_104 : decode cX12_swap 104 = .ok (.istore 7, 2) := by decide +kernel
theorem dX12_swap_106 : decode cX12_swap 106 = .ok (.iload 7, 2) := by decide +kernel
theorem dX12_swap_108 : decode cX12_swap 108 = .ok (.ifCond .eq 43, 3) := by decide +kernel
theorem dX12_swap_111 : decode cX12_swap 111 = .ok (.aload_n 0, 1) := by decide +kernel
theorem dX12_swap_112 : decode cX12_swap 112 = .ok (.iload_n 2, 1) := by decide +kernel
theorem dX12_swap_113 : decode cX12_swap 113 = .ok (.iload 6, 2) := by decide +kernel
theorem dX12_swap_115 : decode cX12_swap 115 = .ok (.invokevirtual 405, 3) := by decide +kernel
theorem dX12_swap_118 : decode cX12_swap 118 = .ok (.ifCond .ne 33, 3) := by decide +kernel
theorem dX12_swap_121 : decode cX12_swap 121 = .ok (.aload_n 0, 1) := by decide +kernel
theorem dX12_swap_122 : decode cX12_swap 122 = .ok (.iload 6, 2) := by decide +kernel
theorem dX12_swap_124 : decode cX12_swap 124 = .ok (.bipush 40, 2) := by decide +kernel
theorem dX12_swap_126 : decode cX12_swap 126 = .ok (.iload_n 2, 1) := by decide +kernel
theorem dX12_swap_127 : decode cX12_swap 127 = .ok (.imul, 1) := by decide +kernel
theorem dX12_swap_128 : decode cX12_swap 128 = .ok (.aload_n 0, 1) := by decide +kernel
theorem dX12_swap_129 : decode cX12_swap 129 = .ok (.getfield 69, 3) := by decide +kernel
theorem dX12_swap_132 : decode cX12_swap 132 = .ok (.iload_n 2, 1) := by decide +kernel
theorem dX12_swap_133 : decode cX12_swap 133 = .ok (.iaload, 1) := by decide +kernel
theorem dX12_swap_134 : decode cX12_swap 134 = .ok (.iadd, 1) := by decide +kernel
theorem dX12_swap_135 : decode cX12_swap 135 = .ok (.invokevirtual 274, 3) := by decide +kernel
theorem dX12_swap_138 : decode cX12_swap 138 = .ok (.aload_n 0, 1) := by decide +kernel
theorem dX12_swap_139 : decode cX12_swap 139 = .ok (.getfield 69, 3) := by decide +kernel
theorem dX12_swap_142 : decode cX12_swap 142 = .ok (.iload_n 2, 1) := by decide +kernel
theorem dX12_swap_143 : decode cX12_swap 143 = .ok (.dup2, 1) := by decide +kernel
theorem dX12_swap_144 : decode cX12_swap 144 = .ok (.iaload, 1) := by decide +kernel
theorem dX12_swap_145 : decode cX12_swap 145 = .ok (.iconst 1, 1) := by decide +kernel
theorem dX12_swap_146 : decode cX12_swap 146 = .ok (.iadd, 1) := by decide +kernel
theorem dX12_swap_147 : decode cX12_swap 147 = .ok (.iastore, 1) := by decide +kernel
theorem dX12_swap_148 : decode cX12_swap 148 = .ok (.iinc 4 1, 3) := by decide +kernel
theorem dX12_swap_151 : decode cX12_swap 151 = .ok (.iinc 5 1, 3) := by decide +kernel
theorem dX12_swap_154 : decode cX12_swap 154 = .ok (.goto (-112), 3) := by decide +kernel
theorem dX12_swap_157 : decode cX12_swap 157 = .ok (.iload 4, 2) := by decide +kernel
theorem dX12_swap_159 : decode cX12_swap 159 = .ok (.ireturn, 1) := by decide +kernel
set_option maxHeartbeats 4000000 in
set_option maxRecDepth 100000 in
theorem s_X12_swap {P : PP} {a0 : Nat} {a1 : Int32} {a2 : Int32} {a3 : Int32} (I : IM P a0) (hW : MW P a0) : CtrI yX12_swap cX12_swap 8 (some Jvm.ClassFile.FieldType.int) ({ frames := 3, cells := 0, slots := 0, locals := 192 } : Room) 0 0 P [.ref a0, .int a1, .int a2, .int a3] (fun r P2 => IM P2 a0 ∧ EM [0, 20, 21, 22, 23, 24, 25] a0 P P2 ∧ MW P2 a0 ∧ (-1 ≤ r.toInt ∧ r.toInt ≤ 40)) := by
  refine enI (lv := [(0, .ref a0), (1, .int a1), (2, .int a2), (3, .int a3)]) (by decide) (Nat.le_of_ble_eq_true rfl) rfl (fun E D cy C Ci0 ret => ?_)
  have ha0 := I.2.1
  have J157 : ∀ (P157 : PP) (v157_4 : Int32), (IM P157 a0) → (EM [0, 20, 21, 22, 23, 24, 25] a0 P P157) → (MW P157 a0) → (0 ≤ v157_4.toInt ∧ v157_4.toInt ≤ 40) → (0 ≤ (pI P157 a0 0).toInt ∧ (pI P157 a0 0).toInt ≤ 0) → G E ({ frames := 3, cells := 0, slots := 0, locals := 192 } : Room) D cy 8 P157 0 0 157 [(4, .int v157_4)] [] := by
    intro P157 v157_4 I157 X157 W157 hv157_4 hq157_0
    have h76185 := X157.at ha0
    refine g_iload C dX12_swap_157 0 rfl ?_
    exact ret _ _ _ _ _ _ dX12_swap_159 rfl (by decide) (by decide) ⟨I157, X157, W157, (by omega)⟩
  have J42 : ∀ (n42 : Nat) (P42 : PP) (v42_4 : Int32) (v42_5 : Int32), (40 - v42_5.toInt).toNat < n42 → (IM P42 a0) → (EM [0, 20, 21, 22, 23, 24, 25] a0 P P42) → (MW P42 a0) → (0 ≤ a1.toInt ∧ a1.toInt ≤ 3) → (0 ≤ a2.toInt ∧ a2.toInt ≤ 3) → (0 ≤ a3.toInt ∧ a3.toInt ≤ 40) → (0 ≤ v42_4.toInt ∧ v42_4.toInt ≤ 40) → (0 ≤ v42_5.toInt ∧ v42_5.toInt ≤ 40) → (0 ≤ (pI P42 a0 0).toInt ∧ (pI P42 a0 0).toInt ≤ 0) → G E ({ frames := 3, cells := 0, slots := 0, locals := 192 } : Room) D cy 8 P42 0 0 42 [(0, .ref a0), (1, .int a1), (2, .int a2), (3, .int a3), (4, .int v42_4), (5, .int v42_5)] [] := by
    intro n42
    induction n42 with
    | zero => intro P42 v42_4 v42_5 hm42 I42 X42 W42 hv42_1 hv42_2 hv42_3 hv42_4 hv42_5 hq42_0; omega
    | succ n42 ih42 =>
      intro P42 v42_4 v42_5 hm42 I42 X42 W42 hv42_1 hv42_2 hv42_3 hv42_4 hv42_5 hq42_0
      have h76186 := X42.at ha0
      have J151 : ∀ (P151 : PP) (v151_4 : Int32), (IM P151 a0) → (EM [0, 20, 21, 22, 23, 24, 25] a0 P P151) → (MW P151 a0) → (0 ≤ a1.toInt ∧ a1.toInt ≤ 3) → (0 ≤ a2.toInt ∧ a2.toInt ≤ 3) → (1 ≤ a3.toInt ∧ a3.toInt ≤ 40) → (0 ≤ v151_4.toInt ∧ v151_4.toInt ≤ 40) → (0 ≤ v42_5.toInt ∧ v42_5.toInt ≤ 39) → (0 ≤ (pI P151 a0 0).toInt ∧ (pI P151 a0 0).toInt ≤ 0) → G E ({ frames := 3, cells := 0, slots := 0, locals := 192 } : Room) D cy 8 P151 0 0 151 [(0, .ref a0), (1, .int a1), (2, .int a2), (3, .int a3), (4, .int v151_4), (5, .int v42_5)] [] := by
        intro P151 v151_4 I151 X151 W151 hv151_1 hv151_2 hv151_3 hv151_4 hv151_5 hq151_0
        have h76187 := X151.at ha0
        refine s_iinc (lv0 := [(0, .ref a0), (1, .int a1), (2, .int a2), (3, .int a3), (4, .int v151_4)]) (m := 1) C dX12_swap_151 5 rfl (by decide) rfl (by decide) (by omega) (fun z76188 h76189 => ?_)
        have h76189 : z76188.toInt = v42_5.toInt + 1 := h76189
        refine g_goto C 42 dX12_swap_154 (by decide) ?_
        refine g_lv (lv' := [(0, .ref a0), (1, .int a1), (2, .int a2), (3, .int a3), (4, .int v151_4), (5, .int z76188)]) [1, 2, 3, 4, 5, 0] rfl ?_
        exact ih42 P151 v151_4 z76188 (by omega) I151 X151 W151 (by omega) (by omega) (by omega) (by omega) (by omega) (by omega)
      have J104 : ∀ (v104_6 : Int32) (v104_s0 : Int32), (0 ≤ a1.toInt ∧ a1.toInt ≤ 3) → (0 ≤ a2.toInt ∧ a2.toInt ≤ 3) → (1 ≤ a3.toInt ∧ a3.toInt ≤ 40) → (0 ≤ v42_4.toInt ∧ v42_4.toInt ≤ 39) → (0 ≤ v42_5.toInt ∧ v42_5.toInt ≤ 39) → (0 ≤ v104_6.toInt ∧ v104_6.toInt ≤ 159) → (0 ≤ v104_s0.toInt ∧ v104_s0.toInt ≤ 1) → (0 ≤ (pI P42 a0 0).toInt ∧ (pI P42 a0 0).toInt ≤ 0) → (∀ b, pR P42 a0 20 = some b → 1 ≤ (pI P42 b (a1.toInt.toNat)).toInt ∧ (pI P42 b (a1.toInt.toNat)).toInt ≤ 40) → (∀ b920, pR P42 a0 20 = some b920 → v104_s0.toInt = 0 ∨ (pI P42 b920 (a2.toInt.toNat)).toInt ≤ 39) → G E ({ frames := 3, cells := 0, slots := 0, locals := 192 } : Room) D cy 8 P42 0 0 104 [(0, .ref a0), (1, .int a1), (2, .int a2), (3, .int a3), (4, .int v42_4), (5, .int v42_5), (6, .int v104_6)] [.int v104_s0] := by
        intro v104_6 v104_s0 hv104_1 hv104_2 hv104_3 hv104_4 hv104_5 hv104_6 hv104_s0 hq104_0 hq104_1 rel104_0
        have h76190 := X42.at ha0
        obtain ⟨b76191, e76192, h76193⟩ := I42.fld (h76190) 20 13 20 rfl
        have hq104_1 := hq104_1 b76191 e76192
        have rel104_0 := rel104_0 b76191 e76192
        have h76194 := I42.arr e76192 rfl (a2.toInt.toNat)
        refine g_istore (lv' := [(7, .int v104_s0), (0, .ref a0), (1, .int a1), (2, .int a2), (3, .int a3), (4, .int v42_4), (5, .int v42_5), (6, .int v104_6)]) C dX12_swap_104 (by decide) rfl ?_
        refine g_iload C dX12_swap_106 0 rfl ?_
        refine b_if_eq C 151 dX12_swap_108 (by decide) (fun h76195 => ?_) (fun h76195 => ?_)
        · have h76195 : v104_s0.toInt = 0 := congrArg Int32.toInt h76195
          refine g_lv (lv' := [(0, .ref a0), (1, .int a1), (2, .int a2), (3, .int a3), (4, .int v42_4), (5, .int v42_5)]) [1, 2, 3, 4, 5, 6] rfl ?_
          exact J151 P42 v42_4 I42 X42 W42 (by omega) (by omega) (by omega) (by omega) (by omega) (by omega)
        · have h76195 : v104_s0.toInt ≠ 0 := ti_ne h76195
          refine g_aload_n C dX12_swap_111 rfl 1 rfl ?_
          refine g_iload_n C dX12_swap_112 rfl 3 rfl ?_
          refine g_iload C dX12_swap_113 7 rfl ?_
          refine g_callVI (rest := []) C mv_X12_405 [.int a2, .int v104_6] (s_X12_hasAlike I42 (by omega) (by omega) W42) (h76190).1 (h76190).2 rfl rfl (by decide) (Nat.le_of_ble_eq_true rfl) (by decide) dX12_swap_115 (fun r76196 Y76197 h76198 => ?_)
          obtain ⟨rfl, h76198⟩ := h76198
          have h76198 : 0 ≤ r76196.toInt ∧ r76196.toInt ≤ 1 := h76198
          refine b_if_ne C 151 dX12_swap_118 (by decide) (fun h76199 => ?_) (fun h76199 => ?_)
          · have h76199 : r76196.toInt ≠ 0 := ti_ne h76199
            refine g_lv (lv' := [(0, .ref a0), (1, .int a1), (2, .int a2), (3, .int a3), (4, .int v42_4), (5, .int v42_5)]) [1, 2, 3, 4, 5, 6] rfl ?_
            exact J151 P42 v42_4 I42 X42 W42 (by omega) (by omega) (by omega) (by omega) (by omega) (by omega)
          · have h76199 : r76196.toInt = 0 := congrArg Int32.toInt h76199
            refine g_aload_n C dX12_swap_121 rfl 1 rfl ?_
            refine g_iload C dX12_swap_122 7 rfl ?_
            refine g_bipush (v := 40) C dX12_swap_124 (by decide) ?_
            refine g_iload_n C dX12_swap_126 rfl 3 rfl ?_
            refine s_imul C dX12_swap_127 (by show -2147483648 ≤ 40 * a2.toInt ∧ 40 * a2.toInt ≤ 2147483647; omega) (fun z76200 h76201 => ?_)
            have h76201 : z76200.toInt = 40 * a2.toInt := h76201
            refine g_aload_n C dX12_swap_128 rfl 1 rfl ?_
            refine g_getR C fi_X12_69 rfl e76192 (h76190).1 (h76190).2 dX12_swap_129 ?_
            refine g_iload_n C dX12_swap_132 rfl 3 rfl ?_
            refine g_iald (j := (a2.toInt.toNat)) C h76193.1 h76193.2.1 (ix_in h76193.2.2 (by omega)) dX12_swap_133 ?_
            refine s_iadd C dX12_swap_134 (by show -2147483648 ≤ z76200.toInt + (pI P42 b76191 (a2.toInt.toNat)).toInt ∧ z76200.toInt + (pI P42 b76191 (a2.toInt.toNat)).toInt ≤ 2147483647; omega) (fun z76202 h76203 => ?_)
            have h76203 : z76202.toInt = z76200.toInt + (pI P42 b76191 (a2.toInt.toNat)).toInt := h76203
            refine g_callVV (rest := []) C mv_X12_274 [.int v104_6, .int z76202] (s_X12_moves I42 (by omega) (by omega) W42) (h76190).1 (h76190).2 rfl rfl (by decide) (Nat.le_of_ble_eq_true rfl) (by decide) dX12_swap_135 (fun Y76205 h76206 => ?_)
            obtain ⟨Iy76207, Xy76208, W76209⟩ := h76206
            have q76210 := Xy76208.keepF 0 (by decide)
            have q76211 := Xy76208.keepA e76192 (by decide) rfl (a1.toInt.toNat)
            have q76212 := Xy76208.keepA e76192 (by decide) rfl (a2.toInt.toNat)
            have Xz76213 : EM [0, 20, 21, 22, 23, 24, 25] a0 P Y76205 := EM.tr ha0 X42 (Xy76208.mono (by decide))
            have e76214 := Xy76208.ref h76190 (by decide) e76192
            have h76215 := Xy76208.at h76190
            have h76216 := Xy76208.ar h76193
            refine g_aload_n C dX12_swap_138 rfl 1 rfl ?_
            refine g_getR C fi_X12_69 rfl e76214 (h76215).1 (h76215).2 dX12_swap_139 ?_
            refine g_iload_n C dX12_swap_142 rfl 3 rfl ?_
            refine g_dup2_11 C dX12_swap_143 rfl rfl ?_
            refine g_iald (j := (a2.toInt.toNat)) C h76216.1 h76216.2.1 (ix_in h76216.2.2 (by omega)) dX12_swap_144 ?_
            refine g_iconst (v := 1) C dX12_swap_145 (by decide) ?_
            refine s_iadd C dX12_swap_146 (by show -2147483648 ≤ (pI Y76205 b76191 (a2.toInt.toNat)).toInt + 1 ∧ (pI Y76205 b76191 (a2.toInt.toNat)).toInt + 1 ≤ 2147483647; omega) (fun z76217 h76218 => ?_)
            have h76218 : z76217.toInt = (pI Y76205 b76191 (a2.toInt.toNat)).toInt + 1 := h76218
            refine g_iast (j := (a2.toInt.toNat)) C h76216.1 h76216.2.1 (ix_in h76216.2.2 (by omega)) dX12_swap_147 ?_
            refine gqW (ks := [20]) (Iy76207.setA e76214 h76216 (by decide) (arOk.of rfl (by omega))) (EM.setA Iy76207 e76214 rfl (by decide)) (fun Y76219 Iy76220 Xy76221 w76222 => ?_)
            have w76222 : (pI Y76219 b76191 (a2.toInt.toNat)).toInt = z76217.toInt := w76222
            have q76223 := Xy76221.keepF 0 (by decide)
            have W76224 := W76209.keep Iy76207 Xy76221 (by decide) (by decide) (by decide)
            have Xz76225 : EM [0, 20, 21, 22, 23, 24, 25] a0 P Y76219 := EM.tr ha0 Xz76213 (Xy76221.mono (by decide))
            have e76226 := Xy76221.ref h76215 (by decide) e76214
            have h76227 := Xy76221.at h76215
            have h76228 := Xy76221.ar h76216
            refine s_iinc (lv0 := [(7, .int v104_s0), (0, .ref a0), (1, .int a1), (2, .int a2), (3, .int a3), (5, .int v42_5), (6, .int v104_6)]) (m := 1) C dX12_swap_148 5 rfl (by decide) rfl (by decide) (by omega) (fun z76229 h76230 => ?_)
            have h76230 : z76229.toInt = v42_4.toInt + 1 := h76230
            refine g_lv (lv' := [(0, .ref a0), (1, .int a1), (2, .int a2), (3, .int a3), (4, .int z76229), (5, .int v42_5)]) [2, 3, 4, 5, 0, 6] rfl ?_
            exact J151 Y76219 z76229 Iy76220 Xz76225 W76224 (by omega) (by omega) (by omega) (by omega) (by omega) (by omega)
      have J103 : ∀ (v103_6 : Int32), (0 ≤ a1.toInt ∧ a1.toInt ≤ 3) → (0 ≤ a2.toInt ∧ a2.toInt ≤ 3) → (1 ≤ a3.toInt ∧ a3.toInt ≤ 40) → (0 ≤ v42_4.toInt ∧ v42_4.toInt ≤ 39) → (0 ≤ v42_5.toInt ∧ v42_5.toInt ≤ 39) → (0 ≤ v103_6.toInt ∧ v103_6.toInt ≤ 159) → (0 ≤ (pI P42 a0 0).toInt ∧ (pI P42 a0 0).toInt ≤ 0) → (∀ b, pR P42 a0 20 = some b → 1 ≤ (pI P42 b (a1.toInt.toNat)).toInt ∧ (pI P42 b (a1.toInt.toNat)).toInt ≤ 40) → (∀ b, pR P42 a0 20 = some b → 0 ≤ (pI P42 b (a2.toInt.toNat)).toInt ∧ (pI P42 b (a2.toInt.toNat)).toInt ≤ 40) → G E ({ frames := 3, cells := 0, slots := 0, locals := 192 } : Room) D cy 8 P42 0 0 103 [(0, .ref a0), (1, .int a1), (2, .int a2), (3, .int a3), (4, .int v42_4), (5, .int v42_5), (6, .int v103_6)] [] := by
        intro v103_6 hv103_1 hv103_2 hv103_3 hv103_4 hv103_5 hv103_6 hq103_0 hq103_1 hq103_2
        have h76231 := X42.at ha0
        obtain ⟨b76232, e76233, h76234⟩ := I42.fld (h76231) 20 13 20 rfl
        have hq103_1 := hq103_1 b76232 e76233
        have hq103_2 := hq103_2 b76232 e76233
        refine g_iconst (v := 0) C dX12_swap_103 (by decide) ?_
        exact J104 v103_6 0 (by omega) (by omega) (by omega) (by omega) (by omega) (by omega) (by decide) (by omega) (fun b9 e9 => by rw [e76233] at e9; cases e9; omega) (by intro b920 e920; rw [e76233] at e920; cases e920; show 0 = 0 ∨ (pI P42 b76232 (a2.toInt.toNat)).toInt ≤ 39; omega)
      have J99 : ∀ (v99_6 : Int32), (0 ≤ a1.toInt ∧ a1.toInt ≤ 3) → (0 ≤ a2.toInt ∧ a2.toInt ≤ 3) → (1 ≤ a3.toInt ∧ a3.toInt ≤ 40) → (0 ≤ v42_4.toInt ∧ v42_4.toInt ≤ 39) → (0 ≤ v42_5.toInt ∧ v42_5.toInt ≤ 39) → (0 ≤ v99_6.toInt ∧ v99_6.toInt ≤ 159) → (0 ≤ (pI P42 a0 0).toInt ∧ (pI P42 a0 0).toInt ≤ 0) → (∀ b, pR P42 a0 20 = some b → 1 ≤ (pI P42 b (a1.toInt.toNat)).toInt ∧ (pI P42 b (a1.toInt.toNat)).toInt ≤ 40) → (∀ b, pR P42 a0 20 = some b → 0 ≤ (pI P42 b (a2.toInt.toNat)).toInt ∧ (pI P42 b (a2.toInt.toNat)).toInt ≤ 39) → G E ({ frames := 3, cells := 0, slots := 0, locals := 192 } : Room) D cy 8 P42 0 0 99 [(0, .ref a0), (1, .int a1), (2, .int a2), (3, .int a3), (4, .int v42_4), (5, .int v42_5), (6, .int v99_6)] [] := by
        intro v99_6 hv99_1 hv99_2 hv99_3 hv99_4 hv99_5 hv99_6 hq99_0 hq99_1 hq99_2
        have h76235 := X42.at ha0
        obtain ⟨b76236, e76237, h76238⟩ := I42.fld (h76235) 20 13 20 rfl
        have hq99_1 := hq99_1 b76236 e76237
        have hq99_2 := hq99_2 b76236 e76237
        refine g_iconst (v := 1) C dX12_swap_99 (by decide) ?_
        refine g_goto C 104 dX12_swap_100 (by decide) ?_
        exact J104 v99_6 1 (by omega) (by omega) (by omega) (by omega) (by omega) (by omega) (by decide) (by omega) (fun b9 e9 => by rw [e76237] at e9; cases e9; omega) (by intro b920 e920; rw [e76237] at e920; cases e920; show 1 = 0 ∨ (pI P42 b76236 (a2.toInt.toNat)).toInt ≤ 39; omega)
      refine g_iload C dX12_swap_42 5 rfl ?_
      refine g_aload_n C dX12_swap_44 rfl 0 rfl ?_
      obtain ⟨b76239, e76240, h76241⟩ := I42.fld (h76186) 20 13 20 rfl
      refine g_getR C fi_X12_69 rfl e76240 (h76186).1 (h76186).2 dX12_swap_45 ?_
      refine g_iload_n C dX12_swap_48 rfl 1 rfl ?_
      refine g_iald (j := (a1.toInt.toNat)) C h76241.1 h76241.2.1 (ix_in h76241.2.2 (by omega)) dX12_swap_49 ?_
      have h76242 := I42.arr e76240 rfl (a1.toInt.toNat)
      refine b_icmp_ge C 157 dX12_swap_50 (by decide) (fun h76243 => ?_) (fun h76243 => ?_)
      · have h76243 : (pI P42 b76239 (a1.toInt.toNat)).toInt ≤ v42_5.toInt := h76243
        refine g_lv (lv' := [(4, .int v42_4)]) [4] rfl ?_
        exact J157 P42 v42_4 I42 X42 W42 (by omega) (by omega)
      · have h76243 : v42_5.toInt < (pI P42 b76239 (a1.toInt.toNat)).toInt := h76243
        refine g_iload C dX12_swap_53 4 rfl ?_
        refine g_iload_n C dX12_swap_55 rfl 3 rfl ?_
        refine b_icmp_ge C 157 dX12_swap_56 (by decide) (fun h76244 => ?_) (fun h76244 => ?_)
        · have h76244 : a3.toInt ≤ v42_4.toInt := h76244
          refine g_lv (lv' := [(4, .int v42_4)]) [4] rfl ?_
          exact J157 P42 v42_4 I42 X42 W42 (by omega) (by omega)
        · have h76244 : v42_4.toInt < a3.toInt := h76244
          refine g_bipush (v := 40) C dX12_swap_59 (by decide) ?_
          refine g_iload_n C dX12_swap_61 rfl 1 rfl ?_
          refine s_imul C dX12_swap_62 (by show -2147483648 ≤ 40 * a1.toInt ∧ 40 * a1.toInt ≤ 2147483647; omega) (fun z76245 h76246 => ?_)
          have h76246 : z76245.toInt = 40 * a1.toInt := h76246
          refine g_iload C dX12_swap_63 5 rfl ?_
          refine s_iadd C dX12_swap_65 (by show -2147483648 ≤ z76245.toInt + v42_5.toInt ∧ z76245.toInt + v42_5.toInt ≤ 2147483647; omega) (fun z76247 h76248 => ?_)
          have h76248 : z76247.toInt = z76245.toInt + v42_5.toInt := h76248
          refine g_istore (lv' := [(6, .int z76247), (0, .ref a0), (1, .int a1), (2, .int a2), (3, .int a3), (4, .int v42_4), (5, .int v42_5)]) C dX12_swap_66 (by decide) rfl ?_
          refine g_aload_n C dX12_swap_68 rfl 1 rfl ?_
          refine g_getR C fi_X12_69 rfl e76240 (h76186).1 (h76186).2 dX12_swap_69 ?_
          refine g_iload_n C dX12_swap_72 rfl 3 rfl ?_
          refine g_iald (j := (a2.toInt.toNat)) C h76241.1 h76241.2.1 (ix_in h76241.2.2 (by omega)) dX12_swap_73 ?_
          have h76249 := I42.arr e76240 rfl (a2.toInt.toNat)
          refine g_bipush (v := 40) C dX12_swap_74 (by decide) ?_
          refine b_icmp_ge C 103 dX12_swap_76 (by decide) (fun h76250 => ?_) (fun h76250 => ?_)
          · have h76250 : 40 ≤ (pI P42 b76239 (a2.toInt.toNat)).toInt := h76250
            refine g_lv (lv' := [(0, .ref a0), (1, .int a1), (2, .int a2), (3, .int a3), (4, .int v42_4), (5, .int v42_5), (6, .int z76247)]) [1, 2, 3, 4, 5, 6, 0] rfl ?_
            exact J103 z76247 (by omega) (by omega) (by omega) (by omega) (by omega) (by omega) (by omega) (fun b9 e9 => by rw [e76240] at e9; cases e9; omega) (fun b9 e9 => by rw [e76240] at e9; cases e9; omega)
          · have h76250 : (pI P42 b76239 (a2.toInt.toNat)).toInt < 40 := h76250
            refine g_aload_n C dX12_swap_79 rfl 1 rfl ?_
            obtain ⟨b76251, e76252, h76253⟩ := I42.fld (h76186) 22 13 800 rfl
            refine g_getR C fi_X12_75 rfl e76252 (h76186).1 (h76186).2 dX12_swap_80 ?_
            refine g_iload C dX12_swap_83 0 rfl ?_
            refine g_iald (j := (z76247.toInt.toNat)) C h76253.1 h76253.2.1 (ix_in h76253.2.2 (by omega)) dX12_swap_85 ?_
            have h76254 := I42.arr e76252 rfl (z76247.toInt.toNat)
            refine b_if_ge C 99 dX12_swap_86 (by decide) (fun h76255 => ?_) (fun h76255 => ?_)
            · have h76255 : 0 ≤ (pI P42 b76251 (z76247.toInt.toNat)).toInt := h76255
              refine g_lv (lv' := [(0, .ref a0), (1, .int a1), (2, .int a2), (3, .int a3), (4, .int v42_4), (5, .int v42_5), (6, .int z76247)]) [1, 2, 3, 4, 5, 6, 0] rfl ?_
              exact J99 z76247 (by omega) (by omega) (by omega) (by omega) (by omega) (by omega) (by omega) (fun b9 e9 => by rw [e76240] at e9; cases e9; omega) (fun b9 e9 => by rw [e76240] at e9; cases e9; omega)
            · have h76255 : (pI P42 b76251 (z76247.toInt.toNat)).toInt < 0 := h76255
              refine g_aload_n C dX12_swap_89 rfl 1 rfl ?_
              refine g_iload_n C dX12_swap_90 rfl 3 rfl ?_
              refine g_callVI (rest := []) C mv_X12_295 [.int a2] (s_X12_namelessIn I42 (by omega) W42) (h76186).1 (h76186).2 rfl rfl (by decide) (Nat.le_of_ble_eq_true rfl) (by decide) dX12_swap_91 (fun r76256 Y76257 h76258 => ?_)
              obtain ⟨rfl, h76258⟩ := h76258
              have h76258 : True := h76258
              refine g_bipush (v := 6) C dX12_swap_94 (by decide) ?_
              have u76260 := ti_rng r76256
              refine b_icmp_ge C 103 dX12_swap_96 (by decide) (fun h76259 => ?_) (fun h76259 => ?_)
              · have h76259 : 6 ≤ r76256.toInt := h76259
                refine g_lv (lv' := [(0, .ref a0), (1, .int a1), (2, .int a2), (3, .int a3), (4, .int v42_4), (5, .int v42_5), (6, .int z76247)]) [1, 2, 3, 4, 5, 6, 0] rfl ?_
                exact J103 z76247 (by omega) (by omega) (by omega) (by omega) (by omega) (by omega) (by omega) (fun b9 e9 => by rw [e76240] at e9; cases e9; omega) (fun b9 e9 => by rw [e76240] at e9; cases e9; omega)
              · have h76259 : r76256.toInt < 6 := h76259
                refine g_lv (lv' := [(0, .ref a0), (1, .int a1), (2, .int a2), (3, .int a3), (4, .int v42_4), (5, .int v42_5), (6, .int z76247)]) [1, 2, 3, 4, 5, 6, 0] rfl ?_
                exact J99 z76247 (by omega) (by omega) (by omega) (by omega) (by omega) (by omega) (by omega) (fun b9 e9 => by rw [e76240] at e9; cases e9; omega) (fun b9 e9 => by rw [e76240] at e9; cases e9; omega)
  have J34 : ∀ (P34 : PP), (IM P34 a0) → (EM [0, 20, 21, 22, 23, 24, 25] a0 P P34) → (MW P34 a0) → (0 ≤ (pI P34 a0 0).toInt ∧ (pI P34 a0 0).toInt ≤ 0) → G E ({ frames := 3, cells := 0, slots := 0, locals := 192 } : Room) D cy 8 P34 0 0 34 [] [] := by
    intro P34 I34 X34 W34 hq34_0
    have h76261 := X34.at ha0
    refine g_iconst (v := (-1)) C dX12_swap_34 (by decide) ?_
    exact ret _ _ _ _ _ _ dX12_swap_35 rfl (by decide) (by decide) ⟨I34, X34, W34, (by decide)⟩
  refine g_aload_n C dX12_swap_0 rfl 0 rfl ?_
  refine g_iconst (v := 0) C dX12_swap_1 (by decide) ?_
  refine g_putI C fi_X12_1 rfl (ha0).1 (ha0).2 dX12_swap_2 ?_
  refine gqW (ks := [0]) (I.setI (rgOk.of rfl (by decide))) (EM.setI I (by decide)) (fun Y76262 Iy76263 Xy76264 w76265 => ?_)
  have w76265 : (pI Y76262 a0 0).toInt = 0 := w76265
  have W76266 := hW.keep I Xy76264 (by decide) (by decide) (by decide)
  have Xz76267 : EM [0, 20, 21, 22, 23, 24, 25] a0 P Y76262 := Xy76264.mono (by decide)
  have h76268 := Xy76264.at ha0
  refine g_iload_n C dX12_swap_5 rfl 1 rfl ?_
  refine g_callSI (b := 0) (ci := 0) (rest := []) C ms_X12_278 [.int a1] (s_X12_isQuarter Iy76263.1) rfl rfl (by decide) (Nat.le_of_ble_eq_true rfl) (by decide) dX12_swap_6 (fun r76269 Y76270 h76271 => ?_)
  obtain ⟨rfl, h76271⟩ := h76271
  obtain ⟨h76271, hi76272⟩ := h76271
  have hi76272 : r76269.toInt = 0 ∨ (((0 : Int) ≤ a1.toInt ∧ a1.toInt ≤ (3 : Int))) := hi76272
  have h76271 : 0 ≤ r76269.toInt ∧ r76269.toInt ≤ 1 := h76271
  refine b_if_eq C 34 dX12_swap_9 (by decide) (fun h76273 => ?_) (fun h76273 => ?_)
  · have h76273 : r76269.toInt = 0 := congrArg Int32.toInt h76273
    clear hi76272
    refine g_lv (lv' := []) [] rfl ?_
    exact J34 Y76262 Iy76263 Xz76267 W76266 (by omega)
  · have h76273 : r76269.toInt ≠ 0 := ti_ne h76273
    replace hi76272 := hi76272.resolve_left (by omega)
    refine g_iload_n C dX12_swap_12 rfl 2 rfl ?_
    refine g_callSI (b := 0) (ci := 0) (rest := []) C ms_X12_278 [.int a2] (s_X12_isQuarter Iy76263.1) rfl rfl (by decide) (Nat.le_of_ble_eq_true rfl) (by decide) dX12_swap_13 (fun r76274 Y76275 h76276 => ?_)
    obtain ⟨rfl, h76276⟩ := h76276
    obtain ⟨h76276, hi76277⟩ := h76276
    have hi76277 : r76274.toInt = 0 ∨ (((0 : Int) ≤ a2.toInt ∧ a2.toInt ≤ (3 : Int))) := hi76277
    have h76276 : 0 ≤ r76274.toInt ∧ r76274.toInt ≤ 1 := h76276
    refine b_if_eq C 34 dX12_swap_16 (by decide) (fun h76278 => ?_) (fun h76278 => ?_)
    · have h76278 : r76274.toInt = 0 := congrArg Int32.toInt h76278
      clear hi76277
      refine g_lv (lv' := []) [] rfl ?_
      exact J34 Y76262 Iy76263 Xz76267 W76266 (by omega)
    · have h76278 : r76274.toInt ≠ 0 := ti_ne h76278
      replace hi76277 := hi76277.resolve_left (by omega)
      refine g_iload_n C dX12_swap_19 rfl 1 rfl ?_
      refine g_iload_n C dX12_swap_20 rfl 2 rfl ?_
      refine b_icmp_eq C 34 dX12_swap_21 (by decide) (fun h76279 => ?_) (fun h76279 => ?_)
      · have h76279 : a1.toInt = a2.toInt := congrArg Int32.toInt h76279
        refine g_lv (lv' := []) [] rfl ?_
        exact J34 Y76262 Iy76263 Xz76267 W76266 (by omega)
      · have h76279 : a1.toInt ≠ a2.toInt := ti_ne h76279
        refine g_iload_n C dX12_swap_24 rfl 3 rfl ?_
        refine g_iconst (v := 0) C dX12_swap_25 (by decide) ?_
        refine g_bipush (v := 40) C dX12_swap_26 (by decide) ?_
        refine g_callSI (b := 0) (ci := 0) (rest := []) C ms_X12_178 [.int a3, .int 0, .int 40] (s_X12_within Iy76263.1) rfl rfl (by decide) (Nat.le_of_ble_eq_true rfl) (by decide) dX12_swap_28 (fun r76280 Y76281 h76282 => ?_)
        obtain ⟨rfl, h76282⟩ := h76282
        obtain ⟨h76282, hi76283⟩ := h76282
        have hi76283 : r76280.toInt = 0 ∨ (0 ≤ a3.toInt ∧ a3.toInt ≤ 40) := hi76283
        have h76282 : 0 ≤ r76280.toInt ∧ r76280.toInt ≤ 1 := h76282
        refine b_if_ne C 36 dX12_swap_31 (by decide) (fun h76284 => ?_) (fun h76284 => ?_)
        · have h76284 : r76280.toInt ≠ 0 := ti_ne h76284
          replace hi76283 := hi76283.resolve_left (by omega)
          refine g_iconst (v := 0) C dX12_swap_36 (by decide) ?_
          refine g_istore (lv' := [(4, .int 0), (0, .ref a0), (1, .int a1), (2, .int a2), (3, .int a3)]) C dX12_swap_37 (by decide) rfl ?_
          refine g_iconst (v := 0) C dX12_swap_39 (by decide) ?_
          refine g_istore (lv' := [(5, .int 0), (4, .int 0), (0, .ref a0), (1, .int a1), (2, .int a2), (3, .int a3)]) C dX12_swap_40 (by decide) rfl ?_
          refine g_lv (lv' := [(0, .ref a0), (1, .int a1), (2, .int a2), (3, .int a3), (4, .int 0), (5, .int 0)]) [2, 3, 4, 5, 1, 0] rfl ?_
          exact J42 _ Y76262 0 0 (Nat.lt_succ_self _) Iy76263 Xz76267 W76266 (by omega) (by omega) (by omega) (by decide) (by decide) (by omega)
        · have h76284 : r76280.toInt = 0 := congrArg Int32.toInt h76284
          clear hi76283
          refine g_lv (lv' := []) [] rfl ?_
          exact J34 Y76262 Iy76263 Xz76267 W76266 (by omega)
theorem dX12_takeNumber_0 : decode cX12_takeNumber 0 = .ok (.aload_n 0, 1) := by decide +kernel
theorem dX12_takeNumber_1 : decode cX12_takeNumber 1 = .ok (.getfield 162, 3) := by decide +kernel
theorem dX12_takeNumber_4 : decode cX12_takeNumber 4 = .ok (.ifCond .ne 24, 3) := by decide +kernel
theorem dX12_takeNumber_7 : decode cX12_takeNumber 7 = .ok (.aload_n 0, 1) := by decide +kernel
theorem dX12_takeNumber_8 : decode cX12_takeNumber 8 = .ok (.getfield 24, 3) := by decide +kernel
theorem dX12_takeNumber_11 : decode cX12_takeNumber 11 = .ok (.aload_n 0, 1) := by decide +kernel
theorem dX12_takeNumber_12 : decode cX12_takeNumber 12 = .ok (.getfield 159, 3) := by decide +kernel
theorem dX12_takeNumber_15 : decode cX12_takeNumber 15 = .ok (.iaload, 1) := by decide +kernel
theorem dX12_takeNumber_16 : decode cX12_takeNumber 16 = .ok (.iconst 2, 1) := by decide +kernel
theorem dX12_takeNumber_17 : decode cX12_takeNumber 17 = .ok (.if_icmp .eq 11, 3) := by decide +kernel
theorem dX12_takeNumber_20 : decode cX12_takeNumber 20 = .ok (.aload_n 0, 1) := by decide +kernel
theorem dX12_takeNumber_21 : decode cX12_takeNumber 21 = .ok (.iconst 1, 1) := by decide +kernel
theorem dX12_takeNumber_22 : decode cX12_takeNumber 22 = .ok (.invokevirtual 168, 3) := by decide +kernel
theorem dX12_takeNumber_25 : decode cX12_takeNumber 25 = .ok (.goto 45, 3) := by decide +kernel
theorem dX12_takeNumber_28 : decode cX12_takeNumber 28 = .ok (.aload_n 0, 1) := by decide +kernel
theorem dX12_takeNumber_29 : decode cX12_takeNumber 29 = .ok (.getfield 162, 3) := by decide +kernel
theorem dX12_takeNumber_32 : decode cX12_takeNumber 32 = .ok (.ifCond .ne 38, 3) := by decide +kernel
theorem dX12_takeNumber_35 : decode cX12_takeNumber 35 = .ok (.aload_n 0, 1) := by decide +kernel
theorem dX12_takeNumber_36 : decode cX12_takeNumber 36 = .ok (.getfield 30, 3) := by decide +kernel
theorem dX12_takeNumber_39 : decode cX12_takeNumber 39 = .ok (.aload_n 0, 1) := by decide +kernel
theorem dX12_takeNumber_40 : decode cX12_takeNumber 40 = .ok (.getfield 159, 3) := by decide +kernel
theorem dX12_takeNumber_43 : decode cX12_takeNumber 43 = .ok (.laload, 1) := by decide +kernel
theorem dX12_takeNumber_44 : decode cX12_takeNumber 44 = .ok (.iload_n 1, 1) := by decide +kernel
theorem dX12_takeNumber_45 : decode cX12_takeNumber 45 = .ok (.i2l, 1) := by decide +kernel
theorem dX12_takeNumber_46 : decode cX12_takeNumber 46 = .ok (.lcmp, 1) := by decide +kernel
theorem dX12_takeNumber_47 : decode cX12_takeNumber 47 = .ok (.ifCond .lt 18, 3) := by decide +kernel
theorem dX12_takeNumber_50 : decode cX12_takeNumber 50 = .ok (.aload_n 0, 1) := by decide +kernel
theorem dX12_takeNumber_51 : decode cX12_takeNumber 51 = .ok (.getfield 30, 3) := by decide +kernel
theorem dX12_takeNumber_54 : decode cX12_takeNumber 54 = .ok (.aload_n 0, 1) := by decide +kernel
theorem dX12_takeNumber_55 : decode cX12_takeNumber 55 = .ok (.getfield 159, 3) := by decide +kernel
theorem dX12_takeNumber_58 : decode cX12_takeNumber 58 = .ok (.laload, 1) := by decide +kernel
theorem dX12_takeNumber_59 : decode cX12_takeNumber 59 = .ok (.iload_n 2, 1) := by decide +kernel
theorem dX12_takeNumber_60 : decode cX12_takeNumber 60 = .ok (.i2l, 1) := by decide +kernel
theorem dX12_takeNumber_61 : decode cX12_takeNumber 61 = .ok (.lcmp, 1) := by decide +kernel
theorem dX12_takeNumber_62 : decode cX12_takeNumber 62 = .ok (.ifCond .le 8, 3) := by decide +kernel
theorem dX12_takeNumber_70 : decode cX12_takeNumber 70 = .ok (.aload_n 0, 1) := by decide +kernel
theorem dX12_takeNumber_71 : decode cX12_takeNumber 71 = .ok (.getfield 162, 3) := by decide +kernel
theorem dX12_takeNumber_74 : decode cX12_takeNumber 74 = .ok (.ifCond .le 5, 3) := by decide +kernel
theorem dX12_takeNumber_79 : decode cX12_takeNumber 79 = .ok (.aload_n 0, 1) := by decide +kernel
theorem dX12_takeNumber_80 : decode cX12_takeNumber 80 = .ok (.dup, 1) := by decide +kernel
theorem dX12_takeNumber_81 : decode cX12_takeNumber 81 = .ok (.getfield 159, 3) := by decide +kernel
theorem dX12_takeNumber_84 : decode cX12_takeNumber 84 = .ok (.iconst 1, 1) := by decide +kernel
theorem dX12_takeNumber_85 : decode cX12_takeNumber 85 = .ok (.iadd, 1) := by decide +kernel
theorem dX12_takeNumber_86 : decode cX12_takeNumber 86 = .ok (.putfield 159, 3) := by decide +kernel
theorem dX12_takeSign_0 : decode cX12_takeSign 0 = .ok (.aload_n 0, 1) := by decide +kernel
theorem dX12_takeSign_1 : decode cX12_takeSign 1 = .ok (.iload_n 1, 1) := by decide +kernel
theorem dX12_takeSign_2 : decode cX12_takeSign 2 = .ok (.invokevirtual 165, 3) := by decide +kernel
theorem dX12_takeSign_5 : decode cX12_takeSign 5 = .ok (.ifCond .eq 16, 3) := by decide +kernel
theorem dX12_takeSign_8 : decode cX12_takeSign 8 = .ok (.aload_n 0, 1) := by decide +kernel
theorem dX12_takeSign_9 : decode cX12_takeSign 9 = .ok (.dup, 1) := by decide +kernel
theorem dX12_takeSign_10 : decode cX12_takeSign 10 = .ok (.getfield 159, 3) := by decide +kernel
theorem dX12_takeSign_13 : decode cX12_takeSign 13 = .ok (.iconst 1, 1) := by decide +kernel
theorem dX12_takeSign_14 : decode cX12_takeSign 14 = .ok (.iadd, 1) := by decide +kernel
theorem dX12_takeSign_15 : decode cX12_takeSign 15 = .ok (.putfield 159, 3) := by decide +kernel
theorem dX12_takeSign_21 : decode cX12_takeSign 21 = .ok (.aload_n 0, 1) := by decide +kernel
theorem dX12_takeSign_22 : decode cX12_takeSign 22 = .ok (.iconst 1, 1) := by decide +kernel
theorem dX12_takeSign_23 : decode cX12_takeSign 23 = .ok (.invokevirtual 168, 3) := by decide +kernel
theorem dX12_takeSign_26 : decode cX12_takeSign 26 = .ok (.return_, 1) := by decide +kernel
theorem dX12_tocome_0 : decode cX12_tocome 0 = .ok (.aload_n 0, 1) := by decide +kernel
theorem dX12_tocome_1 : decode cX12_tocome 1 = .ok (.iconst 0, 1) := by decide +kernel
theorem dX12_tocome_2 : decode cX12_tocome 2 = .ok (.putfield 1, 3) := by decide +kernel
theorem dX12_tocome_5 : decode cX12_tocome 5 = .ok (.iload_n 1, 1) := by decide +kernel
theorem dX12_tocome_6 : decode cX12_tocome 6 = .ok (.invokestatic 278, 3) := by decide +kernel
theorem dX12_tocome_9 : decode cX12_tocome 9 = .ok (.ifCond .eq 20, 3) := by decide +kernel
theorem dX12_tocome_12 : decode cX12_tocome 12 = .ok (.aload_n 0, 1) := by decide +kernel
theorem dX12_tocome_13 : decode cX12_tocome 13 = .ok (.iload_n 2, 1) := by decide +kernel
theorem dX12_tocome_14 : decode cX12_tocome 14 = .ok (.invokevirtual 192, 3) := by decide +kernel
theorem dX12_tocome_17 : decode cX12_tocome 17 = .ok (.ifCond .eq 12, 3) := by decide +kernel
theorem dX12_tocome_20 : decode cX12_tocome 20 = .ok (.iload_n 3, 1) := by decide +kernel
theorem dX12_tocome_21 : decode cX12_tocome 21 = .ok (.iconst 0, 1) := by decide +kernel
theorem dX12_tocome_22 : decode cX12_tocome 22 = .ok (.iconst 1, 1) := by decide +kernel
theorem dX12_tocome_23 : decode cX12_tocome 23 = .ok (.invokestatic 178, 3) := by decide +kernel
theorem dX12_tocome_26 : decode cX12_tocome 26 = .ok (.ifCond .ne 5, 3) := by decide +kernel
theorem dX12_tocome_29 : decode cX12_tocome 29 = .ok (.iconst (-1), 1) := by decide +kernel
theorem dX12_tocome_30 : decode cX12_tocome 30 = .ok (.ireturn, 1) := by decide +kernel
theorem dX12_tocome_31 : decode cX12_tocome 31 = .ok (.aload_n 0, 1) := by decide +kernel
theorem dX12_tocome_32 : decode cX12_tocome 32 = .ok (.invokevirtual 336, 3) := by decide +kernel
theorem dX12_tocome_35 : decode cX12_tocome 35 = .ok (.iconst (-1), 1) := by decide +kernel
theorem dX12_tocome_36 : decode cX12_tocome 36 = .ok (.istore 4, 2) := by decide +kernel
theorem dX12_tocome_38 : decode cX12_tocome 38 = .ok (.iconst 0, 1) := by decide +kernel
theorem dX12_tocome_39 : decode cX12_tocome 39 = .ok (.istore 5, 2) := by decide +kernel
theorem dX12_tocome_41 : decode cX12_tocome 41 = .ok (.iload 5, 2) := by decide +kernel
theorem dX12_tocome_43 : decode cX12_tocome 43 = .ok (.sipush 2048, 3) := by decide +kernel
theorem dX12_tocome_46 : decode cX12_tocome 46 = .ok (.if_icmp .ge 47, 3) := by decide +kernel
theorem dX12_tocome_49 : decode cX12_tocome 49 = .ok (.iload 4, 2) := by decide +kernel
theorem dX12_tocome_51 : decode cX12_tocome 51 = .ok (.ifCond .lt 16, 3) := by decide +kernel
theorem dX12_tocome_54 : decode cX12_tocome 54 = .ok (.iload 5, 2) := by decide +kernel
theorem dX12_tocome_56 : decode cX12_tocome 56 = .ok (.invokestatic 264, 3) := by decide +kernel
theorem dX12_tocome_59 : decode cX12_tocome 59 = .ok (.iload 4, 2) := by decide +kernel
theorem dX12_tocome_61 : decode cX12_tocome 61 = .ok (.invokestatic 264, 3) := by decide +kernel
theorem dX12_tocome_64 : decode cX12_tocome 64 = .ok (.if_icmp .ge 23, 3) := by decide +kernel
theorem dX12_tocome_67 : decode cX12_tocome 67 = .ok (.aload_n 0, 1) := by decide +kernel
theorem dX12_tocome_68 : decode cX12_tocome 68 = .ok (.iload_n 1, 1) := by decide +kernel
theorem dX12_tocome_69 : decode cX12_tocome 69 = .ok (.iload_n 2, 1) := by decide +kernel
theorem dX12_tocome_70 : decode cX12_tocome 70 = .ok (.iload 5, 2) := by decide +kernel
theorem dX12_tocome_72 : decode cX12_tocome 72 = .ok (.invokevirtual 374, 3) := by decide +kernel
theorem dX12_tocome_75 : decode cX12_tocome 75 = .ok (.ifCond .eq 8, 3) := by decide +kernel
theorem dX12_tocome_78 : decode cX12_tocome 78 = .ok (.iload 5, 2) := by decide +kernel
theorem dX12_tocome_80 : decode cX12_tocome 80 = .ok (.goto 5, 3) := by decide +kernel
theorem dX12_tocome_83 : decode cX12_tocome 83 = .ok (.iload 4, 2) := by decide +kernel
theorem dX12_tocome_85 : decode cX12_tocome 85 = .ok (.istore 4, 2) := by decide +kernel
theorem dX12_tocome_87 : decode cX12_tocome 87 = .ok (.iinc 5 1, 3) := by decide +kernel
theorem dX12_tocome_90 : decode cX12_tocome 90 = .ok (.goto (-49), 3) := by decide +kernel
theorem dX12_tocome_93 : decode cX12_tocome 93 = .ok (.iload 4, 2) := by decide +kernel
theorem dX12_tocome_95 : decode cX12_tocome 95 = .ok (.ifCond .ge 7, 3) := by decide +kernel
theorem dX12_tocome_98 : decode cX12_tocome 98 = .ok (.iconst (-1), 1) := by decide +kernel
theorem dX12_tocome_99 : decode cX12_tocome 99 = .ok (.goto 17, 3) := by decide +kernel
theorem dX12_tocome_102 : decode cX12_tocome 102 = .ok (.iload_n 3, 1) := by decide +kernel
theorem dX12_tocome_103 : decode cX12_tocome 103 = .ok (.ifCond .ne 11, 3) := by decide +kernel
theorem dX12_tocome_106 : decode cX12_tocome 106 = .ok (.iload 4, 2) := by decide +kernel
theorem dX12_tocome_108 : decode cX12_tocome 108 = .ok (.invokestatic 264, 3) := by decide +kernel
theorem dX12_tocome_111 : decode cX12_tocome 111 = .ok (.goto 5, 3) := by decide +kernel
theorem dX12_tocome_114 : decode cX12_tocome 114 = .ok (.iload 4, 2) := by decide +kernel
theorem dX12_tocome_116 : decode cX12_tocome 116 = .ok (.ireturn, 1) := by decide +kernel
set_option maxHeartbeats 4000000 in
set_option maxRecDepth 100000 in
theorem s_X12_tocome {P : PP} {a0 : Nat} {a1 : Int32} {a2 : Int32} {a3 : Int32} (I : IM P a0) (hW : MW P a0) : CtrI yX12_tocome cX12_tocome 6 (some Jvm.ClassFile.FieldType.int) ({ frames := 8, cells := 0, slots := 0, locals := 512 } : Room) 0 0 P [.ref a0, .int a1, .int a2, .int a3] (fun r P2 => IM P2 a0 ∧ EM [0, 28, 29, 30, 31, 32, 35, 36, 37, 38] a0 P P2 ∧ MW P2 a0 ∧ (True)) := by
  refine enI (lv := [(0, .ref a0), (1, .int a1), (2, .int a2), (3, .int a3)]) (by decide) (Nat.le_of_ble_eq_true rfl) rfl (fun E D cy C Ci0 ret => ?_)
  have ha0 := I.2.1
  have J41 : ∀ (n41 : Nat) (P41 : PP) (v41_4 : Int32) (v41_5 : Int32), (9999 - v41_5.toInt).toNat < n41 → (IM P41 a0) → (EM [0, 28, 29, 30, 31, 32, 35, 36, 37, 38] a0 P P41) → (MW P41 a0) → (0 ≤ a1.toInt ∧ a1.toInt ≤ 3) → (0 ≤ a2.toInt ∧ a2.toInt ≤ 1) → (0 ≤ a3.toInt ∧ a3.toInt ≤ 1) → (-1 ≤ v41_4.toInt ∧ v41_4.toInt ≤ 9999) → (0 ≤ v41_5.toInt ∧ v41_5.toInt ≤ 9999) → (0 ≤ (pI P41 a0 0).toInt ∧ (pI P41 a0 0).toInt ≤ 0) → (∀ b, pR P41 a0 10 = some b → 1 ≤ (pI P41 b (a2.toInt.toNat)).toInt ∧ (pI P41 b (a2.toInt.toNat)).toInt ≤ 16) → G E ({ frames := 8, cells := 0, slots := 0, locals := 512 } : Room) D cy 6 P41 0 0 41 [(0, .ref a0), (1, .int a1), (2, .int a2), (3, .int a3), (4, .int v41_4), (5, .int v41_5)] [] := by
    intro n41
    induction n41 with
    | zero => intro P41 v41_4 v41_5 hm41 I41 X41 W41 hv41_1 hv41_2 hv41_3 hv41_4 hv41_5 hq41_0 hq41_1; omega
    | succ n41 ih41 =>
      intro P41 v41_4 v41_5 hm41 I41 X41 W41 hv41_1 hv41_2 hv41_3 hv41_4 hv41_5 hq41_0 hq41_1
      have h77682 := X41.at ha0
      obtain ⟨b77683, e77684, h77685⟩ := I41.fld (h77682) 10 13 2 rfl
      have hq41_1 := hq41_1 b77683 e77684
      have J87 : ∀ (P87 : PP) (v87_4 : Int32), (IM P87 a0) → (EM [0, 28, 29, 30, 31, 32, 35, 36, 37, 38] a0 P P87) → (MW P87 a0) → (0 ≤ a1.toInt ∧ a1.toInt ≤ 3) → (0 ≤ a2.toInt ∧ a2.toInt ≤ 1) → (0 ≤ a3.toInt ∧ a3.toInt ≤ 1) → (-1 ≤ v87_4.toInt ∧ v87_4.toInt ≤ 9999) → (0 ≤ v41_5.toInt ∧ v41_5.toInt ≤ 2047) → (0 ≤ (pI P87 a0 0).toInt ∧ (pI P87 a0 0).toInt ≤ 0) → (∀ b, pR P87 a0 10 = some b → 1 ≤ (pI P87 b (a2.toInt.toNat)).toInt ∧ (pI P87 b (a2.toInt.toNat)).toInt ≤ 16) → G E ({ frames := 8, cells := 0, slots := 0, locals := 512 } : Room) D cy 6 P87 0 0 87 [(0, .ref a0), (1, .int a1), (2, .int a2), (3, .int a3), (4, .int v87_4), (5, .int v41_5)] [] := by
        intro P87 v87_4 I87 X87 W87 hv87_1 hv87_2 hv87_3 hv87_4 hv87_5 hq87_0 hq87_1
        have h77686 := X87.at ha0
        obtain ⟨b77687, e77688, h77689⟩ := I87.fld (h77686) 10 13 2 rfl
        have hq87_1 := hq87_1 b77687 e77688
        refine s_iinc (lv0 := [(0, .ref a0), (1, .int a1), (2, .int a2), (3, .int a3), (4, .int v87_4)]) (m := 1) C dX12_tocome_87 5 rfl (by decide) rfl (by decide) (by omega) (fun z77690 h77691 => ?_)
        have h77691 : z77690.toInt = v41_5.toInt + 1 := h77691
        refine g_goto C 41 dX12_tocome_90 (by decide) ?_
        refine g_lv (lv' := [(0, .ref a0), (1, .int a1), (2, .int a2), (3, .int a3), (4, .int v87_4), (5, .int z77690)]) [1, 2, 3, 4, 5, 0] rfl ?_
        exact ih41 P87 v87_4 z77690 (by omega) I87 X87 W87 (by omega) (by omega) (by omega) (by omega) (by omega) (by omega) (fun b9 e9 => by rw [e77688] at e9; cases e9; omega)
      have J85 : ∀ (P85 : PP) (v85_s0 : Int32), (IM P85 a0) → (EM [0, 28, 29, 30, 31, 32, 35, 36, 37, 38] a0 P P85) → (MW P85 a0) → (0 ≤ a1.toInt ∧ a1.toInt ≤ 3) → (0 ≤ a2.toInt ∧ a2.toInt ≤ 1) → (0 ≤ a3.toInt ∧ a3.toInt ≤ 1) → (0 ≤ v41_5.toInt ∧ v41_5.toInt ≤ 2047) → (-1 ≤ v85_s0.toInt ∧ v85_s0.toInt ≤ 9999) → (0 ≤ (pI P85 a0 0).toInt ∧ (pI P85 a0 0).toInt ≤ 0) → (∀ b, pR P85 a0 10 = some b → 1 ≤ (pI P85 b (a2.toInt.toNat)).toInt ∧ (pI P85 b (a2.toInt.toNat)).toInt ≤ 16) → G E ({ frames := 8, cells := 0, slots := 0, locals := 512 } : Room) D cy 6 P85 0 0 85 [(0, .ref a0), (1, .int a1), (2, .int a2), (3, .int a3), (5, .int v41_5)] [.int v85_s0] := by
        intro P85 v85_s0 I85 X85 W85 hv85_1 hv85_2 hv85_3 hv85_5 hv85_s0 hq85_0 hq85_1
        have h77692 := X85.at ha0
        obtain ⟨b77693, e77694, h77695⟩ := I85.fld (h77692) 10 13 2 rfl
        have hq85_1 := hq85_1 b77693 e77694
        refine g_istore (lv' := [(4, .int v85_s0), (0, .ref a0), (1, .int a1), (2, .int a2), (3, .int a3), (5, .int v41_5)]) C dX12_tocome_85 (by decide) rfl ?_
        refine g_lv (lv' := [(0, .ref a0), (1, .int a1), (2, .int a2), (3, .int a3), (4, .int v85_s0), (5, .int v41_5)]) [1, 2, 3, 4, 0, 5] rfl ?_
        exact J87 P85 v85_s0 I85 X85 W85 (by omega) (by omega) (by omega) (by omega) (by omega) (by omega) (fun b9 e9 => by rw [e77694] at e9; cases e9; omega)
      have J67 : (0 ≤ a1.toInt ∧ a1.toInt ≤ 3) → (0 ≤ a2.toInt ∧ a2.toInt ≤ 1) → (0 ≤ a3.toInt ∧ a3.toInt ≤ 1) → (0 ≤ v41_5.toInt ∧ v41_5.toInt ≤ 2047) → (0 ≤ (pI P41 a0 0).toInt ∧ (pI P41 a0 0).toInt ≤ 0) → (∀ b, pR P41 a0 10 = some b → 1 ≤ (pI P41 b (a2.toInt.toNat)).toInt ∧ (pI P41 b (a2.toInt.toNat)).toInt ≤ 16) → G E ({ frames := 8, cells := 0, slots := 0, locals := 512 } : Room) D cy 6 P41 0 0 67 [(0, .ref a0), (1, .int a1), (2, .int a2), (3, .int a3), (4, .int v41_4), (5, .int v41_5)] [] := by
        intro hv67_1 hv67_2 hv67_3 hv67_5 hq67_0 hq67_1
        have h77696 := X41.at ha0
        obtain ⟨b77697, e77698, h77699⟩ := I41.fld (h77696) 10 13 2 rfl
        have hq67_1 := hq67_1 b77697 e77698
        refine g_aload_n C dX12_tocome_67 rfl 0 rfl ?_
        refine g_iload_n C dX12_tocome_68 rfl 1 rfl ?_
        refine g_iload_n C dX12_tocome_69 rfl 2 rfl ?_
        refine g_iload C dX12_tocome_70 5 rfl ?_
        refine g_callVI (rest := []) C mv_X12_374 [.int a1, .int a2, .int v41_5] (s_X12_isAllWith I41 (by omega) (by omega) (fun b9 e9 => by rw [e77698] at e9; cases e9; show 1 ≤ (pI P41 b77697 (a2.toInt.toNat)).toInt ∧ (pI P41 b77697 (a2.toInt.toNat)).toInt ≤ 16; omega) W41) (h77696).1 (h77696).2 rfl rfl (by decide) (Nat.le_of_ble_eq_true rfl) (by decide) dX12_tocome_72 (fun r77700 Y77701 h77702 => ?_)
        obtain ⟨Iy77703, Xy77704, W77705, h77702⟩ := h77702
        have q77706 := Xy77704.keepF 0 (by decide)
        have q77707 := Xy77704.keepA e77698 (by decide) rfl (a2.toInt.toNat)
        have Xz77708 : EM [0, 28, 29, 30, 31, 32, 35, 36, 37, 38] a0 P Y77701 := EM.tr ha0 X41 (Xy77704.mono (by decide))
        have e77709 := Xy77704.ref h77696 (by decide) e77698
        have h77710 := Xy77704.at h77696
        have h77711 := Xy77704.ar h77699
        have h77702 : 0 ≤ r77700.toInt ∧ r77700.toInt ≤ 1 := h77702
        refine b_if_eq C 83 dX12_tocome_75 (by decide) (fun h77712 => ?_) (fun h77712 => ?_)
        · have h77712 : r77700.toInt = 0 := congrArg Int32.toInt h77712
          refine g_iload C dX12_tocome_83 4 rfl ?_
          refine g_lv (lv' := [(0, .ref a0), (1, .int a1), (2, .int a2), (3, .int a3), (5, .int v41_5)]) [0, 1, 2, 3, 5] rfl ?_
          exact J85 Y77701 v41_4 Iy77703 Xz77708 W77705 (by omega) (by omega) (by omega) (by omega) (by omega) (by omega) (fun b9 e9 => by rw [e77709] at e9; cases e9; omega)
        · have h77712 : r77700.toInt ≠ 0 := ti_ne h77712
          refine g_iload C dX12_tocome_78 5 rfl ?_
          refine g_goto C 85 dX12_tocome_80 (by decide) ?_
          refine g_lv (lv' := [(0, .ref a0), (1, .int a1), (2, .int a2), (3, .int a3), (5, .int v41_5)]) [0, 1, 2, 3, 5] rfl ?_
          exact J85 Y77701 v41_5 Iy77703 Xz77708 W77705 (by omega) (by omega) (by omega) (by omega) (by omega) (by omega) (fun b9 e9 => by rw [e77709] at e9; cases e9; omega)
      refine g_iload C dX12_tocome_41 5 rfl ?_
      refine g_sipush (v := 2048) C dX12_tocome_43 (by decide) ?_
      refine b_icmp_ge C 93 dX12_tocome_46 (by decide) (fun h77713 => ?_) (fun h77713 => ?_)
      · have h77713 : 2048 ≤ v41_5.toInt := h77713
        refine g_iload C dX12_tocome_93 4 rfl ?_
        refine b_if_ge C 102 dX12_tocome_95 (by decide) (fun h77714 => ?_) (fun h77714 => ?_)
        · have h77714 : 0 ≤ v41_4.toInt := h77714
          refine g_iload_n C dX12_tocome_102 rfl 3 rfl ?_
          refine b_if_ne C 114 dX12_tocome_103 (by decide) (fun h77715 => ?_) (fun h77715 => ?_)
          · have h77715 : a3.toInt ≠ 0 := ti_ne h77715
            refine g_iload C dX12_tocome_114 4 rfl ?_
            exact ret _ _ _ _ _ _ dX12_tocome_116 rfl (by decide) (by decide) ⟨I41, X41, W41, trivial⟩
          · have h77715 : a3.toInt = 0 := congrArg Int32.toInt h77715
            refine g_iload C dX12_tocome_106 4 rfl ?_
            refine g_callSI (b := 0) (ci := 0) (rest := []) C ms_X12_264 [.int v41_4] (s_X12_bits I41.1) rfl rfl (by decide) (Nat.le_of_ble_eq_true rfl) (by decide) dX12_tocome_108 (fun r77716 Y77717 h77718 => ?_)
            obtain ⟨rfl, h77718⟩ := h77718
            have h77718 : True := h77718
            refine g_goto C 116 dX12_tocome_111 (by decide) ?_
            exact ret _ _ _ _ _ _ dX12_tocome_116 rfl (by decide) (by decide) ⟨I41, X41, W41, trivial⟩
        · have h77714 : v41_4.toInt < 0 := h77714
          refine g_iconst (v := (-1)) C dX12_tocome_98 (by decide) ?_
          refine g_goto C 116 dX12_tocome_99 (by decide) ?_
          exact ret _ _ _ _ _ _ dX12_tocome_116 rfl (by decide) (by decide) ⟨I41, X41, W41, trivial⟩
      · have h77713 : v41_5.toInt < 2048 := h77713
        refine g_iload C dX12_tocome_49 4 rfl ?_
        refine b_if_lt C 67 dX12_tocome_51 (by decide) (fun h77719 => ?_) (fun h77719 => ?_)
        · have h77719 : v41_4.toInt < 0 := h77719
          exact J67 (by omega) (by omega) (by omega) (by omega) (by omega) (fun b9 e9 => by rw [e77684] at e9; cases e9; omega)
        · have h77719 : 0 ≤ v41_4.toInt := h77719
          refine g_iload C dX12_tocome_54 5 rfl ?_
          refine g_callSI (b := 0) (ci := 0) (rest := []) C ms_X12_264 [.int v41_5] (s_X12_bits I41.1) rfl rfl (by decide) (Nat.le_of_ble_eq_true rfl) (by decide) dX12_tocome_56 (fun r77720 Y77721 h77722 => ?_)
          obtain ⟨rfl, h77722⟩ := h77722
          have h77722 : True := h77722
          refine g_iload C dX12_tocome_59 4 rfl ?_
          refine g_callSI (b := 0) (ci := 0) (rest := [.int r77720]) C ms_X12_264 [.int v41_4] (s_X12_bits I41.1) rfl rfl (by decide) (Nat.le_of_ble_eq_true rfl) (by decide) dX12_tocome_61 (fun r77723 Y77724 h77725 => ?_)
          obtain ⟨rfl, h77725⟩ := h77725
          have h77725 : True := h77725
          have u77727 := ti_rng r77720
          have u77728 := ti_rng r77723
          refine b_icmp_ge C 87 dX12_tocome_64 (by decide) (fun h77726 => ?_) (fun h77726 => ?_)
          · have h77726 : r77723.toInt ≤ r77720.toInt := h77726
            exact J87 P41 v41_4 I41 X41 W41 (by omega) (by omega) (by omega) (by omega) (by omega) (by omega) (fun b9 e9 => by rw [e77684] at e9; cases e9; omega)
          · have h77726 : r77720.toInt < r77723.toInt := h77726
            exact J67 (by omega) (by omega) (by omega) (by omega) (by omega) (fun b9 e9 => by rw [e77684] at e9; cases e9; omega)
  have J29 : ∀ (P29 : PP), (IM P29 a0) → (EM [0, 28, 29, 30, 31, 32, 35, 36, 37, 38] a0 P P29) → (MW P29 a0) → (0 ≤ (pI P29 a0 0).toInt ∧ (pI P29 a0 0).toInt ≤ 0) → G E ({ frames := 8, cells := 0, slots := 0, locals := 512 } : Room) D cy 6 P29 0 0 29 [] [] := by
    intro P29 I29 X29 W29 hq29_0
    have h77729 := X29.at ha0
    refine g_iconst (v := (-1)) C dX12_tocome_29 (by decide) ?_
    exact ret _ _ _ _ _ _ dX12_tocome_30 rfl (by decide) (by decide) ⟨I29, X29, W29, trivial⟩
  refine g_aload_n C dX12_tocome_0 rfl 0 rfl ?_
  refine g_iconst (v := 0) C dX12_tocome_1 (by decide) ?_
  refine g_putI C fi_X12_1 rfl (ha0).1 (ha0).2 dX12_tocome_2 ?_
  refine gqW (ks := [0]) (I.setI (rgOk.of rfl (by decide))) (EM.setI I (by decide)) (fun Y77730 Iy77731 Xy77732 w77733 => ?_)
  have w77733 : (pI Y77730 a0 0).toInt = 0 := w77733
  have W77734 := hW.keep I Xy77732 (by decide) (by decide) (by decide)
  have Xz77735 : EM [0, 28, 29, 30, 31, 32, 35, 36, 37, 38] a0 P Y77730 := Xy77732.mono (by decide)
  have h77736 := Xy77732.at ha0
  refine g_iload_n C dX12_tocome_5 rfl 1 rfl ?_
  refine g_callSI (b := 0) (ci := 0) (rest := []) C ms_X12_278 [.int a1] (s_X12_isQuarter Iy77731.1) rfl rfl (by decide) (Nat.le_of_ble_eq_true rfl) (by decide) dX12_tocome_6 (fun r77737 Y77738 h77739 => ?_)
  obtain ⟨rfl, h77739⟩ := h77739
  obtain ⟨h77739, hi77740⟩ := h77739
  have hi77740 : r77737.toInt = 0 ∨ (((0 : Int) ≤ a1.toInt ∧ a1.toInt ≤ (3 : Int))) := hi77740
  have h77739 : 0 ≤ r77737.toInt ∧ r77737.toInt ≤ 1 := h77739
  refine b_if_eq C 29 dX12_tocome_9 (by decide) (fun h77741 => ?_) (fun h77741 => ?_)
  · have h77741 : r77737.toInt = 0 := congrArg Int32.toInt h77741
    clear hi77740
    refine g_lv (lv' := []) [] rfl ?_
    exact J29 Y77730 Iy77731 Xz77735 W77734 (by omega)
  · have h77741 : r77737.toInt ≠ 0 := ti_ne h77741
    replace hi77740 := hi77740.resolve_left (by omega)
    refine g_aload_n C dX12_tocome_12 rfl 0 rfl ?_
    refine g_iload_n C dX12_tocome_13 rfl 2 rfl ?_
    refine g_callVI (rest := []) C mv_X12_192 [.int a2] (s_X12_isBook Iy77731 W77734) (h77736).1 (h77736).2 rfl rfl (by decide) (Nat.le_of_ble_eq_true rfl) (by decide) dX12_tocome_14 (fun r77742 Y77743 h77744 => ?_)
    obtain ⟨rfl, h77744⟩ := h77744
    obtain ⟨h77744, hi77745, hi77746⟩ := h77744
    have hi77745 : r77742.toInt = 0 ∨ (((0 : Int) ≤ a2.toInt ∧ a2.toInt ≤ (1 : Int))) := hi77745
    have h77744 : 0 ≤ r77742.toInt ∧ r77742.toInt ≤ 1 := h77744
    refine b_if_eq C 29 dX12_tocome_17 (by decide) (fun h77747 => ?_) (fun h77747 => ?_)
    · have h77747 : r77742.toInt = 0 := congrArg Int32.toInt h77747
      clear hi77745
      refine g_lv (lv' := []) [] rfl ?_
      exact J29 Y77730 Iy77731 Xz77735 W77734 (by omega)
    · have h77747 : r77742.toInt ≠ 0 := ti_ne h77747
      replace hi77745 := hi77745.resolve_left (by omega)
      obtain ⟨b77748, e77749, h77750⟩ := Iy77731.fld (h77736) 10 13 2 rfl
      have hi77746 := (hi77746.resolve_left (by omega)) b77748 e77749
      have hi77746 : 0 < (pI Y77730 b77748 (a2.toInt.toNat)).toInt := hi77746
      have h77751 := Iy77731.arr e77749 rfl (a2.toInt.toNat)
      refine g_iload_n C dX12_tocome_20 rfl 3 rfl ?_
      refine g_iconst (v := 0) C dX12_tocome_21 (by decide) ?_
      refine g_iconst (v := 1) C dX12_tocome_22 (by decide) ?_
      refine g_callSI (b := 0) (ci := 0) (rest := []) C ms_X12_178 [.int a3, .int 0, .int 1] (s_X12_within Iy77731.1) rfl rfl (by decide) (Nat.le_of_ble_eq_true rfl) (by decide) dX12_tocome_23 (fun r77752 Y77753 h77754 => ?_)
      obtain ⟨rfl, h77754⟩ := h77754
      obtain ⟨h77754, hi77755⟩ := h77754
      have hi77755 : r77752.toInt = 0 ∨ (0 ≤ a3.toInt ∧ a3.toInt ≤ 1) := hi77755
      have h77754 : 0 ≤ r77752.toInt ∧ r77752.toInt ≤ 1 := h77754
      refine b_if_ne C 31 dX12_tocome_26 (by decide) (fun h77756 => ?_) (fun h77756 => ?_)
      · have h77756 : r77752.toInt ≠ 0 := ti_ne h77756
        replace hi77755 := hi77755.resolve_left (by omega)
        refine g_aload_n C dX12_tocome_31 rfl 0 rfl ?_
        refine g_callVV (rest := []) C mv_X12_336 [] (s_X12_leavesNone Iy77731 W77734) (h77736).1 (h77736).2 rfl rfl (by decide) (Nat.le_of_ble_eq_true rfl) (by decide) dX12_tocome_32 (fun Y77758 h77759 => ?_)
        obtain ⟨Iy77760, Xy77761, W77762⟩ := h77759
        have q77763 := Xy77761.keepF 0 (by decide)
        have q77764 := Xy77761.keepA e77749 (by decide) rfl (a2.toInt.toNat)
        have Xz77765 : EM [0, 28, 29, 30, 31, 32, 35, 36, 37, 38] a0 P Y77758 := EM.tr ha0 Xz77735 (Xy77761.mono (by decide))
        have e77766 := Xy77761.ref h77736 (by decide) e77749
        have h77767 := Xy77761.at h77736
        have h77768 := Xy77761.ar h77750
        refine g_iconst (v := (-1)) C dX12_tocome_35 (by decide) ?_
        refine g_istore (lv' := [(4, .int (-1)), (0, .ref a0), (1, .int a1), (2, .int a2), (3, .int a3)]) C dX12_tocome_36 (by decide) rfl ?_
        refine g_iconst (v := 0) C dX12_tocome_38 (by decide) ?_
        refine g_istore (lv' := [(5, .int 0), (4, .int (-1)), (0, .ref a0), (1, .int a1), (2, .int a2), (3, .int a3)]) C dX12_tocome_39 (by decide) rfl ?_
        refine g_lv (lv' := [(0, .ref a0), (1, .int a1), (2, .int a2), (3, .int a3), (4, .int (-1)), (5, .int 0)]) [2, 3, 4, 5, 1, 0] rfl ?_
        exact J41 _ Y77758 (-1) 0 (Nat.lt_succ_self _) Iy77760 Xz77765 W77762 (by omega) (by omega) (by omega) (by decide) (by decide) (by omega) (fun b9 e9 => by rw [e77766] at e9; cases e9; omega)
      · have h77756 : r77752.toInt = 0 := congrArg Int32.toInt h77756
        clear hi77755
        refine g_lv (lv' := []) [] rfl ?_
        exact J29 Y77730 Iy77731 Xz77735 W77734 (by omega)
theorem dX12_told_0 : decode cX12_told 0 = .ok (.aload_n 0, 1) := by decide +kernel
theorem dX12_told_1 : decode cX12_told 1 = .ok (.iconst 0, 1) := by decide +kernel
theorem dX12_told_2 : decode cX12_told 2 = .ok (.putfield 1, 3) := by decide +kernel
theorem dX12_told_5 : decode cX12_told 5 = .ok (.aload_n 0, 1) := by decide +kernel
theorem dX12_told_6 : decode cX12_told 6 = .ok (.iload_n 1, 1) := by decide +kernel
theorem dX12_told_7 : decode cX12_told 7 = .ok (.invokevirtual 192, 3) := by decide +kernel
theorem dX12_told_10 : decode cX12_told 10 = .ok (.ifCond .eq 27, 3) := by decide +kernel
theorem dX12_told_13 : decode cX12_told 13 = .ok (.iload_n 2, 1) := by decide +kernel
theorem dX12_told_14 : decode cX12_told 14 = .ok (.iconst 0, 1) := by decide +kernel
theorem dX12_told_15 : decode cX12_told 15 = .ok (.aload_n 0, 1) := by decide +kernel
theorem dX12_told_16 : decode cX12_told 16 = .ok (.iload_n 1, 1) := by decide +kernel
theorem dX12_told_17 : decode cX12_told 17 = .ok (.invokevirtual 238, 3) := by decide +kernel
theorem dX12_told_20 : decode cX12_told 20 = .ok (.iconst 1, 1) := by decide +kernel
theorem dX12_told_21 : decode cX12_told 21 = .ok (.isub, 1) := by decide +kernel
theorem dX12_told_22 : decode cX12_told 22 = .ok (.invokestatic 178, 3) := by decide +kernel
theorem dX12_told_25 : decode cX12_told 25 = .ok (.ifCond .eq 12, 3) := by decide +kernel
theorem dX12_told_28 : decode cX12_told 28 = .ok (.aload_n 0, 1) := by decide +kernel
theorem dX12_told_29 : decode cX12_told 29 = .ok (.iload_n 1, 1) := by decide +kernel
theorem dX12_told_30 : decode cX12_told 30 = .ok (.iload_n 2, 1) := by decide +kernel
theorem dX12_told_31 : decode cX12_told 31 = .ok (.invokevirtual 271, 3) := by decide +kernel
theorem dX12_valueOf_0 : decode cX12_valueOf 0 = .ok (.iload_n 2, 1) := by decide +kernel
theorem dX12_valueOf_1 : decode cX12_valueOf 1 = .ok (.aload_n 0, 1) := by decide +kernel
theorem dX12_valueOf_2 : decode cX12_valueOf 2 = .ok (.getfield 45, 3) := by decide +kernel
theorem dX12_valueOf_5 : decode cX12_valueOf 5 = .ok (.iload_n 1, 1) := by decide +kernel
theorem dX12_valueOf_6 : decode cX12_valueOf 6 = .ok (.iaload, 1) := by decide +kernel
theorem dX12_valueOf_7 : decode cX12_valueOf 7 = .ok (.if_icmp .ge 15, 3) := by decide +kernel
theorem dX12_valueOf_10 : decode cX12_valueOf 10 = .ok (.aload_n 0, 1) := by decide +kernel
theorem dX12_valueOf_11 : decode cX12_valueOf 11 = .ok (.getfield 48, 3) := by decide +kernel
theorem dX12_valueOf_14 : decode cX12_valueOf 14 = .ok (.bipush 16, 2) := by decide +kernel
theorem dX12_valueOf_16 : decode cX12_valueOf 16 = .ok (.iload_n 1, 1) := by decide +kernel
theorem dX12_valueOf_17 : decode cX12_valueOf 17 = .ok (.imul, 1) := by decide +kernel
theorem dX12_valueOf_18 : decode cX12_valueOf 18 = .ok (.iload_n 2, 1) := by decide +kernel
theorem dX12_valueOf_19 : decode cX12_valueOf 19 = .ok (.iadd, 1) := by decide +kernel
theorem dX12_valueOf_20 : decode cX12_valueOf 20 = .ok (.iaload, 1) := by decide +kernel
theorem dX12_valueOf_21 : decode cX12_valueOf 21 = .ok (.ireturn, 1) := by decide +kernel
theorem dX12_valueOf_22 : decode cX12_valueOf 22 = .ok (.aload_n 0, 1) := by decide +kernel
theorem dX12_valueOf_23 : decode cX12_valueOf 23 = .ok (.iload_n 1, 1) := by decide +kernel
theorem dX12_valueOf_24 : decode cX12_valueOf 24 = .ok (.aload_n 0, 1) := by decide +kernel
theorem dX12_valueOf_25 : decode cX12_valueOf 25 = .ok (.getfield 63, 3) := by decide +kernel
theorem dX12_valueOf_28 : decode cX12_valueOf 28 = .ok (.iconst 4, 1) := by decide +kernel
theorem dX12_valueOf_29 : decode cX12_valueOf 29 = .ok (.iload_n 1, 1) := by decide +kernel
theorem dX12_valueOf_30 : decode cX12_valueOf 30 = .ok (.imul, 1) := by decide +kernel
theorem dX12_valueOf_31 : decode cX12_valueOf 31 = .ok (.iload_n 2, 1) := by decide +kernel
theorem dX12_valueOf_32 : decode cX12_valueOf 32 = .ok (.iadd, 1) := by decide +kernel
theorem dX12_valueOf_33 : decode cX12_valueOf 33 = .ok (.aload_n 0, 1) := by decide +kernel
theorem dX12_valueOf_34 : decode cX12_valueOf 34 = .ok (.getfield 45, 3) := by decide +kernel
theorem dX12_valueOf_37 : decode cX12_valueOf 37 = .ok (.iload_n 1, 1) := by decide +kernel
theorem dX12_valueOf_38 : decode cX12_valueOf 38 = .ok (.iaload, 1) := by decide +kernel
theorem dX12_valueOf_39 : decode cX12_valueOf 39 = .ok (.isub, 1) := by decide +kernel
theorem dX12_valueOf_40 : decode cX12_valueOf 40 = .ok (.iaload, 1) := by decide +kernel
theorem dX12_valueOf_41 : decode cX12_valueOf 41 = .ok (.invokevirtual 223, 3) := by decide +kernel
theorem dX12_valueOf_44 : decode cX12_valueOf 44 = .ok (.ireturn, 1) := by decide +kernel
set_option maxHeartbeats 4000000 in
set_option maxRecDepth 100000 in
theorem s_X12_valueOf {P : PP} {a0 : Nat} {a1 : Int32} {a2 : Int32} (I : IM P a0) (ha1 : 0 ≤ a1.toInt ∧ a1.toInt ≤ 1) (ha2 : 0 ≤ a2.toInt ∧ a2.toInt ≤ 19) (hW : MW P a0) (hv : ∀ b c, pR P a0 10 = some b → pR P a0 15 = some c → a2.toInt < (pI P b (a1.toInt.toNat)).toInt + (pI P c (a1.toInt.toNat)).toInt) : CtrI yX12_valueOf cX12_valueOf 3 (some Jvm.ClassFile.FieldType.int) ({ frames := 2, cells := 0, slots := 0, locals := 128 } : Room) 0 0 P [.ref a0, .int a1, .int a2] (fun r P2 => P = P2 ∧ (True)) := by
  refine enI (lv := [(0, .ref a0), (1, .int a1), (2, .int a2)]) (by decide) (Nat.le_of_ble_eq_true rfl) rfl (fun E D cy C Ci0 ret => ?_)
  have ha0 := I.2.1
  refine g_iload_n C dX12_valueOf_0 rfl 2 rfl ?_
  refine g_aload_n C dX12_valueOf_1 rfl 0 rfl ?_
  obtain ⟨b77829, e77830, h77831⟩ := I.fld (ha0) 10 13 2 rfl
  refine g_getR C fi_X12_45 rfl e77830 (ha0).1 (ha0).2 dX12_valueOf_2 ?_
  refine g_iload_n C dX12_valueOf_5 rfl 1 rfl ?_
  refine g_iald (j := (a1.toInt.toNat)) C h77831.1 h77831.2.1 (ix_in h77831.2.2 (by omega)) dX12_valueOf_6 ?_
  have h77832 := I.arr e77830 rfl (a1.toInt.toNat)
  refine b_icmp_ge C 22 dX12_valueOf_7 (by decide) (fun h77833 => ?_) (fun h77833 => ?_)
  · have h77833 : (pI P b77829 (a1.toInt.toNat)).toInt ≤ a2.toInt := h77833
    obtain ⟨b77834, e77835, h77836⟩ := I.fld (ha0) 15 13 3 rfl
    have hv := hv b77829 b77834 e77830 e77835
    have h77837 := I.arr e77835 rfl (a1.toInt.toNat)
    refine g_aload_n C dX12_valueOf_22 rfl 0 rfl ?_
    refine g_iload_n C dX12_valueOf_23 rfl 1 rfl ?_
    refine g_aload_n C dX12_valueOf_24 rfl 0 rfl ?_
    obtain ⟨b77838, e77839, h77840⟩ := I.fld (ha0) 16 13 12 rfl
    refine g_getR C fi_X12_63 rfl e77839 (ha0).1 (ha0).2 dX12_valueOf_25 ?_
    refine g_iconst (v := 4) C dX12_valueOf_28 (by decide) ?_
    refine g_iload_n C dX12_valueOf_29 rfl 1 rfl ?_
    refine s_imul C dX12_valueOf_30 (by show -2147483648 ≤ 4 * a1.toInt ∧ 4 * a1.toInt ≤ 2147483647; omega) (fun z77841 h77842 => ?_)
    have h77842 : z77841.toInt = 4 * a1.toInt := h77842
    refine g_iload_n C dX12_valueOf_31 rfl 2 rfl ?_
    refine s_iadd C dX12_valueOf_32 (by show -2147483648 ≤ z77841.toInt + a2.toInt ∧ z77841.toInt + a2.toInt ≤ 2147483647; omega) (fun z77843 h77844 => ?_)
    have h77844 : z77843.toInt = z77841.toInt + a2.toInt := h77844
    refine g_aload_n C dX12_valueOf_33 rfl 0 rfl ?_
    refine g_getR C fi_X12_45 rfl e77830 (ha0).1 (ha0).2 dX12_valueOf_34 ?_
    refine g_iload_n C dX12_valueOf_37 rfl 1 rfl ?_
    refine g_iald (j := (a1.toInt.toNat)) C h77831.1 h77831.2.1 (ix_in h77831.2.2 (by omega)) dX12_valueOf_38 ?_
    refine s_isub C dX12_valueOf_39 (by show -2147483648 ≤ z77843.toInt - (pI P b77829 (a1.toInt.toNat)).toInt ∧ z77843.toInt - (pI P b77829 (a1.toInt.toNat)).toInt ≤ 2147483647; omega) (fun z77845 h77846 => ?_)
    have h77846 : z77845.toInt = z77843.toInt - (pI P b77829 (a1.toInt.toNat)).toInt := h77846
    refine g_iald (j := (z77845.toInt.toNat)) C h77840.1 h77840.2.1 (ix_in h77840.2.2 (by omega)) dX12_valueOf_40 ?_
    refine g_callVI (rest := []) C mv_X12_223 [.int a1, .int (pI P b77838 (z77845.toInt.toNat))] (s_X12_sumOf I (by omega) hW) (ha0).1 (ha0).2 rfl rfl (by decide) (Nat.le_of_ble_eq_true rfl) (by decide) dX12_valueOf_41 (fun r77847 Y77848 h77849 => ?_)
    obtain ⟨rfl, h77849⟩ := h77849
    have h77849 : True := h77849
    exact ret _ _ _ _ _ _ dX12_valueOf_44 rfl (by decide) (by decide) ⟨rfl, trivial⟩
  · have h77833 : a2.toInt < (pI P b77829 (a1.toInt.toNat)).toInt := h77833
    refine g_aload_n C dX12_valueOf_10 rfl 0 rfl ?_
    obtain ⟨b77850, e77851, h77852⟩ := I.fld (ha0) 11 13 32 rfl
    refine g_getR C fi_X12_48 rfl e77851 (ha0).1 (ha0).2 dX12_valueOf_11 ?_
    refine g_bipush (v := 16) C dX12_valueOf_14 (by decide) ?_
    refine g_iload_n C dX12_valueOf_16 rfl 1 rfl ?_
    refine s_imul C dX12_valueOf_17 (by show -2147483648 ≤ 16 * a1.toInt ∧ 16 * a1.toInt ≤ 2147483647; omega) (fun z77853 h77854 => ?_)
    have h77854 : z77853.toInt = 16 * a1.toInt := h77854
    refine g_iload_n C dX12_valueOf_18 rfl 2 rfl ?_
    refine s_iadd C dX12_valueOf_19 (by show -2147483648 ≤ z77853.toInt + a2.toInt ∧ z77853.toInt + a2.toInt ≤ 2147483647; omega) (fun z77855 h77856 => ?_)
    have h77856 : z77855.toInt = z77853.toInt + a2.toInt := h77856
    refine g_iald (j := (z77855.toInt.toNat)) C h77852.1 h77852.2.1 (ix_in h77852.2.2 (by omega)) dX12_valueOf_20 ?_
    exact ret _ _ _ _ _ _ dX12_valueOf_21 rfl (by decide) (by decide) ⟨rfl, trivial⟩
theorem dX12_told_34 : decode cX12_told 34 = .ok (.goto 4, 3) := by decide +kernel
theorem dX12_told_37 : decode cX12_told 37 = .ok (.iconst (-1), 1) := by decide +kernel
theorem dX12_told_38 : decode cX12_told 38 = .ok (.ireturn, 1) := by decide +kernel
set_option maxHeartbeats 4000000 in
set_option maxRecDepth 100000 in
theorem s_X12_told {P : PP} {a0 : Nat} {a1 : Int32} {a2 : Int32} (I : IM P a0) (hW : MW P a0) : CtrI yX12_told cX12_told 3 (some Jvm.ClassFile.FieldType.int) ({ frames := 3, cells := 0, slots := 0, locals := 192 } : Room) 0 0 P [.ref a0, .int a1, .int a2] (fun r P2 => IM P2 a0 ∧ EM [0] a0 P P2 ∧ MW P2 a0 ∧ (True)) := by
  refine enI (lv := [(0, .ref a0), (1, .int a1), (2, .int a2)]) (by decide) (Nat.le_of_ble_eq_true rfl) rfl (fun E D cy C Ci0 ret => ?_)
  have ha0 := I.2.1
  have J37 : ∀ (P37 : PP), (IM P37 a0) → (EM [0] a0 P P37) → (MW P37 a0) → (0 ≤ (pI P37 a0 0).toInt ∧ (pI P37 a0 0).toInt ≤ 0) → G E ({ frames := 3, cells := 0, slots := 0, locals := 192 } : Room) D cy 3 P37 0 0 37 [] [] := by
    intro P37 I37 X37 W37 hq37_0
    have h77893 := X37.at ha0
    refine g_iconst (v := (-1)) C dX12_told_37 (by decide) ?_
    exact ret _ _ _ _ _ _ dX12_told_38 rfl (by decide) (by decide) ⟨I37, X37, W37, trivial⟩
  refine g_aload_n C dX12_told_0 rfl 0 rfl ?_
  refine g_iconst (v := 0) C dX12_told_1 (by decide) ?_
  refine g_putI C fi_X12_1 rfl (ha0).1 (ha0).2 dX12_told_2 ?_
  refine gqW (ks := [0]) (I.setI (rgOk.of rfl (by decide))) (EM.setI I (by decide)) (fun Y77894 Iy77895 Xy77896 w77897 => ?_)
  have w77897 : (pI Y77894 a0 0).toInt = 0 := w77897
  have W77898 := hW.keep I Xy77896 (by decide) (by decide) (by decide)
  have Xz77899 : EM [0] a0 P Y77894 := Xy77896.mono (by decide)
  have h77900 := Xy77896.at ha0
  refine g_aload_n C dX12_told_5 rfl 0 rfl ?_
  refine g_iload_n C dX12_told_6 rfl 1 rfl ?_
  refine g_callVI (rest := []) C mv_X12_192 [.int a1] (s_X12_isBook Iy77895 W77898) (h77900).1 (h77900).2 rfl rfl (by decide) (Nat.le_of_ble_eq_true rfl) (by decide) dX12_told_7 (fun r77901 Y77902 h77903 => ?_)
  obtain ⟨rfl, h77903⟩ := h77903
  obtain ⟨h77903, hi77904, hi77905⟩ := h77903
  have hi77904 : r77901.toInt = 0 ∨ (((0 : Int) ≤ a1.toInt ∧ a1.toInt ≤ (1 : Int))) := hi77904
  have h77903 : 0 ≤ r77901.toInt ∧ r77901.toInt ≤ 1 := h77903
  refine b_if_eq C 37 dX12_told_10 (by decide) (fun h77906 => ?_) (fun h77906 => ?_)
  · have h77906 : r77901.toInt = 0 := congrArg Int32.toInt h77906
    clear hi77904
    refine g_lv (lv' := []) [] rfl ?_
    exact J37 Y77894 Iy77895 Xz77899 W77898 (by omega)
  · have h77906 : r77901.toInt ≠ 0 := ti_ne h77906
    replace hi77904 := hi77904.resolve_left (by omega)
    obtain ⟨b77907, e77908, h77909⟩ := Iy77895.fld (h77900) 10 13 2 rfl
    have hi77905 := (hi77905.resolve_left (by omega)) b77907 e77908
    have hi77905 : 0 < (pI Y77894 b77907 (a1.toInt.toNat)).toInt := hi77905
    have h77910 := Iy77895.arr e77908 rfl (a1.toInt.toNat)
    refine g_iload_n C dX12_told_13 rfl 2 rfl ?_
    refine g_iconst (v := 0) C dX12_told_14 (by decide) ?_
    refine g_aload_n C dX12_told_15 rfl 0 rfl ?_
    refine g_iload_n C dX12_told_16 rfl 1 rfl ?_
    refine g_callVI (rest := [.int 0, .int a2]) C mv_X12_238 [.int a1] (s_X12_allOf Iy77895 (by omega) W77898) (h77900).1 (h77900).2 rfl rfl (by decide) (Nat.le_of_ble_eq_true rfl) (by decide) dX12_told_17 (fun r77911 Y77912 h77913 => ?_)
    obtain ⟨rfl, h77913⟩ := h77913
    obtain ⟨h77913, hi77914⟩ := h77913
    obtain ⟨b77915, e77916, h77917⟩ := Iy77895.fld (h77900) 15 13 3 rfl
    have hi77914 : r77911.toInt = 0 ∨ r77911.toInt = (pI Y77894 b77907 (a1.toInt.toNat)).toInt + (pI Y77894 b77915 (a1.toInt.toNat)).toInt := hi77914.imp id (fun z9 => z9 b77907 b77915 e77908 e77916)
    have h77918 := Iy77895.arr e77916 rfl (a1.toInt.toNat)
    have h77913 : 0 ≤ r77911.toInt ∧ r77911.toInt ≤ 20 := h77913
    refine g_iconst (v := 1) C dX12_told_20 (by decide) ?_
    refine s_isub C dX12_told_21 (by show -2147483648 ≤ r77911.toInt - 1 ∧ r77911.toInt - 1 ≤ 2147483647; omega) (fun z77919 h77920 => ?_)
    have h77920 : z77919.toInt = r77911.toInt - 1 := h77920
    refine g_callSI (b := 0) (ci := 0) (rest := []) C ms_X12_178 [.int a2, .int 0, .int z77919] (s_X12_within Iy77895.1) rfl rfl (by decide) (Nat.le_of_ble_eq_true rfl) (by decide) dX12_told_22 (fun r77921 Y77922 h77923 => ?_)
    obtain ⟨rfl, h77923⟩ := h77923
    obtain ⟨h77923, hi77924⟩ := h77923
    have hi77924 : r77921.toInt = 0 ∨ (0 ≤ a2.toInt ∧ a2.toInt ≤ z77919.toInt) := hi77924
    have h77923 : 0 ≤ r77921.toInt ∧ r77921.toInt ≤ 1 := h77923
    refine b_if_eq C 37 dX12_told_25 (by decide) (fun h77925 => ?_) (fun h77925 => ?_)
    · have h77925 : r77921.toInt = 0 := congrArg Int32.toInt h77925
      clear hi77924
      refine g_lv (lv' := []) [] rfl ?_
      exact J37 Y77894 Iy77895 Xz77899 W77898 (by omega)
    · have h77925 : r77921.toInt ≠ 0 := ti_ne h77925
      replace hi77924 := hi77924.resolve_left (by omega)
      refine g_aload_n C dX12_told_28 rfl 0 rfl ?_
      refine g_iload_n C dX12_told_29 rfl 1 rfl ?_
      refine g_iload_n C dX12_told_30 rfl 2 rfl ?_
      refine g_callVI (rest := []) C mv_X12_271 [.int a1, .int a2] (s_X12_valueOf Iy77895 (by omega) (by omega) W77898 (fun b9 c9 e9 f9 => by rw [e77908] at e9; cases e9; rw [e77916] at f9; cases f9; show a2.toInt < (pI Y77894 b77907 (a1.toInt.toNat)).toInt + (pI Y77894 b77915 (a1.toInt.toNat)).toInt; omega)) (h77900).1 (h77900).2 rfl rfl (by decide) (Nat.le_of_ble_eq_true rfl) (by decide) dX12_told_31 (fun r77926 Y77927 h77928 => ?_)
      obtain ⟨rfl, h77928⟩ := h77928
      have h77928 : True := h77928
      refine g_goto C 38 dX12_told_34 (by decide) ?_
      exact ret _ _ _ _ _ _ dX12_told_38 rfl (by decide) (by decide) ⟨Iy77895, Xz77899, W77898, trivial⟩
