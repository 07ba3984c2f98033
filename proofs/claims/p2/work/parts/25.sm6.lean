theorem dX12_findSlipped_0 : decode cX12_findSlipped 0 = .ok (.aload_n 0, 1) := by decide +kernel
theorem dX12_findSlipped_1 : decode cX12_findSlipped 1 = .ok (.invokevirtual 336, 3) := by decide +kernel
theorem dX12_findSlipped_4 : decode cX12_findSlipped 4 = .ok (.aload_n 0, 1) := by decide +kernel
theorem dX12_findSlipped_5 : decode cX12_findSlipped 5 = .ok (.iload_n 1, 1) := by decide +kernel
theorem dX12_findSlipped_6 : decode cX12_findSlipped 6 = .ok (.iload_n 2, 1) := by decide +kernel
theorem dX12_findSlipped_7 : decode cX12_findSlipped 7 = .ok (.iload_n 3, 1) := by decide +kernel
theorem dX12_findSlipped_8 : decode cX12_findSlipped 8 = .ok (.aload_n 0, 1) := by decide +kernel
theorem dX12_findSlipped_9 : decode cX12_findSlipped 9 = .ok (.getfield 69, 3) := by decide +kernel
theorem dX12_findSlipped_12 : decode cX12_findSlipped 12 = .ok (.iload_n 1, 1) := by decide +kernel
theorem dX12_findSlipped_13 : decode cX12_findSlipped 13 = .ok (.iaload, 1) := by decide +kernel
theorem dX12_findSlipped_14 : decode cX12_findSlipped 14 = .ok (.invokevirtual 339, 3) := by decide +kernel
theorem dX12_findSlipped_17 : decode cX12_findSlipped 17 = .ok (.aload_n 0, 1) := by decide +kernel
theorem dX12_findSlipped_18 : decode cX12_findSlipped 18 = .ok (.invokevirtual 346, 3) := by decide +kernel
theorem dX12_findSlipped_21 : decode cX12_findSlipped 21 = .ok (.aload_n 0, 1) := by decide +kernel
theorem dX12_findSlipped_22 : decode cX12_findSlipped 22 = .ok (.iconst 0, 1) := by decide +kernel
theorem dX12_findSlipped_23 : decode cX12_findSlipped 23 = .ok (.putfield 361, 3) := by decide +kernel
theorem dX12_findSlipped_26 : decode cX12_findSlipped 26 = .ok (.aload_n 0, 1) := by decide +kernel
theorem dX12_findSlipped_27 : decode cX12_findSlipped 27 = .ok (.getfield 326, 3) := by decide +kernel
theorem dX12_findSlipped_30 : decode cX12_findSlipped 30 = .ok (.ifCond .eq 5, 3) := by decide +kernel
theorem dX12_findSlipped_33 : decode cX12_findSlipped 33 = .ok (.iconst 0, 1) := by decide +kernel
theorem dX12_findSlipped_34 : decode cX12_findSlipped 34 = .ok (.ireturn, 1) := by decide +kernel
theorem dX12_findSlipped_35 : decode cX12_findSlipped 35 = .ok (.iconst 0, 1) := by decide +kernel
theorem dX12_findSlipped_36 : decode cX12_findSlipped 36 = .ok (.istore 4, 2) := by decide +kernel
theorem dX12_findSlipped_38 : decode cX12_findSlipped 38 = .ok (.iload 4, 2) := by decide +kernel
theorem dX12_findSlipped_40 : decode cX12_findSlipped 40 = .ok (.aload_n 0, 1) := by decide +kernel
theorem dX12_findSlipped_41 : decode cX12_findSlipped 41 = .ok (.getfield 69, 3) := by decide +kernel
theorem dX12_findSlipped_44 : decode cX12_findSlipped 44 = .ok (.iload_n 1, 1) := by decide +kernel
theorem dX12_findSlipped_45 : decode cX12_findSlipped 45 = .ok (.iaload, 1) := by decide +kernel
theorem dX12_findSlipped_46 : decode cX12_findSlipped 46 = .ok (.if_icmp .ge 105, 3) := by decide +kernel
theorem dX12_findSlipped_49 : decode cX12_findSlipped 49 = .ok (.bipush 40, 2) := by decide +kernel
theorem dX12_findSlipped_51 : decode cX12_findSlipped 51 = .ok (.iload_n 1, 1) := by decide +kernel
theorem dX12_findSlipped_52 : decode cX12_findSlipped 52 = .ok (.imul, 1) := by decide +kernel
theorem dX12_findSlipped_53 : decode cX12_findSlipped 53 = .ok (.iload 4, 2) := by decide +kernel
theorem dX12_findSlipped_55 : decode cX12_findSlipped 55 = .ok (.iadd, 1) := by decide +kernel
theorem dX12_findSlipped_56 : decode cX12_findSlipped 56 = .ok (.istore 5, 2) := by decide +kernel
theorem dX12_findSlipped_58 : decode cX12_findSlipped 58 = .ok (.aload_n 0, 1) := by decide +kernel
theorem dX12_findSlipped_59 : decode cX12_findSlipped 59 = .ok (.getfield 75, 3) := by decide +kernel
theorem dX12_findSlipped_62 : decode cX12_findSlipped 62 = .ok (.iload 5, 2) := by decide +kernel
theorem dX12_findSlipped_64 : decode cX12_findSlipped 64 = .ok (.iaload, 1) := by decide +kernel
theorem dX12_findSlipped_65 : decode cX12_findSlipped 65 = .ok (.iload_n 2, 1) := by decide +kernel
theorem dX12_findSlipped_66 : decode cX12_findSlipped 66 = .ok (.if_icmp .ne 79, 3) := by decide +kernel
theorem dX12_findSlipped_69 : decode cX12_findSlipped 69 = .ok (.aload_n 0, 1) := by decide +kernel
theorem dX12_findSlipped_70 : decode cX12_findSlipped 70 = .ok (.getfield 81, 3) := by decide +kernel
theorem dX12_findSlipped_73 : decode cX12_findSlipped 73 = .ok (.iload 5, 2) := by decide +kernel
theorem dX12_findSlipped_75 : decode cX12_findSlipped 75 = .ok (.iaload, 1) := by decide +kernel
theorem dX12_findSlipped_76 : decode cX12_findSlipped 76 = .ok (.iload_n 3, 1) := by decide +kernel
theorem dX12_findSlipped_77 : decode cX12_findSlipped 77 = .ok (.ishr, 1) := by decide +kernel
theorem dX12_findSlipped_78 : decode cX12_findSlipped 78 = .ok (.iconst 1, 1) := by decide +kernel
theorem dX12_findSlipped_79 : decode cX12_findSlipped 79 = .ok (.iand, 1) := by decide +kernel
theorem dX12_findSlipped_80 : decode cX12_findSlipped 80 = .ok (.iconst 1, 1) := by decide +kernel
theorem dX12_findSlipped_81 : decode cX12_findSlipped 81 = .ok (.if_icmp .ne 64, 3) := by decide +kernel
theorem dX12_findSlipped_84 : decode cX12_findSlipped 84 = .ok (.aload_n 0, 1) := by decide +kernel
theorem dX12_findSlipped_85 : decode cX12_findSlipped 85 = .ok (.getfield 100, 3) := by decide +kernel
theorem dX12_findSlipped_88 : decode cX12_findSlipped 88 = .ok (.iload 4, 2) := by decide +kernel
theorem dX12_findSlipped_90 : decode cX12_findSlipped 90 = .ok (.iconst 1, 1) := by decide +kernel
theorem dX12_findSlipped_91 : decode cX12_findSlipped 91 = .ok (.bastore, 1) := by decide +kernel
theorem dX12_findSlipped_92 : decode cX12_findSlipped 92 = .ok (.aload_n 0, 1) := by decide +kernel
theorem dX12_findSlipped_93 : decode cX12_findSlipped 93 = .ok (.iload_n 1, 1) := by decide +kernel
theorem dX12_findSlipped_94 : decode cX12_findSlipped 94 = .ok (.iload_n 2, 1) := by decide +kernel
theorem dX12_findSlipped_95 : decode cX12_findSlipped 95 = .ok (.iload_n 3, 1) := by decide +kernel
theorem dX12_findSlipped_96 : decode cX12_findSlipped 96 = .ok (.aload_n 0, 1) := by decide +kernel
theorem dX12_findSlipped_97 : decode cX12_findSlipped 97 = .ok (.getfield 69, 3) := by decide +kernel
theorem dX12_findSlipped_100 : decode cX12_findSlipped 100 = .ok (.iload_n 1, 1) := by decide +kernel
theorem dX12_findSlipped_101 : decode cX12_findSlipped 101 = .ok (.iaload, 1) := by decide +kernel
theorem dX12_findSlipped_102 : decode cX12_findSlipped 102 = .ok (.invokevirtual 339, 3) := by decide +kernel
theorem dX12_findSlipped_105 : decode cX12_findSlipped 105 = .ok (.aload_n 0, 1) := by decide +kernel
theorem dX12_findSlipped_106 : decode cX12_findSlipped 106 = .ok (.invokevirtual 346, 3) := by decide +kernel
theorem dX12_findSlipped_109 : decode cX12_findSlipped 109 = .ok (.aload_n 0, 1) := by decide +kernel
theorem dX12_findSlipped_110 : decode cX12_findSlipped 110 = .ok (.getfield 100, 3) := by decide +kernel
theorem dX12_findSlipped_113 : decode cX12_findSlipped 113 = .ok (.iload 4, 2) := by decide +kernel
theorem dX12_findSlipped_115 : decode cX12_findSlipped 115 = .ok (.iconst 0, 1) := by decide +kernel
theorem dX12_findSlipped_116 : decode cX12_findSlipped 116 = .ok (.bastore, 1) := by decide +kernel
theorem dX12_findSlipped_117 : decode cX12_findSlipped 117 = .ok (.aload_n 0, 1) := by decide +kernel
theorem dX12_findSlipped_118 : decode cX12_findSlipped 118 = .ok (.getfield 326, 3) := by decide +kernel
theorem dX12_findSlipped_121 : decode cX12_findSlipped 121 = .ok (.ifCond .eq 24, 3) := by decide +kernel
theorem dX12_findSlipped_124 : decode cX12_findSlipped 124 = .ok (.aload_n 0, 1) := by decide +kernel
theorem dX12_findSlipped_125 : decode cX12_findSlipped 125 = .ok (.getfield 112, 3) := by decide +kernel
theorem dX12_findSlipped_128 : decode cX12_findSlipped 128 = .ok (.aload_n 0, 1) := by decide +kernel
theorem dX12_findSlipped_129 : decode cX12_findSlipped 129 = .ok (.getfield 361, 3) := by decide +kernel
theorem dX12_findSlipped_132 : decode cX12_findSlipped 132 = .ok (.iload 4, 2) := by decide +kernel
theorem dX12_findSlipped_134 : decode cX12_findSlipped 134 = .ok (.iastore, 1) := by decide +kernel
theorem dX12_findSlipped_135 : decode cX12_findSlipped 135 = .ok (.aload_n 0, 1) := by decide +kernel
theorem dX12_findSlipped_136 : decode cX12_findSlipped 136 = .ok (.dup, 1) := by decide +kernel
theorem dX12_findSlipped_137 : decode cX12_findSlipped 137 = .ok (.getfield 361, 3) := by decide +kernel
theorem dX12_findSlipped_140 : decode cX12_findSlipped 140 = .ok (.iconst 1, 1) := by decide +kernel
theorem dX12_findSlipped_141 : decode cX12_findSlipped 141 = .ok (.iadd, 1) := by decide +kernel
theorem dX12_findSlipped_142 : decode cX12_findSlipped 142 = .ok (.putfield 361, 3) := by decide +kernel
theorem dX12_findSlipped_145 : decode cX12_findSlipped 145 = .ok (.iinc 4 1, 3) := by decide +kernel
theorem dX12_findSlipped_148 : decode cX12_findSlipped 148 = .ok (.goto (-110), 3) := by decide +kernel
theorem dX12_findSlipped_151 : decode cX12_findSlipped 151 = .ok (.iconst 1, 1) := by decide +kernel
theorem dX12_findSlipped_152 : decode cX12_findSlipped 152 = .ok (.ireturn, 1) := by decide +kernel
set_option maxHeartbeats 4000000 in
set_option maxRecDepth 100000 in
theorem s_X12_findSlipped {P : PP} {a0 : Nat} {a1 : Int32} {a2 : Int32} {a3 : Int32} (I : IM P a0) (ha1 : 0 ≤ a1.toInt ∧ a1.toInt ≤ 3) (ha2 : 0 ≤ a2.toInt ∧ a2.toInt ≤ 1) (ha3 : 0 ≤ a3.toInt ∧ a3.toInt ≤ 1) (hf0 : ∀ b, pR P a0 10 = some b → 1 ≤ (pI P b (a2.toInt.toNat)).toInt ∧ (pI P b (a2.toInt.toNat)).toInt ≤ 16) (hW : MW P a0) : CtrI yX12_findSlipped cX12_findSlipped 6 (some Jvm.ClassFile.FieldType.boolean) ({ frames := 5, cells := 0, slots := 0, locals := 320 } : Room) 0 0 P [.ref a0, .int a1, .int a2, .int a3] (fun r P2 => IM P2 a0 ∧ EM [28, 29, 30, 31, 32, 35, 36, 37, 38, 39, 40] a0 P P2 ∧ MW P2 a0 ∧ (0 ≤ r.toInt ∧ r.toInt ≤ 1)) := by
  refine enI (lv := [(0, .ref a0), (1, .int a1), (2, .int a2), (3, .int a3)]) (by decide) (Nat.le_of_ble_eq_true rfl) rfl (fun E D cy C Ci0 ret => ?_)
  have ha0 := I.2.1
  have J38 : ∀ (n38 : Nat) (P38 : PP) (v38_4 : Int32), (40 - v38_4.toInt).toNat < n38 → (IM P38 a0) → (EM [28, 29, 30, 31, 32, 35, 36, 37, 38, 39, 40] a0 P P38) → (MW P38 a0) → (0 ≤ v38_4.toInt ∧ v38_4.toInt ≤ 40) → (0 ≤ (pI P38 a0 28).toInt ∧ (pI P38 a0 28).toInt ≤ 44) → (∀ b, pR P38 a0 10 = some b → 1 ≤ (pI P38 b (a2.toInt.toNat)).toInt ∧ (pI P38 b (a2.toInt.toNat)).toInt ≤ 16) → ((pI P38 a0 39).toInt ≤ v38_4.toInt) → G E ({ frames := 5, cells := 0, slots := 0, locals := 320 } : Room) D cy 6 P38 0 0 38 [(0, .ref a0), (1, .int a1), (2, .int a2), (3, .int a3), (4, .int v38_4)] [] := by
    intro n38
    induction n38 with
    | zero => intro P38 v38_4 hm38 I38 X38 W38 hv38_4 hq38_0 hq38_1 rel38_0; omega
    | succ n38 ih38 =>
      intro P38 v38_4 hm38 I38 X38 W38 hv38_4 hq38_0 hq38_1 rel38_0
      have h84063 := X38.at ha0
      obtain ⟨b84064, e84065, h84066⟩ := I38.fld (h84063) 10 13 2 rfl
      have hq38_1 := hq38_1 b84064 e84065
      have h84067 := I38.rg h84063 39 rfl
      have J145 : ∀ (P145 : PP), (IM P145 a0) → (EM [28, 29, 30, 31, 32, 35, 36, 37, 38, 39, 40] a0 P P145) → (MW P145 a0) → (0 ≤ v38_4.toInt ∧ v38_4.toInt ≤ 39) → (0 ≤ (pI P145 a0 28).toInt ∧ (pI P145 a0 28).toInt ≤ 44) → (∀ b, pR P145 a0 10 = some b → 1 ≤ (pI P145 b (a2.toInt.toNat)).toInt ∧ (pI P145 b (a2.toInt.toNat)).toInt ≤ 16) → (∀ b, pR P145 a0 20 = some b → 1 ≤ (pI P145 b (a1.toInt.toNat)).toInt ∧ (pI P145 b (a1.toInt.toNat)).toInt ≤ 40) → ((pI P145 a0 39).toInt ≤ v38_4.toInt + 1) → G E ({ frames := 5, cells := 0, slots := 0, locals := 320 } : Room) D cy 6 P145 0 0 145 [(0, .ref a0), (1, .int a1), (2, .int a2), (3, .int a3), (4, .int v38_4)] [] := by
        intro P145 I145 X145 W145 hv145_4 hq145_0 hq145_1 hq145_2 rel145_0
        have h84068 := X145.at ha0
        obtain ⟨b84069, e84070, h84071⟩ := I145.fld (h84068) 10 13 2 rfl
        have hq145_1 := hq145_1 b84069 e84070
        obtain ⟨b84072, e84073, h84074⟩ := I145.fld (h84068) 20 13 20 rfl
        have hq145_2 := hq145_2 b84072 e84073
        have h84075 := I145.rg h84068 39 rfl
        refine s_iinc (lv0 := [(0, .ref a0), (1, .int a1), (2, .int a2), (3, .int a3)]) (m := 1) C dX12_findSlipped_145 4 rfl (by decide) rfl (by decide) (by omega) (fun z84076 h84077 => ?_)
        have h84077 : z84076.toInt = v38_4.toInt + 1 := h84077
        refine g_goto C 38 dX12_findSlipped_148 (by decide) ?_
        refine g_lv (lv' := [(0, .ref a0), (1, .int a1), (2, .int a2), (3, .int a3), (4, .int z84076)]) [1, 2, 3, 4, 0] rfl ?_
        exact ih38 P145 z84076 (by omega) I145 X145 W145 (by omega) (by omega) (fun b9 e9 => by rw [e84070] at e9; cases e9; omega) (by show (pI P145 a0 39).toInt ≤ z84076.toInt; omega)
      refine g_iload C dX12_findSlipped_38 4 rfl ?_
      refine g_aload_n C dX12_findSlipped_40 rfl 0 rfl ?_
      obtain ⟨b84078, e84079, h84080⟩ := I38.fld (h84063) 20 13 20 rfl
      refine g_getR C fi_X12_69 rfl e84079 (h84063).1 (h84063).2 dX12_findSlipped_41 ?_
      refine g_iload_n C dX12_findSlipped_44 rfl 1 rfl ?_
      refine g_iald (j := (a1.toInt.toNat)) C h84080.1 h84080.2.1 (ix_in h84080.2.2 (by omega)) dX12_findSlipped_45 ?_
      have h84081 := I38.arr e84079 rfl (a1.toInt.toNat)
      refine b_icmp_ge C 151 dX12_findSlipped_46 (by decide) (fun h84082 => ?_) (fun h84082 => ?_)
      · have h84082 : (pI P38 b84078 (a1.toInt.toNat)).toInt ≤ v38_4.toInt := h84082
        refine g_iconst (v := 1) C dX12_findSlipped_151 (by decide) ?_
        exact ret _ _ _ _ _ _ dX12_findSlipped_152 rfl (by decide) (by decide) ⟨I38, X38, W38, (by decide)⟩
      · have h84082 : v38_4.toInt < (pI P38 b84078 (a1.toInt.toNat)).toInt := h84082
        refine g_bipush (v := 40) C dX12_findSlipped_49 (by decide) ?_
        refine g_iload_n C dX12_findSlipped_51 rfl 1 rfl ?_
        refine s_imul C dX12_findSlipped_52 (by show -2147483648 ≤ 40 * a1.toInt ∧ 40 * a1.toInt ≤ 2147483647; omega) (fun z84083 h84084 => ?_)
        have h84084 : z84083.toInt = 40 * a1.toInt := h84084
        refine g_iload C dX12_findSlipped_53 4 rfl ?_
        refine s_iadd C dX12_findSlipped_55 (by show -2147483648 ≤ z84083.toInt + v38_4.toInt ∧ z84083.toInt + v38_4.toInt ≤ 2147483647; omega) (fun z84085 h84086 => ?_)
        have h84086 : z84085.toInt = z84083.toInt + v38_4.toInt := h84086
        refine g_istore (lv' := [(5, .int z84085), (0, .ref a0), (1, .int a1), (2, .int a2), (3, .int a3), (4, .int v38_4)]) C dX12_findSlipped_56 (by decide) rfl ?_
        refine g_aload_n C dX12_findSlipped_58 rfl 1 rfl ?_
        obtain ⟨b84087, e84088, h84089⟩ := I38.fld (h84063) 22 13 800 rfl
        refine g_getR C fi_X12_75 rfl e84088 (h84063).1 (h84063).2 dX12_findSlipped_59 ?_
        refine g_iload C dX12_findSlipped_62 0 rfl ?_
        refine g_iald (j := (z84085.toInt.toNat)) C h84089.1 h84089.2.1 (ix_in h84089.2.2 (by omega)) dX12_findSlipped_64 ?_
        have h84090 := I38.arr e84088 rfl (z84085.toInt.toNat)
        refine g_iload_n C dX12_findSlipped_65 rfl 3 rfl ?_
        refine b_icmp_ne C 145 dX12_findSlipped_66 (by decide) (fun h84091 => ?_) (fun h84091 => ?_)
        · have h84091 : (pI P38 b84087 (z84085.toInt.toNat)).toInt ≠ a2.toInt := ti_ne h84091
          refine g_lv (lv' := [(0, .ref a0), (1, .int a1), (2, .int a2), (3, .int a3), (4, .int v38_4)]) [1, 2, 3, 4, 5] rfl ?_
          exact J145 P38 I38 X38 W38 (by omega) (by omega) (fun b9 e9 => by rw [e84065] at e9; cases e9; omega) (fun b9 e9 => by rw [e84079] at e9; cases e9; omega) (by show (pI P38 a0 39).toInt ≤ v38_4.toInt + 1; omega)
        · have h84091 : (pI P38 b84087 (z84085.toInt.toNat)).toInt = a2.toInt := congrArg Int32.toInt h84091
          refine g_aload_n C dX12_findSlipped_69 rfl 1 rfl ?_
          obtain ⟨b84092, e84093, h84094⟩ := I38.fld (h84063) 24 13 800 rfl
          refine g_getR C fi_X12_81 rfl e84093 (h84063).1 (h84063).2 dX12_findSlipped_70 ?_
          refine g_iload C dX12_findSlipped_73 0 rfl ?_
          refine g_iald (j := (z84085.toInt.toNat)) C h84094.1 h84094.2.1 (ix_in h84094.2.2 (by omega)) dX12_findSlipped_75 ?_
          refine g_iload_n C dX12_findSlipped_76 rfl 4 rfl ?_
          refine a_ishr C dX12_findSlipped_77 (fun z84095 => ?_)
          refine g_iconst (v := 1) C dX12_findSlipped_78 (by decide) ?_
          refine s_iand C dX12_findSlipped_79 (by show 0 ≤ 1; omega) (fun z84097 h84098 => ?_)
          have h84098 : 0 ≤ z84097.toInt ∧ z84097.toInt ≤ 1 := h84098
          refine g_iconst (v := 1) C dX12_findSlipped_80 (by decide) ?_
          refine b_icmp_ne C 145 dX12_findSlipped_81 (by decide) (fun h84099 => ?_) (fun h84099 => ?_)
          · have h84099 : z84097.toInt ≠ 1 := ti_ne h84099
            refine g_lv (lv' := [(0, .ref a0), (1, .int a1), (2, .int a2), (3, .int a3), (4, .int v38_4)]) [1, 2, 3, 4, 5] rfl ?_
            exact J145 P38 I38 X38 W38 (by omega) (by omega) (fun b9 e9 => by rw [e84065] at e9; cases e9; omega) (fun b9 e9 => by rw [e84079] at e9; cases e9; omega) (by show (pI P38 a0 39).toInt ≤ v38_4.toInt + 1; omega)
          · have h84099 : z84097.toInt = 1 := congrArg Int32.toInt h84099
            refine g_aload_n C dX12_findSlipped_84 rfl 1 rfl ?_
            obtain ⟨b84100, e84101, h84102⟩ := I38.fld (h84063) 32 15 40 rfl
            refine g_getR C fi_X12_100 rfl e84101 (h84063).1 (h84063).2 dX12_findSlipped_85 ?_
            refine g_iload C dX12_findSlipped_88 5 rfl ?_
            refine g_iconst (v := 1) C dX12_findSlipped_90 (by decide) ?_
            refine g_zast (j := (v38_4.toInt.toNat)) C h84102.1 h84102.2.1 (ix_in h84102.2.2 (by omega)) (Or.inr rfl) dX12_findSlipped_91 ?_
            refine gqW (ks := [32]) (I38.setA e84101 h84102 (by decide) (arOk.none rfl)) (EM.setA I38 e84101 rfl (by decide)) (fun Y84103 Iy84104 Xy84105 w84106  => ?_)
            have w84106 : (pI Y84103 b84100 (v38_4.toInt.toNat)).toInt = 1 := w84106
            have q84107 := Xy84105.keepF 28 (by decide)
            have q84108 := Xy84105.keepA e84065 (by decide) rfl (a2.toInt.toNat)
            have q84109 := Xy84105.keepF 39 (by decide)
            have q84110 := Xy84105.keepA e84079 (by decide) rfl (a1.toInt.toNat)
            have q84111 := Xy84105.keepA e84088 (by decide) rfl (z84085.toInt.toNat)
            have W84112 := W38.keep I38 Xy84105 (by decide) (by decide) (by decide)
            have Xz84113 : EM [28, 29, 30, 31, 32, 35, 36, 37, 38, 39, 40] a0 P Y84103 := EM.tr ha0 X38 (Xy84105.mono (by decide))
            have e84114 := Xy84105.ref h84063 (by decide) e84065
            have e84115 := Xy84105.ref h84063 (by decide) e84079
            have e84116 := Xy84105.ref h84063 (by decide) e84088
            have e84117 := Xy84105.ref h84063 (by decide) e84101
            have h84118 := Xy84105.at h84063
            have h84119 := Xy84105.ar h84066
            have h84120 := Xy84105.ar h84080
            have h84121 := Xy84105.ar h84089
            have h84122 := Xy84105.ar h84102
            refine g_aload_n C dX12_findSlipped_92 rfl 1 rfl ?_
            refine g_iload_n C dX12_findSlipped_93 rfl 2 rfl ?_
            refine g_iload_n C dX12_findSlipped_94 rfl 3 rfl ?_
            refine g_iload_n C dX12_findSlipped_95 rfl 4 rfl ?_
            refine g_aload_n C dX12_findSlipped_96 rfl 1 rfl ?_
            refine g_getR C fi_X12_69 rfl e84115 (h84118).1 (h84118).2 dX12_findSlipped_97 ?_
            refine g_iload_n C dX12_findSlipped_100 rfl 2 rfl ?_
            refine g_iald (j := (a1.toInt.toNat)) C h84120.1 h84120.2.1 (ix_in h84120.2.2 (by omega)) dX12_findSlipped_101 ?_
            refine g_callVV (rest := []) C mv_X12_339 [.int a1, .int a2, .int a3, .int (pI Y84103 b84078 (a1.toInt.toNat))] (s_X12_gathers Iy84104 (by omega) (by omega) (by omega) (fun b9 e9 => by rw [e84114] at e9; cases e9; show 1 ≤ (pI Y84103 b84064 (a2.toInt.toNat)).toInt ∧ (pI Y84103 b84064 (a2.toInt.toNat)).toInt ≤ 16; omega) W84112) (h84118).1 (h84118).2 rfl rfl (by decide) (Nat.le_of_ble_eq_true rfl) (by decide) dX12_findSlipped_102 (fun Y84124 h84125 => ?_)
            obtain ⟨Iy84126, Xy84127, W84128, p84129, p84130⟩ := h84125
            have p84129 : (pI Y84124 a0 28).toInt ≤ 4 + (pI Y84103 b84078 (a1.toInt.toNat)).toInt := p84129
            have q84131 := Xy84127.keepA e84114 (by decide) rfl (a2.toInt.toNat)
            have q84132 := Xy84127.keepF 39 (by decide)
            have q84133 := Xy84127.keepA e84115 (by decide) rfl (a1.toInt.toNat)
            have q84134 := Xy84127.keepA e84116 (by decide) rfl (z84085.toInt.toNat)
            have q84135 := Xy84127.keepA e84117 (by decide) rfl (v38_4.toInt.toNat)
            have Xz84136 : EM [28, 29, 30, 31, 32, 35, 36, 37, 38, 39, 40] a0 P Y84124 := EM.tr ha0 Xz84113 (Xy84127.mono (by decide))
            have e84137 := Xy84127.ref h84118 (by decide) e84114
            have e84138 := Xy84127.ref h84118 (by decide) e84115
            have e84139 := Xy84127.ref h84118 (by decide) e84116
            have e84140 := Xy84127.ref h84118 (by decide) e84117
            have h84141 := Xy84127.at h84118
            have h84142 := Xy84127.ar h84119
            have h84143 := Xy84127.ar h84120
            have h84144 := Xy84127.ar h84121
            have h84145 := Xy84127.ar h84122
            have p84130 := p84130 b84087 e84139
            rw [Xz84136.2.2.2 22 (by decide) rfl b84087 (EM.refB Xz84136 ha0 e84139)] at p84130
            have p84130 : (pI Y84124 a0 28).toInt ≤ 4 + kC (pI P b84087) (40 * a1.toInt).toNat a2.toInt ((pI Y84103 b84078 (a1.toInt.toNat)).toInt : Int).toNat := p84130
            have h84146 := Iy84126.rg h84141 28 rfl
            refine g_aload_n C dX12_findSlipped_105 rfl 1 rfl ?_
            refine g_callVV (rest := []) C mv_X12_346 [] (s_X12_findSolved Iy84126 W84128) (h84141).1 (h84141).2 rfl rfl (by decide) (Nat.le_of_ble_eq_true rfl) (by decide) dX12_findSlipped_106 (fun Y84148 h84149 => ?_)
            obtain ⟨Iy84150, Xy84151, W84152⟩ := h84149
            have q84153 := Xy84151.keepA e84137 (by decide) rfl (a2.toInt.toNat)
            have q84154 := Xy84151.keepF 39 (by decide)
            have q84155 := Xy84151.keepA e84138 (by decide) rfl (a1.toInt.toNat)
            have q84156 := Xy84151.keepA e84139 (by decide) rfl (z84085.toInt.toNat)
            have q84157 := Xy84151.keepA e84140 (by decide) rfl (v38_4.toInt.toNat)
            have q84158 := Xy84151.keepF 28 (by decide)
            have Xz84159 : EM [28, 29, 30, 31, 32, 35, 36, 37, 38, 39, 40] a0 P Y84148 := EM.tr ha0 Xz84136 (Xy84151.mono (by decide))
            have e84160 := Xy84151.ref h84141 (by decide) e84137
            have e84161 := Xy84151.ref h84141 (by decide) e84138
            have e84162 := Xy84151.ref h84141 (by decide) e84139
            have e84163 := Xy84151.ref h84141 (by decide) e84140
            have h84164 := Xy84151.at h84141
            have h84165 := Xy84151.ar h84142
            have h84166 := Xy84151.ar h84143
            have h84167 := Xy84151.ar h84144
            have h84168 := Xy84151.ar h84145
            refine g_aload_n C dX12_findSlipped_109 rfl 1 rfl ?_
            refine g_getR C fi_X12_100 rfl e84163 (h84164).1 (h84164).2 dX12_findSlipped_110 ?_
            refine g_iload C dX12_findSlipped_113 5 rfl ?_
            refine g_iconst (v := 0) C dX12_findSlipped_115 (by decide) ?_
            refine g_zast (j := (v38_4.toInt.toNat)) C h84168.1 h84168.2.1 (ix_in h84168.2.2 (by omega)) (Or.inl rfl) dX12_findSlipped_116 ?_
            refine gqW (ks := [32]) (Iy84150.setA e84163 h84168 (by decide) (arOk.none rfl)) (EM.setA Iy84150 e84163 rfl (by decide)) (fun Y84169 Iy84170 Xy84171 w84172  => ?_)
            have w84172 : (pI Y84169 b84100 (v38_4.toInt.toNat)).toInt = 0 := w84172
            have q84173 := Xy84171.keepA e84160 (by decide) rfl (a2.toInt.toNat)
            have q84174 := Xy84171.keepF 39 (by decide)
            have q84175 := Xy84171.keepA e84161 (by decide) rfl (a1.toInt.toNat)
            have q84176 := Xy84171.keepA e84162 (by decide) rfl (z84085.toInt.toNat)
            have q84177 := Xy84171.keepF 28 (by decide)
            have W84178 := W84152.keep Iy84150 Xy84171 (by decide) (by decide) (by decide)
            have Xz84179 : EM [28, 29, 30, 31, 32, 35, 36, 37, 38, 39, 40] a0 P Y84169 := EM.tr ha0 Xz84159 (Xy84171.mono (by decide))
            have e84180 := Xy84171.ref h84164 (by decide) e84160
            have e84181 := Xy84171.ref h84164 (by decide) e84161
            have e84182 := Xy84171.ref h84164 (by decide) e84162
            have e84183 := Xy84171.ref h84164 (by decide) e84163
            have h84184 := Xy84171.at h84164
            have h84185 := Xy84171.ar h84165
            have h84186 := Xy84171.ar h84166
            have h84187 := Xy84171.ar h84167
            have h84188 := Xy84171.ar h84168
            refine g_aload_n C dX12_findSlipped_117 rfl 1 rfl ?_
            refine g_getI C fi_X12_326 (by decide) (h84184).1 (h84184).2 dX12_findSlipped_118 ?_
            have h84189 := Iy84170.rg (h84184) 36 rfl
            refine b_if_eq C 145 dX12_findSlipped_121 (by decide) (fun h84190 => ?_) (fun h84190 => ?_)
            · have h84190 : (pI Y84169 a0 36).toInt = 0 := congrArg Int32.toInt h84190
              refine g_lv (lv' := [(0, .ref a0), (1, .int a1), (2, .int a2), (3, .int a3), (4, .int v38_4)]) [1, 2, 3, 4, 5] rfl ?_
              exact J145 Y84169 Iy84170 Xz84179 W84178 (by omega) (by omega) (fun b9 e9 => by rw [e84180] at e9; cases e9; omega) (fun b9 e9 => by rw [e84181] at e9; cases e9; omega) (by show (pI Y84169 a0 39).toInt ≤ v38_4.toInt + 1; omega)
            · have h84190 : (pI Y84169 a0 36).toInt ≠ 0 := ti_ne h84190
              refine g_aload_n C dX12_findSlipped_124 rfl 1 rfl ?_
              obtain ⟨b84191, e84192, h84193⟩ := Iy84170.fld (h84184) 40 13 40 rfl
              refine g_getR C fi_X12_112 rfl e84192 (h84184).1 (h84184).2 dX12_findSlipped_125 ?_
              refine g_aload_n C dX12_findSlipped_128 rfl 1 rfl ?_
              refine g_getI C fi_X12_361 (by decide) (h84184).1 (h84184).2 dX12_findSlipped_129 ?_
              refine g_iload C dX12_findSlipped_132 5 rfl ?_
              refine g_iast (j := ((pI Y84169 a0 39).toInt.toNat)) C h84193.1 h84193.2.1 (ix_in h84193.2.2 (by omega)) dX12_findSlipped_134 ?_
              refine gqW (ks := [40]) (Iy84170.setA e84192 h84193 (by decide) (arOk.of rfl (by omega))) (EM.setA Iy84170 e84192 rfl (by decide)) (fun Y84194 Iy84195 Xy84196 w84197  => ?_)
              have w84197 : (pI Y84194 b84191 ((pI Y84169 a0 39).toInt.toNat)).toInt = v38_4.toInt := w84197
              have q84198 := Xy84196.keepA e84180 (by decide) rfl (a2.toInt.toNat)
              have q84199 := Xy84196.keepF 39 (by decide)
              have q84200 := Xy84196.keepA e84181 (by decide) rfl (a1.toInt.toNat)
              have q84201 := Xy84196.keepA e84182 (by decide) rfl (z84085.toInt.toNat)
              have q84202 := Xy84196.keepF 28 (by decide)
              have q84203 := Xy84196.keepA e84183 (by decide) rfl (v38_4.toInt.toNat)
              have q84204 := Xy84196.keepF 36 (by decide)
              have W84205 := W84178.keep Iy84170 Xy84196 (by decide) (by decide) (by decide)
              have Xz84206 : EM [28, 29, 30, 31, 32, 35, 36, 37, 38, 39, 40] a0 P Y84194 := EM.tr ha0 Xz84179 (Xy84196.mono (by decide))
              have e84207 := Xy84196.ref h84184 (by decide) e84180
              have e84208 := Xy84196.ref h84184 (by decide) e84181
              have e84209 := Xy84196.ref h84184 (by decide) e84182
              have e84210 := Xy84196.ref h84184 (by decide) e84183
              have h84211 := Xy84196.at h84184
              have h84212 := Xy84196.ar h84185
              have h84213 := Xy84196.ar h84186
              have h84214 := Xy84196.ar h84187
              have h84215 := Xy84196.ar h84188
              refine g_aload_n C dX12_findSlipped_135 rfl 1 rfl ?_
              refine g_dup C dX12_findSlipped_136 rfl ?_
              refine g_getI C fi_X12_361 (by decide) (h84211).1 (h84211).2 dX12_findSlipped_137 ?_
              refine g_iconst (v := 1) C dX12_findSlipped_140 (by decide) ?_
              refine s_iadd C dX12_findSlipped_141 (by show -2147483648 ≤ (pI Y84194 a0 39).toInt + 1 ∧ (pI Y84194 a0 39).toInt + 1 ≤ 2147483647; omega) (fun z84216 h84217 => ?_)
              have h84217 : z84216.toInt = (pI Y84194 a0 39).toInt + 1 := h84217
              refine g_putI C fi_X12_361 rfl (h84211).1 (h84211).2 dX12_findSlipped_142 ?_
              refine gqW (ks := [39]) (Iy84195.setI (rgOk.of rfl (by omega))) (EM.setI Iy84195 (by decide)) (fun Y84218 Iy84219 Xy84220 w84221  => ?_)
              have w84221 : (pI Y84218 a0 39).toInt = z84216.toInt := w84221
              have q84222 := Xy84220.keepA e84207 (by decide) rfl (a2.toInt.toNat)
              have q84223 := Xy84220.keepA e84208 (by decide) rfl (a1.toInt.toNat)
              have q84224 := Xy84220.keepA e84209 (by decide) rfl (z84085.toInt.toNat)
              have q84225 := Xy84220.keepF 28 (by decide)
              have q84226 := Xy84220.keepA e84210 (by decide) rfl (v38_4.toInt.toNat)
              have q84227 := Xy84220.keepF 36 (by decide)
              have W84228 := W84205.keep Iy84195 Xy84220 (by decide) (by decide) (by decide)
              have Xz84229 : EM [28, 29, 30, 31, 32, 35, 36, 37, 38, 39, 40] a0 P Y84218 := EM.tr ha0 Xz84206 (Xy84220.mono (by decide))
              have e84230 := Xy84220.ref h84211 (by decide) e84207
              have e84231 := Xy84220.ref h84211 (by decide) e84208
              have e84232 := Xy84220.ref h84211 (by decide) e84209
              have e84233 := Xy84220.ref h84211 (by decide) e84210
              have h84234 := Xy84220.at h84211
              have h84235 := Xy84220.ar h84212
              have h84236 := Xy84220.ar h84213
              have h84237 := Xy84220.ar h84214
              have h84238 := Xy84220.ar h84215
              refine g_lv (lv' := [(0, .ref a0), (1, .int a1), (2, .int a2), (3, .int a3), (4, .int v38_4)]) [1, 2, 3, 4, 5] rfl ?_
              exact J145 Y84218 Iy84219 Xz84229 W84228 (by omega) (by omega) (fun b9 e9 => by rw [e84230] at e9; cases e9; omega) (fun b9 e9 => by rw [e84231] at e9; cases e9; omega) (by show (pI Y84218 a0 39).toInt ≤ v38_4.toInt + 1; omega)
  obtain ⟨b84239, e84240, h84241⟩ := I.fld (ha0) 10 13 2 rfl
  have hf0 := hf0 b84239 e84240
  refine g_aload_n C dX12_findSlipped_0 rfl 0 rfl ?_
  refine g_callVV (rest := []) C mv_X12_336 [] (s_X12_leavesNone I hW) (ha0).1 (ha0).2 rfl rfl (by decide) (Nat.le_of_ble_eq_true rfl) (by decide) dX12_findSlipped_1 (fun Y84243 h84244 => ?_)
  obtain ⟨Iy84245, Xy84246, W84247⟩ := h84244
  have q84248 := Xy84246.keepA e84240 (by decide) rfl (a2.toInt.toNat)
  have Xz84249 : EM [28, 29, 30, 31, 32, 35, 36, 37, 38, 39, 40] a0 P Y84243 := Xy84246.mono (by decide)
  have e84250 := Xy84246.ref ha0 (by decide) e84240
  have h84251 := Xy84246.at ha0
  have h84252 := Xy84246.ar h84241
  refine g_aload_n C dX12_findSlipped_4 rfl 0 rfl ?_
  refine g_iload_n C dX12_findSlipped_5 rfl 1 rfl ?_
  refine g_iload_n C dX12_findSlipped_6 rfl 2 rfl ?_
  refine g_iload_n C dX12_findSlipped_7 rfl 3 rfl ?_
  refine g_aload_n C dX12_findSlipped_8 rfl 0 rfl ?_
  obtain ⟨b84253, e84254, h84255⟩ := Iy84245.fld (h84251) 20 13 20 rfl
  refine g_getR C fi_X12_69 rfl e84254 (h84251).1 (h84251).2 dX12_findSlipped_9 ?_
  refine g_iload_n C dX12_findSlipped_12 rfl 1 rfl ?_
  refine g_iald (j := (a1.toInt.toNat)) C h84255.1 h84255.2.1 (ix_in h84255.2.2 (by omega)) dX12_findSlipped_13 ?_
  have h84256 := Iy84245.arr e84254 rfl (a1.toInt.toNat)
  refine g_callVV (rest := []) C mv_X12_339 [.int a1, .int a2, .int a3, .int (pI Y84243 b84253 (a1.toInt.toNat))] (s_X12_gathers Iy84245 (by omega) (by omega) (by omega) (fun b9 e9 => by rw [e84250] at e9; cases e9; show 1 ≤ (pI Y84243 b84239 (a2.toInt.toNat)).toInt ∧ (pI Y84243 b84239 (a2.toInt.toNat)).toInt ≤ 16; omega) W84247) (h84251).1 (h84251).2 rfl rfl (by decide) (Nat.le_of_ble_eq_true rfl) (by decide) dX12_findSlipped_14 (fun Y84258 h84259 => ?_)
  obtain ⟨Iy84260, Xy84261, W84262, p84263, p84264⟩ := h84259
  have p84263 : (pI Y84258 a0 28).toInt ≤ 4 + (pI Y84243 b84253 (a1.toInt.toNat)).toInt := p84263
  have q84265 := Xy84261.keepA e84250 (by decide) rfl (a2.toInt.toNat)
  have q84266 := Xy84261.keepA e84254 (by decide) rfl (a1.toInt.toNat)
  have Xz84267 : EM [28, 29, 30, 31, 32, 35, 36, 37, 38, 39, 40] a0 P Y84258 := EM.tr ha0 Xz84249 (Xy84261.mono (by decide))
  have e84268 := Xy84261.ref h84251 (by decide) e84250
  have e84269 := Xy84261.ref h84251 (by decide) e84254
  have h84270 := Xy84261.at h84251
  have h84271 := Xy84261.ar h84252
  have h84272 := Xy84261.ar h84255
  obtain ⟨b84273, e84274, h84275⟩ := Iy84260.fld (h84270) 22 13 800 rfl
  have p84264 := p84264 b84273 e84274
  rw [Xz84267.2.2.2 22 (by decide) rfl b84273 (EM.refB Xz84267 ha0 e84274)] at p84264
  have p84264 : (pI Y84258 a0 28).toInt ≤ 4 + kC (pI P b84273) (40 * a1.toInt).toNat a2.toInt ((pI Y84243 b84253 (a1.toInt.toNat)).toInt : Int).toNat := p84264
  have h84276 := Iy84260.rg h84270 28 rfl
  refine g_aload_n C dX12_findSlipped_17 rfl 0 rfl ?_
  refine g_callVV (rest := []) C mv_X12_346 [] (s_X12_findSolved Iy84260 W84262) (h84270).1 (h84270).2 rfl rfl (by decide) (Nat.le_of_ble_eq_true rfl) (by decide) dX12_findSlipped_18 (fun Y84278 h84279 => ?_)
  obtain ⟨Iy84280, Xy84281, W84282⟩ := h84279
  have q84283 := Xy84281.keepA e84268 (by decide) rfl (a2.toInt.toNat)
  have q84284 := Xy84281.keepA e84269 (by decide) rfl (a1.toInt.toNat)
  have q84285 := Xy84281.keepF 28 (by decide)
  have Xz84286 : EM [28, 29, 30, 31, 32, 35, 36, 37, 38, 39, 40] a0 P Y84278 := EM.tr ha0 Xz84267 (Xy84281.mono (by decide))
  have e84287 := Xy84281.ref h84270 (by decide) e84268
  have e84288 := Xy84281.ref h84270 (by decide) e84269
  have h84289 := Xy84281.at h84270
  have h84290 := Xy84281.ar h84271
  have h84291 := Xy84281.ar h84272
  refine g_aload_n C dX12_findSlipped_21 rfl 0 rfl ?_
  refine g_iconst (v := 0) C dX12_findSlipped_22 (by decide) ?_
  refine g_putI C fi_X12_361 rfl (h84289).1 (h84289).2 dX12_findSlipped_23 ?_
  refine gqW (ks := [39]) (Iy84280.setI (rgOk.of rfl (by decide))) (EM.setI Iy84280 (by decide)) (fun Y84292 Iy84293 Xy84294 w84295  => ?_)
  have w84295 : (pI Y84292 a0 39).toInt = 0 := w84295
  have q84296 := Xy84294.keepA e84287 (by decide) rfl (a2.toInt.toNat)
  have q84297 := Xy84294.keepA e84288 (by decide) rfl (a1.toInt.toNat)
  have q84298 := Xy84294.keepF 28 (by decide)
  have W84299 := W84282.keep Iy84280 Xy84294 (by decide) (by decide) (by decide)
  have Xz84300 : EM [28, 29, 30, 31, 32, 35, 36, 37, 38, 39, 40] a0 P Y84292 := EM.tr ha0 Xz84286 (Xy84294.mono (by decide))
  have e84301 := Xy84294.ref h84289 (by decide) e84287
  have e84302 := Xy84294.ref h84289 (by decide) e84288
  have h84303 := Xy84294.at h84289
  have h84304 := Xy84294.ar h84290
  have h84305 := Xy84294.ar h84291
  refine g_aload_n C dX12_findSlipped_26 rfl 0 rfl ?_
  refine g_getI C fi_X12_326 (by decide) (h84303).1 (h84303).2 dX12_findSlipped_27 ?_
  have h84306 := Iy84293.rg (h84303) 36 rfl
  refine b_if_eq C 35 dX12_findSlipped_30 (by decide) (fun h84307 => ?_) (fun h84307 => ?_)
  · have h84307 : (pI Y84292 a0 36).toInt = 0 := congrArg Int32.toInt h84307
    refine g_iconst (v := 0) C dX12_findSlipped_35 (by decide) ?_
    refine g_istore (lv' := [(4, .int 0), (0, .ref a0), (1, .int a1), (2, .int a2), (3, .int a3)]) C dX12_findSlipped_36 (by decide) rfl ?_
    refine g_lv (lv' := [(0, .ref a0), (1, .int a1), (2, .int a2), (3, .int a3), (4, .int 0)]) [1, 2, 3, 4, 0] rfl ?_
    exact J38 _ Y84292 0 (Nat.lt_succ_self _) Iy84293 Xz84300 W84299 (by decide) (by omega) (fun b9 e9 => by rw [e84301] at e9; cases e9; omega) (by show (pI Y84292 a0 39).toInt ≤ 0; omega)
  · have h84307 : (pI Y84292 a0 36).toInt ≠ 0 := ti_ne h84307
    refine g_iconst (v := 0) C dX12_findSlipped_33 (by decide) ?_
    exact ret _ _ _ _ _ _ dX12_findSlipped_34 rfl (by decide) (by decide) ⟨Iy84293, Xz84300, W84299, (by decide)⟩
theorem dX12_forged_0 : decode cX12_forged 0 = .ok (.aload_n 0, 1) := by decide +kernel
theorem dX12_forged_1 : decode cX12_forged 1 = .ok (.iconst 0, 1) := by decide +kernel
theorem dX12_forged_2 : decode cX12_forged 2 = .ok (.putfield 1, 3) := by decide +kernel
theorem dX12_forged_5 : decode cX12_forged 5 = .ok (.iload_n 1, 1) := by decide +kernel
theorem dX12_forged_6 : decode cX12_forged 6 = .ok (.invokestatic 278, 3) := by decide +kernel
theorem dX12_forged_9 : decode cX12_forged 9 = .ok (.ifCond .eq 45, 3) := by decide +kernel
theorem dX12_forged_12 : decode cX12_forged 12 = .ok (.aload_n 0, 1) := by decide +kernel
theorem dX12_forged_13 : decode cX12_forged 13 = .ok (.iload_n 2, 1) := by decide +kernel
theorem dX12_forged_14 : decode cX12_forged 14 = .ok (.invokevirtual 192, 3) := by decide +kernel
theorem dX12_forged_17 : decode cX12_forged 17 = .ok (.ifCond .eq 37, 3) := by decide +kernel
theorem dX12_forged_20 : decode cX12_forged 20 = .ok (.iload_n 3, 1) := by decide +kernel
theorem dX12_forged_21 : decode cX12_forged 21 = .ok (.invokestatic 258, 3) := by decide +kernel
theorem dX12_forged_24 : decode cX12_forged 24 = .ok (.ifCond .eq 30, 3) := by decide +kernel
theorem dX12_forged_27 : decode cX12_forged 27 = .ok (.iload 4, 2) := by decide +kernel
theorem dX12_forged_29 : decode cX12_forged 29 = .ok (.iconst 0, 1) := by decide +kernel
theorem dX12_forged_30 : decode cX12_forged 30 = .ok (.ldc 195, 2) := by decide +kernel
theorem dX12_forged_32 : decode cX12_forged 32 = .ok (.invokestatic 178, 3) := by decide +kernel
theorem dX12_forged_35 : decode cX12_forged 35 = .ok (.ifCond .eq 19, 3) := by decide +kernel
theorem dX12_forged_38 : decode cX12_forged 38 = .ok (.iload 5, 2) := by decide +kernel
theorem dX12_forged_40 : decode cX12_forged 40 = .ok (.iconst 0, 1) := by decide +kernel
theorem dX12_forged_41 : decode cX12_forged 41 = .ok (.sipush 996, 3) := by decide +kernel
theorem dX12_forged_44 : decode cX12_forged 44 = .ok (.invokestatic 178, 3) := by decide +kernel
theorem dX12_forged_47 : decode cX12_forged 47 = .ok (.ifCond .eq 7, 3) := by decide +kernel
theorem dX12_forged_50 : decode cX12_forged 50 = .ok (.iconst 1, 1) := by decide +kernel
theorem dX12_forged_51 : decode cX12_forged 51 = .ok (.goto 4, 3) := by decide +kernel
theorem dX12_forged_54 : decode cX12_forged 54 = .ok (.iconst 0, 1) := by decide +kernel
theorem dX12_forged_55 : decode cX12_forged 55 = .ok (.istore 6, 2) := by decide +kernel
theorem dX12_forged_57 : decode cX12_forged 57 = .ok (.iload 6, 2) := by decide +kernel
theorem dX12_forged_59 : decode cX12_forged 59 = .ok (.ifCond .eq 28, 3) := by decide +kernel
theorem dX12_forged_62 : decode cX12_forged 62 = .ok (.aload_n 0, 1) := by decide +kernel
theorem dX12_forged_63 : decode cX12_forged 63 = .ok (.getfield 69, 3) := by decide +kernel
theorem dX12_forged_66 : decode cX12_forged 66 = .ok (.iload_n 1, 1) := by decide +kernel
theorem dX12_forged_67 : decode cX12_forged 67 = .ok (.iaload, 1) := by decide +kernel
theorem dX12_forged_68 : decode cX12_forged 68 = .ok (.bipush 40, 2) := by decide +kernel
theorem dX12_forged_70 : decode cX12_forged 70 = .ok (.if_icmp .ge 17, 3) := by decide +kernel
theorem dX12_forged_73 : decode cX12_forged 73 = .ok (.aload_n 0, 1) := by decide +kernel
theorem dX12_forged_74 : decode cX12_forged 74 = .ok (.iload_n 1, 1) := by decide +kernel
theorem dX12_forged_75 : decode cX12_forged 75 = .ok (.iload_n 2, 1) := by decide +kernel
theorem dX12_forged_76 : decode cX12_forged 76 = .ok (.iload_n 3, 1) := by decide +kernel
theorem dX12_forged_77 : decode cX12_forged 77 = .ok (.iload 4, 2) := by decide +kernel
theorem dX12_forged_79 : decode cX12_forged 79 = .ok (.iload 5, 2) := by decide +kernel
theorem dX12_forged_81 : decode cX12_forged 81 = .ok (.invokevirtual 291, 3) := by decide +kernel
theorem dX12_laysIf_0 : decode cX12_laysIf 0 = .ok (.aload_n 0, 1) := by decide +kernel
theorem dX12_laysIf_1 : decode cX12_laysIf 1 = .ok (.getfield 66, 3) := by decide +kernel
theorem dX12_laysIf_4 : decode cX12_laysIf 4 = .ok (.iload_n 2, 1) := by decide +kernel
theorem dX12_laysIf_5 : decode cX12_laysIf 5 = .ok (.iaload, 1) := by decide +kernel
theorem dX12_laysIf_6 : decode cX12_laysIf 6 = .ok (.ifCond .le 28, 3) := by decide +kernel
theorem dX12_laysIf_9 : decode cX12_laysIf 9 = .ok (.iload 5, 2) := by decide +kernel
theorem dX12_laysIf_11 : decode cX12_laysIf 11 = .ok (.aload_n 0, 1) := by decide +kernel
theorem dX12_laysIf_12 : decode cX12_laysIf 12 = .ok (.iload_n 2, 1) := by decide +kernel
theorem dX12_laysIf_13 : decode cX12_laysIf 13 = .ok (.iload_n 3, 1) := by decide +kernel
theorem dX12_laysIf_14 : decode cX12_laysIf 14 = .ok (.iload 4, 2) := by decide +kernel
theorem dX12_laysIf_16 : decode cX12_laysIf 16 = .ok (.invokevirtual 267, 3) := by decide +kernel
theorem dX12_laysIf_19 : decode cX12_laysIf 19 = .ok (.if_icmp .eq 15, 3) := by decide +kernel
theorem dX12_laysIf_22 : decode cX12_laysIf 22 = .ok (.aload_n 0, 1) := by decide +kernel
theorem dX12_laysIf_23 : decode cX12_laysIf 23 = .ok (.dup, 1) := by decide +kernel
theorem dX12_laysIf_24 : decode cX12_laysIf 24 = .ok (.getfield 288, 3) := by decide +kernel
theorem dX12_laysIf_27 : decode cX12_laysIf 27 = .ok (.iconst 1, 1) := by decide +kernel
theorem dX12_laysIf_28 : decode cX12_laysIf 28 = .ok (.iadd, 1) := by decide +kernel
theorem dX12_laysIf_29 : decode cX12_laysIf 29 = .ok (.putfield 288, 3) := by decide +kernel
theorem dX12_laysIf_32 : decode cX12_laysIf 32 = .ok (.iconst (-1), 1) := by decide +kernel
theorem dX12_laysIf_33 : decode cX12_laysIf 33 = .ok (.ireturn, 1) := by decide +kernel
theorem dX12_laysIf_34 : decode cX12_laysIf 34 = .ok (.aload_n 0, 1) := by decide +kernel
theorem dX12_laysIf_35 : decode cX12_laysIf 35 = .ok (.iload_n 1, 1) := by decide +kernel
theorem dX12_laysIf_36 : decode cX12_laysIf 36 = .ok (.iload_n 2, 1) := by decide +kernel
theorem dX12_laysIf_37 : decode cX12_laysIf 37 = .ok (.iload_n 3, 1) := by decide +kernel
theorem dX12_laysIf_38 : decode cX12_laysIf 38 = .ok (.iload 4, 2) := by decide +kernel
theorem dX12_laysIf_40 : decode cX12_laysIf 40 = .ok (.iconst 3, 1) := by decide +kernel
theorem dX12_laysIf_41 : decode cX12_laysIf 41 = .ok (.iload 5, 2) := by decide +kernel
theorem dX12_laysIf_43 : decode cX12_laysIf 43 = .ok (.invokevirtual 284, 3) := by decide +kernel
theorem dX12_laysIf_46 : decode cX12_laysIf 46 = .ok (.ireturn, 1) := by decide +kernel
set_option maxHeartbeats 4000000 in
set_option maxRecDepth 100000 in
theorem s_X12_laysIf {P : PP} {a0 : Nat} {a1 : Int32} {a2 : Int32} {a3 : Int32} {a4 : Int32} {a5 : Int32} (I : IM P a0) (ha1 : 0 ≤ a1.toInt ∧ a1.toInt ≤ 3) (ha2 : 0 ≤ a2.toInt ∧ a2.toInt ≤ 1) (hf0 : ∀ b, pR P a0 10 = some b → 1 ≤ (pI P b (a2.toInt.toNat)).toInt ∧ (pI P b (a2.toInt.toNat)).toInt ≤ 16) (hf1 : ∀ b, pR P a0 20 = some b → 0 ≤ (pI P b (a1.toInt.toNat)).toInt ∧ (pI P b (a1.toInt.toNat)).toInt ≤ 39) (hW : MW P a0) : CtrI yX12_laysIf cX12_laysIf 6 (some Jvm.ClassFile.FieldType.int) ({ frames := 2, cells := 0, slots := 0, locals := 128 } : Room) 0 0 P [.ref a0, .int a1, .int a2, .int a3, .int a4, .int a5] (fun r P2 => IM P2 a0 ∧ EM [20, 21, 22, 23, 24, 25, 27] a0 P P2 ∧ MW P2 a0 ∧ (-1 ≤ r.toInt ∧ r.toInt ≤ 39)) := by
  refine enI (lv := [(0, .ref a0), (1, .int a1), (2, .int a2), (3, .int a3), (4, .int a4), (5, .int a5)]) (by decide) (Nat.le_of_ble_eq_true rfl) rfl (fun E D cy C Ci0 ret => ?_)
  have ha0 := I.2.1
  have J34 : (∀ b, pR P a0 10 = some b → 1 ≤ (pI P b (a2.toInt.toNat)).toInt ∧ (pI P b (a2.toInt.toNat)).toInt ≤ 16) → (∀ b, pR P a0 17 = some b → (pI P b (a2.toInt.toNat)).toInt ≤ 2147483647) → (∀ b, pR P a0 20 = some b → 0 ≤ (pI P b (a1.toInt.toNat)).toInt ∧ (pI P b (a1.toInt.toNat)).toInt ≤ 39) → G E ({ frames := 2, cells := 0, slots := 0, locals := 128 } : Room) D cy 6 P 0 0 34 [(0, .ref a0), (1, .int a1), (2, .int a2), (3, .int a3), (4, .int a4), (5, .int a5)] [] := by
    intro hq34_0 hq34_1 hq34_2
    obtain ⟨b84417, e84418, h84419⟩ := I.fld (ha0) 10 13 2 rfl
    have hq34_0 := hq34_0 b84417 e84418
    obtain ⟨b84420, e84421, h84422⟩ := I.fld (ha0) 17 13 3 rfl
    have hq34_1 := hq34_1 b84420 e84421
    obtain ⟨b84423, e84424, h84425⟩ := I.fld (ha0) 20 13 20 rfl
    have hq34_2 := hq34_2 b84423 e84424
    refine g_aload_n C dX12_laysIf_34 rfl 0 rfl ?_
    refine g_iload_n C dX12_laysIf_35 rfl 1 rfl ?_
    refine g_iload_n C dX12_laysIf_36 rfl 2 rfl ?_
    refine g_iload_n C dX12_laysIf_37 rfl 3 rfl ?_
    refine g_iload C dX12_laysIf_38 4 rfl ?_
    refine g_iconst (v := 3) C dX12_laysIf_40 (by decide) ?_
    refine g_iload C dX12_laysIf_41 5 rfl ?_
    refine g_callVI (rest := []) C mv_X12_284 [.int a1, .int a2, .int a3, .int a4, .int 3, .int a5] (s_X12_lays I (by omega) (by omega) (fun b9 e9 => by rw [e84424] at e9; cases e9; show 0 ≤ (pI P b84423 (a1.toInt.toNat)).toInt ∧ (pI P b84423 (a1.toInt.toNat)).toInt ≤ 39; omega) hW (fun c9 f9 _ => by rw [e84418] at f9; cases f9; show 0 < (pI P b84417 (a2.toInt.toNat)).toInt; omega)) (ha0).1 (ha0).2 rfl rfl (by decide) (Nat.le_of_ble_eq_true rfl) (by decide) dX12_laysIf_43 (fun r84426 Y84427 h84428 => ?_)
    obtain ⟨Iy84429, Xy84430, W84431, p84432, h84428⟩ := h84428
    have p84432 := p84432 b84423 e84424
    have p84432 : (pI Y84427 b84423 (a1.toInt.toNat)).toInt = (pI P b84423 (a1.toInt.toNat)).toInt + 1 := p84432
    have q84433 := Xy84430.keepA e84418 (by decide) rfl (a2.toInt.toNat)
    have q84434 := Xy84430.keepA e84421 (by decide) rfl (a2.toInt.toNat)
    have Xz84435 : EM [20, 21, 22, 23, 24, 25, 27] a0 P Y84427 := Xy84430.mono (by decide)
    have e84436 := Xy84430.ref ha0 (by decide) e84418
    have e84437 := Xy84430.ref ha0 (by decide) e84421
    have e84438 := Xy84430.ref ha0 (by decide) e84424
    have h84439 := Xy84430.at ha0
    have h84440 := Xy84430.ar h84419
    have h84441 := Xy84430.ar h84422
    have h84442 := Xy84430.ar h84425
    have h84428 : 0 ≤ r84426.toInt ∧ r84426.toInt ≤ 39 := h84428
    exact ret _ _ _ _ _ _ dX12_laysIf_46 rfl (by decide) (by decide) ⟨Iy84429, Xz84435, W84431, (by omega)⟩
  obtain ⟨b84443, e84444, h84445⟩ := I.fld (ha0) 10 13 2 rfl
  have hf0 := hf0 b84443 e84444
  obtain ⟨b84446, e84447, h84448⟩ := I.fld (ha0) 20 13 20 rfl
  have hf1 := hf1 b84446 e84447
  refine g_aload_n C dX12_laysIf_0 rfl 0 rfl ?_
  obtain ⟨b84449, e84450, h84451⟩ := I.fld (ha0) 17 13 3 rfl
  refine g_getR C fi_X12_66 rfl e84450 (ha0).1 (ha0).2 dX12_laysIf_1 ?_
  refine g_iload_n C dX12_laysIf_4 rfl 2 rfl ?_
  refine g_iald (j := (a2.toInt.toNat)) C h84451.1 h84451.2.1 (ix_in h84451.2.2 (by omega)) dX12_laysIf_5 ?_
  have u84453 := ti_rng (pI P b84449 (a2.toInt.toNat))
  refine b_if_le C 34 dX12_laysIf_6 (by decide) (fun h84452 => ?_) (fun h84452 => ?_)
  · have h84452 : (pI P b84449 (a2.toInt.toNat)).toInt ≤ 0 := h84452
    exact J34 (fun b9 e9 => by rw [e84444] at e9; cases e9; omega) (fun b9 e9 => by rw [e84450] at e9; cases e9; omega) (fun b9 e9 => by rw [e84447] at e9; cases e9; omega)
  · have h84452 : 0 < (pI P b84449 (a2.toInt.toNat)).toInt := h84452
    refine g_iload C dX12_laysIf_9 5 rfl ?_
    refine g_aload_n C dX12_laysIf_11 rfl 0 rfl ?_
    refine g_iload_n C dX12_laysIf_12 rfl 2 rfl ?_
    refine g_iload_n C dX12_laysIf_13 rfl 3 rfl ?_
    refine g_iload C dX12_laysIf_14 4 rfl ?_
    refine g_callVI (rest := [.int a5]) C mv_X12_267 [.int a2, .int a3, .int a4] (s_X12_sealOf I (by omega) hW) (ha0).1 (ha0).2 rfl rfl (by decide) (Nat.le_of_ble_eq_true rfl) (by decide) dX12_laysIf_16 (fun r84454 Y84455 h84456 => ?_)
    obtain ⟨rfl, h84456⟩ := h84456
    have h84456 : -996 ≤ r84454.toInt ∧ r84454.toInt ≤ 996 := h84456
    have u84458 := ti_rng a5
    refine b_icmp_eq C 34 dX12_laysIf_19 (by decide) (fun h84457 => ?_) (fun h84457 => ?_)
    · have h84457 : a5.toInt = r84454.toInt := congrArg Int32.toInt h84457
      exact J34 (fun b9 e9 => by rw [e84444] at e9; cases e9; omega) (fun b9 e9 => by rw [e84450] at e9; cases e9; omega) (fun b9 e9 => by rw [e84447] at e9; cases e9; omega)
    · have h84457 : a5.toInt ≠ r84454.toInt := ti_ne h84457
      refine g_aload_n C dX12_laysIf_22 rfl 0 rfl ?_
      refine g_dup C dX12_laysIf_23 rfl ?_
      refine g_getI C fi_X12_288 (by decide) (ha0).1 (ha0).2 dX12_laysIf_24 ?_
      refine g_iconst (v := 1) C dX12_laysIf_27 (by decide) ?_
      refine a_iadd C dX12_laysIf_28 (fun z84459 => ?_)
      refine g_putI C fi_X12_288 rfl (ha0).1 (ha0).2 dX12_laysIf_29 ?_
      refine gqW (ks := [27]) (I.setI (rgOk.none rfl)) (EM.setI I (by decide)) (fun Y84461 Iy84462 Xy84463 w84464  => ?_)
      have w84464 : (pI Y84461 a0 27).toInt = z84459.toInt := w84464
      have q84465 := Xy84463.keepA e84444 (by decide) rfl (a2.toInt.toNat)
      have q84466 := Xy84463.keepA e84447 (by decide) rfl (a1.toInt.toNat)
      have q84467 := Xy84463.keepA e84450 (by decide) rfl (a2.toInt.toNat)
      have W84468 := hW.keep I Xy84463 (by decide) (by decide) (by decide)
      have Xz84469 : EM [20, 21, 22, 23, 24, 25, 27] a0 P Y84461 := Xy84463.mono (by decide)
      have e84470 := Xy84463.ref ha0 (by decide) e84444
      have e84471 := Xy84463.ref ha0 (by decide) e84447
      have e84472 := Xy84463.ref ha0 (by decide) e84450
      have h84473 := Xy84463.at ha0
      have h84474 := Xy84463.ar h84445
      have h84475 := Xy84463.ar h84448
      have h84476 := Xy84463.ar h84451
      refine g_iconst (v := (-1)) C dX12_laysIf_32 (by decide) ?_
      exact ret _ _ _ _ _ _ dX12_laysIf_33 rfl (by decide) (by decide) ⟨Iy84462, Xz84469, W84468, (by decide)⟩
theorem dX12_forged_84 : decode cX12_forged 84 = .ok (.goto 4, 3) := by decide +kernel
theorem dX12_forged_87 : decode cX12_forged 87 = .ok (.iconst (-1), 1) := by decide +kernel
theorem dX12_forged_88 : decode cX12_forged 88 = .ok (.ireturn, 1) := by decide +kernel
set_option maxHeartbeats 4000000 in
set_option maxRecDepth 100000 in
theorem s_X12_forged {P : PP} {a0 : Nat} {a1 : Int32} {a2 : Int32} {a3 : Int32} {a4 : Int32} {a5 : Int32} (I : IM P a0) (hW : MW P a0) : CtrI yX12_forged cX12_forged 7 (some Jvm.ClassFile.FieldType.int) ({ frames := 3, cells := 0, slots := 0, locals := 192 } : Room) 0 0 P [.ref a0, .int a1, .int a2, .int a3, .int a4, .int a5] (fun r P2 => IM P2 a0 ∧ EM [0, 20, 21, 22, 23, 24, 25, 27] a0 P P2 ∧ MW P2 a0 ∧ (-1 ≤ r.toInt ∧ r.toInt ≤ 39)) := by
  refine enI (lv := [(0, .ref a0), (1, .int a1), (2, .int a2), (3, .int a3), (4, .int a4), (5, .int a5)]) (by decide) (Nat.le_of_ble_eq_true rfl) rfl (fun E D cy C Ci0 ret => ?_)
  have ha0 := I.2.1
  have J87 : ∀ (P87 : PP), (IM P87 a0) → (EM [0, 20, 21, 22, 23, 24, 25, 27] a0 P P87) → (MW P87 a0) → (0 ≤ (pI P87 a0 0).toInt ∧ (pI P87 a0 0).toInt ≤ 0) → G E ({ frames := 3, cells := 0, slots := 0, locals := 192 } : Room) D cy 7 P87 0 0 87 [] [] := by
    intro P87 I87 X87 W87 hq87_0
    have h84539 := X87.at ha0
    refine g_iconst (v := (-1)) C dX12_forged_87 (by decide) ?_
    exact ret _ _ _ _ _ _ dX12_forged_88 rfl (by decide) (by decide) ⟨I87, X87, W87, (by decide)⟩
  have J55 : ∀ (P55 : PP) (v55_s0 : Int32), (IM P55 a0) → (EM [0, 20, 21, 22, 23, 24, 25, 27] a0 P P55) → (MW P55 a0) → (0 ≤ v55_s0.toInt ∧ v55_s0.toInt ≤ 1) → (0 ≤ (pI P55 a0 0).toInt ∧ (pI P55 a0 0).toInt ≤ 0) → (∀ b910, pR P55 a0 10 = some b910 → v55_s0.toInt = 0 ∨ 0 < (pI P55 b910 (a2.toInt.toNat)).toInt) → (v55_s0.toInt = 0 ∨ (0 ≤ a1.toInt ∧ a1.toInt ≤ 3 ∧ 0 ≤ a2.toInt ∧ a2.toInt ≤ 1)) → G E ({ frames := 3, cells := 0, slots := 0, locals := 192 } : Room) D cy 7 P55 0 0 55 [(0, .ref a0), (1, .int a1), (2, .int a2), (3, .int a3), (4, .int a4), (5, .int a5)] [.int v55_s0] := by
    intro P55 v55_s0 I55 X55 W55 hv55_s0 hq55_0 rel55_0 rel55_1
    have h84540 := X55.at ha0
    obtain ⟨b84541, e84542, h84543⟩ := I55.fld (h84540) 10 13 2 rfl
    have rel55_0 := rel55_0 b84541 e84542
    have h84544 := I55.arr e84542 rfl (a2.toInt.toNat)
    refine g_istore (lv' := [(6, .int v55_s0), (0, .ref a0), (1, .int a1), (2, .int a2), (3, .int a3), (4, .int a4), (5, .int a5)]) C dX12_forged_55 (by decide) rfl ?_
    refine g_iload C dX12_forged_57 0 rfl ?_
    refine b_if_eq C 87 dX12_forged_59 (by decide) (fun h84545 => ?_) (fun h84545 => ?_)
    · have h84545 : v55_s0.toInt = 0 := congrArg Int32.toInt h84545
      clear rel55_1
      refine g_lv (lv' := []) [] rfl ?_
      exact J87 P55 I55 X55 W55 (by omega)
    · have h84545 : v55_s0.toInt ≠ 0 := ti_ne h84545
      replace rel55_1 := rel55_1.resolve_left (by omega)
      refine g_aload_n C dX12_forged_62 rfl 1 rfl ?_
      obtain ⟨b84546, e84547, h84548⟩ := I55.fld (h84540) 20 13 20 rfl
      refine g_getR C fi_X12_69 rfl e84547 (h84540).1 (h84540).2 dX12_forged_63 ?_
      refine g_iload_n C dX12_forged_66 rfl 2 rfl ?_
      refine g_iald (j := (a1.toInt.toNat)) C h84548.1 h84548.2.1 (ix_in h84548.2.2 (by omega)) dX12_forged_67 ?_
      have h84549 := I55.arr e84547 rfl (a1.toInt.toNat)
      refine g_bipush (v := 40) C dX12_forged_68 (by decide) ?_
      refine b_icmp_ge C 87 dX12_forged_70 (by decide) (fun h84550 => ?_) (fun h84550 => ?_)
      · have h84550 : 40 ≤ (pI P55 b84546 (a1.toInt.toNat)).toInt := h84550
        refine g_lv (lv' := []) [] rfl ?_
        exact J87 P55 I55 X55 W55 (by omega)
      · have h84550 : (pI P55 b84546 (a1.toInt.toNat)).toInt < 40 := h84550
        refine g_aload_n C dX12_forged_73 rfl 1 rfl ?_
        refine g_iload_n C dX12_forged_74 rfl 2 rfl ?_
        refine g_iload_n C dX12_forged_75 rfl 3 rfl ?_
        refine g_iload_n C dX12_forged_76 rfl 4 rfl ?_
        refine g_iload C dX12_forged_77 5 rfl ?_
        refine g_iload C dX12_forged_79 6 rfl ?_
        refine g_callVI (rest := []) C mv_X12_291 [.int a1, .int a2, .int a3, .int a4, .int a5] (s_X12_laysIf I55 (by omega) (by omega) (fun b9 e9 => by rw [e84542] at e9; cases e9; show 1 ≤ (pI P55 b84541 (a2.toInt.toNat)).toInt ∧ (pI P55 b84541 (a2.toInt.toNat)).toInt ≤ 16; omega) (fun b9 e9 => by rw [e84547] at e9; cases e9; show 0 ≤ (pI P55 b84546 (a1.toInt.toNat)).toInt ∧ (pI P55 b84546 (a1.toInt.toNat)).toInt ≤ 39; omega) W55) (h84540).1 (h84540).2 rfl rfl (by decide) (Nat.le_of_ble_eq_true rfl) (by decide) dX12_forged_81 (fun r84551 Y84552 h84553 => ?_)
        obtain ⟨Iy84554, Xy84555, W84556, h84553⟩ := h84553
        have q84557 := Xy84555.keepF 0 (by decide)
        have q84558 := Xy84555.keepA e84542 (by decide) rfl (a2.toInt.toNat)
        have Xz84559 : EM [0, 20, 21, 22, 23, 24, 25, 27] a0 P Y84552 := EM.tr ha0 X55 (Xy84555.mono (by decide))
        have e84560 := Xy84555.ref h84540 (by decide) e84542
        have h84561 := Xy84555.at h84540
        have h84562 := Xy84555.ar h84543
        have h84553 : -1 ≤ r84551.toInt ∧ r84551.toInt ≤ 39 := h84553
        refine g_goto C 88 dX12_forged_84 (by decide) ?_
        exact ret _ _ _ _ _ _ dX12_forged_88 rfl (by decide) (by decide) ⟨Iy84554, Xz84559, W84556, (by omega)⟩
  have J54 : ∀ (P54 : PP), (IM P54 a0) → (EM [0, 20, 21, 22, 23, 24, 25, 27] a0 P P54) → (MW P54 a0) → (0 ≤ (pI P54 a0 0).toInt ∧ (pI P54 a0 0).toInt ≤ 0) → G E ({ frames := 3, cells := 0, slots := 0, locals := 192 } : Room) D cy 7 P54 0 0 54 [(0, .ref a0), (1, .int a1), (2, .int a2), (3, .int a3), (4, .int a4), (5, .int a5)] [] := by
    intro P54 I54 X54 W54 hq54_0
    have h84563 := X54.at ha0
    refine g_iconst (v := 0) C dX12_forged_54 (by decide) ?_
    obtain ⟨b84564, e84565, h84566⟩ := I54.fld (h84563) 10 13 2 rfl
    exact J55 P54 0 I54 X54 W54 (by decide) (by omega) (by intro b910 e910; rw [e84565] at e910; cases e910; show 0 = 0 ∨ 0 < (pI P54 b84564 (a2.toInt.toNat)).toInt; omega) (by show 0 = 0 ∨ (0 ≤ a1.toInt ∧ a1.toInt ≤ 3 ∧ 0 ≤ a2.toInt ∧ a2.toInt ≤ 1); omega)
  refine g_aload_n C dX12_forged_0 rfl 0 rfl ?_
  refine g_iconst (v := 0) C dX12_forged_1 (by decide) ?_
  refine g_putI C fi_X12_1 rfl (ha0).1 (ha0).2 dX12_forged_2 ?_
  refine gqW (ks := [0]) (I.setI (rgOk.of rfl (by decide))) (EM.setI I (by decide)) (fun Y84567 Iy84568 Xy84569 w84570  => ?_)
  have w84570 : (pI Y84567 a0 0).toInt = 0 := w84570
  have W84571 := hW.keep I Xy84569 (by decide) (by decide) (by decide)
  have Xz84572 : EM [0, 20, 21, 22, 23, 24, 25, 27] a0 P Y84567 := Xy84569.mono (by decide)
  have h84573 := Xy84569.at ha0
  refine g_iload_n C dX12_forged_5 rfl 1 rfl ?_
  refine g_callSI (b := 0) (ci := 0) (rest := []) C ms_X12_278 [.int a1] (s_X12_isQuarter Iy84568.1) rfl rfl (by decide) (Nat.le_of_ble_eq_true rfl) (by decide) dX12_forged_6 (fun r84574 Y84575 h84576 => ?_)
  obtain ⟨rfl, h84576⟩ := h84576
  obtain ⟨h84576, hi84577⟩ := h84576
  have hi84577 : r84574.toInt = 0 ∨ (((0 : Int) ≤ a1.toInt ∧ a1.toInt ≤ (3 : Int))) := hi84577
  have h84576 : 0 ≤ r84574.toInt ∧ r84574.toInt ≤ 1 := h84576
  refine b_if_eq C 54 dX12_forged_9 (by decide) (fun h84578 => ?_) (fun h84578 => ?_)
  · have h84578 : r84574.toInt = 0 := congrArg Int32.toInt h84578
    clear hi84577
    exact J54 Y84567 Iy84568 Xz84572 W84571 (by omega)
  · have h84578 : r84574.toInt ≠ 0 := ti_ne h84578
    replace hi84577 := hi84577.resolve_left (by omega)
    refine g_aload_n C dX12_forged_12 rfl 0 rfl ?_
    refine g_iload_n C dX12_forged_13 rfl 2 rfl ?_
    refine g_callVI (rest := []) C mv_X12_192 [.int a2] (s_X12_isBook Iy84568 W84571) (h84573).1 (h84573).2 rfl rfl (by decide) (Nat.le_of_ble_eq_true rfl) (by decide) dX12_forged_14 (fun r84579 Y84580 h84581 => ?_)
    obtain ⟨rfl, h84581⟩ := h84581
    obtain ⟨h84581, hi84582, hi84583⟩ := h84581
    have hi84582 : r84579.toInt = 0 ∨ (((0 : Int) ≤ a2.toInt ∧ a2.toInt ≤ (1 : Int))) := hi84582
    have h84581 : 0 ≤ r84579.toInt ∧ r84579.toInt ≤ 1 := h84581
    refine b_if_eq C 54 dX12_forged_17 (by decide) (fun h84584 => ?_) (fun h84584 => ?_)
    · have h84584 : r84579.toInt = 0 := congrArg Int32.toInt h84584
      clear hi84582
      exact J54 Y84567 Iy84568 Xz84572 W84571 (by omega)
    · have h84584 : r84579.toInt ≠ 0 := ti_ne h84584
      replace hi84582 := hi84582.resolve_left (by omega)
      obtain ⟨b84585, e84586, h84587⟩ := Iy84568.fld (h84573) 10 13 2 rfl
      have hi84583 := (hi84583.resolve_left (by omega)) b84585 e84586
      have hi84583 : 0 < (pI Y84567 b84585 (a2.toInt.toNat)).toInt := hi84583
      have h84588 := Iy84568.arr e84586 rfl (a2.toInt.toNat)
      refine g_iload_n C dX12_forged_20 rfl 3 rfl ?_
      refine g_callSI (b := 0) (ci := 0) (rest := []) C ms_X12_258 [.int a3] (s_X12_isNumber Iy84568.1) rfl rfl (by decide) (Nat.le_of_ble_eq_true rfl) (by decide) dX12_forged_21 (fun r84589 Y84590 h84591 => ?_)
      obtain ⟨rfl, h84591⟩ := h84591
      obtain ⟨h84591, hi84592⟩ := h84591
      have hi84592 : r84589.toInt = 0 ∨ (((0 : Int) ≤ a3.toInt ∧ a3.toInt ≤ (9999 : Int))) := hi84592
      have h84591 : 0 ≤ r84589.toInt ∧ r84589.toInt ≤ 1 := h84591
      refine b_if_eq C 54 dX12_forged_24 (by decide) (fun h84593 => ?_) (fun h84593 => ?_)
      · have h84593 : r84589.toInt = 0 := congrArg Int32.toInt h84593
        clear hi84592
        exact J54 Y84567 Iy84568 Xz84572 W84571 (by omega)
      · have h84593 : r84589.toInt ≠ 0 := ti_ne h84593
        replace hi84592 := hi84592.resolve_left (by omega)
        refine g_iload C dX12_forged_27 4 rfl ?_
        refine g_iconst (v := 0) C dX12_forged_29 (by decide) ?_
        refine g_ldc (v := 65535) C kc_X12_195 dX12_forged_30 ?_
        refine g_callSI (b := 0) (ci := 0) (rest := []) C ms_X12_178 [.int a4, .int 0, .int 65535] (s_X12_within Iy84568.1) rfl rfl (by decide) (Nat.le_of_ble_eq_true rfl) (by decide) dX12_forged_32 (fun r84594 Y84595 h84596 => ?_)
        obtain ⟨rfl, h84596⟩ := h84596
        obtain ⟨h84596, hi84597⟩ := h84596
        have hi84597 : r84594.toInt = 0 ∨ (0 ≤ a4.toInt ∧ a4.toInt ≤ 65535) := hi84597
        have h84596 : 0 ≤ r84594.toInt ∧ r84594.toInt ≤ 1 := h84596
        refine b_if_eq C 54 dX12_forged_35 (by decide) (fun h84598 => ?_) (fun h84598 => ?_)
        · have h84598 : r84594.toInt = 0 := congrArg Int32.toInt h84598
          clear hi84597
          exact J54 Y84567 Iy84568 Xz84572 W84571 (by omega)
        · have h84598 : r84594.toInt ≠ 0 := ti_ne h84598
          replace hi84597 := hi84597.resolve_left (by omega)
          refine g_iload C dX12_forged_38 5 rfl ?_
          refine g_iconst (v := 0) C dX12_forged_40 (by decide) ?_
          refine g_sipush (v := 996) C dX12_forged_41 (by decide) ?_
          refine g_callSI (b := 0) (ci := 0) (rest := []) C ms_X12_178 [.int a5, .int 0, .int 996] (s_X12_within Iy84568.1) rfl rfl (by decide) (Nat.le_of_ble_eq_true rfl) (by decide) dX12_forged_44 (fun r84599 Y84600 h84601 => ?_)
          obtain ⟨rfl, h84601⟩ := h84601
          obtain ⟨h84601, hi84602⟩ := h84601
          have hi84602 : r84599.toInt = 0 ∨ (0 ≤ a5.toInt ∧ a5.toInt ≤ 996) := hi84602
          have h84601 : 0 ≤ r84599.toInt ∧ r84599.toInt ≤ 1 := h84601
          refine b_if_eq C 54 dX12_forged_47 (by decide) (fun h84603 => ?_) (fun h84603 => ?_)
          · have h84603 : r84599.toInt = 0 := congrArg Int32.toInt h84603
            clear hi84602
            exact J54 Y84567 Iy84568 Xz84572 W84571 (by omega)
          · have h84603 : r84599.toInt ≠ 0 := ti_ne h84603
            replace hi84602 := hi84602.resolve_left (by omega)
            refine g_iconst (v := 1) C dX12_forged_50 (by decide) ?_
            refine g_goto C 55 dX12_forged_51 (by decide) ?_
            exact J55 Y84567 1 Iy84568 Xz84572 W84571 (by decide) (by omega) (by intro b910 e910; rw [e84586] at e910; cases e910; show 1 = 0 ∨ 0 < (pI Y84567 b84585 (a2.toInt.toNat)).toInt; omega) (by show 1 = 0 ∨ (0 ≤ a1.toInt ∧ a1.toInt ≤ 3 ∧ 0 ≤ a2.toInt ∧ a2.toInt ≤ 1); omega)
theorem dX12_guard_0 : decode cX12_guard 0 = .ok (.aload_n 0, 1) := by decide +kernel
theorem dX12_guard_1 : decode cX12_guard 1 = .ok (.iconst 0, 1) := by decide +kernel
theorem dX12_guard_2 : decode cX12_guard 2 = .ok (.putfield 1, 3) := by decide +kernel
theorem dX12_guard_5 : decode cX12_guard 5 = .ok (.aload_n 0, 1) := by decide +kernel
theorem dX12_guard_6 : decode cX12_guard 6 = .ok (.iload_n 1, 1) := by decide +kernel
theorem dX12_guard_7 : decode cX12_guard 7 = .ok (.iload_n 2, 1) := by decide +kernel
theorem dX12_guard_8 : decode cX12_guard 8 = .ok (.iload_n 3, 1) := by decide +kernel
theorem dX12_guard_9 : decode cX12_guard 9 = .ok (.invokevirtual 333, 3) := by decide +kernel
theorem dX12_guard_12 : decode cX12_guard 12 = .ok (.ifCond .eq 13, 3) := by decide +kernel
theorem dX12_guard_15 : decode cX12_guard 15 = .ok (.aload_n 0, 1) := by decide +kernel
theorem dX12_guard_16 : decode cX12_guard 16 = .ok (.iload_n 2, 1) := by decide +kernel
theorem dX12_guard_17 : decode cX12_guard 17 = .ok (.iload 4, 2) := by decide +kernel
theorem dX12_guard_19 : decode cX12_guard 19 = .ok (.invokevirtual 352, 3) := by decide +kernel
theorem dX12_isPage_0 : decode cX12_isPage 0 = .ok (.iload_n 2, 1) := by decide +kernel
theorem dX12_isPage_1 : decode cX12_isPage 1 = .ok (.iconst 0, 1) := by decide +kernel
theorem dX12_isPage_2 : decode cX12_isPage 2 = .ok (.aload_n 0, 1) := by decide +kernel
theorem dX12_isPage_3 : decode cX12_isPage 3 = .ok (.iload_n 1, 1) := by decide +kernel
theorem dX12_isPage_4 : decode cX12_isPage 4 = .ok (.invokevirtual 238, 3) := by decide +kernel
theorem dX12_isPage_7 : decode cX12_isPage 7 = .ok (.iconst 1, 1) := by decide +kernel
theorem dX12_isPage_8 : decode cX12_isPage 8 = .ok (.isub, 1) := by decide +kernel
theorem dX12_isPage_9 : decode cX12_isPage 9 = .ok (.invokestatic 178, 3) := by decide +kernel
theorem dX12_isPage_12 : decode cX12_isPage 12 = .ok (.ireturn, 1) := by decide +kernel
set_option maxHeartbeats 4000000 in
set_option maxRecDepth 100000 in
theorem s_X12_isPage {P : PP} {a0 : Nat} {a1 : Int32} {a2 : Int32} (I : IM P a0) (ha1 : 0 ≤ a1.toInt ∧ a1.toInt ≤ 1) (hW : MW P a0) : CtrI yX12_isPage cX12_isPage 3 (some Jvm.ClassFile.FieldType.boolean) ({ frames := 2, cells := 0, slots := 0, locals := 128 } : Room) 0 0 P [.ref a0, .int a1, .int a2] (fun r P2 => P = P2 ∧ (0 ≤ r.toInt ∧ r.toInt ≤ 1) ∧ (r.toInt = 0 ∨ (((0 : Int) ≤ a2.toInt ∧ a2.toInt ≤ (19 : Int))))) := by
  refine enI (lv := [(0, .ref a0), (1, .int a1), (2, .int a2)]) (by decide) (Nat.le_of_ble_eq_true rfl) rfl (fun E D cy C Ci0 ret => ?_)
  have ha0 := I.2.1
  refine g_iload_n C dX12_isPage_0 rfl 2 rfl ?_
  refine g_iconst (v := 0) C dX12_isPage_1 (by decide) ?_
  refine g_aload_n C dX12_isPage_2 rfl 0 rfl ?_
  refine g_iload_n C dX12_isPage_3 rfl 1 rfl ?_
  refine g_callVI (rest := [.int 0, .int a2]) C mv_X12_238 [.int a1] (s_X12_allOf I (by omega) hW) (ha0).1 (ha0).2 rfl rfl (by decide) (Nat.le_of_ble_eq_true rfl) (by decide) dX12_isPage_4 (fun r84639 Y84640 h84641 => ?_)
  obtain ⟨rfl, h84641⟩ := h84641
  obtain ⟨h84641, hi84642⟩ := h84641
  obtain ⟨b84643, e84644, h84645⟩ := I.fld (ha0) 10 13 2 rfl
  obtain ⟨b84646, e84647, h84648⟩ := I.fld (ha0) 15 13 3 rfl
  have hi84642 : (r84639.toInt = 0 ∧ (pI P b84643 (a1.toInt.toNat)).toInt = 0) ∨ r84639.toInt = (pI P b84643 (a1.toInt.toNat)).toInt + (pI P b84646 (a1.toInt.toNat)).toInt := hi84642 b84643 b84646 e84644 e84647
  have h84649 := I.arr e84644 rfl (a1.toInt.toNat)
  have h84650 := I.arr e84647 rfl (a1.toInt.toNat)
  have h84641 : 0 ≤ r84639.toInt ∧ r84639.toInt ≤ 20 := h84641
  refine g_iconst (v := 1) C dX12_isPage_7 (by decide) ?_
  refine s_isub C dX12_isPage_8 (by show -2147483648 ≤ r84639.toInt - 1 ∧ r84639.toInt - 1 ≤ 2147483647; omega) (fun z84651 h84652 => ?_)
  have h84652 : z84651.toInt = r84639.toInt - 1 := h84652
  refine g_callSI (b := 0) (ci := 0) (rest := []) C ms_X12_178 [.int a2, .int 0, .int z84651] (s_X12_within I.1) rfl rfl (by decide) (Nat.le_of_ble_eq_true rfl) (by decide) dX12_isPage_9 (fun r84653 Y84654 h84655 => ?_)
  obtain ⟨rfl, h84655⟩ := h84655
  obtain ⟨h84655, hi84656⟩ := h84655
  have hi84656 : r84653.toInt = 0 ∨ (0 ≤ a2.toInt ∧ a2.toInt ≤ z84651.toInt) := hi84656
  have h84655 : 0 ≤ r84653.toInt ∧ r84653.toInt ≤ 1 := h84655
  exact ret _ _ _ _ _ _ dX12_isPage_12 (nar_b (b01 (by omega))) (by decide) (by decide) ⟨rfl, (by omega), hi84656.imp id (fun h9 => by omega)⟩
theorem dX12_guard_22 : decode cX12_guard 22 = .ok (.ifCond .ne 5, 3) := by decide +kernel
theorem dX12_guard_25 : decode cX12_guard 25 = .ok (.iconst (-1), 1) := by decide +kernel
theorem dX12_guard_26 : decode cX12_guard 26 = .ok (.ireturn, 1) := by decide +kernel
theorem dX12_guard_27 : decode cX12_guard 27 = .ok (.aload_n 0, 1) := by decide +kernel
theorem dX12_guard_28 : decode cX12_guard 28 = .ok (.invokevirtual 336, 3) := by decide +kernel
theorem dX12_guard_31 : decode cX12_guard 31 = .ok (.aload_n 0, 1) := by decide +kernel
theorem dX12_guard_32 : decode cX12_guard 32 = .ok (.iload_n 1, 1) := by decide +kernel
theorem dX12_guard_33 : decode cX12_guard 33 = .ok (.iload_n 2, 1) := by decide +kernel
theorem dX12_guard_34 : decode cX12_guard 34 = .ok (.iload_n 3, 1) := by decide +kernel
theorem dX12_guard_35 : decode cX12_guard 35 = .ok (.aload_n 0, 1) := by decide +kernel
theorem dX12_guard_36 : decode cX12_guard 36 = .ok (.getfield 69, 3) := by decide +kernel
theorem dX12_guard_39 : decode cX12_guard 39 = .ok (.iload_n 1, 1) := by decide +kernel
theorem dX12_guard_40 : decode cX12_guard 40 = .ok (.iaload, 1) := by decide +kernel
theorem dX12_guard_41 : decode cX12_guard 41 = .ok (.invokevirtual 339, 3) := by decide +kernel
theorem dX12_guard_44 : decode cX12_guard 44 = .ok (.aload_n 0, 1) := by decide +kernel
theorem dX12_guard_45 : decode cX12_guard 45 = .ok (.invokevirtual 346, 3) := by decide +kernel
theorem dX12_guard_48 : decode cX12_guard 48 = .ok (.aload_n 0, 1) := by decide +kernel
theorem dX12_guard_49 : decode cX12_guard 49 = .ok (.iload 4, 2) := by decide +kernel
theorem dX12_guard_51 : decode cX12_guard 51 = .ok (.invokevirtual 330, 3) := by decide +kernel
theorem dX12_guard_54 : decode cX12_guard 54 = .ok (.ifCond .ne 5, 3) := by decide +kernel
theorem dX12_guard_57 : decode cX12_guard 57 = .ok (.iconst (-1), 1) := by decide +kernel
theorem dX12_guard_58 : decode cX12_guard 58 = .ok (.ireturn, 1) := by decide +kernel
theorem dX12_guard_59 : decode cX12_guard 59 = .ok (.iconst 4, 1) := by decide +kernel
theorem dX12_guard_60 : decode cX12_guard 60 = .ok (.istore 5, 2) := by decide +kernel
theorem dX12_guard_62 : decode cX12_guard 62 = .ok (.aload_n 0, 1) := by decide +kernel
theorem dX12_guard_63 : decode cX12_guard 63 = .ok (.getfield 60, 3) := by decide +kernel
theorem dX12_guard_66 : decode cX12_guard 66 = .ok (.iload_n 2, 1) := by decide +kernel
theorem dX12_guard_67 : decode cX12_guard 67 = .ok (.iaload, 1) := by decide +kernel
theorem dX12_guard_68 : decode cX12_guard 68 = .ok (.istore 6, 2) := by decide +kernel
theorem dX12_guard_70 : decode cX12_guard 70 = .ok (.iload 6, 2) := by decide +kernel
theorem dX12_guard_72 : decode cX12_guard 72 = .ok (.aload_n 0, 1) := by decide +kernel
theorem dX12_guard_73 : decode cX12_guard 73 = .ok (.getfield 305, 3) := by decide +kernel
theorem dX12_guard_76 : decode cX12_guard 76 = .ok (.if_icmp .ge 38, 3) := by decide +kernel
theorem dX12_guard_79 : decode cX12_guard 79 = .ok (.iload 5, 2) := by decide +kernel
theorem dX12_guard_81 : decode cX12_guard 81 = .ok (.iconst 1, 1) := by decide +kernel
theorem dX12_guard_82 : decode cX12_guard 82 = .ok (.if_icmp .le 32, 3) := by decide +kernel
theorem dX12_guard_85 : decode cX12_guard 85 = .ok (.aload_n 0, 1) := by decide +kernel
theorem dX12_guard_86 : decode cX12_guard 86 = .ok (.iload 4, 2) := by decide +kernel
theorem dX12_guard_88 : decode cX12_guard 88 = .ok (.iload 6, 2) := by decide +kernel
theorem dX12_guard_90 : decode cX12_guard 90 = .ok (.iload 6, 2) := by decide +kernel
theorem dX12_guard_92 : decode cX12_guard 92 = .ok (.iload 6, 2) := by decide +kernel
theorem dX12_guard_94 : decode cX12_guard 94 = .ok (.invokevirtual 367, 3) := by decide +kernel
theorem dX12_isFixedWithout_0 : decode cX12_isFixedWithout 0 = .ok (.aload_n 0, 1) := by decide +kernel
theorem dX12_isFixedWithout_1 : decode cX12_isFixedWithout 1 = .ok (.getfield 305, 3) := by decide +kernel
theorem dX12_isFixedWithout_4 : decode cX12_isFixedWithout 4 = .ok (.istore 5, 2) := by decide +kernel
theorem dX12_isFixedWithout_6 : decode cX12_isFixedWithout 6 = .ok (.iconst 0, 1) := by decide +kernel
theorem dX12_isFixedWithout_7 : decode cX12_isFixedWithout 7 = .ok (.istore 6, 2) := by decide +kernel
theorem dX12_isFixedWithout_9 : decode cX12_isFixedWithout 9 = .ok (.iconst 0, 1) := by decide +kernel
theorem dX12_isFixedWithout_10 : decode cX12_isFixedWithout 10 = .ok (.istore 7, 2) := by decide +kernel
theorem dX12_isFixedWithout_12 : decode cX12_isFixedWithout 12 = .ok (.iload 7, 2) := by decide +kernel
theorem dX12_isFixedWithout_14 : decode cX12_isFixedWithout 14 = .ok (.iload 5, 2) := by decide +kernel
theorem dX12_isFixedWithout_16 : decode cX12_isFixedWithout 16 = .ok (.if_icmp .ge 87, 3) := by decide +kernel
theorem dX12_isFixedWithout_19 : decode cX12_isFixedWithout 19 = .ok (.aload_n 0, 1) := by decide +kernel
theorem dX12_isFixedWithout_20 : decode cX12_isFixedWithout 20 = .ok (.getfield 115, 3) := by decide +kernel
theorem dX12_isFixedWithout_23 : decode cX12_isFixedWithout 23 = .ok (.iload 7, 2) := by decide +kernel
theorem dX12_isFixedWithout_25 : decode cX12_isFixedWithout 25 = .ok (.aload_n 0, 1) := by decide +kernel
theorem dX12_isFixedWithout_26 : decode cX12_isFixedWithout 26 = .ok (.getfield 91, 3) := by decide +kernel
theorem dX12_isFixedWithout_29 : decode cX12_isFixedWithout 29 = .ok (.iload 7, 2) := by decide +kernel
theorem dX12_isFixedWithout_31 : decode cX12_isFixedWithout 31 = .ok (.iaload, 1) := by decide +kernel
theorem dX12_isFixedWithout_32 : decode cX12_isFixedWithout 32 = .ok (.iastore, 1) := by decide +kernel
theorem dX12_isFixedWithout_33 : decode cX12_isFixedWithout 33 = .ok (.aload_n 0, 1) := by decide +kernel
theorem dX12_isFixedWithout_34 : decode cX12_isFixedWithout 34 = .ok (.getfield 118, 3) := by decide +kernel
theorem dX12_isFixedWithout_37 : decode cX12_isFixedWithout 37 = .ok (.iload 7, 2) := by decide +kernel
theorem dX12_isFixedWithout_39 : decode cX12_isFixedWithout 39 = .ok (.aload_n 0, 1) := by decide +kernel
theorem dX12_isFixedWithout_40 : decode cX12_isFixedWithout 40 = .ok (.getfield 94, 3) := by decide +kernel
theorem dX12_isFixedWithout_43 : decode cX12_isFixedWithout 43 = .ok (.iload 7, 2) := by decide +kernel
theorem dX12_isFixedWithout_45 : decode cX12_isFixedWithout 45 = .ok (.iaload, 1) := by decide +kernel
theorem dX12_isFixedWithout_46 : decode cX12_isFixedWithout 46 = .ok (.iastore, 1) := by decide +kernel
theorem dX12_isFixedWithout_47 : decode cX12_isFixedWithout 47 = .ok (.iload 7, 2) := by decide +kernel
theorem dX12_isFixedWithout_49 : decode cX12_isFixedWithout 49 = .ok (.iload_n 2, 1) := by decide +kernel
theorem dX12_isFixedWithout_50 : decode cX12_isFixedWithout 50 = .ok (.if_icmp .eq 47, 3) := by decide +kernel
theorem dX12_isFixedWithout_53 : decode cX12_isFixedWithout 53 = .ok (.iload 7, 2) := by decide +kernel
theorem dX12_isFixedWithout_55 : decode cX12_isFixedWithout 55 = .ok (.iload_n 3, 1) := by decide +kernel
theorem dX12_isFixedWithout_56 : decode cX12_isFixedWithout 56 = .ok (.if_icmp .eq 41, 3) := by decide +kernel
theorem dX12_isFixedWithout_59 : decode cX12_isFixedWithout 59 = .ok (.iload 7, 2) := by decide +kernel
theorem dX12_isFixedWithout_61 : decode cX12_isFixedWithout 61 = .ok (.iload 4, 2) := by decide +kernel
theorem dX12_isFixedWithout_63 : decode cX12_isFixedWithout 63 = .ok (.if_icmp .eq 34, 3) := by decide +kernel
theorem dX12_isFixedWithout_66 : decode cX12_isFixedWithout 66 = .ok (.aload_n 0, 1) := by decide +kernel
theorem dX12_isFixedWithout_67 : decode cX12_isFixedWithout 67 = .ok (.getfield 91, 3) := by decide +kernel
theorem dX12_isFixedWithout_70 : decode cX12_isFixedWithout 70 = .ok (.iload 6, 2) := by decide +kernel
theorem dX12_isFixedWithout_72 : decode cX12_isFixedWithout 72 = .ok (.aload_n 0, 1) := by decide +kernel
theorem dX12_isFixedWithout_73 : decode cX12_isFixedWithout 73 = .ok (.getfield 91, 3) := by decide +kernel
theorem dX12_isFixedWithout_76 : decode cX12_isFixedWithout 76 = .ok (.iload 7, 2) := by decide +kernel
theorem dX12_isFixedWithout_78 : decode cX12_isFixedWithout 78 = .ok (.iaload, 1) := by decide +kernel
theorem dX12_isFixedWithout_79 : decode cX12_isFixedWithout 79 = .ok (.iastore, 1) := by decide +kernel
theorem dX12_isFixedWithout_80 : decode cX12_isFixedWithout 80 = .ok (.aload_n 0, 1) := by decide +kernel
theorem dX12_isFixedWithout_81 : decode cX12_isFixedWithout 81 = .ok (.getfield 94, 3) := by decide +kernel
theorem dX12_isFixedWithout_84 : decode cX12_isFixedWithout 84 = .ok (.iload 6, 2) := by decide +kernel
theorem dX12_isFixedWithout_86 : decode cX12_isFixedWithout 86 = .ok (.aload_n 0, 1) := by decide +kernel
theorem dX12_isFixedWithout_87 : decode cX12_isFixedWithout 87 = .ok (.getfield 94, 3) := by decide +kernel
theorem dX12_isFixedWithout_90 : decode cX12_isFixedWithout 90 = .ok (.iload 7, 2) := by decide +kernel
theorem dX12_isFixedWithout_92 : decode cX12_isFixedWithout 92 = .ok (.iaload, 1) := by decide +kernel
theorem dX12_isFixedWithout_93 : decode cX12_isFixedWithout 93 = .ok (.iastore, 1) := by decide +kernel
theorem dX12_isFixedWithout_94 : decode cX12_isFixedWithout 94 = .ok (.iinc 6 1, 3) := by decide +kernel
theorem dX12_isFixedWithout_97 : decode cX12_isFixedWithout 97 = .ok (.iinc 7 1, 3) := by decide +kernel
theorem dX12_isFixedWithout_100 : decode cX12_isFixedWithout 100 = .ok (.goto (-88), 3) := by decide +kernel
theorem dX12_isFixedWithout_103 : decode cX12_isFixedWithout 103 = .ok (.aload_n 0, 1) := by decide +kernel
theorem dX12_isFixedWithout_104 : decode cX12_isFixedWithout 104 = .ok (.iload 6, 2) := by decide +kernel
theorem dX12_isFixedWithout_106 : decode cX12_isFixedWithout 106 = .ok (.putfield 305, 3) := by decide +kernel
theorem dX12_isFixedWithout_109 : decode cX12_isFixedWithout 109 = .ok (.aload_n 0, 1) := by decide +kernel
theorem dX12_isFixedWithout_110 : decode cX12_isFixedWithout 110 = .ok (.invokevirtual 346, 3) := by decide +kernel
theorem dX12_isFixedWithout_113 : decode cX12_isFixedWithout 113 = .ok (.aload_n 0, 1) := by decide +kernel
theorem dX12_isFixedWithout_114 : decode cX12_isFixedWithout 114 = .ok (.iload_n 1, 1) := by decide +kernel
theorem dX12_isFixedWithout_115 : decode cX12_isFixedWithout 115 = .ok (.invokevirtual 330, 3) := by decide +kernel
theorem dX12_isFixedWithout_118 : decode cX12_isFixedWithout 118 = .ok (.istore 7, 2) := by decide +kernel
theorem dX12_isFixedWithout_120 : decode cX12_isFixedWithout 120 = .ok (.aload_n 0, 1) := by decide +kernel
theorem dX12_isFixedWithout_121 : decode cX12_isFixedWithout 121 = .ok (.iload 5, 2) := by decide +kernel
theorem dX12_isFixedWithout_123 : decode cX12_isFixedWithout 123 = .ok (.putfield 305, 3) := by decide +kernel
theorem dX12_isFixedWithout_126 : decode cX12_isFixedWithout 126 = .ok (.iconst 0, 1) := by decide +kernel
theorem dX12_isFixedWithout_127 : decode cX12_isFixedWithout 127 = .ok (.istore 8, 2) := by decide +kernel
theorem dX12_isFixedWithout_129 : decode cX12_isFixedWithout 129 = .ok (.iload 8, 2) := by decide +kernel
theorem dX12_isFixedWithout_131 : decode cX12_isFixedWithout 131 = .ok (.iload 5, 2) := by decide +kernel
theorem dX12_isFixedWithout_133 : decode cX12_isFixedWithout 133 = .ok (.if_icmp .ge 37, 3) := by decide +kernel
theorem dX12_isFixedWithout_136 : decode cX12_isFixedWithout 136 = .ok (.aload_n 0, 1) := by decide +kernel
theorem dX12_isFixedWithout_137 : decode cX12_isFixedWithout 137 = .ok (.getfield 91, 3) := by decide +kernel
theorem dX12_isFixedWithout_140 : decode cX12_isFixedWithout 140 = .ok (.iload 8, 2) := by decide +kernel
theorem dX12_isFixedWithout_142 : decode cX12_isFixedWithout 142 = .ok (.aload_n 0, 1) := by decide +kernel
theorem dX12_isFixedWithout_143 : decode cX12_isFixedWithout 143 = .ok (.getfield 115, 3) := by decide +kernel
theorem dX12_isFixedWithout_146 : decode cX12_isFixedWithout 146 = .ok (.iload 8, 2) := by decide +kernel
theorem dX12_isFixedWithout_148 : decode cX12_isFixedWithout 148 = .ok (.iaload, 1) := by decide +kernel
theorem dX12_isFixedWithout_149 : decode cX12_isFixedWithout 149 = .ok (.iastore, 1) := by decide +kernel
theorem dX12_isFixedWithout_150 : decode cX12_isFixedWithout 150 = .ok (.aload_n 0, 1) := by decide +kernel
theorem dX12_isFixedWithout_151 : decode cX12_isFixedWithout 151 = .ok (.getfield 94, 3) := by decide +kernel
theorem dX12_isFixedWithout_154 : decode cX12_isFixedWithout 154 = .ok (.iload 8, 2) := by decide +kernel
theorem dX12_isFixedWithout_156 : decode cX12_isFixedWithout 156 = .ok (.aload_n 0, 1) := by decide +kernel
theorem dX12_isFixedWithout_157 : decode cX12_isFixedWithout 157 = .ok (.getfield 118, 3) := by decide +kernel
theorem dX12_isFixedWithout_160 : decode cX12_isFixedWithout 160 = .ok (.iload 8, 2) := by decide +kernel
theorem dX12_isFixedWithout_162 : decode cX12_isFixedWithout 162 = .ok (.iaload, 1) := by decide +kernel
theorem dX12_isFixedWithout_163 : decode cX12_isFixedWithout 163 = .ok (.iastore, 1) := by decide +kernel
theorem dX12_isFixedWithout_164 : decode cX12_isFixedWithout 164 = .ok (.iinc 8 1, 3) := by decide +kernel
theorem dX12_isFixedWithout_167 : decode cX12_isFixedWithout 167 = .ok (.goto (-38), 3) := by decide +kernel
theorem dX12_isFixedWithout_170 : decode cX12_isFixedWithout 170 = .ok (.iload 7, 2) := by decide +kernel
theorem dX12_isFixedWithout_172 : decode cX12_isFixedWithout 172 = .ok (.ireturn, 1) := by decide +kernel
set_option maxHeartbeats 4000000 in
set_option maxRecDepth 100000 in
theorem s_X12_isFixedWithout {P : PP} {a0 : Nat} {a1 : Int32} {a2 : Int32} {a3 : Int32} {a4 : Int32} (I : IM P a0) (ha1 : 0 ≤ a1.toInt ∧ a1.toInt ≤ 19) (hW : MW P a0) : CtrI yX12_isFixedWithout cX12_isFixedWithout 9 (some Jvm.ClassFile.FieldType.boolean) ({ frames := 2, cells := 0, slots := 0, locals := 128 } : Room) 0 0 P [.ref a0, .int a1, .int a2, .int a3, .int a4] (fun r P2 => IM P2 a0 ∧ EM [28, 29, 30, 35, 36, 37, 38, 41, 42] a0 P P2 ∧ MW P2 a0 ∧ (0 ≤ r.toInt ∧ r.toInt ≤ 1)) := by
  refine enI (lv := [(0, .ref a0), (1, .int a1), (2, .int a2), (3, .int a3), (4, .int a4)]) (by decide) (Nat.le_of_ble_eq_true rfl) rfl (fun E D cy C Ci0 ret => ?_)
  have ha0 := I.2.1
  have J129 : ∀ (n129 : Nat) (P129 : PP) (v129_5 : Int32) (v129_7 : Int32) (v129_8 : Int32), (64 - v129_8.toInt).toNat < n129 → (IM P129 a0) → (EM [28, 29, 30, 35, 36, 37, 38, 41, 42] a0 P P129) → (MW P129 a0) → (0 ≤ v129_5.toInt ∧ v129_5.toInt ≤ 64) → (0 ≤ v129_7.toInt ∧ v129_7.toInt ≤ 1) → (0 ≤ v129_8.toInt ∧ v129_8.toInt ≤ 64) → G E ({ frames := 2, cells := 0, slots := 0, locals := 128 } : Room) D cy 9 P129 0 0 129 [(0, .ref a0), (5, .int v129_5), (7, .int v129_7), (8, .int v129_8)] [] := by
    intro n129
    induction n129 with
    | zero => intro P129 v129_5 v129_7 v129_8 hm129 I129 X129 W129 hv129_5 hv129_7 hv129_8; omega
    | succ n129 ih129 =>
      intro P129 v129_5 v129_7 v129_8 hm129 I129 X129 W129 hv129_5 hv129_7 hv129_8
      have h88829 := X129.at ha0
      refine g_iload C dX12_isFixedWithout_129 3 rfl ?_
      refine g_iload C dX12_isFixedWithout_131 1 rfl ?_
      refine b_icmp_ge C 170 dX12_isFixedWithout_133 (by decide) (fun h88830 => ?_) (fun h88830 => ?_)
      · have h88830 : v129_5.toInt ≤ v129_8.toInt := h88830
        refine g_iload C dX12_isFixedWithout_170 2 rfl ?_
        exact ret _ _ _ _ _ _ dX12_isFixedWithout_172 (nar_b (b01 (by omega))) (by decide) (by decide) ⟨I129, X129, W129, (by omega)⟩
      · have h88830 : v129_8.toInt < v129_5.toInt := h88830
        refine g_aload_n C dX12_isFixedWithout_136 rfl 0 rfl ?_
        obtain ⟨b88831, e88832, h88833⟩ := I129.fld (h88829) 29 13 64 rfl
        refine g_getR C fi_X12_91 rfl e88832 (h88829).1 (h88829).2 dX12_isFixedWithout_137 ?_
        refine g_iload C dX12_isFixedWithout_140 3 rfl ?_
        refine g_aload_n C dX12_isFixedWithout_142 rfl 0 rfl ?_
        obtain ⟨b88834, e88835, h88836⟩ := I129.fld (h88829) 41 13 64 rfl
        refine g_getR C fi_X12_115 rfl e88835 (h88829).1 (h88829).2 dX12_isFixedWithout_143 ?_
        refine g_iload C dX12_isFixedWithout_146 3 rfl ?_
        refine g_iald (j := (v129_8.toInt.toNat)) C h88836.1 h88836.2.1 (ix_in h88836.2.2 (by omega)) dX12_isFixedWithout_148 ?_
        refine g_iast (j := (v129_8.toInt.toNat)) C h88833.1 h88833.2.1 (ix_in h88833.2.2 (by omega)) dX12_isFixedWithout_149 ?_
        refine gqW (ks := [29]) (I129.setA e88832 h88833 (by decide) (arOk.none rfl)) (EM.setA I129 e88832 rfl (by decide)) (fun Y88837 Iy88838 Xy88839 w88840  => ?_)
        have w88840 : (pI Y88837 b88831 (v129_8.toInt.toNat)).toInt = (pI P129 b88834 (v129_8.toInt.toNat)).toInt := w88840
        have W88841 := W129.keep I129 Xy88839 (by decide) (by decide) (by decide)
        have Xz88842 : EM [28, 29, 30, 35, 36, 37, 38, 41, 42] a0 P Y88837 := EM.tr ha0 X129 (Xy88839.mono (by decide))
        have e88843 := Xy88839.ref h88829 (by decide) e88832
        have h88844 := Xy88839.at h88829
        have h88845 := Xy88839.ar h88833
        refine g_aload_n C dX12_isFixedWithout_150 rfl 0 rfl ?_
        obtain ⟨b88846, e88847, h88848⟩ := Iy88838.fld (h88844) 30 13 64 rfl
        refine g_getR C fi_X12_94 rfl e88847 (h88844).1 (h88844).2 dX12_isFixedWithout_151 ?_
        refine g_iload C dX12_isFixedWithout_154 3 rfl ?_
        refine g_aload_n C dX12_isFixedWithout_156 rfl 0 rfl ?_
        obtain ⟨b88849, e88850, h88851⟩ := Iy88838.fld (h88844) 42 13 64 rfl
        refine g_getR C fi_X12_118 rfl e88850 (h88844).1 (h88844).2 dX12_isFixedWithout_157 ?_
        refine g_iload C dX12_isFixedWithout_160 3 rfl ?_
        refine g_iald (j := (v129_8.toInt.toNat)) C h88851.1 h88851.2.1 (ix_in h88851.2.2 (by omega)) dX12_isFixedWithout_162 ?_
        refine g_iast (j := (v129_8.toInt.toNat)) C h88848.1 h88848.2.1 (ix_in h88848.2.2 (by omega)) dX12_isFixedWithout_163 ?_
        refine gqW (ks := [30]) (Iy88838.setA e88847 h88848 (by decide) (arOk.none rfl)) (EM.setA Iy88838 e88847 rfl (by decide)) (fun Y88852 Iy88853 Xy88854 w88855  => ?_)
        have w88855 : (pI Y88852 b88846 (v129_8.toInt.toNat)).toInt = (pI Y88837 b88849 (v129_8.toInt.toNat)).toInt := w88855
        have q88856 := Xy88854.keepA e88843 (by decide) rfl (v129_8.toInt.toNat)
        have W88857 := W88841.keep Iy88838 Xy88854 (by decide) (by decide) (by decide)
        have Xz88858 : EM [28, 29, 30, 35, 36, 37, 38, 41, 42] a0 P Y88852 := EM.tr ha0 Xz88842 (Xy88854.mono (by decide))
        have e88859 := Xy88854.ref h88844 (by decide) e88843
        have e88860 := Xy88854.ref h88844 (by decide) e88847
        have h88861 := Xy88854.at h88844
        have h88862 := Xy88854.ar h88845
        have h88863 := Xy88854.ar h88848
        refine s_iinc (lv0 := [(0, .ref a0), (5, .int v129_5), (7, .int v129_7)]) (m := 1) C dX12_isFixedWithout_164 3 rfl (by decide) rfl (by decide) (by omega) (fun z88864 h88865 => ?_)
        have h88865 : z88864.toInt = v129_8.toInt + 1 := h88865
        refine g_goto C 129 dX12_isFixedWithout_167 (by decide) ?_
        refine g_lv (lv' := [(0, .ref a0), (5, .int v129_5), (7, .int v129_7), (8, .int z88864)]) [1, 2, 3, 0] rfl ?_
        exact ih129 Y88852 v129_5 v129_7 z88864 (by omega) Iy88853 Xz88858 W88857 (by omega) (by omega) (by omega)
  have J12 : ∀ (n12 : Nat) (P12 : PP) (v12_5 : Int32) (v12_6 : Int32) (v12_7 : Int32), (64 - v12_7.toInt).toNat < n12 → (IM P12 a0) → (EM [28, 29, 30, 35, 36, 37, 38, 41, 42] a0 P P12) → (MW P12 a0) → (0 ≤ v12_5.toInt ∧ v12_5.toInt ≤ 64) → (0 ≤ v12_6.toInt ∧ v12_6.toInt ≤ 64) → (0 ≤ v12_7.toInt ∧ v12_7.toInt ≤ 64) → (v12_6.toInt ≤ v12_7.toInt) → G E ({ frames := 2, cells := 0, slots := 0, locals := 128 } : Room) D cy 9 P12 0 0 12 [(0, .ref a0), (1, .int a1), (2, .int a2), (3, .int a3), (4, .int a4), (5, .int v12_5), (6, .int v12_6), (7, .int v12_7)] [] := by
    intro n12
    induction n12 with
    | zero => intro P12 v12_5 v12_6 v12_7 hm12 I12 X12 W12 hv12_5 hv12_6 hv12_7 rel12_0; omega
    | succ n12 ih12 =>
      intro P12 v12_5 v12_6 v12_7 hm12 I12 X12 W12 hv12_5 hv12_6 hv12_7 rel12_0
      have h88866 := X12.at ha0
      have J97 : ∀ (P97 : PP) (v97_6 : Int32), (IM P97 a0) → (EM [28, 29, 30, 35, 36, 37, 38, 41, 42] a0 P P97) → (MW P97 a0) → (1 ≤ v12_5.toInt ∧ v12_5.toInt ≤ 64) → (0 ≤ v97_6.toInt ∧ v97_6.toInt ≤ 64) → (0 ≤ v12_7.toInt ∧ v12_7.toInt ≤ 63) → (v97_6.toInt ≤ v12_7.toInt + 1) → G E ({ frames := 2, cells := 0, slots := 0, locals := 128 } : Room) D cy 9 P97 0 0 97 [(0, .ref a0), (1, .int a1), (2, .int a2), (3, .int a3), (4, .int a4), (5, .int v12_5), (6, .int v97_6), (7, .int v12_7)] [] := by
        intro P97 v97_6 I97 X97 W97 hv97_5 hv97_6 hv97_7 rel97_0
        have h88867 := X97.at ha0
        refine s_iinc (lv0 := [(0, .ref a0), (1, .int a1), (2, .int a2), (3, .int a3), (4, .int a4), (5, .int v12_5), (6, .int v97_6)]) (m := 1) C dX12_isFixedWithout_97 7 rfl (by decide) rfl (by decide) (by omega) (fun z88868 h88869 => ?_)
        have h88869 : z88868.toInt = v12_7.toInt + 1 := h88869
        refine g_goto C 12 dX12_isFixedWithout_100 (by decide) ?_
        refine g_lv (lv' := [(0, .ref a0), (1, .int a1), (2, .int a2), (3, .int a3), (4, .int a4), (5, .int v12_5), (6, .int v97_6), (7, .int z88868)]) [1, 2, 3, 4, 5, 6, 7, 0] rfl ?_
        exact ih12 P97 v12_5 v97_6 z88868 (by omega) I97 X97 W97 (by omega) (by omega) (by omega) (by show v97_6.toInt ≤ z88868.toInt; omega)
      refine g_iload C dX12_isFixedWithout_12 7 rfl ?_
      refine g_iload C dX12_isFixedWithout_14 5 rfl ?_
      refine b_icmp_ge C 103 dX12_isFixedWithout_16 (by decide) (fun h88870 => ?_) (fun h88870 => ?_)
      · have h88870 : v12_5.toInt ≤ v12_7.toInt := h88870
        refine g_aload_n C dX12_isFixedWithout_103 rfl 0 rfl ?_
        refine g_iload C dX12_isFixedWithout_104 6 rfl ?_
        refine g_putI C fi_X12_305 rfl (h88866).1 (h88866).2 dX12_isFixedWithout_106 ?_
        refine gqW (ks := [28]) (I12.setI (rgOk.of rfl (by omega))) (EM.setI I12 (by decide)) (fun Y88871 Iy88872 Xy88873 w88874  => ?_)
        have w88874 : (pI Y88871 a0 28).toInt = v12_6.toInt := w88874
        have W88875 := W12.keep I12 Xy88873 (by decide) (by decide) (by decide)
        have Xz88876 : EM [28, 29, 30, 35, 36, 37, 38, 41, 42] a0 P Y88871 := EM.tr ha0 X12 (Xy88873.mono (by decide))
        have h88877 := Xy88873.at h88866
        refine g_aload_n C dX12_isFixedWithout_109 rfl 0 rfl ?_
        refine g_callVV (rest := []) C mv_X12_346 [] (s_X12_findSolved Iy88872 W88875) (h88877).1 (h88877).2 rfl rfl (by decide) (Nat.le_of_ble_eq_true rfl) (by decide) dX12_isFixedWithout_110 (fun Y88879 h88880 => ?_)
        obtain ⟨Iy88881, Xy88882, W88883⟩ := h88880
        have q88884 := Xy88882.keepF 28 (by decide)
        have Xz88885 : EM [28, 29, 30, 35, 36, 37, 38, 41, 42] a0 P Y88879 := EM.tr ha0 Xz88876 (Xy88882.mono (by decide))
        have h88886 := Xy88882.at h88877
        refine g_aload_n C dX12_isFixedWithout_113 rfl 0 rfl ?_
        refine g_iload_n C dX12_isFixedWithout_114 rfl 1 rfl ?_
        refine g_callVI (rest := []) C mv_X12_330 [.int a1] (s_X12_isFixed Iy88881 (by omega) W88883) (h88886).1 (h88886).2 rfl rfl (by decide) (Nat.le_of_ble_eq_true rfl) (by decide) dX12_isFixedWithout_115 (fun r88887 Y88888 h88889 => ?_)
        obtain ⟨rfl, h88889⟩ := h88889
        have h88889 : 0 ≤ r88887.toInt ∧ r88887.toInt ≤ 1 := h88889
        refine g_istore (lv' := [(7, .int r88887), (0, .ref a0), (1, .int a1), (2, .int a2), (3, .int a3), (4, .int a4), (5, .int v12_5), (6, .int v12_6)]) C dX12_isFixedWithout_118 (by decide) rfl ?_
        refine g_aload_n C dX12_isFixedWithout_120 rfl 1 rfl ?_
        refine g_iload C dX12_isFixedWithout_121 6 rfl ?_
        refine g_putI C fi_X12_305 rfl (h88886).1 (h88886).2 dX12_isFixedWithout_123 ?_
        refine gqW (ks := [28]) (Iy88881.setI (rgOk.of rfl (by omega))) (EM.setI Iy88881 (by decide)) (fun Y88890 Iy88891 Xy88892 w88893  => ?_)
        have w88893 : (pI Y88890 a0 28).toInt = v12_5.toInt := w88893
        have W88894 := W88883.keep Iy88881 Xy88892 (by decide) (by decide) (by decide)
        have Xz88895 : EM [28, 29, 30, 35, 36, 37, 38, 41, 42] a0 P Y88890 := EM.tr ha0 Xz88885 (Xy88892.mono (by decide))
        have h88896 := Xy88892.at h88886
        refine g_iconst (v := 0) C dX12_isFixedWithout_126 (by decide) ?_
        refine g_istore (lv' := [(8, .int 0), (7, .int r88887), (0, .ref a0), (1, .int a1), (2, .int a2), (3, .int a3), (4, .int a4), (5, .int v12_5), (6, .int v12_6)]) C dX12_isFixedWithout_127 (by decide) rfl ?_
        refine g_lv (lv' := [(0, .ref a0), (5, .int v12_5), (7, .int r88887), (8, .int 0)]) [2, 7, 1, 0] rfl ?_
        exact J129 _ Y88890 v12_5 r88887 0 (Nat.lt_succ_self _) Iy88891 Xz88895 W88894 (by omega) (by omega) (by decide)
      · have h88870 : v12_7.toInt < v12_5.toInt := h88870
        refine g_aload_n C dX12_isFixedWithout_19 rfl 0 rfl ?_
        obtain ⟨b88897, e88898, h88899⟩ := I12.fld (h88866) 41 13 64 rfl
        refine g_getR C fi_X12_115 rfl e88898 (h88866).1 (h88866).2 dX12_isFixedWithout_20 ?_
        refine g_iload C dX12_isFixedWithout_23 7 rfl ?_
        refine g_aload_n C dX12_isFixedWithout_25 rfl 0 rfl ?_
        obtain ⟨b88900, e88901, h88902⟩ := I12.fld (h88866) 29 13 64 rfl
        refine g_getR C fi_X12_91 rfl e88901 (h88866).1 (h88866).2 dX12_isFixedWithout_26 ?_
        refine g_iload C dX12_isFixedWithout_29 7 rfl ?_
        refine g_iald (j := (v12_7.toInt.toNat)) C h88902.1 h88902.2.1 (ix_in h88902.2.2 (by omega)) dX12_isFixedWithout_31 ?_
        refine g_iast (j := (v12_7.toInt.toNat)) C h88899.1 h88899.2.1 (ix_in h88899.2.2 (by omega)) dX12_isFixedWithout_32 ?_
        refine gqW (ks := [41]) (I12.setA e88898 h88899 (by decide) (arOk.none rfl)) (EM.setA I12 e88898 rfl (by decide)) (fun Y88903 Iy88904 Xy88905 w88906  => ?_)
        have w88906 : (pI Y88903 b88897 (v12_7.toInt.toNat)).toInt = (pI P12 b88900 (v12_7.toInt.toNat)).toInt := w88906
        have W88907 := W12.keep I12 Xy88905 (by decide) (by decide) (by decide)
        have Xz88908 : EM [28, 29, 30, 35, 36, 37, 38, 41, 42] a0 P Y88903 := EM.tr ha0 X12 (Xy88905.mono (by decide))
        have e88909 := Xy88905.ref h88866 (by decide) e88898
        have h88910 := Xy88905.at h88866
        have h88911 := Xy88905.ar h88899
        refine g_aload_n C dX12_isFixedWithout_33 rfl 0 rfl ?_
        obtain ⟨b88912, e88913, h88914⟩ := Iy88904.fld (h88910) 42 13 64 rfl
        refine g_getR C fi_X12_118 rfl e88913 (h88910).1 (h88910).2 dX12_isFixedWithout_34 ?_
        refine g_iload C dX12_isFixedWithout_37 7 rfl ?_
        refine g_aload_n C dX12_isFixedWithout_39 rfl 0 rfl ?_
        obtain ⟨b88915, e88916, h88917⟩ := Iy88904.fld (h88910) 30 13 64 rfl
        refine g_getR C fi_X12_94 rfl e88916 (h88910).1 (h88910).2 dX12_isFixedWithout_40 ?_
        refine g_iload C dX12_isFixedWithout_43 7 rfl ?_
        refine g_iald (j := (v12_7.toInt.toNat)) C h88917.1 h88917.2.1 (ix_in h88917.2.2 (by omega)) dX12_isFixedWithout_45 ?_
        refine g_iast (j := (v12_7.toInt.toNat)) C h88914.1 h88914.2.1 (ix_in h88914.2.2 (by omega)) dX12_isFixedWithout_46 ?_
        refine gqW (ks := [42]) (Iy88904.setA e88913 h88914 (by decide) (arOk.none rfl)) (EM.setA Iy88904 e88913 rfl (by decide)) (fun Y88918 Iy88919 Xy88920 w88921  => ?_)
        have w88921 : (pI Y88918 b88912 (v12_7.toInt.toNat)).toInt = (pI Y88903 b88915 (v12_7.toInt.toNat)).toInt := w88921
        have q88922 := Xy88920.keepA e88909 (by decide) rfl (v12_7.toInt.toNat)
        have W88923 := W88907.keep Iy88904 Xy88920 (by decide) (by decide) (by decide)
        have Xz88924 : EM [28, 29, 30, 35, 36, 37, 38, 41, 42] a0 P Y88918 := EM.tr ha0 Xz88908 (Xy88920.mono (by decide))
        have e88925 := Xy88920.ref h88910 (by decide) e88909
        have e88926 := Xy88920.ref h88910 (by decide) e88913
        have h88927 := Xy88920.at h88910
        have h88928 := Xy88920.ar h88911
        have h88929 := Xy88920.ar h88914
        refine g_iload C dX12_isFixedWithout_47 7 rfl ?_
        refine g_iload_n C dX12_isFixedWithout_49 rfl 2 rfl ?_
        have u88931 := ti_rng a2
        refine b_icmp_eq C 97 dX12_isFixedWithout_50 (by decide) (fun h88930 => ?_) (fun h88930 => ?_)
        · have h88930 : v12_7.toInt = a2.toInt := congrArg Int32.toInt h88930
          exact J97 Y88918 v12_6 Iy88919 Xz88924 W88923 (by omega) (by omega) (by omega) (by show v12_6.toInt ≤ v12_7.toInt + 1; omega)
        · have h88930 : v12_7.toInt ≠ a2.toInt := ti_ne h88930
          refine g_iload C dX12_isFixedWithout_53 7 rfl ?_
          refine g_iload_n C dX12_isFixedWithout_55 rfl 3 rfl ?_
          have u88933 := ti_rng a3
          refine b_icmp_eq C 97 dX12_isFixedWithout_56 (by decide) (fun h88932 => ?_) (fun h88932 => ?_)
          · have h88932 : v12_7.toInt = a3.toInt := congrArg Int32.toInt h88932
            exact J97 Y88918 v12_6 Iy88919 Xz88924 W88923 (by omega) (by omega) (by omega) (by show v12_6.toInt ≤ v12_7.toInt + 1; omega)
          · have h88932 : v12_7.toInt ≠ a3.toInt := ti_ne h88932
            refine g_iload C dX12_isFixedWithout_59 7 rfl ?_
            refine g_iload C dX12_isFixedWithout_61 4 rfl ?_
            have u88935 := ti_rng a4
            refine b_icmp_eq C 97 dX12_isFixedWithout_63 (by decide) (fun h88934 => ?_) (fun h88934 => ?_)
            · have h88934 : v12_7.toInt = a4.toInt := congrArg Int32.toInt h88934
              exact J97 Y88918 v12_6 Iy88919 Xz88924 W88923 (by omega) (by omega) (by omega) (by show v12_6.toInt ≤ v12_7.toInt + 1; omega)
            · have h88934 : v12_7.toInt ≠ a4.toInt := ti_ne h88934
              refine g_aload_n C dX12_isFixedWithout_66 rfl 0 rfl ?_
              obtain ⟨b88936, e88937, h88938⟩ := Iy88919.fld (h88927) 29 13 64 rfl
              refine g_getR C fi_X12_91 rfl e88937 (h88927).1 (h88927).2 dX12_isFixedWithout_67 ?_
              refine g_iload C dX12_isFixedWithout_70 6 rfl ?_
              refine g_aload_n C dX12_isFixedWithout_72 rfl 0 rfl ?_
              refine g_getR C fi_X12_91 rfl e88937 (h88927).1 (h88927).2 dX12_isFixedWithout_73 ?_
              refine g_iload C dX12_isFixedWithout_76 7 rfl ?_
              refine g_iald (j := (v12_7.toInt.toNat)) C h88938.1 h88938.2.1 (ix_in h88938.2.2 (by omega)) dX12_isFixedWithout_78 ?_
              refine g_iast (j := (v12_6.toInt.toNat)) C h88938.1 h88938.2.1 (ix_in h88938.2.2 (by omega)) dX12_isFixedWithout_79 ?_
              refine gqW (ks := [29]) (Iy88919.setA e88937 h88938 (by decide) (arOk.none rfl)) (EM.setA Iy88919 e88937 rfl (by decide)) (fun Y88939 Iy88940 Xy88941 w88942  => ?_)
              have w88942 : (pI Y88939 b88936 (v12_6.toInt.toNat)).toInt = (pI Y88918 b88936 (v12_7.toInt.toNat)).toInt := w88942
              have q88943 := Xy88941.keepA e88925 (by decide) rfl (v12_7.toInt.toNat)
              have q88944 := Xy88941.keepA e88926 (by decide) rfl (v12_7.toInt.toNat)
              have W88945 := W88923.keep Iy88919 Xy88941 (by decide) (by decide) (by decide)
              have Xz88946 : EM [28, 29, 30, 35, 36, 37, 38, 41, 42] a0 P Y88939 := EM.tr ha0 Xz88924 (Xy88941.mono (by decide))
              have e88947 := Xy88941.ref h88927 (by decide) e88925
              have e88948 := Xy88941.ref h88927 (by decide) e88926
              have e88949 := Xy88941.ref h88927 (by decide) e88937
              have h88950 := Xy88941.at h88927
              have h88951 := Xy88941.ar h88928
              have h88952 := Xy88941.ar h88929
              have h88953 := Xy88941.ar h88938
              refine g_aload_n C dX12_isFixedWithout_80 rfl 0 rfl ?_
              obtain ⟨b88954, e88955, h88956⟩ := Iy88940.fld (h88950) 30 13 64 rfl
              refine g_getR C fi_X12_94 rfl e88955 (h88950).1 (h88950).2 dX12_isFixedWithout_81 ?_
              refine g_iload C dX12_isFixedWithout_84 6 rfl ?_
              refine g_aload_n C dX12_isFixedWithout_86 rfl 0 rfl ?_
              refine g_getR C fi_X12_94 rfl e88955 (h88950).1 (h88950).2 dX12_isFixedWithout_87 ?_
              refine g_iload C dX12_isFixedWithout_90 7 rfl ?_
              refine g_iald (j := (v12_7.toInt.toNat)) C h88956.1 h88956.2.1 (ix_in h88956.2.2 (by omega)) dX12_isFixedWithout_92 ?_
              refine g_iast (j := (v12_6.toInt.toNat)) C h88956.1 h88956.2.1 (ix_in h88956.2.2 (by omega)) dX12_isFixedWithout_93 ?_
              refine gqW (ks := [30]) (Iy88940.setA e88955 h88956 (by decide) (arOk.none rfl)) (EM.setA Iy88940 e88955 rfl (by decide)) (fun Y88957 Iy88958 Xy88959 w88960  => ?_)
              have w88960 : (pI Y88957 b88954 (v12_6.toInt.toNat)).toInt = (pI Y88939 b88954 (v12_7.toInt.toNat)).toInt := w88960
              have q88961 := Xy88959.keepA e88947 (by decide) rfl (v12_7.toInt.toNat)
              have q88962 := Xy88959.keepA e88948 (by decide) rfl (v12_7.toInt.toNat)
              have q88963 := Xy88959.keepA e88949 (by decide) rfl (v12_6.toInt.toNat)
              have W88964 := W88945.keep Iy88940 Xy88959 (by decide) (by decide) (by decide)
              have Xz88965 : EM [28, 29, 30, 35, 36, 37, 38, 41, 42] a0 P Y88957 := EM.tr ha0 Xz88946 (Xy88959.mono (by decide))
              have e88966 := Xy88959.ref h88950 (by decide) e88947
              have e88967 := Xy88959.ref h88950 (by decide) e88948
              have e88968 := Xy88959.ref h88950 (by decide) e88949
              have e88969 := Xy88959.ref h88950 (by decide) e88955
              have h88970 := Xy88959.at h88950
              have h88971 := Xy88959.ar h88951
              have h88972 := Xy88959.ar h88952
              have h88973 := Xy88959.ar h88953
              have h88974 := Xy88959.ar h88956
              refine s_iinc (lv0 := [(0, .ref a0), (1, .int a1), (2, .int a2), (3, .int a3), (4, .int a4), (5, .int v12_5), (7, .int v12_7)]) (m := 1) C dX12_isFixedWithout_94 6 rfl (by decide) rfl (by decide) (by omega) (fun z88975 h88976 => ?_)
              have h88976 : z88975.toInt = v12_6.toInt + 1 := h88976
              refine g_lv (lv' := [(0, .ref a0), (1, .int a1), (2, .int a2), (3, .int a3), (4, .int a4), (5, .int v12_5), (6, .int z88975), (7, .int v12_7)]) [1, 2, 3, 4, 5, 6, 0, 7] rfl ?_
              exact J97 Y88957 z88975 Iy88958 Xz88965 W88964 (by omega) (by omega) (by omega) (by show z88975.toInt ≤ v12_7.toInt + 1; omega)
  refine g_aload_n C dX12_isFixedWithout_0 rfl 0 rfl ?_
  refine g_getI C fi_X12_305 (by decide) (ha0).1 (ha0).2 dX12_isFixedWithout_1 ?_
  have h88977 := I.rg (ha0) 28 rfl
  refine g_topi (fun z88978 h88979 => ?_)
  have h88979 : z88978.toInt = (pI P a0 28).toInt := congrArg Int32.toInt h88979
  refine g_istore (lv' := [(5, .int z88978), (0, .ref a0), (1, .int a1), (2, .int a2), (3, .int a3), (4, .int a4)]) C dX12_isFixedWithout_4 (by decide) rfl ?_
  refine g_iconst (v := 0) C dX12_isFixedWithout_6 (by decide) ?_
  refine g_istore (lv' := [(6, .int 0), (5, .int z88978), (0, .ref a0), (1, .int a1), (2, .int a2), (3, .int a3), (4, .int a4)]) C dX12_isFixedWithout_7 (by decide) rfl ?_
  refine g_iconst (v := 0) C dX12_isFixedWithout_9 (by decide) ?_
  refine g_istore (lv' := [(7, .int 0), (6, .int 0), (5, .int z88978), (0, .ref a0), (1, .int a1), (2, .int a2), (3, .int a3), (4, .int a4)]) C dX12_isFixedWithout_10 (by decide) rfl ?_
  refine g_lv (lv' := [(0, .ref a0), (1, .int a1), (2, .int a2), (3, .int a3), (4, .int a4), (5, .int z88978), (6, .int 0), (7, .int 0)]) [3, 4, 5, 6, 7, 2, 1, 0] rfl ?_
  exact J12 _ P z88978 0 0 (Nat.lt_succ_self _) I EM.rf hW (by omega) (by decide) (by decide) (by show 0 ≤ 0; omega)
theorem dX12_guard_97 : decode cX12_guard 97 = .ok (.ifCond .eq 8, 3) := by decide +kernel
theorem dX12_guard_100 : decode cX12_guard 100 = .ok (.iload 5, 2) := by decide +kernel
theorem dX12_guard_102 : decode cX12_guard 102 = .ok (.goto 4, 3) := by decide +kernel
theorem dX12_guard_105 : decode cX12_guard 105 = .ok (.iconst 1, 1) := by decide +kernel
theorem dX12_guard_106 : decode cX12_guard 106 = .ok (.istore 5, 2) := by decide +kernel
theorem dX12_guard_108 : decode cX12_guard 108 = .ok (.iinc 6 1, 3) := by decide +kernel
theorem dX12_guard_111 : decode cX12_guard 111 = .ok (.goto (-41), 3) := by decide +kernel
theorem dX12_guard_114 : decode cX12_guard 114 = .ok (.aload_n 0, 1) := by decide +kernel
theorem dX12_guard_115 : decode cX12_guard 115 = .ok (.getfield 60, 3) := by decide +kernel
theorem dX12_guard_118 : decode cX12_guard 118 = .ok (.iload_n 2, 1) := by decide +kernel
theorem dX12_guard_119 : decode cX12_guard 119 = .ok (.iaload, 1) := by decide +kernel
theorem dX12_guard_120 : decode cX12_guard 120 = .ok (.istore 6, 2) := by decide +kernel
theorem dX12_guard_122 : decode cX12_guard 122 = .ok (.iload 6, 2) := by decide +kernel
theorem dX12_guard_124 : decode cX12_guard 124 = .ok (.aload_n 0, 1) := by decide +kernel
theorem dX12_guard_125 : decode cX12_guard 125 = .ok (.getfield 305, 3) := by decide +kernel
theorem dX12_guard_128 : decode cX12_guard 128 = .ok (.if_icmp .ge 65, 3) := by decide +kernel
theorem dX12_guard_131 : decode cX12_guard 131 = .ok (.iload 5, 2) := by decide +kernel
theorem dX12_guard_133 : decode cX12_guard 133 = .ok (.iconst 2, 1) := by decide +kernel
theorem dX12_guard_134 : decode cX12_guard 134 = .ok (.if_icmp .le 59, 3) := by decide +kernel
theorem dX12_guard_137 : decode cX12_guard 137 = .ok (.iload 6, 2) := by decide +kernel
theorem dX12_guard_139 : decode cX12_guard 139 = .ok (.iconst 1, 1) := by decide +kernel
theorem dX12_guard_140 : decode cX12_guard 140 = .ok (.iadd, 1) := by decide +kernel
theorem dX12_guard_141 : decode cX12_guard 141 = .ok (.istore 7, 2) := by decide +kernel
theorem dX12_guard_143 : decode cX12_guard 143 = .ok (.iload 7, 2) := by decide +kernel
theorem dX12_guard_145 : decode cX12_guard 145 = .ok (.aload_n 0, 1) := by decide +kernel
theorem dX12_guard_146 : decode cX12_guard 146 = .ok (.getfield 305, 3) := by decide +kernel
theorem dX12_guard_149 : decode cX12_guard 149 = .ok (.if_icmp .ge 38, 3) := by decide +kernel
theorem dX12_guard_152 : decode cX12_guard 152 = .ok (.iload 5, 2) := by decide +kernel
theorem dX12_guard_154 : decode cX12_guard 154 = .ok (.iconst 2, 1) := by decide +kernel
theorem dX12_guard_155 : decode cX12_guard 155 = .ok (.if_icmp .le 32, 3) := by decide +kernel
theorem dX12_guard_158 : decode cX12_guard 158 = .ok (.aload_n 0, 1) := by decide +kernel
theorem dX12_guard_159 : decode cX12_guard 159 = .ok (.iload 4, 2) := by decide +kernel
theorem dX12_guard_161 : decode cX12_guard 161 = .ok (.iload 6, 2) := by decide +kernel
theorem dX12_guard_163 : decode cX12_guard 163 = .ok (.iload 7, 2) := by decide +kernel
theorem dX12_guard_165 : decode cX12_guard 165 = .ok (.iload 7, 2) := by decide +kernel
theorem dX12_guard_167 : decode cX12_guard 167 = .ok (.invokevirtual 367, 3) := by decide +kernel
theorem dX12_guard_170 : decode cX12_guard 170 = .ok (.ifCond .eq 8, 3) := by decide +kernel
theorem dX12_guard_173 : decode cX12_guard 173 = .ok (.iload 5, 2) := by decide +kernel
theorem dX12_guard_175 : decode cX12_guard 175 = .ok (.goto 4, 3) := by decide +kernel
theorem dX12_guard_178 : decode cX12_guard 178 = .ok (.iconst 2, 1) := by decide +kernel
theorem dX12_guard_179 : decode cX12_guard 179 = .ok (.istore 5, 2) := by decide +kernel
theorem dX12_guard_181 : decode cX12_guard 181 = .ok (.iinc 7 1, 3) := by decide +kernel
theorem dX12_guard_184 : decode cX12_guard 184 = .ok (.goto (-41), 3) := by decide +kernel
theorem dX12_guard_187 : decode cX12_guard 187 = .ok (.iinc 6 1, 3) := by decide +kernel
theorem dX12_guard_190 : decode cX12_guard 190 = .ok (.goto (-68), 3) := by decide +kernel
theorem dX12_guard_193 : decode cX12_guard 193 = .ok (.aload_n 0, 1) := by decide +kernel
theorem dX12_guard_194 : decode cX12_guard 194 = .ok (.getfield 60, 3) := by decide +kernel
theorem dX12_guard_197 : decode cX12_guard 197 = .ok (.iload_n 2, 1) := by decide +kernel
theorem dX12_guard_198 : decode cX12_guard 198 = .ok (.iaload, 1) := by decide +kernel
theorem dX12_guard_199 : decode cX12_guard 199 = .ok (.istore 6, 2) := by decide +kernel
theorem dX12_guard_201 : decode cX12_guard 201 = .ok (.iload 6, 2) := by decide +kernel
theorem dX12_guard_203 : decode cX12_guard 203 = .ok (.aload_n 0, 1) := by decide +kernel
theorem dX12_guard_204 : decode cX12_guard 204 = .ok (.getfield 305, 3) := by decide +kernel
theorem dX12_guard_207 : decode cX12_guard 207 = .ok (.if_icmp .ge 92, 3) := by decide +kernel
theorem dX12_guard_210 : decode cX12_guard 210 = .ok (.iload 5, 2) := by decide +kernel
theorem dX12_guard_212 : decode cX12_guard 212 = .ok (.iconst 3, 1) := by decide +kernel
theorem dX12_guard_213 : decode cX12_guard 213 = .ok (.if_icmp .le 86, 3) := by decide +kernel
theorem dX12_guard_216 : decode cX12_guard 216 = .ok (.iload 6, 2) := by decide +kernel
theorem dX12_guard_218 : decode cX12_guard 218 = .ok (.iconst 1, 1) := by decide +kernel
theorem dX12_guard_219 : decode cX12_guard 219 = .ok (.iadd, 1) := by decide +kernel
theorem dX12_guard_220 : decode cX12_guard 220 = .ok (.istore 7, 2) := by decide +kernel
theorem dX12_guard_222 : decode cX12_guard 222 = .ok (.iload 7, 2) := by decide +kernel
theorem dX12_guard_224 : decode cX12_guard 224 = .ok (.aload_n 0, 1) := by decide +kernel
theorem dX12_guard_225 : decode cX12_guard 225 = .ok (.getfield 305, 3) := by decide +kernel
theorem dX12_guard_228 : decode cX12_guard 228 = .ok (.if_icmp .ge 65, 3) := by decide +kernel
theorem dX12_guard_231 : decode cX12_guard 231 = .ok (.iload 5, 2) := by decide +kernel
theorem dX12_guard_233 : decode cX12_guard 233 = .ok (.iconst 3, 1) := by decide +kernel
theorem dX12_guard_234 : decode cX12_guard 234 = .ok (.if_icmp .le 59, 3) := by decide +kernel
theorem dX12_guard_237 : decode cX12_guard 237 = .ok (.iload 7, 2) := by decide +kernel
theorem dX12_guard_239 : decode cX12_guard 239 = .ok (.iconst 1, 1) := by decide +kernel
theorem dX12_guard_240 : decode cX12_guard 240 = .ok (.iadd, 1) := by decide +kernel
theorem dX12_guard_241 : decode cX12_guard 241 = .ok (.istore 8, 2) := by decide +kernel
theorem dX12_guard_243 : decode cX12_guard 243 = .ok (.iload 8, 2) := by decide +kernel
theorem dX12_guard_245 : decode cX12_guard 245 = .ok (.aload_n 0, 1) := by decide +kernel
theorem dX12_guard_246 : decode cX12_guard 246 = .ok (.getfield 305, 3) := by decide +kernel
theorem dX12_guard_249 : decode cX12_guard 249 = .ok (.if_icmp .ge 38, 3) := by decide +kernel
theorem dX12_guard_252 : decode cX12_guard 252 = .ok (.iload 5, 2) := by decide +kernel
theorem dX12_guard_254 : decode cX12_guard 254 = .ok (.iconst 3, 1) := by decide +kernel
theorem dX12_guard_255 : decode cX12_guard 255 = .ok (.if_icmp .le 32, 3) := by decide +kernel
theorem dX12_guard_258 : decode cX12_guard 258 = .ok (.aload_n 0, 1) := by decide +kernel
theorem dX12_guard_259 : decode cX12_guard 259 = .ok (.iload 4, 2) := by decide +kernel
theorem dX12_guard_261 : decode cX12_guard 261 = .ok (.iload 6, 2) := by decide +kernel
theorem dX12_guard_263 : decode cX12_guard 263 = .ok (.iload 7, 2) := by decide +kernel
theorem dX12_guard_265 : decode cX12_guard 265 = .ok (.iload 8, 2) := by decide +kernel
theorem dX12_guard_267 : decode cX12_guard 267 = .ok (.invokevirtual 367, 3) := by decide +kernel
theorem dX12_guard_270 : decode cX12_guard 270 = .ok (.ifCond .eq 8, 3) := by decide +kernel
theorem dX12_guard_273 : decode cX12_guard 273 = .ok (.iload 5, 2) := by decide +kernel
theorem dX12_guard_275 : decode cX12_guard 275 = .ok (.goto 4, 3) := by decide +kernel
theorem dX12_guard_278 : decode cX12_guard 278 = .ok (.iconst 3, 1) := by decide +kernel
theorem dX12_guard_279 : decode cX12_guard 279 = .ok (.istore 5, 2) := by decide +kernel
theorem dX12_guard_281 : decode cX12_guard 281 = .ok (.iinc 8 1, 3) := by decide +kernel
theorem dX12_guard_284 : decode cX12_guard 284 = .ok (.goto (-41), 3) := by decide +kernel
theorem dX12_guard_287 : decode cX12_guard 287 = .ok (.iinc 7 1, 3) := by decide +kernel
theorem dX12_guard_290 : decode cX12_guard 290 = .ok (.goto (-68), 3) := by decide +kernel
theorem dX12_guard_293 : decode cX12_guard 293 = .ok (.iinc 6 1, 3) := by decide +kernel
theorem dX12_guard_296 : decode cX12_guard 296 = .ok (.goto (-95), 3) := by decide +kernel
theorem dX12_guard_299 : decode cX12_guard 299 = .ok (.iload 5, 2) := by decide +kernel
theorem dX12_guard_301 : decode cX12_guard 301 = .ok (.iconst 3, 1) := by decide +kernel
theorem dX12_guard_302 : decode cX12_guard 302 = .ok (.if_icmp .le 7, 3) := by decide +kernel
theorem dX12_guard_305 : decode cX12_guard 305 = .ok (.iconst (-1), 1) := by decide +kernel
theorem dX12_guard_306 : decode cX12_guard 306 = .ok (.goto 5, 3) := by decide +kernel
theorem dX12_guard_309 : decode cX12_guard 309 = .ok (.iload 5, 2) := by decide +kernel
theorem dX12_guard_311 : decode cX12_guard 311 = .ok (.ireturn, 1) := by decide +kernel
set_option maxHeartbeats 4000000 in
set_option maxRecDepth 100000 in
theorem s_X12_guard {P : PP} {a0 : Nat} {a1 : Int32} {a2 : Int32} {a3 : Int32} {a4 : Int32} (I : IM P a0) (hW : MW P a0) : CtrI yX12_guard cX12_guard 9 (some Jvm.ClassFile.FieldType.int) ({ frames := 5, cells := 0, slots := 0, locals := 320 } : Room) 0 0 P [.ref a0, .int a1, .int a2, .int a3, .int a4] (fun r P2 => IM P2 a0 ∧ EM [0, 28, 29, 30, 31, 32, 35, 36, 37, 38, 41, 42] a0 P P2 ∧ MW P2 a0 ∧ (-1 ≤ r.toInt ∧ r.toInt ≤ 3)) := by
  refine enI (lv := [(0, .ref a0), (1, .int a1), (2, .int a2), (3, .int a3), (4, .int a4)]) (by decide) (Nat.le_of_ble_eq_true rfl) rfl (fun E D cy C Ci0 ret => ?_)
  have ha0 := I.2.1
  have J299 : ∀ (P299 : PP) (v299_5 : Int32), (IM P299 a0) → (EM [0, 28, 29, 30, 31, 32, 35, 36, 37, 38, 41, 42] a0 P P299) → (MW P299 a0) → (1 ≤ v299_5.toInt ∧ v299_5.toInt ≤ 4) → (0 ≤ (pI P299 a0 0).toInt ∧ (pI P299 a0 0).toInt ≤ 0) → (∀ b, pR P299 a0 10 = some b → 1 ≤ (pI P299 b (a2.toInt.toNat)).toInt ∧ (pI P299 b (a2.toInt.toNat)).toInt ≤ 16) → G E ({ frames := 5, cells := 0, slots := 0, locals := 320 } : Room) D cy 9 P299 0 0 299 [(5, .int v299_5)] [] := by
    intro P299 v299_5 I299 X299 W299 hv299_5 hq299_0 hq299_1
    have h91438 := X299.at ha0
    obtain ⟨b91439, e91440, h91441⟩ := I299.fld (h91438) 10 13 2 rfl
    have hq299_1 := hq299_1 b91439 e91440
    refine g_iload C dX12_guard_299 0 rfl ?_
    refine g_iconst (v := 3) C dX12_guard_301 (by decide) ?_
    refine b_icmp_le C 309 dX12_guard_302 (by decide) (fun h91442 => ?_) (fun h91442 => ?_)
    · have h91442 : v299_5.toInt ≤ 3 := h91442
      refine g_iload C dX12_guard_309 0 rfl ?_
      exact ret _ _ _ _ _ _ dX12_guard_311 rfl (by decide) (by decide) ⟨I299, X299, W299, (by omega)⟩
    · have h91442 : 3 < v299_5.toInt := h91442
      refine g_iconst (v := (-1)) C dX12_guard_305 (by decide) ?_
      refine g_goto C 311 dX12_guard_306 (by decide) ?_
      exact ret _ _ _ _ _ _ dX12_guard_311 rfl (by decide) (by decide) ⟨I299, X299, W299, (by decide)⟩
  have J201 : ∀ (n201 : Nat) (P201 : PP) (v201_5 : Int32) (v201_6 : Int32), (64 - v201_6.toInt).toNat < n201 → (IM P201 a0) → (EM [0, 28, 29, 30, 31, 32, 35, 36, 37, 38, 41, 42] a0 P P201) → (MW P201 a0) → (0 ≤ a4.toInt ∧ a4.toInt ≤ 19) → (1 ≤ v201_5.toInt ∧ v201_5.toInt ≤ 4) → (0 ≤ v201_6.toInt ∧ v201_6.toInt ≤ 64) → (0 ≤ (pI P201 a0 0).toInt ∧ (pI P201 a0 0).toInt ≤ 0) → (∀ b, pR P201 a0 10 = some b → 1 ≤ (pI P201 b (a2.toInt.toNat)).toInt ∧ (pI P201 b (a2.toInt.toNat)).toInt ≤ 16) → G E ({ frames := 5, cells := 0, slots := 0, locals := 320 } : Room) D cy 9 P201 0 0 201 [(0, .ref a0), (4, .int a4), (5, .int v201_5), (6, .int v201_6)] [] := by
    intro n201
    induction n201 with
    | zero => intro P201 v201_5 v201_6 hm201 I201 X201 W201 hv201_4 hv201_5 hv201_6 hq201_0 hq201_1; omega
    | succ n201 ih201 =>
      intro P201 v201_5 v201_6 hm201 I201 X201 W201 hv201_4 hv201_5 hv201_6 hq201_0 hq201_1
      have h91443 := X201.at ha0
      obtain ⟨b91444, e91445, h91446⟩ := I201.fld (h91443) 10 13 2 rfl
      have hq201_1 := hq201_1 b91444 e91445
      have J293 : ∀ (P293 : PP) (v293_5 : Int32), (IM P293 a0) → (EM [0, 28, 29, 30, 31, 32, 35, 36, 37, 38, 41, 42] a0 P P293) → (MW P293 a0) → (0 ≤ a4.toInt ∧ a4.toInt ≤ 19) → (3 ≤ v293_5.toInt ∧ v293_5.toInt ≤ 4) → (0 ≤ v201_6.toInt ∧ v201_6.toInt ≤ 63) → (0 ≤ (pI P293 a0 0).toInt ∧ (pI P293 a0 0).toInt ≤ 0) → (∀ b, pR P293 a0 10 = some b → 1 ≤ (pI P293 b (a2.toInt.toNat)).toInt ∧ (pI P293 b (a2.toInt.toNat)).toInt ≤ 16) → G E ({ frames := 5, cells := 0, slots := 0, locals := 320 } : Room) D cy 9 P293 0 0 293 [(0, .ref a0), (4, .int a4), (5, .int v293_5), (6, .int v201_6)] [] := by
        intro P293 v293_5 I293 X293 W293 hv293_4 hv293_5 hv293_6 hq293_0 hq293_1
        have h91447 := X293.at ha0
        obtain ⟨b91448, e91449, h91450⟩ := I293.fld (h91447) 10 13 2 rfl
        have hq293_1 := hq293_1 b91448 e91449
        refine s_iinc (lv0 := [(0, .ref a0), (4, .int a4), (5, .int v293_5)]) (m := 1) C dX12_guard_293 3 rfl (by decide) rfl (by decide) (by omega) (fun z91451 h91452 => ?_)
        have h91452 : z91451.toInt = v201_6.toInt + 1 := h91452
        refine g_goto C 201 dX12_guard_296 (by decide) ?_
        refine g_lv (lv' := [(0, .ref a0), (4, .int a4), (5, .int v293_5), (6, .int z91451)]) [1, 2, 3, 0] rfl ?_
        exact ih201 P293 v293_5 z91451 (by omega) I293 X293 W293 (by omega) (by omega) (by omega) (by omega) (fun b9 e9 => by rw [e91449] at e9; cases e9; omega)
      have J222 : ∀ (n222 : Nat) (P222 : PP) (v222_5 : Int32) (v222_7 : Int32), (64 - v222_7.toInt).toNat < n222 → (IM P222 a0) → (EM [0, 28, 29, 30, 31, 32, 35, 36, 37, 38, 41, 42] a0 P P222) → (MW P222 a0) → (0 ≤ a4.toInt ∧ a4.toInt ≤ 19) → (3 ≤ v222_5.toInt ∧ v222_5.toInt ≤ 4) → (0 ≤ v201_6.toInt ∧ v201_6.toInt ≤ 63) → (1 ≤ v222_7.toInt ∧ v222_7.toInt ≤ 64) → (0 ≤ (pI P222 a0 0).toInt ∧ (pI P222 a0 0).toInt ≤ 0) → (∀ b, pR P222 a0 10 = some b → 1 ≤ (pI P222 b (a2.toInt.toNat)).toInt ∧ (pI P222 b (a2.toInt.toNat)).toInt ≤ 16) → G E ({ frames := 5, cells := 0, slots := 0, locals := 320 } : Room) D cy 9 P222 0 0 222 [(0, .ref a0), (4, .int a4), (5, .int v222_5), (6, .int v201_6), (7, .int v222_7)] [] := by
        intro n222
        induction n222 with
        | zero => intro P222 v222_5 v222_7 hm222 I222 X222 W222 hv222_4 hv222_5 hv222_6 hv222_7 hq222_0 hq222_1; omega
        | succ n222 ih222 =>
          intro P222 v222_5 v222_7 hm222 I222 X222 W222 hv222_4 hv222_5 hv222_6 hv222_7 hq222_0 hq222_1
          have h91453 := X222.at ha0
          obtain ⟨b91454, e91455, h91456⟩ := I222.fld (h91453) 10 13 2 rfl
          have hq222_1 := hq222_1 b91454 e91455
          have J287 : ∀ (P287 : PP) (v287_5 : Int32), (IM P287 a0) → (EM [0, 28, 29, 30, 31, 32, 35, 36, 37, 38, 41, 42] a0 P P287) → (MW P287 a0) → (0 ≤ a4.toInt ∧ a4.toInt ≤ 19) → (3 ≤ v287_5.toInt ∧ v287_5.toInt ≤ 4) → (0 ≤ v201_6.toInt ∧ v201_6.toInt ≤ 63) → (1 ≤ v222_7.toInt ∧ v222_7.toInt ≤ 63) → (0 ≤ (pI P287 a0 0).toInt ∧ (pI P287 a0 0).toInt ≤ 0) → (∀ b, pR P287 a0 10 = some b → 1 ≤ (pI P287 b (a2.toInt.toNat)).toInt ∧ (pI P287 b (a2.toInt.toNat)).toInt ≤ 16) → G E ({ frames := 5, cells := 0, slots := 0, locals := 320 } : Room) D cy 9 P287 0 0 287 [(0, .ref a0), (4, .int a4), (5, .int v287_5), (6, .int v201_6), (7, .int v222_7)] [] := by
            intro P287 v287_5 I287 X287 W287 hv287_4 hv287_5 hv287_6 hv287_7 hq287_0 hq287_1
            have h91457 := X287.at ha0
            obtain ⟨b91458, e91459, h91460⟩ := I287.fld (h91457) 10 13 2 rfl
            have hq287_1 := hq287_1 b91458 e91459
            refine s_iinc (lv0 := [(0, .ref a0), (4, .int a4), (5, .int v287_5), (6, .int v201_6)]) (m := 1) C dX12_guard_287 4 rfl (by decide) rfl (by decide) (by omega) (fun z91461 h91462 => ?_)
            have h91462 : z91461.toInt = v222_7.toInt + 1 := h91462
            refine g_goto C 222 dX12_guard_290 (by decide) ?_
            refine g_lv (lv' := [(0, .ref a0), (4, .int a4), (5, .int v287_5), (6, .int v201_6), (7, .int z91461)]) [1, 2, 3, 4, 0] rfl ?_
            exact ih222 P287 v287_5 z91461 (by omega) I287 X287 W287 (by omega) (by omega) (by omega) (by omega) (by omega) (fun b9 e9 => by rw [e91459] at e9; cases e9; omega)
          have J243 : ∀ (n243 : Nat) (P243 : PP) (v243_5 : Int32) (v243_8 : Int32), (64 - v243_8.toInt).toNat < n243 → (IM P243 a0) → (EM [0, 28, 29, 30, 31, 32, 35, 36, 37, 38, 41, 42] a0 P P243) → (MW P243 a0) → (0 ≤ a4.toInt ∧ a4.toInt ≤ 19) → (3 ≤ v243_5.toInt ∧ v243_5.toInt ≤ 4) → (0 ≤ v201_6.toInt ∧ v201_6.toInt ≤ 63) → (1 ≤ v222_7.toInt ∧ v222_7.toInt ≤ 63) → (2 ≤ v243_8.toInt ∧ v243_8.toInt ≤ 64) → (0 ≤ (pI P243 a0 0).toInt ∧ (pI P243 a0 0).toInt ≤ 0) → (∀ b, pR P243 a0 10 = some b → 1 ≤ (pI P243 b (a2.toInt.toNat)).toInt ∧ (pI P243 b (a2.toInt.toNat)).toInt ≤ 16) → G E ({ frames := 5, cells := 0, slots := 0, locals := 320 } : Room) D cy 9 P243 0 0 243 [(0, .ref a0), (4, .int a4), (5, .int v243_5), (6, .int v201_6), (7, .int v222_7), (8, .int v243_8)] [] := by
            intro n243
            induction n243 with
            | zero => intro P243 v243_5 v243_8 hm243 I243 X243 W243 hv243_4 hv243_5 hv243_6 hv243_7 hv243_8 hq243_0 hq243_1; omega
            | succ n243 ih243 =>
              intro P243 v243_5 v243_8 hm243 I243 X243 W243 hv243_4 hv243_5 hv243_6 hv243_7 hv243_8 hq243_0 hq243_1
              have h91463 := X243.at ha0
              obtain ⟨b91464, e91465, h91466⟩ := I243.fld (h91463) 10 13 2 rfl
              have hq243_1 := hq243_1 b91464 e91465
              have J279 : ∀ (P279 : PP) (v279_s0 : Int32), (IM P279 a0) → (EM [0, 28, 29, 30, 31, 32, 35, 36, 37, 38, 41, 42] a0 P P279) → (MW P279 a0) → (0 ≤ a4.toInt ∧ a4.toInt ≤ 19) → (0 ≤ v201_6.toInt ∧ v201_6.toInt ≤ 63) → (1 ≤ v222_7.toInt ∧ v222_7.toInt ≤ 63) → (2 ≤ v243_8.toInt ∧ v243_8.toInt ≤ 63) → (3 ≤ v279_s0.toInt ∧ v279_s0.toInt ≤ 4) → (0 ≤ (pI P279 a0 0).toInt ∧ (pI P279 a0 0).toInt ≤ 0) → (∀ b, pR P279 a0 10 = some b → 1 ≤ (pI P279 b (a2.toInt.toNat)).toInt ∧ (pI P279 b (a2.toInt.toNat)).toInt ≤ 16) → G E ({ frames := 5, cells := 0, slots := 0, locals := 320 } : Room) D cy 9 P279 0 0 279 [(0, .ref a0), (4, .int a4), (6, .int v201_6), (7, .int v222_7), (8, .int v243_8)] [.int v279_s0] := by
                intro P279 v279_s0 I279 X279 W279 hv279_4 hv279_6 hv279_7 hv279_8 hv279_s0 hq279_0 hq279_1
                have h91467 := X279.at ha0
                obtain ⟨b91468, e91469, h91470⟩ := I279.fld (h91467) 10 13 2 rfl
                have hq279_1 := hq279_1 b91468 e91469
                refine g_istore (lv' := [(5, .int v279_s0), (0, .ref a0), (4, .int a4), (6, .int v201_6), (7, .int v222_7), (8, .int v243_8)]) C dX12_guard_279 (by decide) rfl ?_
                refine s_iinc (lv0 := [(5, .int v279_s0), (0, .ref a0), (4, .int a4), (6, .int v201_6), (7, .int v222_7)]) (m := 1) C dX12_guard_281 5 rfl (by decide) rfl (by decide) (by omega) (fun z91471 h91472 => ?_)
                have h91472 : z91471.toInt = v243_8.toInt + 1 := h91472
                refine g_goto C 243 dX12_guard_284 (by decide) ?_
                refine g_lv (lv' := [(0, .ref a0), (4, .int a4), (5, .int v279_s0), (6, .int v201_6), (7, .int v222_7), (8, .int z91471)]) [2, 3, 1, 4, 5, 0] rfl ?_
                exact ih243 P279 v279_s0 z91471 (by omega) I279 X279 W279 (by omega) (by omega) (by omega) (by omega) (by omega) (by omega) (fun b9 e9 => by rw [e91469] at e9; cases e9; omega)
              refine g_iload C dX12_guard_243 5 rfl ?_
              refine g_aload_n C dX12_guard_245 rfl 0 rfl ?_
              refine g_getI C fi_X12_305 (by decide) (h91463).1 (h91463).2 dX12_guard_246 ?_
              have h91473 := I243.rg (h91463) 28 rfl
              refine b_icmp_ge C 287 dX12_guard_249 (by decide) (fun h91474 => ?_) (fun h91474 => ?_)
              · have h91474 : (pI P243 a0 28).toInt ≤ v243_8.toInt := h91474
                refine g_lv (lv' := [(0, .ref a0), (4, .int a4), (5, .int v243_5), (6, .int v201_6), (7, .int v222_7)]) [0, 1, 2, 3, 4] rfl ?_
                exact J287 P243 v243_5 I243 X243 W243 (by omega) (by omega) (by omega) (by omega) (by omega) (fun b9 e9 => by rw [e91465] at e9; cases e9; omega)
              · have h91474 : v243_8.toInt < (pI P243 a0 28).toInt := h91474
                refine g_iload C dX12_guard_252 2 rfl ?_
                refine g_iconst (v := 3) C dX12_guard_254 (by decide) ?_
                refine b_icmp_le C 287 dX12_guard_255 (by decide) (fun h91475 => ?_) (fun h91475 => ?_)
                · have h91475 : v243_5.toInt ≤ 3 := h91475
                  refine g_lv (lv' := [(0, .ref a0), (4, .int a4), (5, .int v243_5), (6, .int v201_6), (7, .int v222_7)]) [0, 1, 2, 3, 4] rfl ?_
                  exact J287 P243 v243_5 I243 X243 W243 (by omega) (by omega) (by omega) (by omega) (by omega) (fun b9 e9 => by rw [e91465] at e9; cases e9; omega)
                · have h91475 : 3 < v243_5.toInt := h91475
                  refine g_aload_n C dX12_guard_258 rfl 0 rfl ?_
                  refine g_iload C dX12_guard_259 1 rfl ?_
                  refine g_iload C dX12_guard_261 3 rfl ?_
                  refine g_iload C dX12_guard_263 4 rfl ?_
                  refine g_iload C dX12_guard_265 5 rfl ?_
                  refine g_callVI (rest := []) C mv_X12_367 [.int a4, .int v201_6, .int v222_7, .int v243_8] (s_X12_isFixedWithout I243 (by omega) W243) (h91463).1 (h91463).2 rfl rfl (by decide) (Nat.le_of_ble_eq_true rfl) (by decide) dX12_guard_267 (fun r91476 Y91477 h91478 => ?_)
                  obtain ⟨Iy91479, Xy91480, W91481, h91478⟩ := h91478
                  have q91482 := Xy91480.keepF 0 (by decide)
                  have q91483 := Xy91480.keepA e91465 (by decide) rfl (a2.toInt.toNat)
                  have Xz91484 : EM [0, 28, 29, 30, 31, 32, 35, 36, 37, 38, 41, 42] a0 P Y91477 := EM.tr ha0 X243 (Xy91480.mono (by decide))
                  have e91485 := Xy91480.ref h91463 (by decide) e91465
                  have h91486 := Xy91480.at h91463
                  have h91487 := Xy91480.ar h91466
                  have h91478 : 0 ≤ r91476.toInt ∧ r91476.toInt ≤ 1 := h91478
                  refine b_if_eq C 278 dX12_guard_270 (by decide) (fun h91488 => ?_) (fun h91488 => ?_)
                  · have h91488 : r91476.toInt = 0 := congrArg Int32.toInt h91488
                    refine g_iconst (v := 3) C dX12_guard_278 (by decide) ?_
                    refine g_lv (lv' := [(0, .ref a0), (4, .int a4), (6, .int v201_6), (7, .int v222_7), (8, .int v243_8)]) [0, 1, 3, 4, 5] rfl ?_
                    exact J279 Y91477 3 Iy91479 Xz91484 W91481 (by omega) (by omega) (by omega) (by omega) (by decide) (by omega) (fun b9 e9 => by rw [e91485] at e9; cases e9; omega)
                  · have h91488 : r91476.toInt ≠ 0 := ti_ne h91488
                    refine g_iload C dX12_guard_273 2 rfl ?_
                    refine g_goto C 279 dX12_guard_275 (by decide) ?_
                    refine g_lv (lv' := [(0, .ref a0), (4, .int a4), (6, .int v201_6), (7, .int v222_7), (8, .int v243_8)]) [0, 1, 3, 4, 5] rfl ?_
                    exact J279 Y91477 v243_5 Iy91479 Xz91484 W91481 (by omega) (by omega) (by omega) (by omega) (by omega) (by omega) (fun b9 e9 => by rw [e91485] at e9; cases e9; omega)
          refine g_iload C dX12_guard_222 4 rfl ?_
          refine g_aload_n C dX12_guard_224 rfl 0 rfl ?_
          refine g_getI C fi_X12_305 (by decide) (h91453).1 (h91453).2 dX12_guard_225 ?_
          have h91489 := I222.rg (h91453) 28 rfl
          refine b_icmp_ge C 293 dX12_guard_228 (by decide) (fun h91490 => ?_) (fun h91490 => ?_)
          · have h91490 : (pI P222 a0 28).toInt ≤ v222_7.toInt := h91490
            refine g_lv (lv' := [(0, .ref a0), (4, .int a4), (5, .int v222_5), (6, .int v201_6)]) [0, 1, 2, 3] rfl ?_
            exact J293 P222 v222_5 I222 X222 W222 (by omega) (by omega) (by omega) (by omega) (fun b9 e9 => by rw [e91455] at e9; cases e9; omega)
          · have h91490 : v222_7.toInt < (pI P222 a0 28).toInt := h91490
            refine g_iload C dX12_guard_231 2 rfl ?_
            refine g_iconst (v := 3) C dX12_guard_233 (by decide) ?_
            refine b_icmp_le C 293 dX12_guard_234 (by decide) (fun h91491 => ?_) (fun h91491 => ?_)
            · have h91491 : v222_5.toInt ≤ 3 := h91491
              refine g_lv (lv' := [(0, .ref a0), (4, .int a4), (5, .int v222_5), (6, .int v201_6)]) [0, 1, 2, 3] rfl ?_
              exact J293 P222 v222_5 I222 X222 W222 (by omega) (by omega) (by omega) (by omega) (fun b9 e9 => by rw [e91455] at e9; cases e9; omega)
            · have h91491 : 3 < v222_5.toInt := h91491
              refine g_iload C dX12_guard_237 4 rfl ?_
              refine g_iconst (v := 1) C dX12_guard_239 (by decide) ?_
              refine s_iadd C dX12_guard_240 (by show -2147483648 ≤ v222_7.toInt + 1 ∧ v222_7.toInt + 1 ≤ 2147483647; omega) (fun z91492 h91493 => ?_)
              have h91493 : z91492.toInt = v222_7.toInt + 1 := h91493
              refine g_istore (lv' := [(8, .int z91492), (0, .ref a0), (4, .int a4), (5, .int v222_5), (6, .int v201_6), (7, .int v222_7)]) C dX12_guard_241 (by decide) rfl ?_
              refine g_lv (lv' := [(0, .ref a0), (4, .int a4), (5, .int v222_5), (6, .int v201_6), (7, .int v222_7), (8, .int z91492)]) [1, 2, 3, 4, 5, 0] rfl ?_
              exact J243 _ P222 v222_5 z91492 (Nat.lt_succ_self _) I222 X222 W222 (by omega) (by omega) (by omega) (by omega) (by omega) (by omega) (fun b9 e9 => by rw [e91455] at e9; cases e9; omega)
      refine g_iload C dX12_guard_201 3 rfl ?_
      refine g_aload_n C dX12_guard_203 rfl 0 rfl ?_
      refine g_getI C fi_X12_305 (by decide) (h91443).1 (h91443).2 dX12_guard_204 ?_
      have h91494 := I201.rg (h91443) 28 rfl
      refine b_icmp_ge C 299 dX12_guard_207 (by decide) (fun h91495 => ?_) (fun h91495 => ?_)
      · have h91495 : (pI P201 a0 28).toInt ≤ v201_6.toInt := h91495
        refine g_lv (lv' := [(5, .int v201_5)]) [2] rfl ?_
        exact J299 P201 v201_5 I201 X201 W201 (by omega) (by omega) (fun b9 e9 => by rw [e91445] at e9; cases e9; omega)
      · have h91495 : v201_6.toInt < (pI P201 a0 28).toInt := h91495
        refine g_iload C dX12_guard_210 2 rfl ?_
        refine g_iconst (v := 3) C dX12_guard_212 (by decide) ?_
        refine b_icmp_le C 299 dX12_guard_213 (by decide) (fun h91496 => ?_) (fun h91496 => ?_)
        · have h91496 : v201_5.toInt ≤ 3 := h91496
          refine g_lv (lv' := [(5, .int v201_5)]) [2] rfl ?_
          exact J299 P201 v201_5 I201 X201 W201 (by omega) (by omega) (fun b9 e9 => by rw [e91445] at e9; cases e9; omega)
        · have h91496 : 3 < v201_5.toInt := h91496
          refine g_iload C dX12_guard_216 3 rfl ?_
          refine g_iconst (v := 1) C dX12_guard_218 (by decide) ?_
          refine s_iadd C dX12_guard_219 (by show -2147483648 ≤ v201_6.toInt + 1 ∧ v201_6.toInt + 1 ≤ 2147483647; omega) (fun z91497 h91498 => ?_)
          have h91498 : z91497.toInt = v201_6.toInt + 1 := h91498
          refine g_istore (lv' := [(7, .int z91497), (0, .ref a0), (4, .int a4), (5, .int v201_5), (6, .int v201_6)]) C dX12_guard_220 (by decide) rfl ?_
          refine g_lv (lv' := [(0, .ref a0), (4, .int a4), (5, .int v201_5), (6, .int v201_6), (7, .int z91497)]) [1, 2, 3, 4, 0] rfl ?_
          exact J222 _ P201 v201_5 z91497 (Nat.lt_succ_self _) I201 X201 W201 (by omega) (by omega) (by omega) (by omega) (by omega) (fun b9 e9 => by rw [e91445] at e9; cases e9; omega)
  have J193 : ∀ (P193 : PP) (v193_5 : Int32), (IM P193 a0) → (EM [0, 28, 29, 30, 31, 32, 35, 36, 37, 38, 41, 42] a0 P P193) → (MW P193 a0) → (0 ≤ a2.toInt ∧ a2.toInt ≤ 1) → (0 ≤ a4.toInt ∧ a4.toInt ≤ 19) → (1 ≤ v193_5.toInt ∧ v193_5.toInt ≤ 4) → (0 ≤ (pI P193 a0 0).toInt ∧ (pI P193 a0 0).toInt ≤ 0) → (∀ b, pR P193 a0 10 = some b → 1 ≤ (pI P193 b (a2.toInt.toNat)).toInt ∧ (pI P193 b (a2.toInt.toNat)).toInt ≤ 16) → G E ({ frames := 5, cells := 0, slots := 0, locals := 320 } : Room) D cy 9 P193 0 0 193 [(0, .ref a0), (2, .int a2), (4, .int a4), (5, .int v193_5)] [] := by
    intro P193 v193_5 I193 X193 W193 hv193_2 hv193_4 hv193_5 hq193_0 hq193_1
    have h91499 := X193.at ha0
    obtain ⟨b91500, e91501, h91502⟩ := I193.fld (h91499) 10 13 2 rfl
    have hq193_1 := hq193_1 b91500 e91501
    refine g_aload_n C dX12_guard_193 rfl 0 rfl ?_
    obtain ⟨b91503, e91504, h91505⟩ := I193.fld (h91499) 15 13 3 rfl
    refine g_getR C fi_X12_60 rfl e91504 (h91499).1 (h91499).2 dX12_guard_194 ?_
    refine g_iload_n C dX12_guard_197 rfl 1 rfl ?_
    refine g_iald (j := (a2.toInt.toNat)) C h91505.1 h91505.2.1 (ix_in h91505.2.2 (by omega)) dX12_guard_198 ?_
    have h91506 := I193.arr e91504 rfl (a2.toInt.toNat)
    refine g_topi (fun z91507 h91508 => ?_)
    have h91508 : z91507.toInt = (pI P193 b91503 (a2.toInt.toNat)).toInt := congrArg Int32.toInt h91508
    refine g_istore (lv' := [(6, .int z91507), (0, .ref a0), (2, .int a2), (4, .int a4), (5, .int v193_5)]) C dX12_guard_199 (by decide) rfl ?_
    refine g_lv (lv' := [(0, .ref a0), (4, .int a4), (5, .int v193_5), (6, .int z91507)]) [1, 3, 4, 0] rfl ?_
    exact J201 _ P193 v193_5 z91507 (Nat.lt_succ_self _) I193 X193 W193 (by omega) (by omega) (by omega) (by omega) (fun b9 e9 => by rw [e91501] at e9; cases e9; omega)
  have J122 : ∀ (n122 : Nat) (P122 : PP) (v122_5 : Int32) (v122_6 : Int32), (64 - v122_6.toInt).toNat < n122 → (IM P122 a0) → (EM [0, 28, 29, 30, 31, 32, 35, 36, 37, 38, 41, 42] a0 P P122) → (MW P122 a0) → (0 ≤ a2.toInt ∧ a2.toInt ≤ 1) → (0 ≤ a4.toInt ∧ a4.toInt ≤ 19) → (1 ≤ v122_5.toInt ∧ v122_5.toInt ≤ 4) → (0 ≤ v122_6.toInt ∧ v122_6.toInt ≤ 64) → (0 ≤ (pI P122 a0 0).toInt ∧ (pI P122 a0 0).toInt ≤ 0) → (∀ b, pR P122 a0 10 = some b → 1 ≤ (pI P122 b (a2.toInt.toNat)).toInt ∧ (pI P122 b (a2.toInt.toNat)).toInt ≤ 16) → G E ({ frames := 5, cells := 0, slots := 0, locals := 320 } : Room) D cy 9 P122 0 0 122 [(0, .ref a0), (2, .int a2), (4, .int a4), (5, .int v122_5), (6, .int v122_6)] [] := by
    intro n122
    induction n122 with
    | zero => intro P122 v122_5 v122_6 hm122 I122 X122 W122 hv122_2 hv122_4 hv122_5 hv122_6 hq122_0 hq122_1; omega
    | succ n122 ih122 =>
      intro P122 v122_5 v122_6 hm122 I122 X122 W122 hv122_2 hv122_4 hv122_5 hv122_6 hq122_0 hq122_1
      have h91509 := X122.at ha0
      obtain ⟨b91510, e91511, h91512⟩ := I122.fld (h91509) 10 13 2 rfl
      have hq122_1 := hq122_1 b91510 e91511
      have J187 : ∀ (P187 : PP) (v187_5 : Int32), (IM P187 a0) → (EM [0, 28, 29, 30, 31, 32, 35, 36, 37, 38, 41, 42] a0 P P187) → (MW P187 a0) → (0 ≤ a2.toInt ∧ a2.toInt ≤ 1) → (0 ≤ a4.toInt ∧ a4.toInt ≤ 19) → (2 ≤ v187_5.toInt ∧ v187_5.toInt ≤ 4) → (0 ≤ v122_6.toInt ∧ v122_6.toInt ≤ 63) → (0 ≤ (pI P187 a0 0).toInt ∧ (pI P187 a0 0).toInt ≤ 0) → (∀ b, pR P187 a0 10 = some b → 1 ≤ (pI P187 b (a2.toInt.toNat)).toInt ∧ (pI P187 b (a2.toInt.toNat)).toInt ≤ 16) → G E ({ frames := 5, cells := 0, slots := 0, locals := 320 } : Room) D cy 9 P187 0 0 187 [(0, .ref a0), (2, .int a2), (4, .int a4), (5, .int v187_5), (6, .int v122_6)] [] := by
        intro P187 v187_5 I187 X187 W187 hv187_2 hv187_4 hv187_5 hv187_6 hq187_0 hq187_1
        have h91513 := X187.at ha0
        obtain ⟨b91514, e91515, h91516⟩ := I187.fld (h91513) 10 13 2 rfl
        have hq187_1 := hq187_1 b91514 e91515
        refine s_iinc (lv0 := [(0, .ref a0), (2, .int a2), (4, .int a4), (5, .int v187_5)]) (m := 1) C dX12_guard_187 4 rfl (by decide) rfl (by decide) (by omega) (fun z91517 h91518 => ?_)
        have h91518 : z91517.toInt = v122_6.toInt + 1 := h91518
        refine g_goto C 122 dX12_guard_190 (by decide) ?_
        refine g_lv (lv' := [(0, .ref a0), (2, .int a2), (4, .int a4), (5, .int v187_5), (6, .int z91517)]) [1, 2, 3, 4, 0] rfl ?_
        exact ih122 P187 v187_5 z91517 (by omega) I187 X187 W187 (by omega) (by omega) (by omega) (by omega) (by omega) (fun b9 e9 => by rw [e91515] at e9; cases e9; omega)
      have J143 : ∀ (n143 : Nat) (P143 : PP) (v143_5 : Int32) (v143_7 : Int32), (64 - v143_7.toInt).toNat < n143 → (IM P143 a0) → (EM [0, 28, 29, 30, 31, 32, 35, 36, 37, 38, 41, 42] a0 P P143) → (MW P143 a0) → (0 ≤ a2.toInt ∧ a2.toInt ≤ 1) → (0 ≤ a4.toInt ∧ a4.toInt ≤ 19) → (2 ≤ v143_5.toInt ∧ v143_5.toInt ≤ 4) → (0 ≤ v122_6.toInt ∧ v122_6.toInt ≤ 63) → (1 ≤ v143_7.toInt ∧ v143_7.toInt ≤ 64) → (0 ≤ (pI P143 a0 0).toInt ∧ (pI P143 a0 0).toInt ≤ 0) → (∀ b, pR P143 a0 10 = some b → 1 ≤ (pI P143 b (a2.toInt.toNat)).toInt ∧ (pI P143 b (a2.toInt.toNat)).toInt ≤ 16) → G E ({ frames := 5, cells := 0, slots := 0, locals := 320 } : Room) D cy 9 P143 0 0 143 [(0, .ref a0), (2, .int a2), (4, .int a4), (5, .int v143_5), (6, .int v122_6), (7, .int v143_7)] [] := by
        intro n143
        induction n143 with
        | zero => intro P143 v143_5 v143_7 hm143 I143 X143 W143 hv143_2 hv143_4 hv143_5 hv143_6 hv143_7 hq143_0 hq143_1; omega
        | succ n143 ih143 =>
          intro P143 v143_5 v143_7 hm143 I143 X143 W143 hv143_2 hv143_4 hv143_5 hv143_6 hv143_7 hq143_0 hq143_1
          have h91519 := X143.at ha0
          obtain ⟨b91520, e91521, h91522⟩ := I143.fld (h91519) 10 13 2 rfl
          have hq143_1 := hq143_1 b91520 e91521
          have J179 : ∀ (P179 : PP) (v179_s0 : Int32), (IM P179 a0) → (EM [0, 28, 29, 30, 31, 32, 35, 36, 37, 38, 41, 42] a0 P P179) → (MW P179 a0) → (0 ≤ a2.toInt ∧ a2.toInt ≤ 1) → (0 ≤ a4.toInt ∧ a4.toInt ≤ 19) → (0 ≤ v122_6.toInt ∧ v122_6.toInt ≤ 63) → (1 ≤ v143_7.toInt ∧ v143_7.toInt ≤ 63) → (2 ≤ v179_s0.toInt ∧ v179_s0.toInt ≤ 4) → (0 ≤ (pI P179 a0 0).toInt ∧ (pI P179 a0 0).toInt ≤ 0) → (∀ b, pR P179 a0 10 = some b → 1 ≤ (pI P179 b (a2.toInt.toNat)).toInt ∧ (pI P179 b (a2.toInt.toNat)).toInt ≤ 16) → G E ({ frames := 5, cells := 0, slots := 0, locals := 320 } : Room) D cy 9 P179 0 0 179 [(0, .ref a0), (2, .int a2), (4, .int a4), (6, .int v122_6), (7, .int v143_7)] [.int v179_s0] := by
            intro P179 v179_s0 I179 X179 W179 hv179_2 hv179_4 hv179_6 hv179_7 hv179_s0 hq179_0 hq179_1
            have h91523 := X179.at ha0
            obtain ⟨b91524, e91525, h91526⟩ := I179.fld (h91523) 10 13 2 rfl
            have hq179_1 := hq179_1 b91524 e91525
            refine g_istore (lv' := [(5, .int v179_s0), (0, .ref a0), (2, .int a2), (4, .int a4), (6, .int v122_6), (7, .int v143_7)]) C dX12_guard_179 (by decide) rfl ?_
            refine s_iinc (lv0 := [(5, .int v179_s0), (0, .ref a0), (2, .int a2), (4, .int a4), (6, .int v122_6)]) (m := 1) C dX12_guard_181 5 rfl (by decide) rfl (by decide) (by omega) (fun z91527 h91528 => ?_)
            have h91528 : z91527.toInt = v143_7.toInt + 1 := h91528
            refine g_goto C 143 dX12_guard_184 (by decide) ?_
            refine g_lv (lv' := [(0, .ref a0), (2, .int a2), (4, .int a4), (5, .int v179_s0), (6, .int v122_6), (7, .int z91527)]) [2, 3, 4, 1, 5, 0] rfl ?_
            exact ih143 P179 v179_s0 z91527 (by omega) I179 X179 W179 (by omega) (by omega) (by omega) (by omega) (by omega) (by omega) (fun b9 e9 => by rw [e91525] at e9; cases e9; omega)
          refine g_iload C dX12_guard_143 5 rfl ?_
          refine g_aload_n C dX12_guard_145 rfl 0 rfl ?_
          refine g_getI C fi_X12_305 (by decide) (h91519).1 (h91519).2 dX12_guard_146 ?_
          have h91529 := I143.rg (h91519) 28 rfl
          refine b_icmp_ge C 187 dX12_guard_149 (by decide) (fun h91530 => ?_) (fun h91530 => ?_)
          · have h91530 : (pI P143 a0 28).toInt ≤ v143_7.toInt := h91530
            refine g_lv (lv' := [(0, .ref a0), (2, .int a2), (4, .int a4), (5, .int v143_5), (6, .int v122_6)]) [0, 1, 2, 3, 4] rfl ?_
            exact J187 P143 v143_5 I143 X143 W143 (by omega) (by omega) (by omega) (by omega) (by omega) (fun b9 e9 => by rw [e91521] at e9; cases e9; omega)
          · have h91530 : v143_7.toInt < (pI P143 a0 28).toInt := h91530
            refine g_iload C dX12_guard_152 3 rfl ?_
            refine g_iconst (v := 2) C dX12_guard_154 (by decide) ?_
            refine b_icmp_le C 187 dX12_guard_155 (by decide) (fun h91531 => ?_) (fun h91531 => ?_)
            · have h91531 : v143_5.toInt ≤ 2 := h91531
              refine g_lv (lv' := [(0, .ref a0), (2, .int a2), (4, .int a4), (5, .int v143_5), (6, .int v122_6)]) [0, 1, 2, 3, 4] rfl ?_
              exact J187 P143 v143_5 I143 X143 W143 (by omega) (by omega) (by omega) (by omega) (by omega) (fun b9 e9 => by rw [e91521] at e9; cases e9; omega)
            · have h91531 : 2 < v143_5.toInt := h91531
              refine g_aload_n C dX12_guard_158 rfl 0 rfl ?_
              refine g_iload C dX12_guard_159 2 rfl ?_
              refine g_iload C dX12_guard_161 4 rfl ?_
              refine g_iload C dX12_guard_163 5 rfl ?_
              refine g_iload C dX12_guard_165 5 rfl ?_
              refine g_callVI (rest := []) C mv_X12_367 [.int a4, .int v122_6, .int v143_7, .int v143_7] (s_X12_isFixedWithout I143 (by omega) W143) (h91519).1 (h91519).2 rfl rfl (by decide) (Nat.le_of_ble_eq_true rfl) (by decide) dX12_guard_167 (fun r91532 Y91533 h91534 => ?_)
              obtain ⟨Iy91535, Xy91536, W91537, h91534⟩ := h91534
              have q91538 := Xy91536.keepF 0 (by decide)
              have q91539 := Xy91536.keepA e91521 (by decide) rfl (a2.toInt.toNat)
              have Xz91540 : EM [0, 28, 29, 30, 31, 32, 35, 36, 37, 38, 41, 42] a0 P Y91533 := EM.tr ha0 X143 (Xy91536.mono (by decide))
              have e91541 := Xy91536.ref h91519 (by decide) e91521
              have h91542 := Xy91536.at h91519
              have h91543 := Xy91536.ar h91522
              have h91534 : 0 ≤ r91532.toInt ∧ r91532.toInt ≤ 1 := h91534
              refine b_if_eq C 178 dX12_guard_170 (by decide) (fun h91544 => ?_) (fun h91544 => ?_)
              · have h91544 : r91532.toInt = 0 := congrArg Int32.toInt h91544
                refine g_iconst (v := 2) C dX12_guard_178 (by decide) ?_
                refine g_lv (lv' := [(0, .ref a0), (2, .int a2), (4, .int a4), (6, .int v122_6), (7, .int v143_7)]) [0, 1, 2, 4, 5] rfl ?_
                exact J179 Y91533 2 Iy91535 Xz91540 W91537 (by omega) (by omega) (by omega) (by omega) (by decide) (by omega) (fun b9 e9 => by rw [e91541] at e9; cases e9; omega)
              · have h91544 : r91532.toInt ≠ 0 := ti_ne h91544
                refine g_iload C dX12_guard_173 3 rfl ?_
                refine g_goto C 179 dX12_guard_175 (by decide) ?_
                refine g_lv (lv' := [(0, .ref a0), (2, .int a2), (4, .int a4), (6, .int v122_6), (7, .int v143_7)]) [0, 1, 2, 4, 5] rfl ?_
                exact J179 Y91533 v143_5 Iy91535 Xz91540 W91537 (by omega) (by omega) (by omega) (by omega) (by omega) (by omega) (fun b9 e9 => by rw [e91541] at e9; cases e9; omega)
      refine g_iload C dX12_guard_122 4 rfl ?_
      refine g_aload_n C dX12_guard_124 rfl 0 rfl ?_
      refine g_getI C fi_X12_305 (by decide) (h91509).1 (h91509).2 dX12_guard_125 ?_
      have h91545 := I122.rg (h91509) 28 rfl
      refine b_icmp_ge C 193 dX12_guard_128 (by decide) (fun h91546 => ?_) (fun h91546 => ?_)
      · have h91546 : (pI P122 a0 28).toInt ≤ v122_6.toInt := h91546
        refine g_lv (lv' := [(0, .ref a0), (2, .int a2), (4, .int a4), (5, .int v122_5)]) [0, 1, 2, 3] rfl ?_
        exact J193 P122 v122_5 I122 X122 W122 (by omega) (by omega) (by omega) (by omega) (fun b9 e9 => by rw [e91511] at e9; cases e9; omega)
      · have h91546 : v122_6.toInt < (pI P122 a0 28).toInt := h91546
        refine g_iload C dX12_guard_131 3 rfl ?_
        refine g_iconst (v := 2) C dX12_guard_133 (by decide) ?_
        refine b_icmp_le C 193 dX12_guard_134 (by decide) (fun h91547 => ?_) (fun h91547 => ?_)
        · have h91547 : v122_5.toInt ≤ 2 := h91547
          refine g_lv (lv' := [(0, .ref a0), (2, .int a2), (4, .int a4), (5, .int v122_5)]) [0, 1, 2, 3] rfl ?_
          exact J193 P122 v122_5 I122 X122 W122 (by omega) (by omega) (by omega) (by omega) (fun b9 e9 => by rw [e91511] at e9; cases e9; omega)
        · have h91547 : 2 < v122_5.toInt := h91547
          refine g_iload C dX12_guard_137 4 rfl ?_
          refine g_iconst (v := 1) C dX12_guard_139 (by decide) ?_
          refine s_iadd C dX12_guard_140 (by show -2147483648 ≤ v122_6.toInt + 1 ∧ v122_6.toInt + 1 ≤ 2147483647; omega) (fun z91548 h91549 => ?_)
          have h91549 : z91548.toInt = v122_6.toInt + 1 := h91549
          refine g_istore (lv' := [(7, .int z91548), (0, .ref a0), (2, .int a2), (4, .int a4), (5, .int v122_5), (6, .int v122_6)]) C dX12_guard_141 (by decide) rfl ?_
          refine g_lv (lv' := [(0, .ref a0), (2, .int a2), (4, .int a4), (5, .int v122_5), (6, .int v122_6), (7, .int z91548)]) [1, 2, 3, 4, 5, 0] rfl ?_
          exact J143 _ P122 v122_5 z91548 (Nat.lt_succ_self _) I122 X122 W122 (by omega) (by omega) (by omega) (by omega) (by omega) (by omega) (fun b9 e9 => by rw [e91511] at e9; cases e9; omega)
  have J114 : ∀ (P114 : PP) (v114_5 : Int32), (IM P114 a0) → (EM [0, 28, 29, 30, 31, 32, 35, 36, 37, 38, 41, 42] a0 P P114) → (MW P114 a0) → (0 ≤ a2.toInt ∧ a2.toInt ≤ 1) → (0 ≤ a4.toInt ∧ a4.toInt ≤ 19) → (1 ≤ v114_5.toInt ∧ v114_5.toInt ≤ 4) → (0 ≤ (pI P114 a0 0).toInt ∧ (pI P114 a0 0).toInt ≤ 0) → (∀ b, pR P114 a0 10 = some b → 1 ≤ (pI P114 b (a2.toInt.toNat)).toInt ∧ (pI P114 b (a2.toInt.toNat)).toInt ≤ 16) → G E ({ frames := 5, cells := 0, slots := 0, locals := 320 } : Room) D cy 9 P114 0 0 114 [(0, .ref a0), (2, .int a2), (4, .int a4), (5, .int v114_5)] [] := by
    intro P114 v114_5 I114 X114 W114 hv114_2 hv114_4 hv114_5 hq114_0 hq114_1
    have h91550 := X114.at ha0
    obtain ⟨b91551, e91552, h91553⟩ := I114.fld (h91550) 10 13 2 rfl
    have hq114_1 := hq114_1 b91551 e91552
    refine g_aload_n C dX12_guard_114 rfl 0 rfl ?_
    obtain ⟨b91554, e91555, h91556⟩ := I114.fld (h91550) 15 13 3 rfl
    refine g_getR C fi_X12_60 rfl e91555 (h91550).1 (h91550).2 dX12_guard_115 ?_
    refine g_iload_n C dX12_guard_118 rfl 1 rfl ?_
    refine g_iald (j := (a2.toInt.toNat)) C h91556.1 h91556.2.1 (ix_in h91556.2.2 (by omega)) dX12_guard_119 ?_
    have h91557 := I114.arr e91555 rfl (a2.toInt.toNat)
    refine g_topi (fun z91558 h91559 => ?_)
    have h91559 : z91558.toInt = (pI P114 b91554 (a2.toInt.toNat)).toInt := congrArg Int32.toInt h91559
    refine g_istore (lv' := [(6, .int z91558), (0, .ref a0), (2, .int a2), (4, .int a4), (5, .int v114_5)]) C dX12_guard_120 (by decide) rfl ?_
    refine g_lv (lv' := [(0, .ref a0), (2, .int a2), (4, .int a4), (5, .int v114_5), (6, .int z91558)]) [1, 2, 3, 4, 0] rfl ?_
    exact J122 _ P114 v114_5 z91558 (Nat.lt_succ_self _) I114 X114 W114 (by omega) (by omega) (by omega) (by omega) (by omega) (fun b9 e9 => by rw [e91552] at e9; cases e9; omega)
  have J70 : ∀ (n70 : Nat) (P70 : PP) (v70_5 : Int32) (v70_6 : Int32), (64 - v70_6.toInt).toNat < n70 → (IM P70 a0) → (EM [0, 28, 29, 30, 31, 32, 35, 36, 37, 38, 41, 42] a0 P P70) → (MW P70 a0) → (0 ≤ a2.toInt ∧ a2.toInt ≤ 1) → (0 ≤ a4.toInt ∧ a4.toInt ≤ 19) → (1 ≤ v70_5.toInt ∧ v70_5.toInt ≤ 4) → (0 ≤ v70_6.toInt ∧ v70_6.toInt ≤ 64) → (0 ≤ (pI P70 a0 0).toInt ∧ (pI P70 a0 0).toInt ≤ 0) → (∀ b, pR P70 a0 10 = some b → 1 ≤ (pI P70 b (a2.toInt.toNat)).toInt ∧ (pI P70 b (a2.toInt.toNat)).toInt ≤ 16) → G E ({ frames := 5, cells := 0, slots := 0, locals := 320 } : Room) D cy 9 P70 0 0 70 [(0, .ref a0), (2, .int a2), (4, .int a4), (5, .int v70_5), (6, .int v70_6)] [] := by
    intro n70
    induction n70 with
    | zero => intro P70 v70_5 v70_6 hm70 I70 X70 W70 hv70_2 hv70_4 hv70_5 hv70_6 hq70_0 hq70_1; omega
    | succ n70 ih70 =>
      intro P70 v70_5 v70_6 hm70 I70 X70 W70 hv70_2 hv70_4 hv70_5 hv70_6 hq70_0 hq70_1
      have h91560 := X70.at ha0
      obtain ⟨b91561, e91562, h91563⟩ := I70.fld (h91560) 10 13 2 rfl
      have hq70_1 := hq70_1 b91561 e91562
      have J106 : ∀ (P106 : PP) (v106_s0 : Int32), (IM P106 a0) → (EM [0, 28, 29, 30, 31, 32, 35, 36, 37, 38, 41, 42] a0 P P106) → (MW P106 a0) → (0 ≤ a2.toInt ∧ a2.toInt ≤ 1) → (0 ≤ a4.toInt ∧ a4.toInt ≤ 19) → (0 ≤ v70_6.toInt ∧ v70_6.toInt ≤ 63) → (1 ≤ v106_s0.toInt ∧ v106_s0.toInt ≤ 4) → (0 ≤ (pI P106 a0 0).toInt ∧ (pI P106 a0 0).toInt ≤ 0) → (∀ b, pR P106 a0 10 = some b → 1 ≤ (pI P106 b (a2.toInt.toNat)).toInt ∧ (pI P106 b (a2.toInt.toNat)).toInt ≤ 16) → G E ({ frames := 5, cells := 0, slots := 0, locals := 320 } : Room) D cy 9 P106 0 0 106 [(0, .ref a0), (2, .int a2), (4, .int a4), (6, .int v70_6)] [.int v106_s0] := by
        intro P106 v106_s0 I106 X106 W106 hv106_2 hv106_4 hv106_6 hv106_s0 hq106_0 hq106_1
        have h91564 := X106.at ha0
        obtain ⟨b91565, e91566, h91567⟩ := I106.fld (h91564) 10 13 2 rfl
        have hq106_1 := hq106_1 b91565 e91566
        refine g_istore (lv' := [(5, .int v106_s0), (0, .ref a0), (2, .int a2), (4, .int a4), (6, .int v70_6)]) C dX12_guard_106 (by decide) rfl ?_
        refine s_iinc (lv0 := [(5, .int v106_s0), (0, .ref a0), (2, .int a2), (4, .int a4)]) (m := 1) C dX12_guard_108 4 rfl (by decide) rfl (by decide) (by omega) (fun z91568 h91569 => ?_)
        have h91569 : z91568.toInt = v70_6.toInt + 1 := h91569
        refine g_goto C 70 dX12_guard_111 (by decide) ?_
        refine g_lv (lv' := [(0, .ref a0), (2, .int a2), (4, .int a4), (5, .int v106_s0), (6, .int z91568)]) [2, 3, 4, 1, 0] rfl ?_
        exact ih70 P106 v106_s0 z91568 (by omega) I106 X106 W106 (by omega) (by omega) (by omega) (by omega) (by omega) (fun b9 e9 => by rw [e91566] at e9; cases e9; omega)
      refine g_iload C dX12_guard_70 4 rfl ?_
      refine g_aload_n C dX12_guard_72 rfl 0 rfl ?_
      refine g_getI C fi_X12_305 (by decide) (h91560).1 (h91560).2 dX12_guard_73 ?_
      have h91570 := I70.rg (h91560) 28 rfl
      refine b_icmp_ge C 114 dX12_guard_76 (by decide) (fun h91571 => ?_) (fun h91571 => ?_)
      · have h91571 : (pI P70 a0 28).toInt ≤ v70_6.toInt := h91571
        refine g_lv (lv' := [(0, .ref a0), (2, .int a2), (4, .int a4), (5, .int v70_5)]) [0, 1, 2, 3] rfl ?_
        exact J114 P70 v70_5 I70 X70 W70 (by omega) (by omega) (by omega) (by omega) (fun b9 e9 => by rw [e91562] at e9; cases e9; omega)
      · have h91571 : v70_6.toInt < (pI P70 a0 28).toInt := h91571
        refine g_iload C dX12_guard_79 3 rfl ?_
        refine g_iconst (v := 1) C dX12_guard_81 (by decide) ?_
        refine b_icmp_le C 114 dX12_guard_82 (by decide) (fun h91572 => ?_) (fun h91572 => ?_)
        · have h91572 : v70_5.toInt ≤ 1 := h91572
          refine g_lv (lv' := [(0, .ref a0), (2, .int a2), (4, .int a4), (5, .int v70_5)]) [0, 1, 2, 3] rfl ?_
          exact J114 P70 v70_5 I70 X70 W70 (by omega) (by omega) (by omega) (by omega) (fun b9 e9 => by rw [e91562] at e9; cases e9; omega)
        · have h91572 : 1 < v70_5.toInt := h91572
          refine g_aload_n C dX12_guard_85 rfl 0 rfl ?_
          refine g_iload C dX12_guard_86 2 rfl ?_
          refine g_iload C dX12_guard_88 4 rfl ?_
          refine g_iload C dX12_guard_90 4 rfl ?_
          refine g_iload C dX12_guard_92 4 rfl ?_
          refine g_callVI (rest := []) C mv_X12_367 [.int a4, .int v70_6, .int v70_6, .int v70_6] (s_X12_isFixedWithout I70 (by omega) W70) (h91560).1 (h91560).2 rfl rfl (by decide) (Nat.le_of_ble_eq_true rfl) (by decide) dX12_guard_94 (fun r91573 Y91574 h91575 => ?_)
          obtain ⟨Iy91576, Xy91577, W91578, h91575⟩ := h91575
          have q91579 := Xy91577.keepF 0 (by decide)
          have q91580 := Xy91577.keepA e91562 (by decide) rfl (a2.toInt.toNat)
          have Xz91581 : EM [0, 28, 29, 30, 31, 32, 35, 36, 37, 38, 41, 42] a0 P Y91574 := EM.tr ha0 X70 (Xy91577.mono (by decide))
          have e91582 := Xy91577.ref h91560 (by decide) e91562
          have h91583 := Xy91577.at h91560
          have h91584 := Xy91577.ar h91563
          have h91575 : 0 ≤ r91573.toInt ∧ r91573.toInt ≤ 1 := h91575
          refine b_if_eq C 105 dX12_guard_97 (by decide) (fun h91585 => ?_) (fun h91585 => ?_)
          · have h91585 : r91573.toInt = 0 := congrArg Int32.toInt h91585
            refine g_iconst (v := 1) C dX12_guard_105 (by decide) ?_
            refine g_lv (lv' := [(0, .ref a0), (2, .int a2), (4, .int a4), (6, .int v70_6)]) [0, 1, 2, 4] rfl ?_
            exact J106 Y91574 1 Iy91576 Xz91581 W91578 (by omega) (by omega) (by omega) (by decide) (by omega) (fun b9 e9 => by rw [e91582] at e9; cases e9; omega)
          · have h91585 : r91573.toInt ≠ 0 := ti_ne h91585
            refine g_iload C dX12_guard_100 3 rfl ?_
            refine g_goto C 106 dX12_guard_102 (by decide) ?_
            refine g_lv (lv' := [(0, .ref a0), (2, .int a2), (4, .int a4), (6, .int v70_6)]) [0, 1, 2, 4] rfl ?_
            exact J106 Y91574 v70_5 Iy91576 Xz91581 W91578 (by omega) (by omega) (by omega) (by omega) (by omega) (fun b9 e9 => by rw [e91582] at e9; cases e9; omega)
  have J25 : ∀ (P25 : PP), (IM P25 a0) → (EM [0, 28, 29, 30, 31, 32, 35, 36, 37, 38, 41, 42] a0 P P25) → (MW P25 a0) → (0 ≤ (pI P25 a0 0).toInt ∧ (pI P25 a0 0).toInt ≤ 0) → G E ({ frames := 5, cells := 0, slots := 0, locals := 320 } : Room) D cy 9 P25 0 0 25 [] [] := by
    intro P25 I25 X25 W25 hq25_0
    have h91586 := X25.at ha0
    refine g_iconst (v := (-1)) C dX12_guard_25 (by decide) ?_
    exact ret _ _ _ _ _ _ dX12_guard_26 rfl (by decide) (by decide) ⟨I25, X25, W25, (by decide)⟩
  refine g_aload_n C dX12_guard_0 rfl 0 rfl ?_
  refine g_iconst (v := 0) C dX12_guard_1 (by decide) ?_
  refine g_putI C fi_X12_1 rfl (ha0).1 (ha0).2 dX12_guard_2 ?_
  refine gqW (ks := [0]) (I.setI (rgOk.of rfl (by decide))) (EM.setI I (by decide)) (fun Y91587 Iy91588 Xy91589 w91590  => ?_)
  have w91590 : (pI Y91587 a0 0).toInt = 0 := w91590
  have W91591 := hW.keep I Xy91589 (by decide) (by decide) (by decide)
  have Xz91592 : EM [0, 28, 29, 30, 31, 32, 35, 36, 37, 38, 41, 42] a0 P Y91587 := Xy91589.mono (by decide)
  have h91593 := Xy91589.at ha0
  refine g_aload_n C dX12_guard_5 rfl 0 rfl ?_
  refine g_iload_n C dX12_guard_6 rfl 1 rfl ?_
  refine g_iload_n C dX12_guard_7 rfl 2 rfl ?_
  refine g_iload_n C dX12_guard_8 rfl 3 rfl ?_
  refine g_callVI (rest := []) C mv_X12_333 [.int a1, .int a2, .int a3] (s_X12_isAsked Iy91588 W91591) (h91593).1 (h91593).2 rfl rfl (by decide) (Nat.le_of_ble_eq_true rfl) (by decide) dX12_guard_9 (fun r91594 Y91595 h91596 => ?_)
  obtain ⟨rfl, h91596⟩ := h91596
  obtain ⟨h91596, hi91597, hi91598⟩ := h91596
  have hi91597 : r91594.toInt = 0 ∨ (((0 : Int) ≤ a1.toInt ∧ a1.toInt ≤ (3 : Int)) ∧ ((0 : Int) ≤ a2.toInt ∧ a2.toInt ≤ (1 : Int)) ∧ ((0 : Int) ≤ a3.toInt ∧ a3.toInt ≤ (1 : Int))) := hi91597
  have h91596 : 0 ≤ r91594.toInt ∧ r91594.toInt ≤ 1 := h91596
  refine b_if_eq C 25 dX12_guard_12 (by decide) (fun h91599 => ?_) (fun h91599 => ?_)
  · have h91599 : r91594.toInt = 0 := congrArg Int32.toInt h91599
    clear hi91597
    refine g_lv (lv' := []) [] rfl ?_
    exact J25 Y91587 Iy91588 Xz91592 W91591 (by omega)
  · have h91599 : r91594.toInt ≠ 0 := ti_ne h91599
    replace hi91597 := hi91597.resolve_left (by omega)
    obtain ⟨b91600, e91601, h91602⟩ := Iy91588.fld (h91593) 10 13 2 rfl
    have hi91598 := (hi91598.resolve_left (by omega)) b91600 e91601
    have hi91598 : 0 < (pI Y91587 b91600 (a2.toInt.toNat)).toInt := hi91598
    have h91603 := Iy91588.arr e91601 rfl (a2.toInt.toNat)
    refine g_aload_n C dX12_guard_15 rfl 0 rfl ?_
    refine g_iload_n C dX12_guard_16 rfl 2 rfl ?_
    refine g_iload C dX12_guard_17 4 rfl ?_
    refine g_callVI (rest := []) C mv_X12_352 [.int a2, .int a4] (s_X12_isPage Iy91588 (by omega) W91591) (h91593).1 (h91593).2 rfl rfl (by decide) (Nat.le_of_ble_eq_true rfl) (by decide) dX12_guard_19 (fun r91604 Y91605 h91606 => ?_)
    obtain ⟨rfl, h91606⟩ := h91606
    obtain ⟨h91606, hi91607⟩ := h91606
    have hi91607 : r91604.toInt = 0 ∨ (((0 : Int) ≤ a4.toInt ∧ a4.toInt ≤ (19 : Int))) := hi91607
    have h91606 : 0 ≤ r91604.toInt ∧ r91604.toInt ≤ 1 := h91606
    refine b_if_ne C 27 dX12_guard_22 (by decide) (fun h91608 => ?_) (fun h91608 => ?_)
    · have h91608 : r91604.toInt ≠ 0 := ti_ne h91608
      replace hi91607 := hi91607.resolve_left (by omega)
      refine g_aload_n C dX12_guard_27 rfl 0 rfl ?_
      refine g_callVV (rest := []) C mv_X12_336 [] (s_X12_leavesNone Iy91588 W91591) (h91593).1 (h91593).2 rfl rfl (by decide) (Nat.le_of_ble_eq_true rfl) (by decide) dX12_guard_28 (fun Y91610 h91611 => ?_)
      obtain ⟨Iy91612, Xy91613, W91614⟩ := h91611
      have q91615 := Xy91613.keepF 0 (by decide)
      have q91616 := Xy91613.keepA e91601 (by decide) rfl (a2.toInt.toNat)
      have Xz91617 : EM [0, 28, 29, 30, 31, 32, 35, 36, 37, 38, 41, 42] a0 P Y91610 := EM.tr ha0 Xz91592 (Xy91613.mono (by decide))
      have e91618 := Xy91613.ref h91593 (by decide) e91601
      have h91619 := Xy91613.at h91593
      have h91620 := Xy91613.ar h91602
      refine g_aload_n C dX12_guard_31 rfl 0 rfl ?_
      refine g_iload_n C dX12_guard_32 rfl 1 rfl ?_
      refine g_iload_n C dX12_guard_33 rfl 2 rfl ?_
      refine g_iload_n C dX12_guard_34 rfl 3 rfl ?_
      refine g_aload_n C dX12_guard_35 rfl 0 rfl ?_
      obtain ⟨b91621, e91622, h91623⟩ := Iy91612.fld (h91619) 20 13 20 rfl
      refine g_getR C fi_X12_69 rfl e91622 (h91619).1 (h91619).2 dX12_guard_36 ?_
      refine g_iload_n C dX12_guard_39 rfl 1 rfl ?_
      refine g_iald (j := (a1.toInt.toNat)) C h91623.1 h91623.2.1 (ix_in h91623.2.2 (by omega)) dX12_guard_40 ?_
      have h91624 := Iy91612.arr e91622 rfl (a1.toInt.toNat)
      refine g_callVV (rest := []) C mv_X12_339 [.int a1, .int a2, .int a3, .int (pI Y91610 b91621 (a1.toInt.toNat))] (s_X12_gathers Iy91612 (by omega) (by omega) (by omega) (fun b9 e9 => by rw [e91618] at e9; cases e9; show 1 ≤ (pI Y91610 b91600 (a2.toInt.toNat)).toInt ∧ (pI Y91610 b91600 (a2.toInt.toNat)).toInt ≤ 16; omega) W91614) (h91619).1 (h91619).2 rfl rfl (by decide) (Nat.le_of_ble_eq_true rfl) (by decide) dX12_guard_41 (fun Y91626 h91627 => ?_)
      obtain ⟨Iy91628, Xy91629, W91630, p91631, p91632⟩ := h91627
      have p91631 : (pI Y91626 a0 28).toInt ≤ 4 + (pI Y91610 b91621 (a1.toInt.toNat)).toInt := p91631
      have q91633 := Xy91629.keepF 0 (by decide)
      have q91634 := Xy91629.keepA e91618 (by decide) rfl (a2.toInt.toNat)
      have q91635 := Xy91629.keepA e91622 (by decide) rfl (a1.toInt.toNat)
      have Xz91636 : EM [0, 28, 29, 30, 31, 32, 35, 36, 37, 38, 41, 42] a0 P Y91626 := EM.tr ha0 Xz91617 (Xy91629.mono (by decide))
      have e91637 := Xy91629.ref h91619 (by decide) e91618
      have e91638 := Xy91629.ref h91619 (by decide) e91622
      have h91639 := Xy91629.at h91619
      have h91640 := Xy91629.ar h91620
      have h91641 := Xy91629.ar h91623
      obtain ⟨b91642, e91643, h91644⟩ := Iy91628.fld (h91639) 22 13 800 rfl
      have p91632 := p91632 b91642 e91643
      rw [Xz91636.2.2.2 22 (by decide) rfl b91642 (EM.refB Xz91636 ha0 e91643)] at p91632
      have p91632 : (pI Y91626 a0 28).toInt ≤ 4 + kC (pI P b91642) (40 * a1.toInt).toNat a2.toInt ((pI Y91610 b91621 (a1.toInt.toNat)).toInt : Int).toNat := p91632
      have h91645 := Iy91628.rg h91639 28 rfl
      refine g_aload_n C dX12_guard_44 rfl 0 rfl ?_
      refine g_callVV (rest := []) C mv_X12_346 [] (s_X12_findSolved Iy91628 W91630) (h91639).1 (h91639).2 rfl rfl (by decide) (Nat.le_of_ble_eq_true rfl) (by decide) dX12_guard_45 (fun Y91647 h91648 => ?_)
      obtain ⟨Iy91649, Xy91650, W91651⟩ := h91648
      have q91652 := Xy91650.keepF 0 (by decide)
      have q91653 := Xy91650.keepA e91637 (by decide) rfl (a2.toInt.toNat)
      have q91654 := Xy91650.keepA e91638 (by decide) rfl (a1.toInt.toNat)
      have q91655 := Xy91650.keepF 28 (by decide)
      have Xz91656 : EM [0, 28, 29, 30, 31, 32, 35, 36, 37, 38, 41, 42] a0 P Y91647 := EM.tr ha0 Xz91636 (Xy91650.mono (by decide))
      have e91657 := Xy91650.ref h91639 (by decide) e91637
      have e91658 := Xy91650.ref h91639 (by decide) e91638
      have h91659 := Xy91650.at h91639
      have h91660 := Xy91650.ar h91640
      have h91661 := Xy91650.ar h91641
      refine g_aload_n C dX12_guard_48 rfl 0 rfl ?_
      refine g_iload C dX12_guard_49 4 rfl ?_
      refine g_callVI (rest := []) C mv_X12_330 [.int a4] (s_X12_isFixed Iy91649 (by omega) W91651) (h91659).1 (h91659).2 rfl rfl (by decide) (Nat.le_of_ble_eq_true rfl) (by decide) dX12_guard_51 (fun r91662 Y91663 h91664 => ?_)
      obtain ⟨rfl, h91664⟩ := h91664
      have h91664 : 0 ≤ r91662.toInt ∧ r91662.toInt ≤ 1 := h91664
      refine b_if_ne C 59 dX12_guard_54 (by decide) (fun h91665 => ?_) (fun h91665 => ?_)
      · have h91665 : r91662.toInt ≠ 0 := ti_ne h91665
        refine g_iconst (v := 4) C dX12_guard_59 (by decide) ?_
        refine g_istore (lv' := [(5, .int 4), (0, .ref a0), (1, .int a1), (2, .int a2), (3, .int a3), (4, .int a4)]) C dX12_guard_60 (by decide) rfl ?_
        refine g_aload_n C dX12_guard_62 rfl 1 rfl ?_
        obtain ⟨b91666, e91667, h91668⟩ := Iy91649.fld (h91659) 15 13 3 rfl
        refine g_getR C fi_X12_60 rfl e91667 (h91659).1 (h91659).2 dX12_guard_63 ?_
        refine g_iload_n C dX12_guard_66 rfl 3 rfl ?_
        refine g_iald (j := (a2.toInt.toNat)) C h91668.1 h91668.2.1 (ix_in h91668.2.2 (by omega)) dX12_guard_67 ?_
        have h91669 := Iy91649.arr e91667 rfl (a2.toInt.toNat)
        refine g_topi (fun z91670 h91671 => ?_)
        have h91671 : z91670.toInt = (pI Y91647 b91666 (a2.toInt.toNat)).toInt := congrArg Int32.toInt h91671
        refine g_istore (lv' := [(6, .int z91670), (5, .int 4), (0, .ref a0), (1, .int a1), (2, .int a2), (3, .int a3), (4, .int a4)]) C dX12_guard_68 (by decide) rfl ?_
        refine g_lv (lv' := [(0, .ref a0), (2, .int a2), (4, .int a4), (5, .int 4), (6, .int z91670)]) [2, 4, 6, 1, 0] rfl ?_
        exact J70 _ Y91647 4 z91670 (Nat.lt_succ_self _) Iy91649 Xz91656 W91651 (by omega) (by omega) (by decide) (by omega) (by omega) (fun b9 e9 => by rw [e91657] at e9; cases e9; omega)
      · have h91665 : r91662.toInt = 0 := congrArg Int32.toInt h91665
        refine g_iconst (v := (-1)) C dX12_guard_57 (by decide) ?_
        exact ret _ _ _ _ _ _ dX12_guard_58 rfl (by decide) (by decide) ⟨Iy91649, Xz91656, W91651, (by decide)⟩
    · have h91608 : r91604.toInt = 0 := congrArg Int32.toInt h91608
      clear hi91607
      refine g_lv (lv' := []) [] rfl ?_
      exact J25 Y91587 Iy91588 Xz91592 W91591 (by omega)
theorem dX12_hasAlike_0 : decode cX12_hasAlike 0 = .ok (.iconst 0, 1) := by decide +kernel
theorem dX12_hasAlike_1 : decode cX12_hasAlike 1 = .ok (.istore_n 3, 1) := by decide +kernel
theorem dX12_hasAlike_2 : decode cX12_hasAlike 2 = .ok (.iconst 0, 1) := by decide +kernel
theorem dX12_hasAlike_3 : decode cX12_hasAlike 3 = .ok (.istore 4, 2) := by decide +kernel
theorem dX12_hasAlike_5 : decode cX12_hasAlike 5 = .ok (.iload 4, 2) := by decide +kernel
theorem dX12_hasAlike_7 : decode cX12_hasAlike 7 = .ok (.aload_n 0, 1) := by decide +kernel
theorem dX12_hasAlike_8 : decode cX12_hasAlike 8 = .ok (.getfield 69, 3) := by decide +kernel
theorem dX12_hasAlike_11 : decode cX12_hasAlike 11 = .ok (.iload_n 1, 1) := by decide +kernel
theorem dX12_hasAlike_12 : decode cX12_hasAlike 12 = .ok (.iaload, 1) := by decide +kernel
theorem dX12_hasAlike_13 : decode cX12_hasAlike 13 = .ok (.if_icmp .ge 45, 3) := by decide +kernel
theorem dX12_hasAlike_16 : decode cX12_hasAlike 16 = .ok (.iload_n 3, 1) := by decide +kernel
theorem dX12_hasAlike_17 : decode cX12_hasAlike 17 = .ok (.ifCond .ne 29, 3) := by decide +kernel
theorem dX12_hasAlike_20 : decode cX12_hasAlike 20 = .ok (.bipush 40, 2) := by decide +kernel
theorem dX12_hasAlike_22 : decode cX12_hasAlike 22 = .ok (.iload_n 1, 1) := by decide +kernel
theorem dX12_hasAlike_23 : decode cX12_hasAlike 23 = .ok (.imul, 1) := by decide +kernel
theorem dX12_hasAlike_24 : decode cX12_hasAlike 24 = .ok (.iload 4, 2) := by decide +kernel
theorem dX12_hasAlike_26 : decode cX12_hasAlike 26 = .ok (.iadd, 1) := by decide +kernel
theorem dX12_hasAlike_27 : decode cX12_hasAlike 27 = .ok (.iload_n 2, 1) := by decide +kernel
theorem dX12_hasAlike_28 : decode cX12_hasAlike 28 = .ok (.if_icmp .eq 22, 3) := by decide +kernel
theorem dX12_hasAlike_31 : decode cX12_hasAlike 31 = .ok (.aload_n 0, 1) := by decide +kernel
theorem dX12_hasAlike_32 : decode cX12_hasAlike 32 = .ok (.bipush 40, 2) := by decide +kernel
theorem dX12_hasAlike_34 : decode cX12_hasAlike 34 = .ok (.iload_n 1, 1) := by decide +kernel
theorem dX12_hasAlike_35 : decode cX12_hasAlike 35 = .ok (.imul, 1) := by decide +kernel
theorem dX12_hasAlike_36 : decode cX12_hasAlike 36 = .ok (.iload 4, 2) := by decide +kernel
theorem dX12_hasAlike_38 : decode cX12_hasAlike 38 = .ok (.iadd, 1) := by decide +kernel
theorem dX12_hasAlike_39 : decode cX12_hasAlike 39 = .ok (.iload_n 2, 1) := by decide +kernel
theorem dX12_hasAlike_40 : decode cX12_hasAlike 40 = .ok (.invokevirtual 399, 3) := by decide +kernel
theorem dX12_hasAlike_58 : decode cX12_hasAlike 58 = .ok (.iload_n 3, 1) := by decide +kernel
theorem dX12_hasAlike_59 : decode cX12_hasAlike 59 = .ok (.ireturn, 1) := by decide +kernel
theorem dX12_isAlike_0 : decode cX12_isAlike 0 = .ok (.aload_n 0, 1) := by decide +kernel
theorem dX12_isAlike_1 : decode cX12_isAlike 1 = .ok (.getfield 72, 3) := by decide +kernel
theorem dX12_isAlike_4 : decode cX12_isAlike 4 = .ok (.iload_n 1, 1) := by decide +kernel
theorem dX12_isAlike_5 : decode cX12_isAlike 5 = .ok (.iaload, 1) := by decide +kernel
theorem dX12_isAlike_6 : decode cX12_isAlike 6 = .ok (.aload_n 0, 1) := by decide +kernel
theorem dX12_isAlike_7 : decode cX12_isAlike 7 = .ok (.getfield 72, 3) := by decide +kernel
theorem dX12_isAlike_10 : decode cX12_isAlike 10 = .ok (.iload_n 2, 1) := by decide +kernel
theorem dX12_isAlike_11 : decode cX12_isAlike 11 = .ok (.iaload, 1) := by decide +kernel
theorem dX12_isAlike_12 : decode cX12_isAlike 12 = .ok (.if_icmp .ne 67, 3) := by decide +kernel
theorem dX12_isAlike_15 : decode cX12_isAlike 15 = .ok (.aload_n 0, 1) := by decide +kernel
theorem dX12_isAlike_16 : decode cX12_isAlike 16 = .ok (.getfield 75, 3) := by decide +kernel
theorem dX12_isAlike_19 : decode cX12_isAlike 19 = .ok (.iload_n 1, 1) := by decide +kernel
theorem dX12_isAlike_20 : decode cX12_isAlike 20 = .ok (.iaload, 1) := by decide +kernel
theorem dX12_isAlike_21 : decode cX12_isAlike 21 = .ok (.aload_n 0, 1) := by decide +kernel
theorem dX12_isAlike_22 : decode cX12_isAlike 22 = .ok (.getfield 75, 3) := by decide +kernel
theorem dX12_isAlike_25 : decode cX12_isAlike 25 = .ok (.iload_n 2, 1) := by decide +kernel
theorem dX12_isAlike_26 : decode cX12_isAlike 26 = .ok (.iaload, 1) := by decide +kernel
theorem dX12_isAlike_27 : decode cX12_isAlike 27 = .ok (.if_icmp .ne 52, 3) := by decide +kernel
theorem dX12_isAlike_30 : decode cX12_isAlike 30 = .ok (.aload_n 0, 1) := by decide +kernel
theorem dX12_isAlike_31 : decode cX12_isAlike 31 = .ok (.getfield 78, 3) := by decide +kernel
theorem dX12_isAlike_34 : decode cX12_isAlike 34 = .ok (.iload_n 1, 1) := by decide +kernel
theorem dX12_isAlike_35 : decode cX12_isAlike 35 = .ok (.iaload, 1) := by decide +kernel
theorem dX12_isAlike_36 : decode cX12_isAlike 36 = .ok (.aload_n 0, 1) := by decide +kernel
theorem dX12_isAlike_37 : decode cX12_isAlike 37 = .ok (.getfield 78, 3) := by decide +kernel
theorem dX12_isAlike_40 : decode cX12_isAlike 40 = .ok (.iload_n 2, 1) := by decide +kernel
theorem dX12_isAlike_41 : decode cX12_isAlike 41 = .ok (.iaload, 1) := by decide +kernel
theorem dX12_isAlike_42 : decode cX12_isAlike 42 = .ok (.if_icmp .ne 37, 3) := by decide +kernel
theorem dX12_isAlike_45 : decode cX12_isAlike 45 = .ok (.aload_n 0, 1) := by decide +kernel
theorem dX12_isAlike_46 : decode cX12_isAlike 46 = .ok (.getfield 81, 3) := by decide +kernel
theorem dX12_isAlike_49 : decode cX12_isAlike 49 = .ok (.iload_n 1, 1) := by decide +kernel
theorem dX12_isAlike_50 : decode cX12_isAlike 50 = .ok (.iaload, 1) := by decide +kernel
theorem dX12_isAlike_51 : decode cX12_isAlike 51 = .ok (.aload_n 0, 1) := by decide +kernel
theorem dX12_isAlike_52 : decode cX12_isAlike 52 = .ok (.getfield 81, 3) := by decide +kernel
theorem dX12_isAlike_55 : decode cX12_isAlike 55 = .ok (.iload_n 2, 1) := by decide +kernel
theorem dX12_isAlike_56 : decode cX12_isAlike 56 = .ok (.iaload, 1) := by decide +kernel
theorem dX12_isAlike_57 : decode cX12_isAlike 57 = .ok (.if_icmp .ne 22, 3) := by decide +kernel
theorem dX12_isAlike_60 : decode cX12_isAlike 60 = .ok (.aload_n 0, 1) := by decide +kernel
theorem dX12_isAlike_61 : decode cX12_isAlike 61 = .ok (.getfield 84, 3) := by decide +kernel
theorem dX12_isAlike_64 : decode cX12_isAlike 64 = .ok (.iload_n 1, 1) := by decide +kernel
theorem dX12_isAlike_65 : decode cX12_isAlike 65 = .ok (.iaload, 1) := by decide +kernel
theorem dX12_isAlike_66 : decode cX12_isAlike 66 = .ok (.aload_n 0, 1) := by decide +kernel
theorem dX12_isAlike_67 : decode cX12_isAlike 67 = .ok (.getfield 84, 3) := by decide +kernel
theorem dX12_isAlike_70 : decode cX12_isAlike 70 = .ok (.iload_n 2, 1) := by decide +kernel
theorem dX12_isAlike_71 : decode cX12_isAlike 71 = .ok (.iaload, 1) := by decide +kernel
theorem dX12_isAlike_72 : decode cX12_isAlike 72 = .ok (.if_icmp .ne 7, 3) := by decide +kernel
theorem dX12_isAlike_75 : decode cX12_isAlike 75 = .ok (.iconst 1, 1) := by decide +kernel
theorem dX12_isAlike_76 : decode cX12_isAlike 76 = .ok (.goto 4, 3) := by decide +kernel
theorem dX12_isAlike_79 : decode cX12_isAlike 79 = .ok (.iconst 0, 1) := by decide +kernel
theorem dX12_isAlike_80 : decode cX12_isAlike 80 = .ok (.ireturn, 1) := by decide +kernel
set_option maxHeartbeats 4000000 in
set_option maxRecDepth 100000 in
theorem s_X12_isAlike {P : PP} {a0 : Nat} {a1 : Int32} {a2 : Int32} (I : IM P a0) (ha1 : 0 ≤ a1.toInt ∧ a1.toInt ≤ 799) (ha2 : 0 ≤ a2.toInt ∧ a2.toInt ≤ 799) (hW : MW P a0) : CtrI yX12_isAlike cX12_isAlike 3 (some Jvm.ClassFile.FieldType.boolean) ({ frames := 1, cells := 0, slots := 0, locals := 64 } : Room) 0 0 P [.ref a0, .int a1, .int a2] (fun r P2 => P = P2 ∧ (0 ≤ r.toInt ∧ r.toInt ≤ 1)) := by
  refine enI (lv := [(0, .ref a0), (1, .int a1), (2, .int a2)]) (by decide) (Nat.le_of_ble_eq_true rfl) rfl (fun E D cy C Ci0 ret => ?_)
  have ha0 := I.2.1
  have J79 : G E ({ frames := 1, cells := 0, slots := 0, locals := 64 } : Room) D cy 3 P 0 0 79 [] [] := by
    refine g_iconst (v := 0) C dX12_isAlike_79 (by decide) ?_
    exact ret _ _ _ _ _ _ dX12_isAlike_80 rfl (by decide) (by decide) ⟨rfl, (by decide)⟩
  refine g_aload_n C dX12_isAlike_0 rfl 0 rfl ?_
  obtain ⟨b91717, e91718, h91719⟩ := I.fld (ha0) 21 13 800 rfl
  refine g_getR C fi_X12_72 rfl e91718 (ha0).1 (ha0).2 dX12_isAlike_1 ?_
  refine g_iload_n C dX12_isAlike_4 rfl 1 rfl ?_
  refine g_iald (j := (a1.toInt.toNat)) C h91719.1 h91719.2.1 (ix_in h91719.2.2 (by omega)) dX12_isAlike_5 ?_
  refine g_aload_n C dX12_isAlike_6 rfl 0 rfl ?_
  refine g_getR C fi_X12_72 rfl e91718 (ha0).1 (ha0).2 dX12_isAlike_7 ?_
  refine g_iload_n C dX12_isAlike_10 rfl 2 rfl ?_
  refine g_iald (j := (a2.toInt.toNat)) C h91719.1 h91719.2.1 (ix_in h91719.2.2 (by omega)) dX12_isAlike_11 ?_
  have u91721 := ti_rng (pI P b91717 (a1.toInt.toNat))
  have u91722 := ti_rng (pI P b91717 (a2.toInt.toNat))
  refine b_icmp_ne C 79 dX12_isAlike_12 (by decide) (fun h91720 => ?_) (fun h91720 => ?_)
  · have h91720 : (pI P b91717 (a1.toInt.toNat)).toInt ≠ (pI P b91717 (a2.toInt.toNat)).toInt := ti_ne h91720
    refine g_lv (lv' := []) [] rfl ?_
    exact J79 
  · have h91720 : (pI P b91717 (a1.toInt.toNat)).toInt = (pI P b91717 (a2.toInt.toNat)).toInt := congrArg Int32.toInt h91720
    refine g_aload_n C dX12_isAlike_15 rfl 0 rfl ?_
    obtain ⟨b91723, e91724, h91725⟩ := I.fld (ha0) 22 13 800 rfl
    refine g_getR C fi_X12_75 rfl e91724 (ha0).1 (ha0).2 dX12_isAlike_16 ?_
    refine g_iload_n C dX12_isAlike_19 rfl 1 rfl ?_
    refine g_iald (j := (a1.toInt.toNat)) C h91725.1 h91725.2.1 (ix_in h91725.2.2 (by omega)) dX12_isAlike_20 ?_
    have h91726 := I.arr e91724 rfl (a1.toInt.toNat)
    refine g_aload_n C dX12_isAlike_21 rfl 0 rfl ?_
    refine g_getR C fi_X12_75 rfl e91724 (ha0).1 (ha0).2 dX12_isAlike_22 ?_
    refine g_iload_n C dX12_isAlike_25 rfl 2 rfl ?_
    refine g_iald (j := (a2.toInt.toNat)) C h91725.1 h91725.2.1 (ix_in h91725.2.2 (by omega)) dX12_isAlike_26 ?_
    have h91727 := I.arr e91724 rfl (a2.toInt.toNat)
    refine b_icmp_ne C 79 dX12_isAlike_27 (by decide) (fun h91728 => ?_) (fun h91728 => ?_)
    · have h91728 : (pI P b91723 (a1.toInt.toNat)).toInt ≠ (pI P b91723 (a2.toInt.toNat)).toInt := ti_ne h91728
      refine g_lv (lv' := []) [] rfl ?_
      exact J79 
    · have h91728 : (pI P b91723 (a1.toInt.toNat)).toInt = (pI P b91723 (a2.toInt.toNat)).toInt := congrArg Int32.toInt h91728
      refine g_aload_n C dX12_isAlike_30 rfl 0 rfl ?_
      obtain ⟨b91729, e91730, h91731⟩ := I.fld (ha0) 23 13 800 rfl
      refine g_getR C fi_X12_78 rfl e91730 (ha0).1 (ha0).2 dX12_isAlike_31 ?_
      refine g_iload_n C dX12_isAlike_34 rfl 1 rfl ?_
      refine g_iald (j := (a1.toInt.toNat)) C h91731.1 h91731.2.1 (ix_in h91731.2.2 (by omega)) dX12_isAlike_35 ?_
      refine g_aload_n C dX12_isAlike_36 rfl 0 rfl ?_
      refine g_getR C fi_X12_78 rfl e91730 (ha0).1 (ha0).2 dX12_isAlike_37 ?_
      refine g_iload_n C dX12_isAlike_40 rfl 2 rfl ?_
      refine g_iald (j := (a2.toInt.toNat)) C h91731.1 h91731.2.1 (ix_in h91731.2.2 (by omega)) dX12_isAlike_41 ?_
      have u91733 := ti_rng (pI P b91729 (a1.toInt.toNat))
      have u91734 := ti_rng (pI P b91729 (a2.toInt.toNat))
      refine b_icmp_ne C 79 dX12_isAlike_42 (by decide) (fun h91732 => ?_) (fun h91732 => ?_)
      · have h91732 : (pI P b91729 (a1.toInt.toNat)).toInt ≠ (pI P b91729 (a2.toInt.toNat)).toInt := ti_ne h91732
        refine g_lv (lv' := []) [] rfl ?_
        exact J79 
      · have h91732 : (pI P b91729 (a1.toInt.toNat)).toInt = (pI P b91729 (a2.toInt.toNat)).toInt := congrArg Int32.toInt h91732
        refine g_aload_n C dX12_isAlike_45 rfl 0 rfl ?_
        obtain ⟨b91735, e91736, h91737⟩ := I.fld (ha0) 24 13 800 rfl
        refine g_getR C fi_X12_81 rfl e91736 (ha0).1 (ha0).2 dX12_isAlike_46 ?_
        refine g_iload_n C dX12_isAlike_49 rfl 1 rfl ?_
        refine g_iald (j := (a1.toInt.toNat)) C h91737.1 h91737.2.1 (ix_in h91737.2.2 (by omega)) dX12_isAlike_50 ?_
        refine g_aload_n C dX12_isAlike_51 rfl 0 rfl ?_
        refine g_getR C fi_X12_81 rfl e91736 (ha0).1 (ha0).2 dX12_isAlike_52 ?_
        refine g_iload_n C dX12_isAlike_55 rfl 2 rfl ?_
        refine g_iald (j := (a2.toInt.toNat)) C h91737.1 h91737.2.1 (ix_in h91737.2.2 (by omega)) dX12_isAlike_56 ?_
        have u91739 := ti_rng (pI P b91735 (a1.toInt.toNat))
        have u91740 := ti_rng (pI P b91735 (a2.toInt.toNat))
        refine b_icmp_ne C 79 dX12_isAlike_57 (by decide) (fun h91738 => ?_) (fun h91738 => ?_)
        · have h91738 : (pI P b91735 (a1.toInt.toNat)).toInt ≠ (pI P b91735 (a2.toInt.toNat)).toInt := ti_ne h91738
          refine g_lv (lv' := []) [] rfl ?_
          exact J79 
        · have h91738 : (pI P b91735 (a1.toInt.toNat)).toInt = (pI P b91735 (a2.toInt.toNat)).toInt := congrArg Int32.toInt h91738
          refine g_aload_n C dX12_isAlike_60 rfl 0 rfl ?_
          obtain ⟨b91741, e91742, h91743⟩ := I.fld (ha0) 25 13 800 rfl
          refine g_getR C fi_X12_84 rfl e91742 (ha0).1 (ha0).2 dX12_isAlike_61 ?_
          refine g_iload_n C dX12_isAlike_64 rfl 1 rfl ?_
          refine g_iald (j := (a1.toInt.toNat)) C h91743.1 h91743.2.1 (ix_in h91743.2.2 (by omega)) dX12_isAlike_65 ?_
          refine g_aload_n C dX12_isAlike_66 rfl 0 rfl ?_
          refine g_getR C fi_X12_84 rfl e91742 (ha0).1 (ha0).2 dX12_isAlike_67 ?_
          refine g_iload_n C dX12_isAlike_70 rfl 2 rfl ?_
          refine g_iald (j := (a2.toInt.toNat)) C h91743.1 h91743.2.1 (ix_in h91743.2.2 (by omega)) dX12_isAlike_71 ?_
          have u91745 := ti_rng (pI P b91741 (a1.toInt.toNat))
          have u91746 := ti_rng (pI P b91741 (a2.toInt.toNat))
          refine b_icmp_ne C 79 dX12_isAlike_72 (by decide) (fun h91744 => ?_) (fun h91744 => ?_)
          · have h91744 : (pI P b91741 (a1.toInt.toNat)).toInt ≠ (pI P b91741 (a2.toInt.toNat)).toInt := ti_ne h91744
            refine g_lv (lv' := []) [] rfl ?_
            exact J79 
          · have h91744 : (pI P b91741 (a1.toInt.toNat)).toInt = (pI P b91741 (a2.toInt.toNat)).toInt := congrArg Int32.toInt h91744
            refine g_iconst (v := 1) C dX12_isAlike_75 (by decide) ?_
            refine g_goto C 80 dX12_isAlike_76 (by decide) ?_
            exact ret _ _ _ _ _ _ dX12_isAlike_80 rfl (by decide) (by decide) ⟨rfl, (by decide)⟩
theorem dX12_hasAlike_43 : decode cX12_hasAlike 43 = .ok (.ifCond .eq 7, 3) := by decide +kernel
theorem dX12_hasAlike_46 : decode cX12_hasAlike 46 = .ok (.iconst 1, 1) := by decide +kernel
theorem dX12_hasAlike_47 : decode cX12_hasAlike 47 = .ok (.goto 4, 3) := by decide +kernel
theorem dX12_hasAlike_50 : decode cX12_hasAlike 50 = .ok (.iconst 0, 1) := by decide +kernel
theorem dX12_hasAlike_51 : decode cX12_hasAlike 51 = .ok (.istore_n 3, 1) := by decide +kernel
theorem dX12_hasAlike_52 : decode cX12_hasAlike 52 = .ok (.iinc 4 1, 3) := by decide +kernel
theorem dX12_hasAlike_55 : decode cX12_hasAlike 55 = .ok (.goto (-50), 3) := by decide +kernel
set_option maxHeartbeats 4000000 in
set_option maxRecDepth 100000 in
theorem s_X12_hasAlike {P : PP} {a0 : Nat} {a1 : Int32} {a2 : Int32} (I : IM P a0) (ha1 : 0 ≤ a1.toInt ∧ a1.toInt ≤ 3) (ha2 : 0 ≤ a2.toInt ∧ a2.toInt ≤ 799) (hW : MW P a0) : CtrI yX12_hasAlike cX12_hasAlike 5 (some Jvm.ClassFile.FieldType.boolean) ({ frames := 2, cells := 0, slots := 0, locals := 128 } : Room) 0 0 P [.ref a0, .int a1, .int a2] (fun r P2 => P = P2 ∧ (0 ≤ r.toInt ∧ r.toInt ≤ 1)) := by
  refine enI (lv := [(0, .ref a0), (1, .int a1), (2, .int a2)]) (by decide) (Nat.le_of_ble_eq_true rfl) rfl (fun E D cy C Ci0 ret => ?_)
  have ha0 := I.2.1
  have J5 : ∀ (n5 : Nat) (v5_3 : Int32) (v5_4 : Int32), (40 - v5_4.toInt).toNat < n5 → (0 ≤ v5_3.toInt ∧ v5_3.toInt ≤ 1) → (0 ≤ v5_4.toInt ∧ v5_4.toInt ≤ 40) → G E ({ frames := 2, cells := 0, slots := 0, locals := 128 } : Room) D cy 5 P 0 0 5 [(0, .ref a0), (1, .int a1), (2, .int a2), (3, .int v5_3), (4, .int v5_4)] [] := by
    intro n5
    induction n5 with
    | zero => intro v5_3 v5_4 hm5 hv5_3 hv5_4; omega
    | succ n5 ih5 =>
      intro v5_3 v5_4 hm5 hv5_3 hv5_4
      have J51 : ∀ (v51_s0 : Int32), (0 ≤ v5_4.toInt ∧ v5_4.toInt ≤ 39) → (0 ≤ v51_s0.toInt ∧ v51_s0.toInt ≤ 1) → (∀ b, pR P a0 20 = some b → 1 ≤ (pI P b (a1.toInt.toNat)).toInt ∧ (pI P b (a1.toInt.toNat)).toInt ≤ 40) → G E ({ frames := 2, cells := 0, slots := 0, locals := 128 } : Room) D cy 5 P 0 0 51 [(0, .ref a0), (1, .int a1), (2, .int a2), (4, .int v5_4)] [.int v51_s0] := by
        intro v51_s0 hv51_4 hv51_s0 hq51_0
        obtain ⟨b92197, e92198, h92199⟩ := I.fld (ha0) 20 13 20 rfl
        have hq51_0 := hq51_0 b92197 e92198
        refine g_istore_n (lv' := [(3, .int v51_s0), (0, .ref a0), (1, .int a1), (2, .int a2), (4, .int v5_4)]) C dX12_hasAlike_51 rfl (by decide) rfl ?_
        refine s_iinc (lv0 := [(3, .int v51_s0), (0, .ref a0), (1, .int a1), (2, .int a2)]) (m := 1) C dX12_hasAlike_52 4 rfl (by decide) rfl (by decide) (by omega) (fun z92200 h92201 => ?_)
        have h92201 : z92200.toInt = v5_4.toInt + 1 := h92201
        refine g_goto C 5 dX12_hasAlike_55 (by decide) ?_
        refine g_lv (lv' := [(0, .ref a0), (1, .int a1), (2, .int a2), (3, .int v51_s0), (4, .int z92200)]) [2, 3, 4, 1, 0] rfl ?_
        exact ih5 v51_s0 z92200 (by omega) (by omega) (by omega)
      have J50 : (0 ≤ v5_4.toInt ∧ v5_4.toInt ≤ 39) → (∀ b, pR P a0 20 = some b → 1 ≤ (pI P b (a1.toInt.toNat)).toInt ∧ (pI P b (a1.toInt.toNat)).toInt ≤ 40) → G E ({ frames := 2, cells := 0, slots := 0, locals := 128 } : Room) D cy 5 P 0 0 50 [(0, .ref a0), (1, .int a1), (2, .int a2), (4, .int v5_4)] [] := by
        intro hv50_4 hq50_0
        obtain ⟨b92202, e92203, h92204⟩ := I.fld (ha0) 20 13 20 rfl
        have hq50_0 := hq50_0 b92202 e92203
        refine g_iconst (v := 0) C dX12_hasAlike_50 (by decide) ?_
        exact J51 0 (by omega) (by decide) (fun b9 e9 => by rw [e92203] at e9; cases e9; omega)
      have J46 : (0 ≤ v5_4.toInt ∧ v5_4.toInt ≤ 39) → (∀ b, pR P a0 20 = some b → 1 ≤ (pI P b (a1.toInt.toNat)).toInt ∧ (pI P b (a1.toInt.toNat)).toInt ≤ 40) → G E ({ frames := 2, cells := 0, slots := 0, locals := 128 } : Room) D cy 5 P 0 0 46 [(0, .ref a0), (1, .int a1), (2, .int a2), (4, .int v5_4)] [] := by
        intro hv46_4 hq46_0
        obtain ⟨b92205, e92206, h92207⟩ := I.fld (ha0) 20 13 20 rfl
        have hq46_0 := hq46_0 b92205 e92206
        refine g_iconst (v := 1) C dX12_hasAlike_46 (by decide) ?_
        refine g_goto C 51 dX12_hasAlike_47 (by decide) ?_
        exact J51 1 (by omega) (by decide) (fun b9 e9 => by rw [e92206] at e9; cases e9; omega)
      refine g_iload C dX12_hasAlike_5 4 rfl ?_
      refine g_aload_n C dX12_hasAlike_7 rfl 0 rfl ?_
      obtain ⟨b92208, e92209, h92210⟩ := I.fld (ha0) 20 13 20 rfl
      refine g_getR C fi_X12_69 rfl e92209 (ha0).1 (ha0).2 dX12_hasAlike_8 ?_
      refine g_iload_n C dX12_hasAlike_11 rfl 1 rfl ?_
      refine g_iald (j := (a1.toInt.toNat)) C h92210.1 h92210.2.1 (ix_in h92210.2.2 (by omega)) dX12_hasAlike_12 ?_
      have h92211 := I.arr e92209 rfl (a1.toInt.toNat)
      refine b_icmp_ge C 58 dX12_hasAlike_13 (by decide) (fun h92212 => ?_) (fun h92212 => ?_)
      · have h92212 : (pI P b92208 (a1.toInt.toNat)).toInt ≤ v5_4.toInt := h92212
        refine g_iload_n C dX12_hasAlike_58 rfl 3 rfl ?_
        exact ret _ _ _ _ _ _ dX12_hasAlike_59 (nar_b (b01 (by omega))) (by decide) (by decide) ⟨rfl, (by omega)⟩
      · have h92212 : v5_4.toInt < (pI P b92208 (a1.toInt.toNat)).toInt := h92212
        refine g_iload_n C dX12_hasAlike_16 rfl 3 rfl ?_
        refine b_if_ne C 46 dX12_hasAlike_17 (by decide) (fun h92213 => ?_) (fun h92213 => ?_)
        · have h92213 : v5_3.toInt ≠ 0 := ti_ne h92213
          refine g_lv (lv' := [(0, .ref a0), (1, .int a1), (2, .int a2), (4, .int v5_4)]) [0, 1, 2, 4] rfl ?_
          exact J46 (by omega) (fun b9 e9 => by rw [e92209] at e9; cases e9; omega)
        · have h92213 : v5_3.toInt = 0 := congrArg Int32.toInt h92213
          refine g_bipush (v := 40) C dX12_hasAlike_20 (by decide) ?_
          refine g_iload_n C dX12_hasAlike_22 rfl 1 rfl ?_
          refine s_imul C dX12_hasAlike_23 (by show -2147483648 ≤ 40 * a1.toInt ∧ 40 * a1.toInt ≤ 2147483647; omega) (fun z92214 h92215 => ?_)
          have h92215 : z92214.toInt = 40 * a1.toInt := h92215
          refine g_iload C dX12_hasAlike_24 4 rfl ?_
          refine s_iadd C dX12_hasAlike_26 (by show -2147483648 ≤ z92214.toInt + v5_4.toInt ∧ z92214.toInt + v5_4.toInt ≤ 2147483647; omega) (fun z92216 h92217 => ?_)
          have h92217 : z92216.toInt = z92214.toInt + v5_4.toInt := h92217
          refine g_iload_n C dX12_hasAlike_27 rfl 2 rfl ?_
          refine b_icmp_eq C 50 dX12_hasAlike_28 (by decide) (fun h92218 => ?_) (fun h92218 => ?_)
          · have h92218 : z92216.toInt = a2.toInt := congrArg Int32.toInt h92218
            refine g_lv (lv' := [(0, .ref a0), (1, .int a1), (2, .int a2), (4, .int v5_4)]) [0, 1, 2, 4] rfl ?_
            exact J50 (by omega) (fun b9 e9 => by rw [e92209] at e9; cases e9; omega)
          · have h92218 : z92216.toInt ≠ a2.toInt := ti_ne h92218
            refine g_aload_n C dX12_hasAlike_31 rfl 0 rfl ?_
            refine g_bipush (v := 40) C dX12_hasAlike_32 (by decide) ?_
            refine g_iload_n C dX12_hasAlike_34 rfl 1 rfl ?_
            refine s_imul C dX12_hasAlike_35 (by show -2147483648 ≤ 40 * a1.toInt ∧ 40 * a1.toInt ≤ 2147483647; omega) (fun z92219 h92220 => ?_)
            have h92220 : z92219.toInt = 40 * a1.toInt := h92220
            refine g_iload C dX12_hasAlike_36 4 rfl ?_
            refine s_iadd C dX12_hasAlike_38 (by show -2147483648 ≤ z92219.toInt + v5_4.toInt ∧ z92219.toInt + v5_4.toInt ≤ 2147483647; omega) (fun z92221 h92222 => ?_)
            have h92222 : z92221.toInt = z92219.toInt + v5_4.toInt := h92222
            refine g_iload_n C dX12_hasAlike_39 rfl 2 rfl ?_
            refine g_callVI (rest := []) C mv_X12_399 [.int z92221, .int a2] (s_X12_isAlike I (by omega) (by omega) hW) (ha0).1 (ha0).2 rfl rfl (by decide) (Nat.le_of_ble_eq_true rfl) (by decide) dX12_hasAlike_40 (fun r92223 Y92224 h92225 => ?_)
            obtain ⟨rfl, h92225⟩ := h92225
            have h92225 : 0 ≤ r92223.toInt ∧ r92223.toInt ≤ 1 := h92225
            refine b_if_eq C 50 dX12_hasAlike_43 (by decide) (fun h92226 => ?_) (fun h92226 => ?_)
            · have h92226 : r92223.toInt = 0 := congrArg Int32.toInt h92226
              refine g_lv (lv' := [(0, .ref a0), (1, .int a1), (2, .int a2), (4, .int v5_4)]) [0, 1, 2, 4] rfl ?_
              exact J50 (by omega) (fun b9 e9 => by rw [e92209] at e9; cases e9; omega)
            · have h92226 : r92223.toInt ≠ 0 := ti_ne h92226
              refine g_lv (lv' := [(0, .ref a0), (1, .int a1), (2, .int a2), (4, .int v5_4)]) [0, 1, 2, 4] rfl ?_
              exact J46 (by omega) (fun b9 e9 => by rw [e92209] at e9; cases e9; omega)
  refine g_iconst (v := 0) C dX12_hasAlike_0 (by decide) ?_
  refine g_istore_n (lv' := [(3, .int 0), (0, .ref a0), (1, .int a1), (2, .int a2)]) C dX12_hasAlike_1 rfl (by decide) rfl ?_
  refine g_iconst (v := 0) C dX12_hasAlike_2 (by decide) ?_
  refine g_istore (lv' := [(4, .int 0), (3, .int 0), (0, .ref a0), (1, .int a1), (2, .int a2)]) C dX12_hasAlike_3 (by decide) rfl ?_
  refine g_lv (lv' := [(0, .ref a0), (1, .int a1), (2, .int a2), (3, .int 0), (4, .int 0)]) [2, 3, 4, 1, 0] rfl ?_
  exact J5 _ 0 0 (Nat.lt_succ_self _) (by decide) (by decide)
theorem dX12_init_0 : decode cX12_init 0 = .ok (.aload_n 0, 1) := by decide +kernel
theorem dX12_init_1 : decode cX12_init 1 = .ok (.invokespecial 18, 3) := by decide +kernel
theorem dX12_init_4 : decode cX12_init 4 = .ok (.aload_n 0, 1) := by decide +kernel
theorem dX12_init_5 : decode cX12_init 5 = .ok (.sipush 1000, 3) := by decide +kernel
theorem dX12_init_8 : decode cX12_init 8 = .ok (.newarray .int, 2) := by decide +kernel
theorem dX12_isAllWith_0 : decode cX12_isAllWith 0 = .ok (.iconst 0, 1) := by decide +kernel
theorem dX12_isAllWith_1 : decode cX12_isAllWith 1 = .ok (.istore 4, 2) := by decide +kernel
theorem dX12_isAllWith_3 : decode cX12_isAllWith 3 = .ok (.iload 4, 2) := by decide +kernel
theorem dX12_isAllWith_5 : decode cX12_isAllWith 5 = .ok (.iconst 2, 1) := by decide +kernel
theorem dX12_isAllWith_6 : decode cX12_isAllWith 6 = .ok (.if_icmp .ge 95, 3) := by decide +kernel
theorem dX12_isAllWith_9 : decode cX12_isAllWith 9 = .ok (.aload_n 0, 1) := by decide +kernel
theorem dX12_isAllWith_10 : decode cX12_isAllWith 10 = .ok (.iload_n 1, 1) := by decide +kernel
theorem dX12_isAllWith_11 : decode cX12_isAllWith 11 = .ok (.iload_n 2, 1) := by decide +kernel
theorem dX12_isAllWith_12 : decode cX12_isAllWith 12 = .ok (.iload 4, 2) := by decide +kernel
theorem dX12_isAllWith_14 : decode cX12_isAllWith 14 = .ok (.aload_n 0, 1) := by decide +kernel
theorem dX12_isAllWith_15 : decode cX12_isAllWith 15 = .ok (.getfield 69, 3) := by decide +kernel
theorem dX12_isAllWith_18 : decode cX12_isAllWith 18 = .ok (.iload_n 1, 1) := by decide +kernel
theorem dX12_isAllWith_19 : decode cX12_isAllWith 19 = .ok (.iaload, 1) := by decide +kernel
theorem dX12_isAllWith_20 : decode cX12_isAllWith 20 = .ok (.invokevirtual 339, 3) := by decide +kernel
theorem dX12_isAllWith_23 : decode cX12_isAllWith 23 = .ok (.iconst 0, 1) := by decide +kernel
theorem dX12_isAllWith_24 : decode cX12_isAllWith 24 = .ok (.istore 5, 2) := by decide +kernel
theorem dX12_isAllWith_26 : decode cX12_isAllWith 26 = .ok (.iload 5, 2) := by decide +kernel
theorem dX12_isAllWith_28 : decode cX12_isAllWith 28 = .ok (.bipush 11, 2) := by decide +kernel
theorem dX12_isAllWith_30 : decode cX12_isAllWith 30 = .ok (.if_icmp .ge 47, 3) := by decide +kernel
theorem dX12_isAllWith_33 : decode cX12_isAllWith 33 = .ok (.iload_n 3, 1) := by decide +kernel
theorem dX12_isAllWith_34 : decode cX12_isAllWith 34 = .ok (.iload 5, 2) := by decide +kernel
theorem dX12_isAllWith_36 : decode cX12_isAllWith 36 = .ok (.ishr, 1) := by decide +kernel
theorem dX12_isAllWith_37 : decode cX12_isAllWith 37 = .ok (.iconst 1, 1) := by decide +kernel
theorem dX12_isAllWith_38 : decode cX12_isAllWith 38 = .ok (.iand, 1) := by decide +kernel
theorem dX12_isAllWith_39 : decode cX12_isAllWith 39 = .ok (.iconst 1, 1) := by decide +kernel
theorem dX12_isAllWith_40 : decode cX12_isAllWith 40 = .ok (.if_icmp .ne 31, 3) := by decide +kernel
theorem dX12_isAllWith_43 : decode cX12_isAllWith 43 = .ok (.aload_n 0, 1) := by decide +kernel
theorem dX12_isAllWith_44 : decode cX12_isAllWith 44 = .ok (.iload_n 2, 1) := by decide +kernel
theorem dX12_isAllWith_45 : decode cX12_isAllWith 45 = .ok (.iload 5, 2) := by decide +kernel
theorem dX12_isAllWith_47 : decode cX12_isAllWith 47 = .ok (.invokevirtual 261, 3) := by decide +kernel
theorem dX12_isAllWith_50 : decode cX12_isAllWith 50 = .ok (.istore 6, 2) := by decide +kernel
theorem dX12_isAllWith_52 : decode cX12_isAllWith 52 = .ok (.aload_n 0, 1) := by decide +kernel
theorem dX12_isAllWith_53 : decode cX12_isAllWith 53 = .ok (.iload 6, 2) := by decide +kernel
theorem dX12_isAllWith_55 : decode cX12_isAllWith 55 = .ok (.aload_n 0, 1) := by decide +kernel
theorem dX12_isAllWith_56 : decode cX12_isAllWith 56 = .ok (.iload_n 2, 1) := by decide +kernel
theorem dX12_isAllWith_57 : decode cX12_isAllWith 57 = .ok (.iload 6, 2) := by decide +kernel
theorem dX12_isAllWith_59 : decode cX12_isAllWith 59 = .ok (.invokevirtual 223, 3) := by decide +kernel
theorem dX12_isAllWith_62 : decode cX12_isAllWith 62 = .ok (.iload 4, 2) := by decide +kernel
theorem dX12_isAllWith_64 : decode cX12_isAllWith 64 = .ok (.invokestatic 315, 3) := by decide +kernel
theorem dX12_isAllWith_67 : decode cX12_isAllWith 67 = .ok (.iconst (-1), 1) := by decide +kernel
theorem dX12_isAllWith_68 : decode cX12_isAllWith 68 = .ok (.invokevirtual 308, 3) := by decide +kernel
theorem dX12_isAllWith_71 : decode cX12_isAllWith 71 = .ok (.iinc 5 1, 3) := by decide +kernel
theorem dX12_isAllWith_74 : decode cX12_isAllWith 74 = .ok (.goto (-48), 3) := by decide +kernel
theorem dX12_isAllWith_77 : decode cX12_isAllWith 77 = .ok (.aload_n 0, 1) := by decide +kernel
theorem dX12_isAllWith_78 : decode cX12_isAllWith 78 = .ok (.invokevirtual 346, 3) := by decide +kernel
theorem dX12_isAllWith_81 : decode cX12_isAllWith 81 = .ok (.aload_n 0, 1) := by decide +kernel
theorem dX12_isAllWith_82 : decode cX12_isAllWith 82 = .ok (.iload_n 2, 1) := by decide +kernel
theorem dX12_isAllWith_83 : decode cX12_isAllWith 83 = .ok (.aload_n 0, 1) := by decide +kernel
theorem dX12_isAllWith_84 : decode cX12_isAllWith 84 = .ok (.invokevirtual 349, 3) := by decide +kernel
theorem dX12_isAllWith_87 : decode cX12_isAllWith 87 = .ok (.invokevirtual 371, 3) := by decide +kernel
theorem dX12_isAllWith_90 : decode cX12_isAllWith 90 = .ok (.ifCond .ne 5, 3) := by decide +kernel
theorem dX12_isAllWith_93 : decode cX12_isAllWith 93 = .ok (.iconst 0, 1) := by decide +kernel
theorem dX12_isAllWith_94 : decode cX12_isAllWith 94 = .ok (.ireturn, 1) := by decide +kernel
theorem dX12_isAllWith_95 : decode cX12_isAllWith 95 = .ok (.iinc 4 1, 3) := by decide +kernel
theorem dX12_isAllWith_98 : decode cX12_isAllWith 98 = .ok (.goto (-95), 3) := by decide +kernel
theorem dX12_isAllWith_101 : decode cX12_isAllWith 101 = .ok (.iconst 1, 1) := by decide +kernel
theorem dX12_isAllWith_102 : decode cX12_isAllWith 102 = .ok (.ireturn, 1) := by decide +kernel
set_option maxHeartbeats 4000000 in
set_option maxRecDepth 100000 in
theorem s_X12_isAllWith {P : PP} {a0 : Nat} {a1 : Int32} {a2 : Int32} {a3 : Int32} (I : IM P a0) (ha1 : 0 ≤ a1.toInt ∧ a1.toInt ≤ 3) (ha2 : 0 ≤ a2.toInt ∧ a2.toInt ≤ 1) (hf0 : ∀ b, pR P a0 10 = some b → 1 ≤ (pI P b (a2.toInt.toNat)).toInt ∧ (pI P b (a2.toInt.toNat)).toInt ≤ 16) (hW : MW P a0) : CtrI yX12_isAllWith cX12_isAllWith 7 (some Jvm.ClassFile.FieldType.boolean) ({ frames := 5, cells := 0, slots := 0, locals := 320 } : Room) 0 0 P [.ref a0, .int a1, .int a2, .int a3] (fun r P2 => IM P2 a0 ∧ EM [28, 29, 30, 31, 35, 36, 37, 38] a0 P P2 ∧ MW P2 a0 ∧ (0 ≤ r.toInt ∧ r.toInt ≤ 1)) := by
  refine enI (lv := [(0, .ref a0), (1, .int a1), (2, .int a2), (3, .int a3)]) (by decide) (Nat.le_of_ble_eq_true rfl) rfl (fun E D cy C Ci0 ret => ?_)
  have ha0 := I.2.1
  have J3 : ∀ (n3 : Nat) (P3 : PP) (v3_4 : Int32), (2 - v3_4.toInt).toNat < n3 → (IM P3 a0) → (EM [28, 29, 30, 31, 35, 36, 37, 38] a0 P P3) → (MW P3 a0) → (0 ≤ v3_4.toInt ∧ v3_4.toInt ≤ 2) → (∀ b, pR P3 a0 10 = some b → 1 ≤ (pI P3 b (a2.toInt.toNat)).toInt ∧ (pI P3 b (a2.toInt.toNat)).toInt ≤ 16) → G E ({ frames := 5, cells := 0, slots := 0, locals := 320 } : Room) D cy 7 P3 0 0 3 [(0, .ref a0), (1, .int a1), (2, .int a2), (3, .int a3), (4, .int v3_4)] [] := by
    intro n3
    induction n3 with
    | zero => intro P3 v3_4 hm3 I3 X3 W3 hv3_4 hq3_0; omega
    | succ n3 ih3 =>
      intro P3 v3_4 hm3 I3 X3 W3 hv3_4 hq3_0
      have h92835 := X3.at ha0
      obtain ⟨b92836, e92837, h92838⟩ := I3.fld (h92835) 10 13 2 rfl
      have hq3_0 := hq3_0 b92836 e92837
      have J26 : ∀ (n26 : Nat) (P26 : PP) (v26_5 : Int32), (11 - v26_5.toInt).toNat < n26 → (IM P26 a0) → (EM [28, 29, 30, 31, 35, 36, 37, 38] a0 P P26) → (MW P26 a0) → (0 ≤ v3_4.toInt ∧ v3_4.toInt ≤ 1) → (0 ≤ v26_5.toInt ∧ v26_5.toInt ≤ 11) → (∀ b, pR P26 a0 10 = some b → 1 ≤ (pI P26 b (a2.toInt.toNat)).toInt ∧ (pI P26 b (a2.toInt.toNat)).toInt ≤ 16) → ((pI P26 a0 28).toInt ≤ 44 + v26_5.toInt) → G E ({ frames := 5, cells := 0, slots := 0, locals := 320 } : Room) D cy 7 P26 0 0 26 [(0, .ref a0), (1, .int a1), (2, .int a2), (3, .int a3), (4, .int v3_4), (5, .int v26_5)] [] := by
        intro n26
        induction n26 with
        | zero => intro P26 v26_5 hm26 I26 X26 W26 hv26_4 hv26_5 hq26_0 rel26_0; omega
        | succ n26 ih26 =>
          intro P26 v26_5 hm26 I26 X26 W26 hv26_4 hv26_5 hq26_0 rel26_0
          have h92839 := X26.at ha0
          obtain ⟨b92840, e92841, h92842⟩ := I26.fld (h92839) 10 13 2 rfl
          have hq26_0 := hq26_0 b92840 e92841
          have h92843 := I26.rg h92839 28 rfl
          have J71 : ∀ (P71 : PP), (IM P71 a0) → (EM [28, 29, 30, 31, 35, 36, 37, 38] a0 P P71) → (MW P71 a0) → (0 ≤ v3_4.toInt ∧ v3_4.toInt ≤ 1) → (0 ≤ v26_5.toInt ∧ v26_5.toInt ≤ 10) → (∀ b, pR P71 a0 10 = some b → 1 ≤ (pI P71 b (a2.toInt.toNat)).toInt ∧ (pI P71 b (a2.toInt.toNat)).toInt ≤ 16) → ((pI P71 a0 28).toInt ≤ 45 + v26_5.toInt) → G E ({ frames := 5, cells := 0, slots := 0, locals := 320 } : Room) D cy 7 P71 0 0 71 [(0, .ref a0), (1, .int a1), (2, .int a2), (3, .int a3), (4, .int v3_4), (5, .int v26_5)] [] := by
            intro P71 I71 X71 W71 hv71_4 hv71_5 hq71_0 rel71_0
            have h92844 := X71.at ha0
            obtain ⟨b92845, e92846, h92847⟩ := I71.fld (h92844) 10 13 2 rfl
            have hq71_0 := hq71_0 b92845 e92846
            have h92848 := I71.rg h92844 28 rfl
            refine s_iinc (lv0 := [(0, .ref a0), (1, .int a1), (2, .int a2), (3, .int a3), (4, .int v3_4)]) (m := 1) C dX12_isAllWith_71 5 rfl (by decide) rfl (by decide) (by omega) (fun z92849 h92850 => ?_)
            have h92850 : z92849.toInt = v26_5.toInt + 1 := h92850
            refine g_goto C 26 dX12_isAllWith_74 (by decide) ?_
            refine g_lv (lv' := [(0, .ref a0), (1, .int a1), (2, .int a2), (3, .int a3), (4, .int v3_4), (5, .int z92849)]) [1, 2, 3, 4, 5, 0] rfl ?_
            exact ih26 P71 z92849 (by omega) I71 X71 W71 (by omega) (by omega) (fun b9 e9 => by rw [e92846] at e9; cases e9; omega) (by show (pI P71 a0 28).toInt ≤ 44 + z92849.toInt; omega)
          refine g_iload C dX12_isAllWith_26 5 rfl ?_
          refine g_bipush (v := 11) C dX12_isAllWith_28 (by decide) ?_
          refine b_icmp_ge C 77 dX12_isAllWith_30 (by decide) (fun h92851 => ?_) (fun h92851 => ?_)
          · have h92851 : 11 ≤ v26_5.toInt := h92851
            refine g_aload_n C dX12_isAllWith_77 rfl 0 rfl ?_
            refine g_callVV (rest := []) C mv_X12_346 [] (s_X12_findSolved I26 W26) (h92839).1 (h92839).2 rfl rfl (by decide) (Nat.le_of_ble_eq_true rfl) (by decide) dX12_isAllWith_78 (fun Y92853 h92854 => ?_)
            obtain ⟨Iy92855, Xy92856, W92857⟩ := h92854
            have q92858 := Xy92856.keepA e92841 (by decide) rfl (a2.toInt.toNat)
            have q92859 := Xy92856.keepF 28 (by decide)
            have Xz92860 : EM [28, 29, 30, 31, 35, 36, 37, 38] a0 P Y92853 := EM.tr ha0 X26 (Xy92856.mono (by decide))
            have e92861 := Xy92856.ref h92839 (by decide) e92841
            have h92862 := Xy92856.at h92839
            have h92863 := Xy92856.ar h92842
            refine g_aload_n C dX12_isAllWith_81 rfl 0 rfl ?_
            refine g_iload_n C dX12_isAllWith_82 rfl 2 rfl ?_
            refine g_aload_n C dX12_isAllWith_83 rfl 0 rfl ?_
            refine g_callVI (rest := [.int a2, .ref a0]) C mv_X12_349 [] (s_X12_fixedSet Iy92855 W92857) (h92862).1 (h92862).2 rfl rfl (by decide) (Nat.le_of_ble_eq_true rfl) (by decide) dX12_isAllWith_84 (fun r92864 Y92865 h92866 => ?_)
            obtain ⟨rfl, h92866⟩ := h92866
            have h92866 : True := h92866
            refine g_callVI (rest := []) C mv_X12_371 [.int a2, .int r92864] (s_X12_givesAll Iy92855 (by omega) W92857) (h92862).1 (h92862).2 rfl rfl (by decide) (Nat.le_of_ble_eq_true rfl) (by decide) dX12_isAllWith_87 (fun r92867 Y92868 h92869 => ?_)
            obtain ⟨rfl, h92869⟩ := h92869
            have h92869 : 0 ≤ r92867.toInt ∧ r92867.toInt ≤ 1 := h92869
            refine b_if_ne C 95 dX12_isAllWith_90 (by decide) (fun h92870 => ?_) (fun h92870 => ?_)
            · have h92870 : r92867.toInt ≠ 0 := ti_ne h92870
              refine s_iinc (lv0 := [(0, .ref a0), (1, .int a1), (2, .int a2), (3, .int a3), (5, .int v26_5)]) (m := 1) C dX12_isAllWith_95 4 rfl (by decide) rfl (by decide) (by omega) (fun z92871 h92872 => ?_)
              have h92872 : z92871.toInt = v3_4.toInt + 1 := h92872
              refine g_goto C 3 dX12_isAllWith_98 (by decide) ?_
              refine g_lv (lv' := [(0, .ref a0), (1, .int a1), (2, .int a2), (3, .int a3), (4, .int z92871)]) [1, 2, 3, 4, 0] rfl ?_
              exact ih3 Y92853 z92871 (by omega) Iy92855 Xz92860 W92857 (by omega) (fun b9 e9 => by rw [e92861] at e9; cases e9; omega)
            · have h92870 : r92867.toInt = 0 := congrArg Int32.toInt h92870
              refine g_iconst (v := 0) C dX12_isAllWith_93 (by decide) ?_
              exact ret _ _ _ _ _ _ dX12_isAllWith_94 rfl (by decide) (by decide) ⟨Iy92855, Xz92860, W92857, (by decide)⟩
          · have h92851 : v26_5.toInt < 11 := h92851
            refine g_iload_n C dX12_isAllWith_33 rfl 3 rfl ?_
            refine g_iload C dX12_isAllWith_34 5 rfl ?_
            refine a_ishr C dX12_isAllWith_36 (fun z92873 => ?_)
            refine g_iconst (v := 1) C dX12_isAllWith_37 (by decide) ?_
            refine s_iand C dX12_isAllWith_38 (by show 0 ≤ 1; omega) (fun z92875 h92876 => ?_)
            have h92876 : 0 ≤ z92875.toInt ∧ z92875.toInt ≤ 1 := h92876
            refine g_iconst (v := 1) C dX12_isAllWith_39 (by decide) ?_
            refine b_icmp_ne C 71 dX12_isAllWith_40 (by decide) (fun h92877 => ?_) (fun h92877 => ?_)
            · have h92877 : z92875.toInt ≠ 1 := ti_ne h92877
              exact J71 P26 I26 X26 W26 (by omega) (by omega) (fun b9 e9 => by rw [e92841] at e9; cases e9; omega) (by show (pI P26 a0 28).toInt ≤ 45 + v26_5.toInt; omega)
            · have h92877 : z92875.toInt = 1 := congrArg Int32.toInt h92877
              refine g_aload_n C dX12_isAllWith_43 rfl 0 rfl ?_
              refine g_iload_n C dX12_isAllWith_44 rfl 2 rfl ?_
              refine g_iload C dX12_isAllWith_45 5 rfl ?_
              refine g_callVI (rest := []) C mv_X12_261 [.int a2, .int v26_5] (s_X12_setOf I26 (by omega) (fun b9 e9 => by rw [e92841] at e9; cases e9; show 1 ≤ (pI P26 b92840 (a2.toInt.toNat)).toInt ∧ (pI P26 b92840 (a2.toInt.toNat)).toInt ≤ 16; omega) W26) (h92839).1 (h92839).2 rfl rfl (by decide) (Nat.le_of_ble_eq_true rfl) (by decide) dX12_isAllWith_47 (fun r92878 Y92879 h92880 => ?_)
              obtain ⟨Iy92881, Xy92882, W92883, h92880⟩ := h92880
              have q92884 := Xy92882.keepA e92841 (by decide) rfl (a2.toInt.toNat)
              have q92885 := Xy92882.keepF 28 (by decide)
              have Xz92886 : EM [28, 29, 30, 31, 35, 36, 37, 38] a0 P Y92879 := EM.tr ha0 X26 (Xy92882.mono (by decide))
              have e92887 := Xy92882.ref h92839 (by decide) e92841
              have h92888 := Xy92882.at h92839
              have h92889 := Xy92882.ar h92842
              have h92880 : True := h92880
              refine g_istore (lv' := [(6, .int r92878), (0, .ref a0), (1, .int a1), (2, .int a2), (3, .int a3), (4, .int v3_4), (5, .int v26_5)]) C dX12_isAllWith_50 (by decide) rfl ?_
              refine g_aload_n C dX12_isAllWith_52 rfl 1 rfl ?_
              refine g_iload C dX12_isAllWith_53 0 rfl ?_
              refine g_aload_n C dX12_isAllWith_55 rfl 1 rfl ?_
              refine g_iload_n C dX12_isAllWith_56 rfl 3 rfl ?_
              refine g_iload C dX12_isAllWith_57 0 rfl ?_
              refine g_callVI (rest := [.int r92878, .ref a0]) C mv_X12_223 [.int a2, .int r92878] (s_X12_sumOf Iy92881 (by omega) W92883) (h92888).1 (h92888).2 rfl rfl (by decide) (Nat.le_of_ble_eq_true rfl) (by decide) dX12_isAllWith_59 (fun r92890 Y92891 h92892 => ?_)
              obtain ⟨rfl, h92892⟩ := h92892
              have h92892 : True := h92892
              refine g_iload C dX12_isAllWith_62 5 rfl ?_
              refine g_callSI (b := 0) (ci := 0) (rest := [.int r92878, .ref a0]) C ms_X12_315 [.int r92890, .int v3_4] (s_X12_byteOf Iy92881.1) rfl rfl (by decide) (Nat.le_of_ble_eq_true rfl) (by decide) dX12_isAllWith_64 (fun r92893 Y92894 h92895 => ?_)
              obtain ⟨rfl, h92895⟩ := h92895
              have h92895 : 0 ≤ r92893.toInt ∧ r92893.toInt ≤ 255 := h92895
              refine g_iconst (v := (-1)) C dX12_isAllWith_67 (by decide) ?_
              refine g_callVV (rest := []) C mv_X12_308 [.int r92878, .int r92893, .int (-1)] (s_X12_adds Iy92881 (by omega) W92883) (h92888).1 (h92888).2 rfl rfl (by decide) (Nat.le_of_ble_eq_true rfl) (by decide) dX12_isAllWith_68 (fun Y92897 h92898 => ?_)
              obtain ⟨Iy92899, Xy92900, W92901, p92902⟩ := h92898
              have p92902 : (pI Y92897 a0 28).toInt = (pI Y92879 a0 28).toInt + 1 := p92902
              have q92903 := Xy92900.keepA e92887 (by decide) rfl (a2.toInt.toNat)
              have Xz92904 : EM [28, 29, 30, 31, 35, 36, 37, 38] a0 P Y92897 := EM.tr ha0 Xz92886 (Xy92900.mono (by decide))
              have e92905 := Xy92900.ref h92888 (by decide) e92887
              have h92906 := Xy92900.at h92888
              have h92907 := Xy92900.ar h92889
              have h92908 := Iy92899.rg h92906 28 rfl
              refine g_lv (lv' := [(0, .ref a0), (1, .int a1), (2, .int a2), (3, .int a3), (4, .int v3_4), (5, .int v26_5)]) [1, 2, 3, 4, 5, 6] rfl ?_
              exact J71 Y92897 Iy92899 Xz92904 W92901 (by omega) (by omega) (fun b9 e9 => by rw [e92905] at e9; cases e9; omega) (by show (pI Y92897 a0 28).toInt ≤ 45 + v26_5.toInt; omega)
      refine g_iload C dX12_isAllWith_3 4 rfl ?_
      refine g_iconst (v := 2) C dX12_isAllWith_5 (by decide) ?_
      refine b_icmp_ge C 101 dX12_isAllWith_6 (by decide) (fun h92909 => ?_) (fun h92909 => ?_)
      · have h92909 : 2 ≤ v3_4.toInt := h92909
        refine g_iconst (v := 1) C dX12_isAllWith_101 (by decide) ?_
        exact ret _ _ _ _ _ _ dX12_isAllWith_102 rfl (by decide) (by decide) ⟨I3, X3, W3, (by decide)⟩
      · have h92909 : v3_4.toInt < 2 := h92909
        refine g_aload_n C dX12_isAllWith_9 rfl 0 rfl ?_
        refine g_iload_n C dX12_isAllWith_10 rfl 1 rfl ?_
        refine g_iload_n C dX12_isAllWith_11 rfl 2 rfl ?_
        refine g_iload C dX12_isAllWith_12 4 rfl ?_
        refine g_aload_n C dX12_isAllWith_14 rfl 0 rfl ?_
        obtain ⟨b92910, e92911, h92912⟩ := I3.fld (h92835) 20 13 20 rfl
        refine g_getR C fi_X12_69 rfl e92911 (h92835).1 (h92835).2 dX12_isAllWith_15 ?_
        refine g_iload_n C dX12_isAllWith_18 rfl 1 rfl ?_
        refine g_iald (j := (a1.toInt.toNat)) C h92912.1 h92912.2.1 (ix_in h92912.2.2 (by omega)) dX12_isAllWith_19 ?_
        have h92913 := I3.arr e92911 rfl (a1.toInt.toNat)
        refine g_callVV (rest := []) C mv_X12_339 [.int a1, .int a2, .int v3_4, .int (pI P3 b92910 (a1.toInt.toNat))] (s_X12_gathers I3 (by omega) (by omega) (by omega) (fun b9 e9 => by rw [e92837] at e9; cases e9; show 1 ≤ (pI P3 b92836 (a2.toInt.toNat)).toInt ∧ (pI P3 b92836 (a2.toInt.toNat)).toInt ≤ 16; omega) W3) (h92835).1 (h92835).2 rfl rfl (by decide) (Nat.le_of_ble_eq_true rfl) (by decide) dX12_isAllWith_20 (fun Y92915 h92916 => ?_)
        obtain ⟨Iy92917, Xy92918, W92919, p92920, p92921⟩ := h92916
        have p92920 : (pI Y92915 a0 28).toInt ≤ 4 + (pI P3 b92910 (a1.toInt.toNat)).toInt := p92920
        have q92922 := Xy92918.keepA e92837 (by decide) rfl (a2.toInt.toNat)
        have q92923 := Xy92918.keepA e92911 (by decide) rfl (a1.toInt.toNat)
        have Xz92924 : EM [28, 29, 30, 31, 35, 36, 37, 38] a0 P Y92915 := EM.tr ha0 X3 (Xy92918.mono (by decide))
        have e92925 := Xy92918.ref h92835 (by decide) e92837
        have e92926 := Xy92918.ref h92835 (by decide) e92911
        have h92927 := Xy92918.at h92835
        have h92928 := Xy92918.ar h92838
        have h92929 := Xy92918.ar h92912
        obtain ⟨b92930, e92931, h92932⟩ := Iy92917.fld (h92927) 22 13 800 rfl
        have p92921 := p92921 b92930 e92931
        rw [Xz92924.2.2.2 22 (by decide) rfl b92930 (EM.refB Xz92924 ha0 e92931)] at p92921
        have p92921 : (pI Y92915 a0 28).toInt ≤ 4 + kC (pI P b92930) (40 * a1.toInt).toNat a2.toInt ((pI P3 b92910 (a1.toInt.toNat)).toInt : Int).toNat := p92921
        have h92933 := Iy92917.rg h92927 28 rfl
        refine g_iconst (v := 0) C dX12_isAllWith_23 (by decide) ?_
        refine g_istore (lv' := [(5, .int 0), (0, .ref a0), (1, .int a1), (2, .int a2), (3, .int a3), (4, .int v3_4)]) C dX12_isAllWith_24 (by decide) rfl ?_
        refine g_lv (lv' := [(0, .ref a0), (1, .int a1), (2, .int a2), (3, .int a3), (4, .int v3_4), (5, .int 0)]) [1, 2, 3, 4, 5, 0] rfl ?_
        exact J26 _ Y92915 0 (Nat.lt_succ_self _) Iy92917 Xz92924 W92919 (by omega) (by decide) (fun b9 e9 => by rw [e92925] at e9; cases e9; omega) (by show (pI Y92915 a0 28).toInt ≤ 44 + 0; omega)
  obtain ⟨b92934, e92935, h92936⟩ := I.fld (ha0) 10 13 2 rfl
  have hf0 := hf0 b92934 e92935
  refine g_iconst (v := 0) C dX12_isAllWith_0 (by decide) ?_
  refine g_istore (lv' := [(4, .int 0), (0, .ref a0), (1, .int a1), (2, .int a2), (3, .int a3)]) C dX12_isAllWith_1 (by decide) rfl ?_
  refine g_lv (lv' := [(0, .ref a0), (1, .int a1), (2, .int a2), (3, .int a3), (4, .int 0)]) [1, 2, 3, 4, 0] rfl ?_
  exact J3 _ P 0 (Nat.lt_succ_self _) I EM.rf hW (by decide) (fun b9 e9 => by rw [e92935] at e9; cases e9; omega)
theorem dX12_leaflet_0 : decode cX12_leaflet 0 = .ok (.aload_n 0, 1) := by decide +kernel
theorem dX12_leaflet_1 : decode cX12_leaflet 1 = .ok (.iconst 0, 1) := by decide +kernel
theorem dX12_leaflet_2 : decode cX12_leaflet 2 = .ok (.putfield 1, 3) := by decide +kernel
theorem dX12_leaflet_5 : decode cX12_leaflet 5 = .ok (.aload_n 0, 1) := by decide +kernel
theorem dX12_leaflet_6 : decode cX12_leaflet 6 = .ok (.iload_n 1, 1) := by decide +kernel
theorem dX12_leaflet_7 : decode cX12_leaflet 7 = .ok (.invokevirtual 192, 3) := by decide +kernel
theorem dX12_leaflet_10 : decode cX12_leaflet 10 = .ok (.ifCond .eq 19, 3) := by decide +kernel
theorem dX12_leaflet_13 : decode cX12_leaflet 13 = .ok (.iload_n 2, 1) := by decide +kernel
theorem dX12_leaflet_14 : decode cX12_leaflet 14 = .ok (.invokestatic 258, 3) := by decide +kernel
theorem dX12_leaflet_17 : decode cX12_leaflet 17 = .ok (.ifCond .eq 12, 3) := by decide +kernel
theorem dX12_leaflet_20 : decode cX12_leaflet 20 = .ok (.iload_n 3, 1) := by decide +kernel
theorem dX12_leaflet_21 : decode cX12_leaflet 21 = .ok (.iconst 0, 1) := by decide +kernel
theorem dX12_leaflet_22 : decode cX12_leaflet 22 = .ok (.iconst 3, 1) := by decide +kernel
theorem dX12_leaflet_23 : decode cX12_leaflet 23 = .ok (.invokestatic 178, 3) := by decide +kernel
theorem dX12_leaflet_26 : decode cX12_leaflet 26 = .ok (.ifCond .ne 5, 3) := by decide +kernel
theorem dX12_leaflet_29 : decode cX12_leaflet 29 = .ok (.iconst (-1), 1) := by decide +kernel
theorem dX12_leaflet_30 : decode cX12_leaflet 30 = .ok (.ireturn, 1) := by decide +kernel
theorem dX12_leaflet_31 : decode cX12_leaflet 31 = .ok (.aload_n 0, 1) := by decide +kernel
theorem dX12_leaflet_32 : decode cX12_leaflet 32 = .ok (.iload_n 1, 1) := by decide +kernel
theorem dX12_leaflet_33 : decode cX12_leaflet 33 = .ok (.iload_n 2, 1) := by decide +kernel
theorem dX12_leaflet_34 : decode cX12_leaflet 34 = .ok (.invokevirtual 261, 3) := by decide +kernel
theorem dX12_leaflet_37 : decode cX12_leaflet 37 = .ok (.istore 4, 2) := by decide +kernel
theorem dX12_leaflet_39 : decode cX12_leaflet 39 = .ok (.iload_n 3, 1) := by decide +kernel
theorem dX12_leaflet_40 : decode cX12_leaflet 40 = .ok (.ifCond .ne 8, 3) := by decide +kernel
theorem dX12_leaflet_43 : decode cX12_leaflet 43 = .ok (.iload 4, 2) := by decide +kernel
theorem dX12_leaflet_45 : decode cX12_leaflet 45 = .ok (.goto 44, 3) := by decide +kernel
theorem dX12_leaflet_48 : decode cX12_leaflet 48 = .ok (.iload_n 3, 1) := by decide +kernel
theorem dX12_leaflet_49 : decode cX12_leaflet 49 = .ok (.iconst 3, 1) := by decide +kernel
theorem dX12_leaflet_50 : decode cX12_leaflet 50 = .ok (.if_icmp .ne 11, 3) := by decide +kernel
theorem dX12_leaflet_53 : decode cX12_leaflet 53 = .ok (.iload 4, 2) := by decide +kernel
theorem dX12_leaflet_55 : decode cX12_leaflet 55 = .ok (.invokestatic 264, 3) := by decide +kernel
theorem dX12_leaflet_58 : decode cX12_leaflet 58 = .ok (.goto 31, 3) := by decide +kernel
theorem dX12_leaflet_61 : decode cX12_leaflet 61 = .ok (.iload_n 3, 1) := by decide +kernel
theorem dX12_leaflet_62 : decode cX12_leaflet 62 = .ok (.iconst 1, 1) := by decide +kernel
theorem dX12_leaflet_63 : decode cX12_leaflet 63 = .ok (.if_icmp .ne 13, 3) := by decide +kernel
theorem dX12_leaflet_66 : decode cX12_leaflet 66 = .ok (.aload_n 0, 1) := by decide +kernel
theorem dX12_leaflet_67 : decode cX12_leaflet 67 = .ok (.iload_n 1, 1) := by decide +kernel
theorem dX12_leaflet_68 : decode cX12_leaflet 68 = .ok (.iload 4, 2) := by decide +kernel
theorem dX12_leaflet_70 : decode cX12_leaflet 70 = .ok (.invokevirtual 223, 3) := by decide +kernel
theorem dX12_leaflet_73 : decode cX12_leaflet 73 = .ok (.goto 16, 3) := by decide +kernel
theorem dX12_leaflet_76 : decode cX12_leaflet 76 = .ok (.aload_n 0, 1) := by decide +kernel
theorem dX12_leaflet_77 : decode cX12_leaflet 77 = .ok (.iload_n 1, 1) := by decide +kernel
theorem dX12_leaflet_78 : decode cX12_leaflet 78 = .ok (.iload_n 2, 1) := by decide +kernel
theorem dX12_leaflet_79 : decode cX12_leaflet 79 = .ok (.aload_n 0, 1) := by decide +kernel
theorem dX12_leaflet_80 : decode cX12_leaflet 80 = .ok (.iload_n 1, 1) := by decide +kernel
theorem dX12_leaflet_81 : decode cX12_leaflet 81 = .ok (.iload 4, 2) := by decide +kernel
theorem dX12_leaflet_83 : decode cX12_leaflet 83 = .ok (.invokevirtual 223, 3) := by decide +kernel
theorem dX12_leaflet_86 : decode cX12_leaflet 86 = .ok (.invokevirtual 267, 3) := by decide +kernel
theorem dX12_leaflet_89 : decode cX12_leaflet 89 = .ok (.ireturn, 1) := by decide +kernel
set_option maxHeartbeats 4000000 in
set_option maxRecDepth 100000 in
theorem s_X12_leaflet {P : PP} {a0 : Nat} {a1 : Int32} {a2 : Int32} {a3 : Int32} (I : IM P a0) (hW : MW P a0) : CtrI yX12_leaflet cX12_leaflet 5 (some Jvm.ClassFile.FieldType.int) ({ frames := 4, cells := 0, slots := 0, locals := 256 } : Room) 0 0 P [.ref a0, .int a1, .int a2, .int a3] (fun r P2 => IM P2 a0 ∧ EM [0] a0 P P2 ∧ MW P2 a0 ∧ (True)) := by
  refine enI (lv := [(0, .ref a0), (1, .int a1), (2, .int a2), (3, .int a3)]) (by decide) (Nat.le_of_ble_eq_true rfl) rfl (fun E D cy C Ci0 ret => ?_)
  have ha0 := I.2.1
  have J29 : ∀ (P29 : PP), (IM P29 a0) → (EM [0] a0 P P29) → (MW P29 a0) → (0 ≤ (pI P29 a0 0).toInt ∧ (pI P29 a0 0).toInt ≤ 0) → G E ({ frames := 4, cells := 0, slots := 0, locals := 256 } : Room) D cy 5 P29 0 0 29 [] [] := by
    intro P29 I29 X29 W29 hq29_0
    have h92993 := X29.at ha0
    refine g_iconst (v := (-1)) C dX12_leaflet_29 (by decide) ?_
    exact ret _ _ _ _ _ _ dX12_leaflet_30 rfl (by decide) (by decide) ⟨I29, X29, W29, trivial⟩
  refine g_aload_n C dX12_leaflet_0 rfl 0 rfl ?_
  refine g_iconst (v := 0) C dX12_leaflet_1 (by decide) ?_
  refine g_putI C fi_X12_1 rfl (ha0).1 (ha0).2 dX12_leaflet_2 ?_
  refine gqW (ks := [0]) (I.setI (rgOk.of rfl (by decide))) (EM.setI I (by decide)) (fun Y92994 Iy92995 Xy92996 w92997  => ?_)
  have w92997 : (pI Y92994 a0 0).toInt = 0 := w92997
  have W92998 := hW.keep I Xy92996 (by decide) (by decide) (by decide)
  have Xz92999 : EM [0] a0 P Y92994 := Xy92996.mono (by decide)
  have h93000 := Xy92996.at ha0
  refine g_aload_n C dX12_leaflet_5 rfl 0 rfl ?_
  refine g_iload_n C dX12_leaflet_6 rfl 1 rfl ?_
  refine g_callVI (rest := []) C mv_X12_192 [.int a1] (s_X12_isBook Iy92995 W92998) (h93000).1 (h93000).2 rfl rfl (by decide) (Nat.le_of_ble_eq_true rfl) (by decide) dX12_leaflet_7 (fun r93001 Y93002 h93003 => ?_)
  obtain ⟨rfl, h93003⟩ := h93003
  obtain ⟨h93003, hi93004, hi93005⟩ := h93003
  have hi93004 : r93001.toInt = 0 ∨ (((0 : Int) ≤ a1.toInt ∧ a1.toInt ≤ (1 : Int))) := hi93004
  have h93003 : 0 ≤ r93001.toInt ∧ r93001.toInt ≤ 1 := h93003
  refine b_if_eq C 29 dX12_leaflet_10 (by decide) (fun h93006 => ?_) (fun h93006 => ?_)
  · have h93006 : r93001.toInt = 0 := congrArg Int32.toInt h93006
    clear hi93004
    refine g_lv (lv' := []) [] rfl ?_
    exact J29 Y92994 Iy92995 Xz92999 W92998 (by omega)
  · have h93006 : r93001.toInt ≠ 0 := ti_ne h93006
    replace hi93004 := hi93004.resolve_left (by omega)
    obtain ⟨b93007, e93008, h93009⟩ := Iy92995.fld (h93000) 10 13 2 rfl
    have hi93005 := (hi93005.resolve_left (by omega)) b93007 e93008
    have hi93005 : 0 < (pI Y92994 b93007 (a1.toInt.toNat)).toInt := hi93005
    have h93010 := Iy92995.arr e93008 rfl (a1.toInt.toNat)
    refine g_iload_n C dX12_leaflet_13 rfl 2 rfl ?_
    refine g_callSI (b := 0) (ci := 0) (rest := []) C ms_X12_258 [.int a2] (s_X12_isNumber Iy92995.1) rfl rfl (by decide) (Nat.le_of_ble_eq_true rfl) (by decide) dX12_leaflet_14 (fun r93011 Y93012 h93013 => ?_)
    obtain ⟨rfl, h93013⟩ := h93013
    obtain ⟨h93013, hi93014⟩ := h93013
    have hi93014 : r93011.toInt = 0 ∨ (((0 : Int) ≤ a2.toInt ∧ a2.toInt ≤ (9999 : Int))) := hi93014
    have h93013 : 0 ≤ r93011.toInt ∧ r93011.toInt ≤ 1 := h93013
    refine b_if_eq C 29 dX12_leaflet_17 (by decide) (fun h93015 => ?_) (fun h93015 => ?_)
    · have h93015 : r93011.toInt = 0 := congrArg Int32.toInt h93015
      clear hi93014
      refine g_lv (lv' := []) [] rfl ?_
      exact J29 Y92994 Iy92995 Xz92999 W92998 (by omega)
    · have h93015 : r93011.toInt ≠ 0 := ti_ne h93015
      replace hi93014 := hi93014.resolve_left (by omega)
      refine g_iload_n C dX12_leaflet_20 rfl 3 rfl ?_
      refine g_iconst (v := 0) C dX12_leaflet_21 (by decide) ?_
      refine g_iconst (v := 3) C dX12_leaflet_22 (by decide) ?_
      refine g_callSI (b := 0) (ci := 0) (rest := []) C ms_X12_178 [.int a3, .int 0, .int 3] (s_X12_within Iy92995.1) rfl rfl (by decide) (Nat.le_of_ble_eq_true rfl) (by decide) dX12_leaflet_23 (fun r93016 Y93017 h93018 => ?_)
      obtain ⟨rfl, h93018⟩ := h93018
      obtain ⟨h93018, hi93019⟩ := h93018
      have hi93019 : r93016.toInt = 0 ∨ (0 ≤ a3.toInt ∧ a3.toInt ≤ 3) := hi93019
      have h93018 : 0 ≤ r93016.toInt ∧ r93016.toInt ≤ 1 := h93018
      refine b_if_ne C 31 dX12_leaflet_26 (by decide) (fun h93020 => ?_) (fun h93020 => ?_)
      · have h93020 : r93016.toInt ≠ 0 := ti_ne h93020
        replace hi93019 := hi93019.resolve_left (by omega)
        refine g_aload_n C dX12_leaflet_31 rfl 0 rfl ?_
        refine g_iload_n C dX12_leaflet_32 rfl 1 rfl ?_
        refine g_iload_n C dX12_leaflet_33 rfl 2 rfl ?_
        refine g_callVI (rest := []) C mv_X12_261 [.int a1, .int a2] (s_X12_setOf Iy92995 (by omega) (fun b9 e9 => by rw [e93008] at e9; cases e9; show 1 ≤ (pI Y92994 b93007 (a1.toInt.toNat)).toInt ∧ (pI Y92994 b93007 (a1.toInt.toNat)).toInt ≤ 16; omega) W92998) (h93000).1 (h93000).2 rfl rfl (by decide) (Nat.le_of_ble_eq_true rfl) (by decide) dX12_leaflet_34 (fun r93021 Y93022 h93023 => ?_)
        obtain ⟨Iy93024, Xy93025, W93026, h93023⟩ := h93023
        have q93027 := Xy93025.keepF 0 (by decide)
        have q93028 := Xy93025.keepA e93008 (by decide) rfl (a1.toInt.toNat)
        have Xz93029 : EM [0] a0 P Y93022 := EM.tr ha0 Xz92999 (Xy93025.mono (by decide))
        have e93030 := Xy93025.ref h93000 (by decide) e93008
        have h93031 := Xy93025.at h93000
        have h93032 := Xy93025.ar h93009
        have h93023 : True := h93023
        refine g_istore (lv' := [(4, .int r93021), (0, .ref a0), (1, .int a1), (2, .int a2), (3, .int a3)]) C dX12_leaflet_37 (by decide) rfl ?_
        refine g_iload_n C dX12_leaflet_39 rfl 4 rfl ?_
        refine b_if_ne C 48 dX12_leaflet_40 (by decide) (fun h93033 => ?_) (fun h93033 => ?_)
        · have h93033 : a3.toInt ≠ 0 := ti_ne h93033
          refine g_iload_n C dX12_leaflet_48 rfl 4 rfl ?_
          refine g_iconst (v := 3) C dX12_leaflet_49 (by decide) ?_
          refine b_icmp_ne C 61 dX12_leaflet_50 (by decide) (fun h93034 => ?_) (fun h93034 => ?_)
          · have h93034 : a3.toInt ≠ 3 := ti_ne h93034
            refine g_iload_n C dX12_leaflet_61 rfl 4 rfl ?_
            refine g_iconst (v := 1) C dX12_leaflet_62 (by decide) ?_
            refine b_icmp_ne C 76 dX12_leaflet_63 (by decide) (fun h93035 => ?_) (fun h93035 => ?_)
            · have h93035 : a3.toInt ≠ 1 := ti_ne h93035
              refine g_aload_n C dX12_leaflet_76 rfl 1 rfl ?_
              refine g_iload_n C dX12_leaflet_77 rfl 2 rfl ?_
              refine g_iload_n C dX12_leaflet_78 rfl 3 rfl ?_
              refine g_aload_n C dX12_leaflet_79 rfl 1 rfl ?_
              refine g_iload_n C dX12_leaflet_80 rfl 2 rfl ?_
              refine g_iload C dX12_leaflet_81 0 rfl ?_
              refine g_callVI (rest := [.int a2, .int a1, .ref a0]) C mv_X12_223 [.int a1, .int r93021] (s_X12_sumOf Iy93024 (by omega) W93026) (h93031).1 (h93031).2 rfl rfl (by decide) (Nat.le_of_ble_eq_true rfl) (by decide) dX12_leaflet_83 (fun r93036 Y93037 h93038 => ?_)
              obtain ⟨rfl, h93038⟩ := h93038
              have h93038 : True := h93038
              refine g_callVI (rest := []) C mv_X12_267 [.int a1, .int a2, .int r93036] (s_X12_sealOf Iy93024 (by omega) W93026) (h93031).1 (h93031).2 rfl rfl (by decide) (Nat.le_of_ble_eq_true rfl) (by decide) dX12_leaflet_86 (fun r93039 Y93040 h93041 => ?_)
              obtain ⟨rfl, h93041⟩ := h93041
              have h93041 : -996 ≤ r93039.toInt ∧ r93039.toInt ≤ 996 := h93041
              exact ret _ _ _ _ _ _ dX12_leaflet_89 rfl (by decide) (by decide) ⟨Iy93024, Xz93029, W93026, trivial⟩
            · have h93035 : a3.toInt = 1 := congrArg Int32.toInt h93035
              refine g_aload_n C dX12_leaflet_66 rfl 1 rfl ?_
              refine g_iload_n C dX12_leaflet_67 rfl 2 rfl ?_
              refine g_iload C dX12_leaflet_68 0 rfl ?_
              refine g_callVI (rest := []) C mv_X12_223 [.int a1, .int r93021] (s_X12_sumOf Iy93024 (by omega) W93026) (h93031).1 (h93031).2 rfl rfl (by decide) (Nat.le_of_ble_eq_true rfl) (by decide) dX12_leaflet_70 (fun r93042 Y93043 h93044 => ?_)
              obtain ⟨rfl, h93044⟩ := h93044
              have h93044 : True := h93044
              refine g_goto C 89 dX12_leaflet_73 (by decide) ?_
              exact ret _ _ _ _ _ _ dX12_leaflet_89 rfl (by decide) (by decide) ⟨Iy93024, Xz93029, W93026, trivial⟩
          · have h93034 : a3.toInt = 3 := congrArg Int32.toInt h93034
            refine g_iload C dX12_leaflet_53 0 rfl ?_
            refine g_callSI (b := 0) (ci := 0) (rest := []) C ms_X12_264 [.int r93021] (s_X12_bits Iy93024.1) rfl rfl (by decide) (Nat.le_of_ble_eq_true rfl) (by decide) dX12_leaflet_55 (fun r93045 Y93046 h93047 => ?_)
            obtain ⟨rfl, h93047⟩ := h93047
            obtain ⟨h93047, hi93048⟩ := h93047
            have hi93048 : r93045.toInt = 0 ∨ r93021.toInt ≠ 0 := hi93048
            have h93047 : 0 ≤ r93045.toInt ∧ r93045.toInt ≤ 20 := h93047
            refine g_goto C 89 dX12_leaflet_58 (by decide) ?_
            exact ret _ _ _ _ _ _ dX12_leaflet_89 rfl (by decide) (by decide) ⟨Iy93024, Xz93029, W93026, trivial⟩
        · have h93033 : a3.toInt = 0 := congrArg Int32.toInt h93033
          refine g_iload C dX12_leaflet_43 0 rfl ?_
          refine g_goto C 89 dX12_leaflet_45 (by decide) ?_
          exact ret _ _ _ _ _ _ dX12_leaflet_89 rfl (by decide) (by decide) ⟨Iy93024, Xz93029, W93026, trivial⟩
      · have h93020 : r93016.toInt = 0 := congrArg Int32.toInt h93020
        clear hi93019
        refine g_lv (lv' := []) [] rfl ?_
        exact J29 Y92994 Iy92995 Xz92999 W92998 (by omega)
