theorem dX11_page_0 : decode cX11_page 0 = .ok (.aload_n 0, 1) := by decide +kernel
theorem dX11_page_1 : decode cX11_page 1 = .ok (.iload_n 1, 1) := by decide +kernel
theorem dX11_page_2 : decode cX11_page 2 = .ok (.invokevirtual 97, 3) := by decide +kernel
theorem dX11_page_5 : decode cX11_page 5 = .ok (.ifCond .eq 20, 3) := by decide +kernel
theorem dX11_page_8 : decode cX11_page 8 = .ok (.iload_n 2, 1) := by decide +kernel
theorem dX11_page_9 : decode cX11_page 9 = .ok (.ifCond .lt 16, 3) := by decide +kernel
theorem dX11_page_12 : decode cX11_page 12 = .ok (.iload_n 2, 1) := by decide +kernel
theorem dX11_page_13 : decode cX11_page 13 = .ok (.aload_n 0, 1) := by decide +kernel
theorem dX11_page_14 : decode cX11_page 14 = .ok (.getfield 11, 3) := by decide +kernel
theorem dX11_page_17 : decode cX11_page 17 = .ok (.iload_n 1, 1) := by decide +kernel
theorem dX11_page_18 : decode cX11_page 18 = .ok (.aaload, 1) := by decide +kernel
theorem dX11_page_19 : decode cX11_page 19 = .ok (.getfield 100, 3) := by decide +kernel
theorem dX11_page_22 : decode cX11_page 22 = .ok (.if_icmp .lt 5, 3) := by decide +kernel
theorem dX11_page_25 : decode cX11_page 25 = .ok (.iconst 0, 1) := by decide +kernel
theorem dX11_page_26 : decode cX11_page 26 = .ok (.ireturn, 1) := by decide +kernel
theorem dX11_page_27 : decode cX11_page 27 = .ok (.iload_n 3, 1) := by decide +kernel
theorem dX11_page_28 : decode cX11_page 28 = .ok (.ifCond .lt 17, 3) := by decide +kernel
theorem dX11_page_31 : decode cX11_page 31 = .ok (.iload_n 3, 1) := by decide +kernel
theorem dX11_page_32 : decode cX11_page 32 = .ok (.ldc 104, 2) := by decide +kernel
theorem dX11_page_34 : decode cX11_page 34 = .ok (.if_icmp .gt 11, 3) := by decide +kernel
theorem dX11_page_37 : decode cX11_page 37 = .ok (.aload_n 0, 1) := by decide +kernel
theorem dX11_page_38 : decode cX11_page 38 = .ok (.iload_n 1, 1) := by decide +kernel
theorem dX11_page_39 : decode cX11_page 39 = .ok (.invokevirtual 105, 3) := by decide +kernel
theorem dX11_page_42 : decode cX11_page 42 = .ok (.ifCond .eq 5, 3) := by decide +kernel
theorem dX11_page_45 : decode cX11_page 45 = .ok (.iconst 0, 1) := by decide +kernel
theorem dX11_page_46 : decode cX11_page 46 = .ok (.ireturn, 1) := by decide +kernel
theorem dX11_page_47 : decode cX11_page 47 = .ok (.aload_n 0, 1) := by decide +kernel
theorem dX11_page_48 : decode cX11_page 48 = .ok (.getfield 11, 3) := by decide +kernel
theorem dX11_page_51 : decode cX11_page 51 = .ok (.iload_n 1, 1) := by decide +kernel
theorem dX11_page_52 : decode cX11_page 52 = .ok (.aaload, 1) := by decide +kernel
theorem dX11_page_53 : decode cX11_page 53 = .ok (.getfield 108, 3) := by decide +kernel
theorem dX11_page_56 : decode cX11_page 56 = .ok (.iload_n 2, 1) := by decide +kernel
theorem dX11_page_57 : decode cX11_page 57 = .ok (.iload_n 3, 1) := by decide +kernel
theorem dX11_page_58 : decode cX11_page 58 = .ok (.iastore, 1) := by decide +kernel
theorem dX11_page_59 : decode cX11_page 59 = .ok (.iconst 1, 1) := by decide +kernel
theorem dX11_page_60 : decode cX11_page 60 = .ok (.ireturn, 1) := by decide +kernel
set_option maxHeartbeats 4000000 in
set_option maxRecDepth 100000 in
theorem s_X11_page {P : PP} {a0 : Nat} {a1 : Int32} {a2 : Int32} {a3 : Int32} (I : IV P) (ha0 : At P a0 11) : CtrI yX11_page cX11_page 4 (some Jvm.ClassFile.FieldType.boolean) ({ frames := 4, cells := 0, slots := 0, locals := 256 } : Room) 0 0 P [.ref a0, .int a1, .int a2, .int a3] (fun r P2 => IV P2 ∧ EK [13] P P2 ∧ (0 ≤ r.toInt ∧ r.toInt ≤ 1) ∧ (r.toInt = 0 ∨ (((0 : Int) ≤ a1.toInt ∧ a1.toInt ≤ (1 : Int)) ∧ ((0 : Int) ≤ a2.toInt ∧ a2.toInt ≤ (15 : Int)) ∧ ((0 : Int) ≤ a3.toInt ∧ a3.toInt ≤ (65535 : Int))))) := by
  refine enI (lv := [(0, .ref a0), (1, .int a1), (2, .int a2), (3, .int a3)]) (by decide) (Nat.le_of_ble_eq_true rfl) rfl (fun E D cy C Ci0 ret => ?_)
  have J45 : G E ({ frames := 4, cells := 0, slots := 0, locals := 256 } : Room) D cy 4 P 0 0 45 [] [] := by
    refine g_iconst (v := 0) C dX11_page_45 (by decide) ?_
    exact ret _ _ _ _ _ _ dX11_page_46 rfl (by decide) (by decide) ⟨I, EK.rf, (by decide), Or.inl rfl⟩
  have J25 : G E ({ frames := 4, cells := 0, slots := 0, locals := 256 } : Room) D cy 4 P 0 0 25 [] [] := by
    refine g_iconst (v := 0) C dX11_page_25 (by decide) ?_
    exact ret _ _ _ _ _ _ dX11_page_26 rfl (by decide) (by decide) ⟨I, EK.rf, (by decide), Or.inl rfl⟩
  refine g_aload_n C dX11_page_0 rfl 0 rfl ?_
  refine g_iload_n C dX11_page_1 rfl 1 rfl ?_
  refine g_callVI (rest := []) C mv_X11_97 [.int a1] (s_X11_isTold I ha0) (ha0).1 (ha0).2 rfl rfl (by decide) (Nat.le_of_ble_eq_true rfl) (by decide) dX11_page_2 (fun r29072 Y29073 h29074 => ?_)
  obtain ⟨rfl, h29074⟩ := h29074
  obtain ⟨h29074, hi29075⟩ := h29074
  have hi29075 : r29072.toInt = 0 ∨ (((0 : Int) ≤ a1.toInt ∧ a1.toInt ≤ (1 : Int))) := hi29075
  have h29074 : 0 ≤ r29072.toInt ∧ r29072.toInt ≤ 1 := h29074
  refine b_if_eq C 25 dX11_page_5 (by decide) (fun h29076 => ?_) (fun h29076 => ?_)
  · have h29076 : r29072.toInt = 0 := congrArg Int32.toInt h29076
    clear hi29075
    refine g_lv (lv' := []) [] rfl ?_
    exact J25 
  · have h29076 : r29072.toInt ≠ 0 := ti_ne h29076
    replace hi29075 := hi29075.resolve_left (by omega)
    refine g_iload_n C dX11_page_8 rfl 2 rfl ?_
    have u29078 := ti_rng a2
    refine b_if_lt C 25 dX11_page_9 (by decide) (fun h29077 => ?_) (fun h29077 => ?_)
    · have h29077 : a2.toInt < 0 := h29077
      refine g_lv (lv' := []) [] rfl ?_
      exact J25 
    · have h29077 : 0 ≤ a2.toInt := h29077
      refine g_iload_n C dX11_page_12 rfl 2 rfl ?_
      refine g_aload_n C dX11_page_13 rfl 0 rfl ?_
      obtain ⟨b29079, e29080, h29081⟩ := I.fld (ha0) 0 17 2 rfl
      refine g_getR C fi_X11_11 rfl e29080 (ha0).1 (ha0).2 dX11_page_14 ?_
      refine g_iload_n C dX11_page_17 rfl 1 rfl ?_
      obtain ⟨b29082, e29083, h29084⟩ := I.elm h29081 (by decide) (a1.toInt.toNat) (by omega)
      refine g_aldR C h29081.1 h29081.2.1 (by decide) (ix_in h29081.2.2 (by omega)) e29083 dX11_page_18 ?_
      refine g_getI C fi_X11_100 (by decide) (h29084).1 (h29084).2 dX11_page_19 ?_
      have h29085 := I.rg (h29084) 5 rfl
      have u29087 := ti_rng a2
      refine b_icmp_lt C 27 dX11_page_22 (by decide) (fun h29086 => ?_) (fun h29086 => ?_)
      · have h29086 : a2.toInt < (pI P b29082 5).toInt := h29086
        refine g_iload_n C dX11_page_27 rfl 3 rfl ?_
        have u29089 := ti_rng a3
        refine b_if_lt C 45 dX11_page_28 (by decide) (fun h29088 => ?_) (fun h29088 => ?_)
        · have h29088 : a3.toInt < 0 := h29088
          refine g_lv (lv' := []) [] rfl ?_
          exact J45 
        · have h29088 : 0 ≤ a3.toInt := h29088
          refine g_iload_n C dX11_page_31 rfl 3 rfl ?_
          refine g_ldc (v := 65535) C kc_X11_104 dX11_page_32 ?_
          have u29091 := ti_rng a3
          refine b_icmp_gt C 45 dX11_page_34 (by decide) (fun h29090 => ?_) (fun h29090 => ?_)
          · have h29090 : 65535 < a3.toInt := h29090
            refine g_lv (lv' := []) [] rfl ?_
            exact J45 
          · have h29090 : a3.toInt ≤ 65535 := h29090
            refine g_aload_n C dX11_page_37 rfl 0 rfl ?_
            refine g_iload_n C dX11_page_38 rfl 1 rfl ?_
            refine g_callVI (rest := []) C mv_X11_105 [.int a1] (s_X11_isTouched I ha0) (ha0).1 (ha0).2 rfl rfl (by decide) (Nat.le_of_ble_eq_true rfl) (by decide) dX11_page_39 (fun r29092 Y29093 h29094 => ?_)
            obtain ⟨rfl, h29094⟩ := h29094
            have h29094 : 0 ≤ r29092.toInt ∧ r29092.toInt ≤ 1 := h29094
            refine b_if_eq C 47 dX11_page_42 (by decide) (fun h29095 => ?_) (fun h29095 => ?_)
            · have h29095 : r29092.toInt = 0 := congrArg Int32.toInt h29095
              refine g_aload_n C dX11_page_47 rfl 0 rfl ?_
              refine g_getR C fi_X11_11 rfl e29080 (ha0).1 (ha0).2 dX11_page_48 ?_
              refine g_iload_n C dX11_page_51 rfl 1 rfl ?_
              obtain ⟨b29096, e29097, h29098⟩ := I.elm h29081 (by decide) (a1.toInt.toNat) (by omega)
              refine g_aldR C h29081.1 h29081.2.1 (by decide) (ix_in h29081.2.2 (by omega)) e29097 dX11_page_52 ?_
              obtain ⟨b29099, e29100, h29101⟩ := I.fld (h29098) 1 13 16 rfl
              refine g_getR C fi_X11_108 rfl e29100 (h29098).1 (h29098).2 dX11_page_53 ?_
              refine g_iload_n C dX11_page_56 rfl 2 rfl ?_
              refine g_iload_n C dX11_page_57 rfl 3 rfl ?_
              refine g_iast (j := (a2.toInt.toNat)) C h29101.1 h29101.2.1 (ix_in h29101.2.2 (by omega)) dX11_page_58 ?_
              refine gp (ks := [13]) (I.setA h29101 (by decide)) (EK.setI h29101.2.1 (by decide)) (fun Y29102 Iy29103 Xy29104 => ?_)
              have q29105 := Xy29104.keep h29084 (by decide) 5
              have Xz29106 : EK [13] P Y29102 := Xy29104.mono (by decide)
              have h29107 := Xy29104.at ha0
              refine g_iconst (v := 1) C dX11_page_59 (by decide) ?_
              exact ret _ _ _ _ _ _ dX11_page_60 rfl (by decide) (by decide) ⟨Iy29103, Xz29106, (by decide), Or.inr (by omega)⟩
            · have h29095 : r29092.toInt ≠ 0 := ti_ne h29095
              refine g_lv (lv' := []) [] rfl ?_
              exact J45 
      · have h29086 : (pI P b29082 5).toInt ≤ a2.toInt := h29086
        refine g_lv (lv' := []) [] rfl ?_
        exact J25 
theorem dX11_paper_0 : decode cX11_paper 0 = .ok (.aload_n 0, 1) := by decide +kernel
theorem dX11_paper_1 : decode cX11_paper 1 = .ok (.iload_n 1, 1) := by decide +kernel
theorem dX11_paper_2 : decode cX11_paper 2 = .ok (.iload_n 2, 1) := by decide +kernel
theorem dX11_paper_3 : decode cX11_paper 3 = .ok (.invokevirtual 185, 3) := by decide +kernel
theorem dX11_paper_6 : decode cX11_paper 6 = .ok (.astore 4, 2) := by decide +kernel
theorem dX11_paper_8 : decode cX11_paper 8 = .ok (.aload 4, 2) := by decide +kernel
theorem dX11_paper_10 : decode cX11_paper 10 = .ok (.ifnonnull 11, 3) := by decide +kernel
theorem dX11_paper_13 : decode cX11_paper 13 = .ok (.new 188, 3) := by decide +kernel
theorem dX11_peels_0 : decode cX11_peels 0 = .ok (.iload_n 1, 1) := by decide +kernel
theorem dX11_peels_1 : decode cX11_peels 1 = .ok (.invokestatic 158, 3) := by decide +kernel
theorem dX11_peels_4 : decode cX11_peels 4 = .ok (.ifCond .eq 18, 3) := by decide +kernel
theorem dX11_peels_7 : decode cX11_peels 7 = .ok (.aload_n 0, 1) := by decide +kernel
theorem dX11_peels_8 : decode cX11_peels 8 = .ok (.iload_n 2, 1) := by decide +kernel
theorem dX11_peels_9 : decode cX11_peels 9 = .ok (.invokevirtual 97, 3) := by decide +kernel
theorem dX11_peels_12 : decode cX11_peels 12 = .ok (.ifCond .eq 10, 3) := by decide +kernel
theorem dX11_peels_15 : decode cX11_peels 15 = .ok (.iload_n 3, 1) := by decide +kernel
theorem dX11_peels_16 : decode cX11_peels 16 = .ok (.invokestatic 213, 3) := by decide +kernel
theorem dX11_peels_19 : decode cX11_peels 19 = .ok (.ifCond .ne 5, 3) := by decide +kernel
theorem dX11_peels_24 : decode cX11_peels 24 = .ok (.aload_n 0, 1) := by decide +kernel
theorem dX11_peels_25 : decode cX11_peels 25 = .ok (.iload_n 1, 1) := by decide +kernel
theorem dX11_peels_26 : decode cX11_peels 26 = .ok (.iload_n 2, 1) := by decide +kernel
theorem dX11_peels_27 : decode cX11_peels 27 = .ok (.iload_n 3, 1) := by decide +kernel
theorem dX11_peels_28 : decode cX11_peels 28 = .ok (.invokevirtual 216, 3) := by decide +kernel
theorem dX11_peels_31 : decode cX11_peels 31 = .ok (.astore 5, 2) := by decide +kernel
theorem dX11_peels_33 : decode cX11_peels 33 = .ok (.aload 5, 2) := by decide +kernel
theorem dX11_peels_35 : decode cX11_peels 35 = .ok (.invokevirtual 220, 3) := by decide +kernel
theorem dX5_peel_0 : decode cX5_peel 0 = .ok (.iconst 0, 1) := by decide +kernel
theorem dX5_peel_1 : decode cX5_peel 1 = .ok (.istore_n 1, 1) := by decide +kernel
theorem dX5_peel_2 : decode cX5_peel 2 = .ok (.iconst 0, 1) := by decide +kernel
theorem dX5_peel_3 : decode cX5_peel 3 = .ok (.istore_n 2, 1) := by decide +kernel
theorem dX5_peel_4 : decode cX5_peel 4 = .ok (.iload_n 2, 1) := by decide +kernel
theorem dX5_peel_5 : decode cX5_peel 5 = .ok (.bipush 20, 2) := by decide +kernel
theorem dX5_peel_7 : decode cX5_peel 7 = .ok (.if_icmp .gt 62, 3) := by decide +kernel
theorem dX5_peel_10 : decode cX5_peel 10 = .ok (.aload_n 0, 1) := by decide +kernel
theorem dX5_peel_11 : decode cX5_peel 11 = .ok (.iload_n 1, 1) := by decide +kernel
theorem dX5_peel_12 : decode cX5_peel 12 = .ok (.invokevirtual 58, 3) := by decide +kernel
theorem dX5_firstWithOneUnknown_0 : decode cX5_firstWithOneUnknown 0 = .ok (.iconst 0, 1) := by decide +kernel
theorem dX5_firstWithOneUnknown_1 : decode cX5_firstWithOneUnknown 1 = .ok (.istore_n 2, 1) := by decide +kernel
theorem dX5_firstWithOneUnknown_2 : decode cX5_firstWithOneUnknown 2 = .ok (.iload_n 2, 1) := by decide +kernel
theorem dX5_firstWithOneUnknown_3 : decode cX5_firstWithOneUnknown 3 = .ok (.aload_n 0, 1) := by decide +kernel
theorem dX5_firstWithOneUnknown_4 : decode cX5_firstWithOneUnknown 4 = .ok (.getfield 25, 3) := by decide +kernel
theorem dX5_firstWithOneUnknown_7 : decode cX5_firstWithOneUnknown 7 = .ok (.if_icmp .ge 30, 3) := by decide +kernel
theorem dX5_firstWithOneUnknown_10 : decode cX5_firstWithOneUnknown 10 = .ok (.aload_n 0, 1) := by decide +kernel
theorem dX5_firstWithOneUnknown_11 : decode cX5_firstWithOneUnknown 11 = .ok (.iload_n 2, 1) := by decide +kernel
theorem dX5_firstWithOneUnknown_12 : decode cX5_firstWithOneUnknown 12 = .ok (.iload_n 1, 1) := by decide +kernel
theorem dX5_firstWithOneUnknown_13 : decode cX5_firstWithOneUnknown 13 = .ok (.invokevirtual 54, 3) := by decide +kernel
theorem dX5_firstWithOneUnknown_16 : decode cX5_firstWithOneUnknown 16 = .ok (.istore_n 3, 1) := by decide +kernel
theorem dX5_firstWithOneUnknown_17 : decode cX5_firstWithOneUnknown 17 = .ok (.iload_n 3, 1) := by decide +kernel
theorem dX5_firstWithOneUnknown_18 : decode cX5_firstWithOneUnknown 18 = .ok (.ifCond .eq 13, 3) := by decide +kernel
theorem dX5_firstWithOneUnknown_21 : decode cX5_firstWithOneUnknown 21 = .ok (.iload_n 3, 1) := by decide +kernel
theorem dX5_firstWithOneUnknown_22 : decode cX5_firstWithOneUnknown 22 = .ok (.iload_n 3, 1) := by decide +kernel
theorem dX5_firstWithOneUnknown_23 : decode cX5_firstWithOneUnknown 23 = .ok (.iconst 1, 1) := by decide +kernel
theorem dX5_firstWithOneUnknown_24 : decode cX5_firstWithOneUnknown 24 = .ok (.isub, 1) := by decide +kernel
theorem dX5_firstWithOneUnknown_25 : decode cX5_firstWithOneUnknown 25 = .ok (.iand, 1) := by decide +kernel
theorem dX5_firstWithOneUnknown_26 : decode cX5_firstWithOneUnknown 26 = .ok (.ifCond .ne 5, 3) := by decide +kernel
theorem dX5_firstWithOneUnknown_29 : decode cX5_firstWithOneUnknown 29 = .ok (.iload_n 2, 1) := by decide +kernel
theorem dX5_firstWithOneUnknown_30 : decode cX5_firstWithOneUnknown 30 = .ok (.ireturn, 1) := by decide +kernel
theorem dX5_firstWithOneUnknown_31 : decode cX5_firstWithOneUnknown 31 = .ok (.iinc 2 1, 3) := by decide +kernel
theorem dX5_firstWithOneUnknown_34 : decode cX5_firstWithOneUnknown 34 = .ok (.goto (-32), 3) := by decide +kernel
theorem dX5_firstWithOneUnknown_37 : decode cX5_firstWithOneUnknown 37 = .ok (.iconst (-1), 1) := by decide +kernel
theorem dX5_firstWithOneUnknown_38 : decode cX5_firstWithOneUnknown 38 = .ok (.ireturn, 1) := by decide +kernel
set_option maxHeartbeats 4000000 in
set_option maxRecDepth 100000 in
theorem s_X5_firstWithOneUnknown {P : PP} {a0 : Nat} {a1 : Int32} (I : IV P) (ha0 : At P a0 5) : CtrI yX5_firstWithOneUnknown cX5_firstWithOneUnknown 4 (some Jvm.ClassFile.FieldType.int) ({ frames := 2, cells := 0, slots := 0, locals := 128 } : Room) 0 0 P [.ref a0, .int a1] (fun r P2 => P = P2 ∧ (-1 ≤ r.toInt ∧ r.toInt ≤ 43)) := by
  refine enI (lv := [(0, .ref a0), (1, .int a1)]) (by decide) (Nat.le_of_ble_eq_true rfl) rfl (fun E D cy C Ci0 ret => ?_)
  have J2 : ∀ (n2 : Nat) (v2_2 : Int32), (44 - v2_2.toInt).toNat < n2 → (0 ≤ v2_2.toInt ∧ v2_2.toInt ≤ 44) → G E ({ frames := 2, cells := 0, slots := 0, locals := 128 } : Room) D cy 4 P 0 0 2 [(0, .ref a0), (1, .int a1), (2, .int v2_2)] [] := by
    intro n2
    induction n2 with
    | zero => intro v2_2 hm2 hv2_2; omega
    | succ n2 ih2 =>
      intro v2_2 hm2 hv2_2
      have J31 : (0 ≤ v2_2.toInt ∧ v2_2.toInt ≤ 43) → (1 ≤ (pI P a0 4).toInt ∧ (pI P a0 4).toInt ≤ 44) → G E ({ frames := 2, cells := 0, slots := 0, locals := 128 } : Room) D cy 4 P 0 0 31 [(0, .ref a0), (1, .int a1), (2, .int v2_2)] [] := by
        intro hv31_2 hq31_0
        refine s_iinc (lv0 := [(0, .ref a0), (1, .int a1)]) (m := 1) C dX5_firstWithOneUnknown_31 2 rfl (by decide) rfl (by decide) (by omega) (fun z29393 h29394 => ?_)
        have h29394 : z29393.toInt = v2_2.toInt + 1 := h29394
        refine g_goto C 2 dX5_firstWithOneUnknown_34 (by decide) ?_
        refine g_lv (lv' := [(0, .ref a0), (1, .int a1), (2, .int z29393)]) [1, 2, 0] rfl ?_
        exact ih2 z29393 (by omega) (by omega)
      refine g_iload_n C dX5_firstWithOneUnknown_2 rfl 2 rfl ?_
      refine g_aload_n C dX5_firstWithOneUnknown_3 rfl 0 rfl ?_
      refine g_getI C fi_X5_25 (by decide) (ha0).1 (ha0).2 dX5_firstWithOneUnknown_4 ?_
      have h29395 := I.rg (ha0) 4 rfl
      refine b_icmp_ge C 37 dX5_firstWithOneUnknown_7 (by decide) (fun h29396 => ?_) (fun h29396 => ?_)
      · have h29396 : (pI P a0 4).toInt ≤ v2_2.toInt := h29396
        refine g_iconst (v := (-1)) C dX5_firstWithOneUnknown_37 (by decide) ?_
        exact ret _ _ _ _ _ _ dX5_firstWithOneUnknown_38 rfl (by decide) (by decide) ⟨rfl, (by decide)⟩
      · have h29396 : v2_2.toInt < (pI P a0 4).toInt := h29396
        refine g_aload_n C dX5_firstWithOneUnknown_10 rfl 0 rfl ?_
        refine g_iload_n C dX5_firstWithOneUnknown_11 rfl 2 rfl ?_
        refine g_iload_n C dX5_firstWithOneUnknown_12 rfl 1 rfl ?_
        refine g_callVI (rest := []) C mv_X5_54 [.int v2_2, .int a1] (s_X5_unknownOf I ha0 (by omega)) (ha0).1 (ha0).2 rfl rfl (by decide) (Nat.le_of_ble_eq_true rfl) (by decide) dX5_firstWithOneUnknown_13 (fun r29397 Y29398 h29399 => ?_)
        obtain ⟨rfl, h29399⟩ := h29399
        have h29399 : True := h29399
        refine g_istore_n (lv' := [(3, .int r29397), (0, .ref a0), (1, .int a1), (2, .int v2_2)]) C dX5_firstWithOneUnknown_16 rfl (by decide) rfl ?_
        refine g_iload_n C dX5_firstWithOneUnknown_17 rfl 0 rfl ?_
        have u29401 := ti_rng r29397
        refine b_if_eq C 31 dX5_firstWithOneUnknown_18 (by decide) (fun h29400 => ?_) (fun h29400 => ?_)
        · have h29400 : r29397.toInt = 0 := congrArg Int32.toInt h29400
          refine g_lv (lv' := [(0, .ref a0), (1, .int a1), (2, .int v2_2)]) [1, 2, 3] rfl ?_
          exact J31 (by omega) (by omega)
        · have h29400 : r29397.toInt ≠ 0 := ti_ne h29400
          refine g_iload_n C dX5_firstWithOneUnknown_21 rfl 0 rfl ?_
          refine g_iload_n C dX5_firstWithOneUnknown_22 rfl 0 rfl ?_
          refine g_iconst (v := 1) C dX5_firstWithOneUnknown_23 (by decide) ?_
          refine a_isub C dX5_firstWithOneUnknown_24 (fun z29402 => ?_)
          refine a_iand C dX5_firstWithOneUnknown_25 (fun z29404 => ?_)
          have u29407 := ti_rng z29404
          refine b_if_ne C 31 dX5_firstWithOneUnknown_26 (by decide) (fun h29406 => ?_) (fun h29406 => ?_)
          · have h29406 : z29404.toInt ≠ 0 := ti_ne h29406
            refine g_lv (lv' := [(0, .ref a0), (1, .int a1), (2, .int v2_2)]) [1, 2, 3] rfl ?_
            exact J31 (by omega) (by omega)
          · have h29406 : z29404.toInt = 0 := congrArg Int32.toInt h29406
            refine g_iload_n C dX5_firstWithOneUnknown_29 rfl 3 rfl ?_
            exact ret _ _ _ _ _ _ dX5_firstWithOneUnknown_30 rfl (by decide) (by decide) ⟨rfl, (by omega)⟩
  refine g_iconst (v := 0) C dX5_firstWithOneUnknown_0 (by decide) ?_
  refine g_istore_n (lv' := [(2, .int 0), (0, .ref a0), (1, .int a1)]) C dX5_firstWithOneUnknown_1 rfl (by decide) rfl ?_
  refine g_lv (lv' := [(0, .ref a0), (1, .int a1), (2, .int 0)]) [1, 2, 0] rfl ?_
  exact J2 _ 0 (Nat.lt_succ_self _) (by decide)
theorem dX5_peel_15 : decode cX5_peel 15 = .ok (.istore_n 3, 1) := by decide +kernel
theorem dX5_peel_16 : decode cX5_peel 16 = .ok (.iload_n 3, 1) := by decide +kernel
theorem dX5_peel_17 : decode cX5_peel 17 = .ok (.iconst (-1), 1) := by decide +kernel
theorem dX5_peel_18 : decode cX5_peel 18 = .ok (.if_icmp .ne 5, 3) := by decide +kernel
theorem dX5_peel_23 : decode cX5_peel 23 = .ok (.aload_n 0, 1) := by decide +kernel
theorem dX5_peel_24 : decode cX5_peel 24 = .ok (.iload_n 3, 1) := by decide +kernel
theorem dX5_peel_25 : decode cX5_peel 25 = .ok (.iload_n 1, 1) := by decide +kernel
theorem dX5_peel_26 : decode cX5_peel 26 = .ok (.invokevirtual 54, 3) := by decide +kernel
theorem dX5_peel_29 : decode cX5_peel 29 = .ok (.istore 4, 2) := by decide +kernel
theorem dX5_peel_31 : decode cX5_peel 31 = .ok (.iload 4, 2) := by decide +kernel
theorem dX5_peel_33 : decode cX5_peel 33 = .ok (.invokestatic 62, 3) := by decide +kernel
theorem dX5_peel_36 : decode cX5_peel 36 = .ok (.istore 5, 2) := by decide +kernel
theorem dX5_peel_38 : decode cX5_peel 38 = .ok (.iload 5, 2) := by decide +kernel
theorem dX5_peel_40 : decode cX5_peel 40 = .ok (.bipush 20, 2) := by decide +kernel
theorem dX5_peel_42 : decode cX5_peel 42 = .ok (.if_icmp .ge 16, 3) := by decide +kernel
theorem dX5_peel_45 : decode cX5_peel 45 = .ok (.aload_n 0, 1) := by decide +kernel
theorem dX5_peel_46 : decode cX5_peel 46 = .ok (.getfield 18, 3) := by decide +kernel
theorem dX5_peel_49 : decode cX5_peel 49 = .ok (.iload 5, 2) := by decide +kernel
theorem dX5_peel_51 : decode cX5_peel 51 = .ok (.aload_n 0, 1) := by decide +kernel
theorem dX5_peel_52 : decode cX5_peel 52 = .ok (.iload_n 3, 1) := by decide +kernel
theorem dX5_peel_53 : decode cX5_peel 53 = .ok (.iload_n 1, 1) := by decide +kernel
theorem dX5_peel_54 : decode cX5_peel 54 = .ok (.invokevirtual 65, 3) := by decide +kernel
theorem dX5_restOf_0 : decode cX5_restOf 0 = .ok (.aload_n 0, 1) := by decide +kernel
theorem dX5_restOf_1 : decode cX5_restOf 1 = .ok (.getfield 9, 3) := by decide +kernel
theorem dX5_restOf_4 : decode cX5_restOf 4 = .ok (.iload_n 1, 1) := by decide +kernel
theorem dX5_restOf_5 : decode cX5_restOf 5 = .ok (.iaload, 1) := by decide +kernel
theorem dX5_restOf_6 : decode cX5_restOf 6 = .ok (.bipush 20, 2) := by decide +kernel
theorem dX5_restOf_8 : decode cX5_restOf 8 = .ok (.iushr, 1) := by decide +kernel
theorem dX5_restOf_9 : decode cX5_restOf 9 = .ok (.istore_n 3, 1) := by decide +kernel
theorem dX5_restOf_10 : decode cX5_restOf 10 = .ok (.aload_n 0, 1) := by decide +kernel
theorem dX5_restOf_11 : decode cX5_restOf 11 = .ok (.getfield 9, 3) := by decide +kernel
theorem dX5_restOf_14 : decode cX5_restOf 14 = .ok (.iload_n 1, 1) := by decide +kernel
theorem dX5_restOf_15 : decode cX5_restOf 15 = .ok (.iaload, 1) := by decide +kernel
theorem dX5_restOf_16 : decode cX5_restOf 16 = .ok (.ldc 53, 2) := by decide +kernel
theorem dX5_restOf_18 : decode cX5_restOf 18 = .ok (.iand, 1) := by decide +kernel
theorem dX5_restOf_19 : decode cX5_restOf 19 = .ok (.iload_n 2, 1) := by decide +kernel
theorem dX5_restOf_20 : decode cX5_restOf 20 = .ok (.iand, 1) := by decide +kernel
theorem dX5_restOf_21 : decode cX5_restOf 21 = .ok (.istore 4, 2) := by decide +kernel
theorem dX5_restOf_23 : decode cX5_restOf 23 = .ok (.iconst 0, 1) := by decide +kernel
theorem dX5_restOf_24 : decode cX5_restOf 24 = .ok (.istore 5, 2) := by decide +kernel
theorem dX5_restOf_26 : decode cX5_restOf 26 = .ok (.iload 5, 2) := by decide +kernel
theorem dX5_restOf_28 : decode cX5_restOf 28 = .ok (.bipush 20, 2) := by decide +kernel
theorem dX5_restOf_30 : decode cX5_restOf 30 = .ok (.if_icmp .ge 29, 3) := by decide +kernel
theorem dX5_restOf_33 : decode cX5_restOf 33 = .ok (.iload 4, 2) := by decide +kernel
theorem dX5_restOf_35 : decode cX5_restOf 35 = .ok (.iload 5, 2) := by decide +kernel
theorem dX5_restOf_37 : decode cX5_restOf 37 = .ok (.ishr, 1) := by decide +kernel
theorem dX5_restOf_38 : decode cX5_restOf 38 = .ok (.iconst 1, 1) := by decide +kernel
theorem dX5_restOf_39 : decode cX5_restOf 39 = .ok (.iand, 1) := by decide +kernel
theorem dX5_restOf_40 : decode cX5_restOf 40 = .ok (.ifCond .eq 13, 3) := by decide +kernel
theorem dX5_restOf_43 : decode cX5_restOf 43 = .ok (.iload_n 3, 1) := by decide +kernel
theorem dX5_restOf_44 : decode cX5_restOf 44 = .ok (.aload_n 0, 1) := by decide +kernel
theorem dX5_restOf_45 : decode cX5_restOf 45 = .ok (.getfield 18, 3) := by decide +kernel
theorem dX5_restOf_48 : decode cX5_restOf 48 = .ok (.iload 5, 2) := by decide +kernel
theorem dX5_restOf_50 : decode cX5_restOf 50 = .ok (.iaload, 1) := by decide +kernel
theorem dX5_restOf_51 : decode cX5_restOf 51 = .ok (.ixor, 1) := by decide +kernel
theorem dX5_restOf_52 : decode cX5_restOf 52 = .ok (.istore_n 3, 1) := by decide +kernel
theorem dX5_restOf_53 : decode cX5_restOf 53 = .ok (.iinc 5 1, 3) := by decide +kernel
theorem dX5_restOf_56 : decode cX5_restOf 56 = .ok (.goto (-30), 3) := by decide +kernel
theorem dX5_restOf_59 : decode cX5_restOf 59 = .ok (.iload_n 3, 1) := by decide +kernel
theorem dX5_restOf_60 : decode cX5_restOf 60 = .ok (.ireturn, 1) := by decide +kernel
set_option maxHeartbeats 4000000 in
set_option maxRecDepth 100000 in
theorem s_X5_restOf {P : PP} {a0 : Nat} {a1 : Int32} {a2 : Int32} (I : IV P) (ha0 : At P a0 5) (ha1 : 0 ≤ a1.toInt ∧ a1.toInt ≤ 43) : CtrI yX5_restOf cX5_restOf 6 (some Jvm.ClassFile.FieldType.int) ({ frames := 1, cells := 0, slots := 0, locals := 64 } : Room) 0 0 P [.ref a0, .int a1, .int a2] (fun r P2 => P = P2 ∧ (True)) := by
  refine enI (lv := [(0, .ref a0), (1, .int a1), (2, .int a2)]) (by decide) (Nat.le_of_ble_eq_true rfl) rfl (fun E D cy C Ci0 ret => ?_)
  have J26 : ∀ (n26 : Nat) (v26_3 : Int32) (v26_4 : Int32) (v26_5 : Int32), (20 - v26_5.toInt).toNat < n26 → (0 ≤ v26_5.toInt ∧ v26_5.toInt ≤ 20) → G E ({ frames := 1, cells := 0, slots := 0, locals := 64 } : Room) D cy 6 P 0 0 26 [(0, .ref a0), (3, .int v26_3), (4, .int v26_4), (5, .int v26_5)] [] := by
    intro n26
    induction n26 with
    | zero => intro v26_3 v26_4 v26_5 hm26 hv26_5; omega
    | succ n26 ih26 =>
      intro v26_3 v26_4 v26_5 hm26 hv26_5
      have J53 : ∀ (v53_3 : Int32), (0 ≤ v26_5.toInt ∧ v26_5.toInt ≤ 19) → G E ({ frames := 1, cells := 0, slots := 0, locals := 64 } : Room) D cy 6 P 0 0 53 [(0, .ref a0), (3, .int v53_3), (4, .int v26_4), (5, .int v26_5)] [] := by
        intro v53_3 hv53_5
        refine s_iinc (lv0 := [(0, .ref a0), (3, .int v53_3), (4, .int v26_4)]) (m := 1) C dX5_restOf_53 3 rfl (by decide) rfl (by decide) (by omega) (fun z29617 h29618 => ?_)
        have h29618 : z29617.toInt = v26_5.toInt + 1 := h29618
        refine g_goto C 26 dX5_restOf_56 (by decide) ?_
        refine g_lv (lv' := [(0, .ref a0), (3, .int v53_3), (4, .int v26_4), (5, .int z29617)]) [1, 2, 3, 0] rfl ?_
        exact ih26 v53_3 v26_4 z29617 (by omega) (by omega)
      refine g_iload C dX5_restOf_26 3 rfl ?_
      refine g_bipush (v := 20) C dX5_restOf_28 (by decide) ?_
      refine b_icmp_ge C 59 dX5_restOf_30 (by decide) (fun h29619 => ?_) (fun h29619 => ?_)
      · have h29619 : 20 ≤ v26_5.toInt := h29619
        refine g_iload_n C dX5_restOf_59 rfl 1 rfl ?_
        exact ret _ _ _ _ _ _ dX5_restOf_60 rfl (by decide) (by decide) ⟨rfl, trivial⟩
      · have h29619 : v26_5.toInt < 20 := h29619
        refine g_iload C dX5_restOf_33 2 rfl ?_
        refine g_iload C dX5_restOf_35 3 rfl ?_
        refine a_ishr C dX5_restOf_37 (fun z29620 => ?_)
        refine g_iconst (v := 1) C dX5_restOf_38 (by decide) ?_
        refine s_iand C dX5_restOf_39 (by show 0 ≤ 1; omega) (fun z29622 h29623 => ?_)
        have h29623 : 0 ≤ z29622.toInt ∧ z29622.toInt ≤ 1 := h29623
        refine b_if_eq C 53 dX5_restOf_40 (by decide) (fun h29624 => ?_) (fun h29624 => ?_)
        · have h29624 : z29622.toInt = 0 := congrArg Int32.toInt h29624
          exact J53 v26_3 (by omega)
        · have h29624 : z29622.toInt ≠ 0 := ti_ne h29624
          refine g_iload_n C dX5_restOf_43 rfl 1 rfl ?_
          refine g_aload_n C dX5_restOf_44 rfl 0 rfl ?_
          obtain ⟨b29625, e29626, h29627⟩ := I.fld (ha0) 2 13 20 rfl
          refine g_getR C fi_X5_18 rfl e29626 (ha0).1 (ha0).2 dX5_restOf_45 ?_
          refine g_iload C dX5_restOf_48 3 rfl ?_
          refine g_iald (j := (v26_5.toInt.toNat)) C h29627.1 h29627.2.1 (ix_in h29627.2.2 (by omega)) dX5_restOf_50 ?_
          refine g_topi (fun z29628 _ => ?_)
          refine a_ixor C dX5_restOf_51 (fun z29629 => ?_)
          refine g_istore_n (lv' := [(3, .int z29629), (0, .ref a0), (4, .int v26_4), (5, .int v26_5)]) C dX5_restOf_52 rfl (by decide) rfl ?_
          refine g_lv (lv' := [(0, .ref a0), (3, .int z29629), (4, .int v26_4), (5, .int v26_5)]) [1, 0, 2, 3] rfl ?_
          exact J53 z29629 (by omega)
  refine g_aload_n C dX5_restOf_0 rfl 0 rfl ?_
  obtain ⟨b29631, e29632, h29633⟩ := I.fld (ha0) 0 13 44 rfl
  refine g_getR C fi_X5_9 rfl e29632 (ha0).1 (ha0).2 dX5_restOf_1 ?_
  refine g_iload_n C dX5_restOf_4 rfl 1 rfl ?_
  refine g_iald (j := (a1.toInt.toNat)) C h29633.1 h29633.2.1 (ix_in h29633.2.2 (by omega)) dX5_restOf_5 ?_
  refine g_topi (fun z29634 _ => ?_)
  refine g_bipush (v := 20) C dX5_restOf_6 (by decide) ?_
  refine a_iushr C dX5_restOf_8 (fun z29635 => ?_)
  refine g_istore_n (lv' := [(3, .int z29635), (0, .ref a0), (1, .int a1), (2, .int a2)]) C dX5_restOf_9 rfl (by decide) rfl ?_
  refine g_aload_n C dX5_restOf_10 rfl 1 rfl ?_
  refine g_getR C fi_X5_9 rfl e29632 (ha0).1 (ha0).2 dX5_restOf_11 ?_
  refine g_iload_n C dX5_restOf_14 rfl 2 rfl ?_
  refine g_iald (j := (a1.toInt.toNat)) C h29633.1 h29633.2.1 (ix_in h29633.2.2 (by omega)) dX5_restOf_15 ?_
  refine g_topi (fun z29637 _ => ?_)
  refine g_ldc (v := 1048575) C kc_X5_53 dX5_restOf_16 ?_
  refine s_iand C dX5_restOf_18 (by show 0 ≤ 1048575; omega) (fun z29638 h29639 => ?_)
  have h29639 : 0 ≤ z29638.toInt ∧ z29638.toInt ≤ 1048575 := h29639
  refine g_iload_n C dX5_restOf_19 rfl 3 rfl ?_
  refine a_iand C dX5_restOf_20 (fun z29640 => ?_)
  refine g_istore (lv' := [(4, .int z29640), (3, .int z29635), (0, .ref a0), (1, .int a1), (2, .int a2)]) C dX5_restOf_21 (by decide) rfl ?_
  refine g_iconst (v := 0) C dX5_restOf_23 (by decide) ?_
  refine g_istore (lv' := [(5, .int 0), (4, .int z29640), (3, .int z29635), (0, .ref a0), (1, .int a1), (2, .int a2)]) C dX5_restOf_24 (by decide) rfl ?_
  refine g_lv (lv' := [(0, .ref a0), (3, .int z29635), (4, .int z29640), (5, .int 0)]) [3, 2, 1, 0] rfl ?_
  exact J26 _ z29635 z29640 0 (Nat.lt_succ_self _) (by decide)
theorem dX5_peel_21 : decode cX5_peel 21 = .ok (.iload_n 1, 1) := by decide +kernel
theorem dX5_peel_22 : decode cX5_peel 22 = .ok (.ireturn, 1) := by decide +kernel
theorem dX5_peel_57 : decode cX5_peel 57 = .ok (.iastore, 1) := by decide +kernel
theorem dX5_peel_58 : decode cX5_peel 58 = .ok (.iload_n 1, 1) := by decide +kernel
theorem dX5_peel_59 : decode cX5_peel 59 = .ok (.iload 4, 2) := by decide +kernel
theorem dX5_peel_61 : decode cX5_peel 61 = .ok (.ior, 1) := by decide +kernel
theorem dX5_peel_62 : decode cX5_peel 62 = .ok (.istore_n 1, 1) := by decide +kernel
theorem dX5_peel_63 : decode cX5_peel 63 = .ok (.iinc 2 1, 3) := by decide +kernel
theorem dX5_peel_66 : decode cX5_peel 66 = .ok (.goto (-62), 3) := by decide +kernel
theorem dX5_peel_69 : decode cX5_peel 69 = .ok (.iload_n 1, 1) := by decide +kernel
theorem dX5_peel_70 : decode cX5_peel 70 = .ok (.ireturn, 1) := by decide +kernel
set_option maxHeartbeats 4000000 in
set_option maxRecDepth 100000 in
theorem s_X5_peel {P : PP} {a0 : Nat} (I : IV P) (ha0 : At P a0 5) : CtrI yX5_peel cX5_peel 6 (some Jvm.ClassFile.FieldType.int) ({ frames := 3, cells := 0, slots := 0, locals := 192 } : Room) 0 0 P [.ref a0] (fun r P2 => IV P2 ∧ EK [13] P P2 ∧ (True)) := by
  refine enI (lv := [(0, .ref a0)]) (by decide) (Nat.le_of_ble_eq_true rfl) rfl (fun E D cy C Ci0 ret => ?_)
  have J4 : ∀ (n4 : Nat) (P4 : PP) (v4_1 : Int32) (v4_2 : Int32), (21 - v4_2.toInt).toNat < n4 → (IV P4) → (EK [13] P P4) → (0 ≤ v4_2.toInt ∧ v4_2.toInt ≤ 21) → G E ({ frames := 3, cells := 0, slots := 0, locals := 192 } : Room) D cy 6 P4 0 0 4 [(0, .ref a0), (1, .int v4_1), (2, .int v4_2)] [] := by
    intro n4
    induction n4 with
    | zero => intro P4 v4_1 v4_2 hm4 I4 X4 hv4_2; omega
    | succ n4 ih4 =>
      intro P4 v4_1 v4_2 hm4 I4 X4 hv4_2
      have h30056 := X4.at ha0
      have J58 : ∀ (P58 : PP) (v58_4 : Int32), (IV P58) → (EK [13] P P58) → (0 ≤ v4_2.toInt ∧ v4_2.toInt ≤ 20) → G E ({ frames := 3, cells := 0, slots := 0, locals := 192 } : Room) D cy 6 P58 0 0 58 [(0, .ref a0), (1, .int v4_1), (2, .int v4_2), (4, .int v58_4)] [] := by
        intro P58 v58_4 I58 X58 hv58_2
        have h30057 := X58.at ha0
        refine g_iload_n C dX5_peel_58 rfl 1 rfl ?_
        refine g_iload C dX5_peel_59 3 rfl ?_
        refine a_ior C dX5_peel_61 (fun z30058 => ?_)
        refine g_istore_n (lv' := [(1, .int z30058), (0, .ref a0), (2, .int v4_2), (4, .int v58_4)]) C dX5_peel_62 rfl (by decide) rfl ?_
        refine s_iinc (lv0 := [(1, .int z30058), (0, .ref a0), (4, .int v58_4)]) (m := 1) C dX5_peel_63 2 rfl (by decide) rfl (by decide) (by omega) (fun z30060 h30061 => ?_)
        have h30061 : z30060.toInt = v4_2.toInt + 1 := h30061
        refine g_goto C 4 dX5_peel_66 (by decide) ?_
        refine g_lv (lv' := [(0, .ref a0), (1, .int z30058), (2, .int z30060)]) [2, 1, 0] rfl ?_
        exact ih4 P58 z30058 z30060 (by omega) I58 X58 (by omega)
      refine g_iload_n C dX5_peel_4 rfl 2 rfl ?_
      refine g_bipush (v := 20) C dX5_peel_5 (by decide) ?_
      refine b_icmp_gt C 69 dX5_peel_7 (by decide) (fun h30062 => ?_) (fun h30062 => ?_)
      · have h30062 : 20 < v4_2.toInt := h30062
        refine g_iload_n C dX5_peel_69 rfl 1 rfl ?_
        exact ret _ _ _ _ _ _ dX5_peel_70 rfl (by decide) (by decide) ⟨I4, X4, trivial⟩
      · have h30062 : v4_2.toInt ≤ 20 := h30062
        refine g_aload_n C dX5_peel_10 rfl 0 rfl ?_
        refine g_iload_n C dX5_peel_11 rfl 1 rfl ?_
        refine g_callVI (rest := []) C mv_X5_58 [.int v4_1] (s_X5_firstWithOneUnknown I4 h30056) (h30056).1 (h30056).2 rfl rfl (by decide) (Nat.le_of_ble_eq_true rfl) (by decide) dX5_peel_12 (fun r30063 Y30064 h30065 => ?_)
        obtain ⟨rfl, h30065⟩ := h30065
        have h30065 : -1 ≤ r30063.toInt ∧ r30063.toInt ≤ 43 := h30065
        refine g_istore_n (lv' := [(3, .int r30063), (0, .ref a0), (1, .int v4_1), (2, .int v4_2)]) C dX5_peel_15 rfl (by decide) rfl ?_
        refine g_iload_n C dX5_peel_16 rfl 0 rfl ?_
        refine g_iconst (v := (-1)) C dX5_peel_17 (by decide) ?_
        refine b_icmp_ne C 23 dX5_peel_18 (by decide) (fun h30066 => ?_) (fun h30066 => ?_)
        · have h30066 : r30063.toInt ≠ (-1) := ti_ne h30066
          refine g_aload_n C dX5_peel_23 rfl 1 rfl ?_
          refine g_iload_n C dX5_peel_24 rfl 0 rfl ?_
          refine g_iload_n C dX5_peel_25 rfl 2 rfl ?_
          refine g_callVI (rest := []) C mv_X5_54 [.int r30063, .int v4_1] (s_X5_unknownOf I4 h30056 (by omega)) (h30056).1 (h30056).2 rfl rfl (by decide) (Nat.le_of_ble_eq_true rfl) (by decide) dX5_peel_26 (fun r30067 Y30068 h30069 => ?_)
          obtain ⟨rfl, h30069⟩ := h30069
          have h30069 : True := h30069
          refine g_istore (lv' := [(4, .int r30067), (3, .int r30063), (0, .ref a0), (1, .int v4_1), (2, .int v4_2)]) C dX5_peel_29 (by decide) rfl ?_
          refine g_iload C dX5_peel_31 0 rfl ?_
          refine g_callSNI (b := 0) (ci := 0) (rest := []) C mz_X5_62 [.int r30067] (s_X11_lowestPlace I4) rfl rfl (by decide) (Nat.le_of_ble_eq_true rfl) (by decide) dX5_peel_33 (fun r30070 Y30071 h30072 => ?_)
          obtain ⟨rfl, h30072⟩ := h30072
          obtain ⟨h30072, hi30073⟩ := h30072
          have hi30073 : r30070 = lpF r30067 := hi30073
          have h30072 : 0 ≤ r30070.toInt ∧ r30070.toInt ≤ 63 := h30072
          refine g_istore (lv' := [(5, .int r30070), (4, .int r30067), (3, .int r30063), (0, .ref a0), (1, .int v4_1), (2, .int v4_2)]) C dX5_peel_36 (by decide) rfl ?_
          refine g_iload C dX5_peel_38 0 rfl ?_
          refine g_bipush (v := 20) C dX5_peel_40 (by decide) ?_
          refine b_icmp_ge C 58 dX5_peel_42 (by decide) (fun h30074 => ?_) (fun h30074 => ?_)
          · have h30074 : 20 ≤ r30070.toInt := h30074
            refine g_lv (lv' := [(0, .ref a0), (1, .int v4_1), (2, .int v4_2), (4, .int r30067)]) [3, 4, 5, 1] rfl ?_
            exact J58 P4 r30067 I4 X4 (by omega)
          · have h30074 : r30070.toInt < 20 := h30074
            refine g_aload_n C dX5_peel_45 rfl 3 rfl ?_
            obtain ⟨b30075, e30076, h30077⟩ := I4.fld (h30056) 2 13 20 rfl
            refine g_getR C fi_X5_18 rfl e30076 (h30056).1 (h30056).2 dX5_peel_46 ?_
            refine g_iload C dX5_peel_49 0 rfl ?_
            refine g_aload_n C dX5_peel_51 rfl 3 rfl ?_
            refine g_iload_n C dX5_peel_52 rfl 2 rfl ?_
            refine g_iload_n C dX5_peel_53 rfl 4 rfl ?_
            refine g_callVI (rest := [.int r30070, .ref b30075]) C mv_X5_65 [.int r30063, .int v4_1] (s_X5_restOf I4 h30056 (by omega)) (h30056).1 (h30056).2 rfl rfl (by decide) (Nat.le_of_ble_eq_true rfl) (by decide) dX5_peel_54 (fun r30078 Y30079 h30080 => ?_)
            obtain ⟨rfl, h30080⟩ := h30080
            have h30080 : True := h30080
            refine g_iast (j := (r30070.toInt.toNat)) C h30077.1 h30077.2.1 (ix_in h30077.2.2 (by omega)) dX5_peel_57 ?_
            refine gp (ks := [13]) (I4.setA h30077 (by decide)) (EK.setI h30077.2.1 (by decide)) (fun Y30081 Iy30082 Xy30083 => ?_)
            have Xz30084 : EK [13] P Y30081 := X4.tr (Xy30083.mono (by decide))
            have h30085 := Xy30083.at h30056
            refine g_lv (lv' := [(0, .ref a0), (1, .int v4_1), (2, .int v4_2), (4, .int r30067)]) [3, 4, 5, 1] rfl ?_
            exact J58 Y30081 r30067 Iy30082 Xz30084 (by omega)
        · have h30066 : r30063.toInt = (-1) := congrArg Int32.toInt h30066
          refine g_iload_n C dX5_peel_21 rfl 2 rfl ?_
          exact ret _ _ _ _ _ _ dX5_peel_22 rfl (by decide) (by decide) ⟨I4, X4, trivial⟩
  refine g_iconst (v := 0) C dX5_peel_0 (by decide) ?_
  refine g_istore_n (lv' := [(1, .int 0), (0, .ref a0)]) C dX5_peel_1 rfl (by decide) rfl ?_
  refine g_iconst (v := 0) C dX5_peel_2 (by decide) ?_
  refine g_istore_n (lv' := [(2, .int 0), (1, .int 0), (0, .ref a0)]) C dX5_peel_3 rfl (by decide) rfl ?_
  refine g_lv (lv' := [(0, .ref a0), (1, .int 0), (2, .int 0)]) [2, 1, 0] rfl ?_
  exact J4 _ P 0 0 (Nat.lt_succ_self _) I EK.rf (by decide)
theorem dX11_peels_38 : decode cX11_peels 38 = .ok (.istore 6, 2) := by decide +kernel
theorem dX11_peels_40 : decode cX11_peels 40 = .ok (.iload 4, 2) := by decide +kernel
theorem dX11_peels_42 : decode cX11_peels 42 = .ok (.tableswitch 57 0 3 #[30, 33, 41, 49], 30) := by decide +kernel
theorem dX11_peels_72 : decode cX11_peels 72 = .ok (.iload 6, 2) := by decide +kernel
theorem dX11_peels_74 : decode cX11_peels 74 = .ok (.ireturn, 1) := by decide +kernel
theorem dX11_peels_75 : decode cX11_peels 75 = .ok (.aload 5, 2) := by decide +kernel
theorem dX11_peels_77 : decode cX11_peels 77 = .ok (.iload 6, 2) := by decide +kernel
theorem dX11_peels_79 : decode cX11_peels 79 = .ok (.invokevirtual 224, 3) := by decide +kernel
theorem dX11_peels_99 : decode cX11_peels 99 = .ok (.iconst (-1), 1) := by decide +kernel
theorem dX11_peels_100 : decode cX11_peels 100 = .ok (.ireturn, 1) := by decide +kernel
theorem dX5_quarrels_0 : decode cX5_quarrels 0 = .ok (.iconst 0, 1) := by decide +kernel
theorem dX5_quarrels_1 : decode cX5_quarrels 1 = .ok (.istore_n 2, 1) := by decide +kernel
theorem dX5_quarrels_2 : decode cX5_quarrels 2 = .ok (.iconst 0, 1) := by decide +kernel
theorem dX5_quarrels_3 : decode cX5_quarrels 3 = .ok (.istore_n 3, 1) := by decide +kernel
theorem dX5_quarrels_4 : decode cX5_quarrels 4 = .ok (.iload_n 3, 1) := by decide +kernel
theorem dX5_quarrels_5 : decode cX5_quarrels 5 = .ok (.aload_n 0, 1) := by decide +kernel
theorem dX5_quarrels_6 : decode cX5_quarrels 6 = .ok (.getfield 25, 3) := by decide +kernel
theorem dX5_quarrels_9 : decode cX5_quarrels 9 = .ok (.if_icmp .ge 30, 3) := by decide +kernel
theorem dX5_quarrels_12 : decode cX5_quarrels 12 = .ok (.aload_n 0, 1) := by decide +kernel
theorem dX5_quarrels_13 : decode cX5_quarrels 13 = .ok (.iload_n 3, 1) := by decide +kernel
theorem dX5_quarrels_14 : decode cX5_quarrels 14 = .ok (.iload_n 1, 1) := by decide +kernel
theorem dX5_quarrels_15 : decode cX5_quarrels 15 = .ok (.invokevirtual 54, 3) := by decide +kernel
theorem dX5_quarrels_18 : decode cX5_quarrels 18 = .ok (.ifCond .ne 15, 3) := by decide +kernel
theorem dX5_quarrels_21 : decode cX5_quarrels 21 = .ok (.aload_n 0, 1) := by decide +kernel
theorem dX5_quarrels_22 : decode cX5_quarrels 22 = .ok (.iload_n 3, 1) := by decide +kernel
theorem dX5_quarrels_23 : decode cX5_quarrels 23 = .ok (.iload_n 1, 1) := by decide +kernel
theorem dX5_quarrels_24 : decode cX5_quarrels 24 = .ok (.invokevirtual 65, 3) := by decide +kernel
theorem dX5_quarrels_27 : decode cX5_quarrels 27 = .ok (.ifCond .eq 6, 3) := by decide +kernel
theorem dX5_quarrels_30 : decode cX5_quarrels 30 = .ok (.iinc 2 1, 3) := by decide +kernel
theorem dX5_quarrels_33 : decode cX5_quarrels 33 = .ok (.iinc 3 1, 3) := by decide +kernel
theorem dX5_quarrels_36 : decode cX5_quarrels 36 = .ok (.goto (-32), 3) := by decide +kernel
theorem dX5_quarrels_39 : decode cX5_quarrels 39 = .ok (.iload_n 2, 1) := by decide +kernel
theorem dX5_quarrels_40 : decode cX5_quarrels 40 = .ok (.ireturn, 1) := by decide +kernel
set_option maxHeartbeats 4000000 in
set_option maxRecDepth 100000 in
theorem s_X5_quarrels {P : PP} {a0 : Nat} {a1 : Int32} (I : IV P) (ha0 : At P a0 5) : CtrI yX5_quarrels cX5_quarrels 4 (some Jvm.ClassFile.FieldType.int) ({ frames := 2, cells := 0, slots := 0, locals := 128 } : Room) 0 0 P [.ref a0, .int a1] (fun r P2 => P = P2 ∧ (True)) := by
  refine enI (lv := [(0, .ref a0), (1, .int a1)]) (by decide) (Nat.le_of_ble_eq_true rfl) rfl (fun E D cy C Ci0 ret => ?_)
  have J4 : ∀ (n4 : Nat) (v4_2 : Int32) (v4_3 : Int32), (44 - v4_3.toInt).toNat < n4 → (0 ≤ v4_3.toInt ∧ v4_3.toInt ≤ 44) → G E ({ frames := 2, cells := 0, slots := 0, locals := 128 } : Room) D cy 4 P 0 0 4 [(0, .ref a0), (1, .int a1), (2, .int v4_2), (3, .int v4_3)] [] := by
    intro n4
    induction n4 with
    | zero => intro v4_2 v4_3 hm4 hv4_3; omega
    | succ n4 ih4 =>
      intro v4_2 v4_3 hm4 hv4_3
      have J33 : ∀ (v33_2 : Int32), (0 ≤ v4_3.toInt ∧ v4_3.toInt ≤ 43) → (1 ≤ (pI P a0 4).toInt ∧ (pI P a0 4).toInt ≤ 44) → G E ({ frames := 2, cells := 0, slots := 0, locals := 128 } : Room) D cy 4 P 0 0 33 [(0, .ref a0), (1, .int a1), (2, .int v33_2), (3, .int v4_3)] [] := by
        intro v33_2 hv33_3 hq33_0
        refine s_iinc (lv0 := [(0, .ref a0), (1, .int a1), (2, .int v33_2)]) (m := 1) C dX5_quarrels_33 3 rfl (by decide) rfl (by decide) (by omega) (fun z30662 h30663 => ?_)
        have h30663 : z30662.toInt = v4_3.toInt + 1 := h30663
        refine g_goto C 4 dX5_quarrels_36 (by decide) ?_
        refine g_lv (lv' := [(0, .ref a0), (1, .int a1), (2, .int v33_2), (3, .int z30662)]) [1, 2, 3, 0] rfl ?_
        exact ih4 v33_2 z30662 (by omega) (by omega)
      refine g_iload_n C dX5_quarrels_4 rfl 3 rfl ?_
      refine g_aload_n C dX5_quarrels_5 rfl 0 rfl ?_
      refine g_getI C fi_X5_25 (by decide) (ha0).1 (ha0).2 dX5_quarrels_6 ?_
      have h30664 := I.rg (ha0) 4 rfl
      refine b_icmp_ge C 39 dX5_quarrels_9 (by decide) (fun h30665 => ?_) (fun h30665 => ?_)
      · have h30665 : (pI P a0 4).toInt ≤ v4_3.toInt := h30665
        refine g_iload_n C dX5_quarrels_39 rfl 2 rfl ?_
        exact ret _ _ _ _ _ _ dX5_quarrels_40 rfl (by decide) (by decide) ⟨rfl, trivial⟩
      · have h30665 : v4_3.toInt < (pI P a0 4).toInt := h30665
        refine g_aload_n C dX5_quarrels_12 rfl 0 rfl ?_
        refine g_iload_n C dX5_quarrels_13 rfl 3 rfl ?_
        refine g_iload_n C dX5_quarrels_14 rfl 1 rfl ?_
        refine g_callVI (rest := []) C mv_X5_54 [.int v4_3, .int a1] (s_X5_unknownOf I ha0 (by omega)) (ha0).1 (ha0).2 rfl rfl (by decide) (Nat.le_of_ble_eq_true rfl) (by decide) dX5_quarrels_15 (fun r30666 Y30667 h30668 => ?_)
        obtain ⟨rfl, h30668⟩ := h30668
        have h30668 : True := h30668
        have u30670 := ti_rng r30666
        refine b_if_ne C 33 dX5_quarrels_18 (by decide) (fun h30669 => ?_) (fun h30669 => ?_)
        · have h30669 : r30666.toInt ≠ 0 := ti_ne h30669
          exact J33 v4_2 (by omega) (by omega)
        · have h30669 : r30666.toInt = 0 := congrArg Int32.toInt h30669
          refine g_aload_n C dX5_quarrels_21 rfl 0 rfl ?_
          refine g_iload_n C dX5_quarrels_22 rfl 3 rfl ?_
          refine g_iload_n C dX5_quarrels_23 rfl 1 rfl ?_
          refine g_callVI (rest := []) C mv_X5_65 [.int v4_3, .int a1] (s_X5_restOf I ha0 (by omega)) (ha0).1 (ha0).2 rfl rfl (by decide) (Nat.le_of_ble_eq_true rfl) (by decide) dX5_quarrels_24 (fun r30671 Y30672 h30673 => ?_)
          obtain ⟨rfl, h30673⟩ := h30673
          have h30673 : True := h30673
          have u30675 := ti_rng r30671
          refine b_if_eq C 33 dX5_quarrels_27 (by decide) (fun h30674 => ?_) (fun h30674 => ?_)
          · have h30674 : r30671.toInt = 0 := congrArg Int32.toInt h30674
            exact J33 v4_2 (by omega) (by omega)
          · have h30674 : r30671.toInt ≠ 0 := ti_ne h30674
            refine a_iinc (lv0 := [(0, .ref a0), (1, .int a1), (3, .int v4_3)]) C dX5_quarrels_30 2 rfl (by decide) rfl (fun z30676 => ?_)
            refine g_lv (lv' := [(0, .ref a0), (1, .int a1), (2, .int z30676), (3, .int v4_3)]) [1, 2, 0, 3] rfl ?_
            exact J33 z30676 (by omega) (by omega)
  refine g_iconst (v := 0) C dX5_quarrels_0 (by decide) ?_
  refine g_istore_n (lv' := [(2, .int 0), (0, .ref a0), (1, .int a1)]) C dX5_quarrels_1 rfl (by decide) rfl ?_
  refine g_iconst (v := 0) C dX5_quarrels_2 (by decide) ?_
  refine g_istore_n (lv' := [(3, .int 0), (2, .int 0), (0, .ref a0), (1, .int a1)]) C dX5_quarrels_3 rfl (by decide) rfl ?_
  refine g_lv (lv' := [(0, .ref a0), (1, .int a1), (2, .int 0), (3, .int 0)]) [2, 3, 1, 0] rfl ?_
  exact J4 _ 0 0 (Nat.lt_succ_self _) (by decide)
theorem dX11_peels_82 : decode cX11_peels 82 = .ok (.ireturn, 1) := by decide +kernel
theorem dX11_peels_83 : decode cX11_peels 83 = .ok (.aload 5, 2) := by decide +kernel
theorem dX11_peels_85 : decode cX11_peels 85 = .ok (.iload 6, 2) := by decide +kernel
theorem dX11_peels_87 : decode cX11_peels 87 = .ok (.invokevirtual 227, 3) := by decide +kernel
theorem dX5_work_0 : decode cX5_work 0 = .ok (.iload_n 1, 1) := by decide +kernel
theorem dX5_work_1 : decode cX5_work 1 = .ok (.invokestatic 68, 3) := by decide +kernel
theorem dX5_work_4 : decode cX5_work 4 = .ok (.ineg, 1) := by decide +kernel
theorem dX5_work_5 : decode cX5_work 5 = .ok (.istore_n 2, 1) := by decide +kernel
theorem dX5_work_6 : decode cX5_work 6 = .ok (.iconst 0, 1) := by decide +kernel
theorem dX5_work_7 : decode cX5_work 7 = .ok (.istore_n 3, 1) := by decide +kernel
theorem dX5_work_8 : decode cX5_work 8 = .ok (.iload_n 3, 1) := by decide +kernel
theorem dX5_work_9 : decode cX5_work 9 = .ok (.aload_n 0, 1) := by decide +kernel
theorem dX5_work_10 : decode cX5_work 10 = .ok (.getfield 25, 3) := by decide +kernel
theorem dX5_work_13 : decode cX5_work 13 = .ok (.if_icmp .ge 26, 3) := by decide +kernel
theorem dX5_work_16 : decode cX5_work 16 = .ok (.iload_n 2, 1) := by decide +kernel
theorem dX5_work_17 : decode cX5_work 17 = .ok (.aload_n 0, 1) := by decide +kernel
theorem dX5_work_18 : decode cX5_work 18 = .ok (.getfield 9, 3) := by decide +kernel
theorem dX5_work_21 : decode cX5_work 21 = .ok (.iload_n 3, 1) := by decide +kernel
theorem dX5_work_22 : decode cX5_work 22 = .ok (.iaload, 1) := by decide +kernel
theorem dX5_work_23 : decode cX5_work 23 = .ok (.ldc 53, 2) := by decide +kernel
theorem dX5_work_25 : decode cX5_work 25 = .ok (.iand, 1) := by decide +kernel
theorem dX5_work_26 : decode cX5_work 26 = .ok (.iload_n 1, 1) := by decide +kernel
theorem dX5_work_27 : decode cX5_work 27 = .ok (.iand, 1) := by decide +kernel
theorem dX5_work_28 : decode cX5_work 28 = .ok (.invokestatic 68, 3) := by decide +kernel
theorem dX5_work_31 : decode cX5_work 31 = .ok (.iadd, 1) := by decide +kernel
theorem dX5_work_32 : decode cX5_work 32 = .ok (.istore_n 2, 1) := by decide +kernel
theorem dX5_work_33 : decode cX5_work 33 = .ok (.iinc 3 1, 3) := by decide +kernel
theorem dX5_work_36 : decode cX5_work 36 = .ok (.goto (-28), 3) := by decide +kernel
theorem dX5_work_39 : decode cX5_work 39 = .ok (.iload_n 2, 1) := by decide +kernel
theorem dX5_work_40 : decode cX5_work 40 = .ok (.ireturn, 1) := by decide +kernel
set_option maxHeartbeats 4000000 in
set_option maxRecDepth 100000 in
theorem s_X5_work {P : PP} {a0 : Nat} {a1 : Int32} (I : IV P) (ha0 : At P a0 5) : CtrI yX5_work cX5_work 4 (some Jvm.ClassFile.FieldType.int) ({ frames := 2, cells := 0, slots := 0, locals := 128 } : Room) 0 0 P [.ref a0, .int a1] (fun r P2 => P = P2 ∧ (True)) := by
  refine enI (lv := [(0, .ref a0), (1, .int a1)]) (by decide) (Nat.le_of_ble_eq_true rfl) rfl (fun E D cy C Ci0 ret => ?_)
  have J8 : ∀ (n8 : Nat) (v8_2 : Int32) (v8_3 : Int32), (44 - v8_3.toInt).toNat < n8 → (0 ≤ v8_3.toInt ∧ v8_3.toInt ≤ 44) → G E ({ frames := 2, cells := 0, slots := 0, locals := 128 } : Room) D cy 4 P 0 0 8 [(0, .ref a0), (1, .int a1), (2, .int v8_2), (3, .int v8_3)] [] := by
    intro n8
    induction n8 with
    | zero => intro v8_2 v8_3 hm8 hv8_3; omega
    | succ n8 ih8 =>
      intro v8_2 v8_3 hm8 hv8_3
      refine g_iload_n C dX5_work_8 rfl 3 rfl ?_
      refine g_aload_n C dX5_work_9 rfl 0 rfl ?_
      refine g_getI C fi_X5_25 (by decide) (ha0).1 (ha0).2 dX5_work_10 ?_
      have h31026 := I.rg (ha0) 4 rfl
      refine b_icmp_ge C 39 dX5_work_13 (by decide) (fun h31027 => ?_) (fun h31027 => ?_)
      · have h31027 : (pI P a0 4).toInt ≤ v8_3.toInt := h31027
        refine g_iload_n C dX5_work_39 rfl 2 rfl ?_
        exact ret _ _ _ _ _ _ dX5_work_40 rfl (by decide) (by decide) ⟨rfl, trivial⟩
      · have h31027 : v8_3.toInt < (pI P a0 4).toInt := h31027
        refine g_iload_n C dX5_work_16 rfl 2 rfl ?_
        refine g_aload_n C dX5_work_17 rfl 0 rfl ?_
        obtain ⟨b31028, e31029, h31030⟩ := I.fld (ha0) 0 13 44 rfl
        refine g_getR C fi_X5_9 rfl e31029 (ha0).1 (ha0).2 dX5_work_18 ?_
        refine g_iload_n C dX5_work_21 rfl 3 rfl ?_
        refine g_iald (j := (v8_3.toInt.toNat)) C h31030.1 h31030.2.1 (ix_in h31030.2.2 (by omega)) dX5_work_22 ?_
        refine g_topi (fun z31031 _ => ?_)
        refine g_ldc (v := 1048575) C kc_X5_53 dX5_work_23 ?_
        refine s_iand C dX5_work_25 (by show 0 ≤ 1048575; omega) (fun z31032 h31033 => ?_)
        have h31033 : 0 ≤ z31032.toInt ∧ z31032.toInt ≤ 1048575 := h31033
        refine g_iload_n C dX5_work_26 rfl 1 rfl ?_
        refine a_iand C dX5_work_27 (fun z31034 => ?_)
        refine g_callSI (b := 0) (ci := 0) (rest := [.int v8_2]) C ms_X5_68 [.int z31034] (s_J6_bitCount_0f7a4 I) rfl rfl (by decide) (Nat.le_of_ble_eq_true rfl) (by decide) dX5_work_28 (fun r31036 Y31037 h31038 => ?_)
        obtain ⟨rfl, h31038⟩ := h31038
        obtain ⟨h31038, hi31039⟩ := h31038
        have hi31039 : r31036 = bcF z31034 := hi31039
        have h31038 : 0 ≤ r31036.toInt ∧ r31036.toInt ≤ 63 := h31038
        refine a_iadd C dX5_work_31 (fun z31040 => ?_)
        refine g_istore_n (lv' := [(2, .int z31040), (0, .ref a0), (1, .int a1), (3, .int v8_3)]) C dX5_work_32 rfl (by decide) rfl ?_
        refine s_iinc (lv0 := [(2, .int z31040), (0, .ref a0), (1, .int a1)]) (m := 1) C dX5_work_33 3 rfl (by decide) rfl (by decide) (by omega) (fun z31042 h31043 => ?_)
        have h31043 : z31042.toInt = v8_3.toInt + 1 := h31043
        refine g_goto C 8 dX5_work_36 (by decide) ?_
        refine g_lv (lv' := [(0, .ref a0), (1, .int a1), (2, .int z31040), (3, .int z31042)]) [2, 3, 1, 0] rfl ?_
        exact ih8 z31040 z31042 (by omega) (by omega)
  refine g_iload_n C dX5_work_0 rfl 1 rfl ?_
  refine g_callSI (b := 0) (ci := 0) (rest := []) C ms_X5_68 [.int a1] (s_J6_bitCount_0f7a4 I) rfl rfl (by decide) (Nat.le_of_ble_eq_true rfl) (by decide) dX5_work_1 (fun r31044 Y31045 h31046 => ?_)
  obtain ⟨rfl, h31046⟩ := h31046
  obtain ⟨h31046, hi31047⟩ := h31046
  have hi31047 : r31044 = bcF a1 := hi31047
  have h31046 : 0 ≤ r31044.toInt ∧ r31044.toInt ≤ 63 := h31046
  refine a_ineg C dX5_work_4 (fun z31048 => ?_)
  refine g_istore_n (lv' := [(2, .int z31048), (0, .ref a0), (1, .int a1)]) C dX5_work_5 rfl (by decide) rfl ?_
  refine g_iconst (v := 0) C dX5_work_6 (by decide) ?_
  refine g_istore_n (lv' := [(3, .int 0), (2, .int z31048), (0, .ref a0), (1, .int a1)]) C dX5_work_7 rfl (by decide) rfl ?_
  refine g_lv (lv' := [(0, .ref a0), (1, .int a1), (2, .int z31048), (3, .int 0)]) [2, 3, 1, 0] rfl ?_
  exact J8 _ z31048 0 (Nat.lt_succ_self _) (by decide)
theorem dX11_peels_90 : decode cX11_peels 90 = .ok (.ireturn, 1) := by decide +kernel
theorem dX11_peels_91 : decode cX11_peels 91 = .ok (.aload 5, 2) := by decide +kernel
theorem dX11_peels_93 : decode cX11_peels 93 = .ok (.iload 6, 2) := by decide +kernel
theorem dX11_peels_95 : decode cX11_peels 95 = .ok (.invokevirtual 230, 3) := by decide +kernel
theorem dX5_left_0 : decode cX5_left 0 = .ok (.iconst 0, 1) := by decide +kernel
theorem dX5_left_1 : decode cX5_left 1 = .ok (.istore_n 2, 1) := by decide +kernel
theorem dX5_left_2 : decode cX5_left 2 = .ok (.iconst 0, 1) := by decide +kernel
theorem dX5_left_3 : decode cX5_left 3 = .ok (.istore_n 3, 1) := by decide +kernel
theorem dX5_left_4 : decode cX5_left 4 = .ok (.iload_n 3, 1) := by decide +kernel
theorem dX5_left_5 : decode cX5_left 5 = .ok (.aload_n 0, 1) := by decide +kernel
theorem dX5_left_6 : decode cX5_left 6 = .ok (.getfield 25, 3) := by decide +kernel
theorem dX5_left_9 : decode cX5_left 9 = .ok (.if_icmp .ge 30, 3) := by decide +kernel
theorem dX5_left_12 : decode cX5_left 12 = .ok (.aload_n 0, 1) := by decide +kernel
theorem dX5_left_13 : decode cX5_left 13 = .ok (.iload_n 3, 1) := by decide +kernel
theorem dX5_left_14 : decode cX5_left 14 = .ok (.iload_n 1, 1) := by decide +kernel
theorem dX5_left_15 : decode cX5_left 15 = .ok (.invokevirtual 54, 3) := by decide +kernel
theorem dX5_left_18 : decode cX5_left 18 = .ok (.istore 4, 2) := by decide +kernel
theorem dX5_left_20 : decode cX5_left 20 = .ok (.iload 4, 2) := by decide +kernel
theorem dX5_left_22 : decode cX5_left 22 = .ok (.iload 4, 2) := by decide +kernel
theorem dX5_left_24 : decode cX5_left 24 = .ok (.iconst 1, 1) := by decide +kernel
theorem dX5_left_25 : decode cX5_left 25 = .ok (.isub, 1) := by decide +kernel
theorem dX5_left_26 : decode cX5_left 26 = .ok (.iand, 1) := by decide +kernel
theorem dX5_left_27 : decode cX5_left 27 = .ok (.ifCond .eq 6, 3) := by decide +kernel
theorem dX5_left_30 : decode cX5_left 30 = .ok (.iinc 2 1, 3) := by decide +kernel
theorem dX5_left_33 : decode cX5_left 33 = .ok (.iinc 3 1, 3) := by decide +kernel
theorem dX5_left_36 : decode cX5_left 36 = .ok (.goto (-32), 3) := by decide +kernel
theorem dX5_left_39 : decode cX5_left 39 = .ok (.iload_n 2, 1) := by decide +kernel
theorem dX5_left_40 : decode cX5_left 40 = .ok (.ireturn, 1) := by decide +kernel
set_option maxHeartbeats 4000000 in
set_option maxRecDepth 100000 in
theorem s_X5_left {P : PP} {a0 : Nat} {a1 : Int32} (I : IV P) (ha0 : At P a0 5) : CtrI yX5_left cX5_left 5 (some Jvm.ClassFile.FieldType.int) ({ frames := 2, cells := 0, slots := 0, locals := 128 } : Room) 0 0 P [.ref a0, .int a1] (fun r P2 => P = P2 ∧ (True)) := by
  refine enI (lv := [(0, .ref a0), (1, .int a1)]) (by decide) (Nat.le_of_ble_eq_true rfl) rfl (fun E D cy C Ci0 ret => ?_)
  have J4 : ∀ (n4 : Nat) (v4_2 : Int32) (v4_3 : Int32), (44 - v4_3.toInt).toNat < n4 → (0 ≤ v4_3.toInt ∧ v4_3.toInt ≤ 44) → G E ({ frames := 2, cells := 0, slots := 0, locals := 128 } : Room) D cy 5 P 0 0 4 [(0, .ref a0), (1, .int a1), (2, .int v4_2), (3, .int v4_3)] [] := by
    intro n4
    induction n4 with
    | zero => intro v4_2 v4_3 hm4 hv4_3; omega
    | succ n4 ih4 =>
      intro v4_2 v4_3 hm4 hv4_3
      have J33 : ∀ (v33_2 : Int32), (0 ≤ v4_3.toInt ∧ v4_3.toInt ≤ 43) → (1 ≤ (pI P a0 4).toInt ∧ (pI P a0 4).toInt ≤ 44) → G E ({ frames := 2, cells := 0, slots := 0, locals := 128 } : Room) D cy 5 P 0 0 33 [(0, .ref a0), (1, .int a1), (2, .int v33_2), (3, .int v4_3)] [] := by
        intro v33_2 hv33_3 hq33_0
        refine s_iinc (lv0 := [(0, .ref a0), (1, .int a1), (2, .int v33_2)]) (m := 1) C dX5_left_33 3 rfl (by decide) rfl (by decide) (by omega) (fun z31597 h31598 => ?_)
        have h31598 : z31597.toInt = v4_3.toInt + 1 := h31598
        refine g_goto C 4 dX5_left_36 (by decide) ?_
        refine g_lv (lv' := [(0, .ref a0), (1, .int a1), (2, .int v33_2), (3, .int z31597)]) [1, 2, 3, 0] rfl ?_
        exact ih4 v33_2 z31597 (by omega) (by omega)
      refine g_iload_n C dX5_left_4 rfl 3 rfl ?_
      refine g_aload_n C dX5_left_5 rfl 0 rfl ?_
      refine g_getI C fi_X5_25 (by decide) (ha0).1 (ha0).2 dX5_left_6 ?_
      have h31599 := I.rg (ha0) 4 rfl
      refine b_icmp_ge C 39 dX5_left_9 (by decide) (fun h31600 => ?_) (fun h31600 => ?_)
      · have h31600 : (pI P a0 4).toInt ≤ v4_3.toInt := h31600
        refine g_iload_n C dX5_left_39 rfl 2 rfl ?_
        exact ret _ _ _ _ _ _ dX5_left_40 rfl (by decide) (by decide) ⟨rfl, trivial⟩
      · have h31600 : v4_3.toInt < (pI P a0 4).toInt := h31600
        refine g_aload_n C dX5_left_12 rfl 0 rfl ?_
        refine g_iload_n C dX5_left_13 rfl 3 rfl ?_
        refine g_iload_n C dX5_left_14 rfl 1 rfl ?_
        refine g_callVI (rest := []) C mv_X5_54 [.int v4_3, .int a1] (s_X5_unknownOf I ha0 (by omega)) (ha0).1 (ha0).2 rfl rfl (by decide) (Nat.le_of_ble_eq_true rfl) (by decide) dX5_left_15 (fun r31601 Y31602 h31603 => ?_)
        obtain ⟨rfl, h31603⟩ := h31603
        have h31603 : True := h31603
        refine g_istore (lv' := [(4, .int r31601), (0, .ref a0), (1, .int a1), (2, .int v4_2), (3, .int v4_3)]) C dX5_left_18 (by decide) rfl ?_
        refine g_iload C dX5_left_20 0 rfl ?_
        refine g_iload C dX5_left_22 0 rfl ?_
        refine g_iconst (v := 1) C dX5_left_24 (by decide) ?_
        refine a_isub C dX5_left_25 (fun z31604 => ?_)
        refine a_iand C dX5_left_26 (fun z31606 => ?_)
        have u31609 := ti_rng z31606
        refine b_if_eq C 33 dX5_left_27 (by decide) (fun h31608 => ?_) (fun h31608 => ?_)
        · have h31608 : z31606.toInt = 0 := congrArg Int32.toInt h31608
          refine g_lv (lv' := [(0, .ref a0), (1, .int a1), (2, .int v4_2), (3, .int v4_3)]) [1, 2, 3, 4] rfl ?_
          exact J33 v4_2 (by omega) (by omega)
        · have h31608 : z31606.toInt ≠ 0 := ti_ne h31608
          refine a_iinc (lv0 := [(4, .int r31601), (0, .ref a0), (1, .int a1), (3, .int v4_3)]) C dX5_left_30 3 rfl (by decide) rfl (fun z31610 => ?_)
          refine g_lv (lv' := [(0, .ref a0), (1, .int a1), (2, .int z31610), (3, .int v4_3)]) [2, 3, 0, 4] rfl ?_
          exact J33 z31610 (by omega) (by omega)
  refine g_iconst (v := 0) C dX5_left_0 (by decide) ?_
  refine g_istore_n (lv' := [(2, .int 0), (0, .ref a0), (1, .int a1)]) C dX5_left_1 rfl (by decide) rfl ?_
  refine g_iconst (v := 0) C dX5_left_2 (by decide) ?_
  refine g_istore_n (lv' := [(3, .int 0), (2, .int 0), (0, .ref a0), (1, .int a1)]) C dX5_left_3 rfl (by decide) rfl ?_
  refine g_lv (lv' := [(0, .ref a0), (1, .int a1), (2, .int 0), (3, .int 0)]) [2, 3, 1, 0] rfl ?_
  exact J4 _ 0 0 (Nat.lt_succ_self _) (by decide)
theorem dX11_peels_22 : decode cX11_peels 22 = .ok (.iconst (-1), 1) := by decide +kernel
theorem dX11_peels_23 : decode cX11_peels 23 = .ok (.ireturn, 1) := by decide +kernel
theorem dX11_peels_98 : decode cX11_peels 98 = .ok (.ireturn, 1) := by decide +kernel
set_option maxHeartbeats 4000000 in
set_option maxRecDepth 100000 in
theorem s_X11_peels {P : PP} {a0 : Nat} {a1 : Int32} {a2 : Int32} {a3 : Int32} {a4 : Int32} (I : IV P) (ha0 : At P a0 11) : CtrI yX11_peels cX11_peels 7 (some Jvm.ClassFile.FieldType.int) ({ frames := 4, cells := 0, slots := 0, locals := 256 } : Room) 0 0 P [.ref a0, .int a1, .int a2, .int a3, .int a4] (fun r P2 => IV P2 ∧ EK [5, 13] P P2 ∧ (True)) := by
  refine enI (lv := [(0, .ref a0), (1, .int a1), (2, .int a2), (3, .int a3), (4, .int a4)]) (by decide) (Nat.le_of_ble_eq_true rfl) rfl (fun E D cy C Ci0 ret => ?_)
  have J22 : G E ({ frames := 4, cells := 0, slots := 0, locals := 256 } : Room) D cy 7 P 0 0 22 [] [] := by
    refine g_iconst (v := (-1)) C dX11_peels_22 (by decide) ?_
    exact ret _ _ _ _ _ _ dX11_peels_23 rfl (by decide) (by decide) ⟨I, EK.rf, trivial⟩
  refine g_iload_n C dX11_peels_0 rfl 1 rfl ?_
  refine g_callSI (b := 0) (ci := 0) (rest := []) C ms_X11_158 [.int a1] (s_X11_isQuarter I) rfl rfl (by decide) (Nat.le_of_ble_eq_true rfl) (by decide) dX11_peels_1 (fun r31655 Y31656 h31657 => ?_)
  obtain ⟨rfl, h31657⟩ := h31657
  obtain ⟨h31657, hi31658⟩ := h31657
  have hi31658 : r31655.toInt = 0 ∨ (((0 : Int) ≤ a1.toInt ∧ a1.toInt ≤ (3 : Int))) := hi31658
  have h31657 : 0 ≤ r31655.toInt ∧ r31655.toInt ≤ 1 := h31657
  refine b_if_eq C 22 dX11_peels_4 (by decide) (fun h31659 => ?_) (fun h31659 => ?_)
  · have h31659 : r31655.toInt = 0 := congrArg Int32.toInt h31659
    clear hi31658
    refine g_lv (lv' := []) [] rfl ?_
    exact J22 
  · have h31659 : r31655.toInt ≠ 0 := ti_ne h31659
    replace hi31658 := hi31658.resolve_left (by omega)
    refine g_aload_n C dX11_peels_7 rfl 0 rfl ?_
    refine g_iload_n C dX11_peels_8 rfl 2 rfl ?_
    refine g_callVI (rest := []) C mv_X11_97 [.int a2] (s_X11_isTold I ha0) (ha0).1 (ha0).2 rfl rfl (by decide) (Nat.le_of_ble_eq_true rfl) (by decide) dX11_peels_9 (fun r31660 Y31661 h31662 => ?_)
    obtain ⟨rfl, h31662⟩ := h31662
    obtain ⟨h31662, hi31663⟩ := h31662
    have hi31663 : r31660.toInt = 0 ∨ (((0 : Int) ≤ a2.toInt ∧ a2.toInt ≤ (1 : Int))) := hi31663
    have h31662 : 0 ≤ r31660.toInt ∧ r31660.toInt ≤ 1 := h31662
    refine b_if_eq C 22 dX11_peels_12 (by decide) (fun h31664 => ?_) (fun h31664 => ?_)
    · have h31664 : r31660.toInt = 0 := congrArg Int32.toInt h31664
      clear hi31663
      refine g_lv (lv' := []) [] rfl ?_
      exact J22 
    · have h31664 : r31660.toInt ≠ 0 := ti_ne h31664
      replace hi31663 := hi31663.resolve_left (by omega)
      refine g_iload_n C dX11_peels_15 rfl 3 rfl ?_
      refine g_callSI (b := 0) (ci := 0) (rest := []) C ms_X11_213 [.int a3] (s_X11_isOctet I) rfl rfl (by decide) (Nat.le_of_ble_eq_true rfl) (by decide) dX11_peels_16 (fun r31665 Y31666 h31667 => ?_)
      obtain ⟨rfl, h31667⟩ := h31667
      obtain ⟨h31667, hi31668⟩ := h31667
      have hi31668 : r31665.toInt = 0 ∨ (((0 : Int) ≤ a3.toInt ∧ a3.toInt ≤ (1 : Int))) := hi31668
      have h31667 : 0 ≤ r31665.toInt ∧ r31665.toInt ≤ 1 := h31667
      refine b_if_ne C 24 dX11_peels_19 (by decide) (fun h31669 => ?_) (fun h31669 => ?_)
      · have h31669 : r31665.toInt ≠ 0 := ti_ne h31669
        replace hi31668 := hi31668.resolve_left (by omega)
        refine g_aload_n C dX11_peels_24 rfl 0 rfl ?_
        refine g_iload_n C dX11_peels_25 rfl 1 rfl ?_
        refine g_iload_n C dX11_peels_26 rfl 2 rfl ?_
        refine g_iload_n C dX11_peels_27 rfl 3 rfl ?_
        refine g_callVQ (rest := []) C mv_X11_216 [.int a1, .int a2, .int a3] (s_X11_gather I ha0 (by omega) (by omega) (by omega)) (ha0).1 (ha0).2 rfl rfl (by decide) (Nat.le_of_ble_eq_true rfl) (by decide) dX11_peels_28 (fun r31670 Y31671 h31672 => ?_)
        obtain ⟨Iy31673, Xy31674, h31672⟩ := h31672
        have Xz31675 : EK [5, 13] P Y31671 := Xy31674.mono (by decide)
        have h31676 := Xy31674.at ha0
        obtain ⟨b31678, rfl, h31672⟩ := h31672
        show G _ _ _ _ _ _ _ _ _ _ (.ref b31678 :: _)
        refine g_astore (lv' := [(5, .ref b31678), (0, .ref a0), (1, .int a1), (2, .int a2), (3, .int a3), (4, .int a4)]) C dX11_peels_31 (by decide) rfl ?_
        refine g_aload C dX11_peels_33 0 rfl ?_
        refine g_callVI (rest := []) C mv_X11_220 [] (s_X5_peel Iy31673 h31672) (h31672).1 (h31672).2 rfl rfl (by decide) (Nat.le_of_ble_eq_true rfl) (by decide) dX11_peels_35 (fun r31679 Y31680 h31681 => ?_)
        obtain ⟨Iy31682, Xy31683, h31681⟩ := h31681
        have Xz31684 : EK [5, 13] P Y31680 := Xz31675.tr (Xy31683.mono (by decide))
        have h31685 := Xy31683.at h31676
        have h31686 := Xy31683.at h31672
        have h31681 : True := h31681
        refine g_istore (lv' := [(6, .int r31679), (5, .ref b31678), (0, .ref a0), (1, .int a1), (2, .int a2), (3, .int a3), (4, .int a4)]) C dX11_peels_38 (by decide) rfl ?_
        refine g_iload C dX11_peels_40 6 rfl ?_
        by_cases h31687 : a4.toInt < 0 ∨ 3 < a4.toInt
        · refine g_tableOut C 99 dX11_peels_42 h31687 (by decide) ?_
          refine g_iconst (v := (-1)) C dX11_peels_99 (by decide) ?_
          exact ret _ _ _ _ _ _ dX11_peels_100 rfl (by decide) (by decide) ⟨Iy31682, Xz31684, trivial⟩
        · rcases (show a4.toInt = 0 ∨ a4.toInt = 1 ∨ a4.toInt = 2 ∨ a4.toInt = 3 by omega) with h31688 | h31688 | h31688 | h31688
          · refine g_tableIn C 72 dX11_peels_42 (by omega) (by omega) (by rw [h31688]; rfl) (by decide) ?_
            refine g_iload C dX11_peels_72 0 rfl ?_
            exact ret _ _ _ _ _ _ dX11_peels_74 rfl (by decide) (by decide) ⟨Iy31682, Xz31684, trivial⟩
          · refine g_tableIn C 75 dX11_peels_42 (by omega) (by omega) (by rw [h31688]; rfl) (by decide) ?_
            refine g_aload C dX11_peels_75 1 rfl ?_
            refine g_iload C dX11_peels_77 0 rfl ?_
            refine g_callVI (rest := []) C mv_X11_224 [.int r31679] (s_X5_quarrels Iy31682 h31686) (h31686).1 (h31686).2 rfl rfl (by decide) (Nat.le_of_ble_eq_true rfl) (by decide) dX11_peels_79 (fun r31689 Y31690 h31691 => ?_)
            obtain ⟨rfl, h31691⟩ := h31691
            have h31691 : True := h31691
            exact ret _ _ _ _ _ _ dX11_peels_82 rfl (by decide) (by decide) ⟨Iy31682, Xz31684, trivial⟩
          · refine g_tableIn C 83 dX11_peels_42 (by omega) (by omega) (by rw [h31688]; rfl) (by decide) ?_
            refine g_aload C dX11_peels_83 1 rfl ?_
            refine g_iload C dX11_peels_85 0 rfl ?_
            refine g_callVI (rest := []) C mv_X11_227 [.int r31679] (s_X5_work Iy31682 h31686) (h31686).1 (h31686).2 rfl rfl (by decide) (Nat.le_of_ble_eq_true rfl) (by decide) dX11_peels_87 (fun r31692 Y31693 h31694 => ?_)
            obtain ⟨rfl, h31694⟩ := h31694
            have h31694 : True := h31694
            exact ret _ _ _ _ _ _ dX11_peels_90 rfl (by decide) (by decide) ⟨Iy31682, Xz31684, trivial⟩
          · refine g_tableIn C 91 dX11_peels_42 (by omega) (by omega) (by rw [h31688]; rfl) (by decide) ?_
            refine g_aload C dX11_peels_91 1 rfl ?_
            refine g_iload C dX11_peels_93 0 rfl ?_
            refine g_callVI (rest := []) C mv_X11_230 [.int r31679] (s_X5_left Iy31682 h31686) (h31686).1 (h31686).2 rfl rfl (by decide) (Nat.le_of_ble_eq_true rfl) (by decide) dX11_peels_95 (fun r31695 Y31696 h31697 => ?_)
            obtain ⟨rfl, h31697⟩ := h31697
            have h31697 : True := h31697
            exact ret _ _ _ _ _ _ dX11_peels_98 rfl (by decide) (by decide) ⟨Iy31682, Xz31684, trivial⟩
      · have h31669 : r31665.toInt = 0 := congrArg Int32.toInt h31669
        clear hi31668
        refine g_lv (lv' := []) [] rfl ?_
        exact J22 
theorem dX11_quarter_0 : decode cX11_quarter 0 = .ok (.iload_n 1, 1) := by decide +kernel
theorem dX11_quarter_1 : decode cX11_quarter 1 = .ok (.invokestatic 158, 3) := by decide +kernel
theorem dX11_quarter_4 : decode cX11_quarter 4 = .ok (.ifCond .eq 24, 3) := by decide +kernel
theorem dX11_quarter_7 : decode cX11_quarter 7 = .ok (.iload_n 2, 1) := by decide +kernel
theorem dX11_quarter_8 : decode cX11_quarter 8 = .ok (.ifCond .lt 20, 3) := by decide +kernel
theorem dX11_quarter_11 : decode cX11_quarter 11 = .ok (.iload_n 2, 1) := by decide +kernel
theorem dX11_quarter_12 : decode cX11_quarter 12 = .ok (.bipush 100, 2) := by decide +kernel
theorem dX11_quarter_14 : decode cX11_quarter 14 = .ok (.if_icmp .gt 14, 3) := by decide +kernel
theorem dX11_quarter_17 : decode cX11_quarter 17 = .ok (.iload_n 3, 1) := by decide +kernel
theorem dX11_quarter_18 : decode cX11_quarter 18 = .ok (.ifCond .lt 10, 3) := by decide +kernel
theorem dX11_quarter_21 : decode cX11_quarter 21 = .ok (.iload_n 3, 1) := by decide +kernel
theorem dX11_quarter_22 : decode cX11_quarter 22 = .ok (.sipush 999, 3) := by decide +kernel
theorem dX11_quarter_25 : decode cX11_quarter 25 = .ok (.if_icmp .le 5, 3) := by decide +kernel
theorem dX11_quarter_28 : decode cX11_quarter 28 = .ok (.iconst 0, 1) := by decide +kernel
theorem dX11_quarter_29 : decode cX11_quarter 29 = .ok (.ireturn, 1) := by decide +kernel
theorem dX11_quarter_30 : decode cX11_quarter 30 = .ok (.aload_n 0, 1) := by decide +kernel
theorem dX11_quarter_31 : decode cX11_quarter 31 = .ok (.getfield 28, 3) := by decide +kernel
theorem dX11_quarter_34 : decode cX11_quarter 34 = .ok (.iload_n 1, 1) := by decide +kernel
theorem dX11_quarter_35 : decode cX11_quarter 35 = .ok (.iload_n 2, 1) := by decide +kernel
theorem dX11_quarter_36 : decode cX11_quarter 36 = .ok (.iastore, 1) := by decide +kernel
theorem dX11_quarter_37 : decode cX11_quarter 37 = .ok (.aload_n 0, 1) := by decide +kernel
theorem dX11_quarter_38 : decode cX11_quarter 38 = .ok (.getfield 32, 3) := by decide +kernel
theorem dX11_quarter_41 : decode cX11_quarter 41 = .ok (.iload_n 1, 1) := by decide +kernel
theorem dX11_quarter_42 : decode cX11_quarter 42 = .ok (.iload_n 3, 1) := by decide +kernel
theorem dX11_quarter_43 : decode cX11_quarter 43 = .ok (.iastore, 1) := by decide +kernel
theorem dX11_quarter_44 : decode cX11_quarter 44 = .ok (.iconst 1, 1) := by decide +kernel
theorem dX11_quarter_45 : decode cX11_quarter 45 = .ok (.ireturn, 1) := by decide +kernel
set_option maxHeartbeats 4000000 in
set_option maxRecDepth 100000 in
theorem s_X11_quarter {P : PP} {a0 : Nat} {a1 : Int32} {a2 : Int32} {a3 : Int32} (I : IV P) (ha0 : At P a0 11) : CtrI yX11_quarter cX11_quarter 4 (some Jvm.ClassFile.FieldType.boolean) ({ frames := 2, cells := 0, slots := 0, locals := 128 } : Room) 0 0 P [.ref a0, .int a1, .int a2, .int a3] (fun r P2 => IV P2 ∧ EK [13] P P2 ∧ (0 ≤ r.toInt ∧ r.toInt ≤ 1) ∧ (r.toInt = 0 ∨ (((0 : Int) ≤ a1.toInt ∧ a1.toInt ≤ (3 : Int)) ∧ ((0 : Int) ≤ a2.toInt ∧ a2.toInt ≤ (100 : Int)) ∧ ((0 : Int) ≤ a3.toInt ∧ a3.toInt ≤ (999 : Int))))) := by
  refine enI (lv := [(0, .ref a0), (1, .int a1), (2, .int a2), (3, .int a3)]) (by decide) (Nat.le_of_ble_eq_true rfl) rfl (fun E D cy C Ci0 ret => ?_)
  have J28 : G E ({ frames := 2, cells := 0, slots := 0, locals := 128 } : Room) D cy 4 P 0 0 28 [] [] := by
    refine g_iconst (v := 0) C dX11_quarter_28 (by decide) ?_
    exact ret _ _ _ _ _ _ dX11_quarter_29 rfl (by decide) (by decide) ⟨I, EK.rf, (by decide), Or.inl rfl⟩
  refine g_iload_n C dX11_quarter_0 rfl 1 rfl ?_
  refine g_callSI (b := 0) (ci := 0) (rest := []) C ms_X11_158 [.int a1] (s_X11_isQuarter I) rfl rfl (by decide) (Nat.le_of_ble_eq_true rfl) (by decide) dX11_quarter_1 (fun r31727 Y31728 h31729 => ?_)
  obtain ⟨rfl, h31729⟩ := h31729
  obtain ⟨h31729, hi31730⟩ := h31729
  have hi31730 : r31727.toInt = 0 ∨ (((0 : Int) ≤ a1.toInt ∧ a1.toInt ≤ (3 : Int))) := hi31730
  have h31729 : 0 ≤ r31727.toInt ∧ r31727.toInt ≤ 1 := h31729
  refine b_if_eq C 28 dX11_quarter_4 (by decide) (fun h31731 => ?_) (fun h31731 => ?_)
  · have h31731 : r31727.toInt = 0 := congrArg Int32.toInt h31731
    clear hi31730
    refine g_lv (lv' := []) [] rfl ?_
    exact J28 
  · have h31731 : r31727.toInt ≠ 0 := ti_ne h31731
    replace hi31730 := hi31730.resolve_left (by omega)
    refine g_iload_n C dX11_quarter_7 rfl 2 rfl ?_
    have u31733 := ti_rng a2
    refine b_if_lt C 28 dX11_quarter_8 (by decide) (fun h31732 => ?_) (fun h31732 => ?_)
    · have h31732 : a2.toInt < 0 := h31732
      refine g_lv (lv' := []) [] rfl ?_
      exact J28 
    · have h31732 : 0 ≤ a2.toInt := h31732
      refine g_iload_n C dX11_quarter_11 rfl 2 rfl ?_
      refine g_bipush (v := 100) C dX11_quarter_12 (by decide) ?_
      have u31735 := ti_rng a2
      refine b_icmp_gt C 28 dX11_quarter_14 (by decide) (fun h31734 => ?_) (fun h31734 => ?_)
      · have h31734 : 100 < a2.toInt := h31734
        refine g_lv (lv' := []) [] rfl ?_
        exact J28 
      · have h31734 : a2.toInt ≤ 100 := h31734
        refine g_iload_n C dX11_quarter_17 rfl 3 rfl ?_
        have u31737 := ti_rng a3
        refine b_if_lt C 28 dX11_quarter_18 (by decide) (fun h31736 => ?_) (fun h31736 => ?_)
        · have h31736 : a3.toInt < 0 := h31736
          refine g_lv (lv' := []) [] rfl ?_
          exact J28 
        · have h31736 : 0 ≤ a3.toInt := h31736
          refine g_iload_n C dX11_quarter_21 rfl 3 rfl ?_
          refine g_sipush (v := 999) C dX11_quarter_22 (by decide) ?_
          have u31739 := ti_rng a3
          refine b_icmp_le C 30 dX11_quarter_25 (by decide) (fun h31738 => ?_) (fun h31738 => ?_)
          · have h31738 : a3.toInt ≤ 999 := h31738
            refine g_aload_n C dX11_quarter_30 rfl 0 rfl ?_
            obtain ⟨b31740, e31741, h31742⟩ := I.fld (ha0) 4 13 4 rfl
            refine g_getR C fi_X11_28 rfl e31741 (ha0).1 (ha0).2 dX11_quarter_31 ?_
            refine g_iload_n C dX11_quarter_34 rfl 1 rfl ?_
            refine g_iload_n C dX11_quarter_35 rfl 2 rfl ?_
            refine g_iast (j := (a1.toInt.toNat)) C h31742.1 h31742.2.1 (ix_in h31742.2.2 (by omega)) dX11_quarter_36 ?_
            refine gp (ks := [13]) (I.setA h31742 (by decide)) (EK.setI h31742.2.1 (by decide)) (fun Y31743 Iy31744 Xy31745 => ?_)
            have Xz31746 : EK [13] P Y31743 := Xy31745.mono (by decide)
            have h31747 := Xy31745.at ha0
            refine g_aload_n C dX11_quarter_37 rfl 0 rfl ?_
            obtain ⟨b31748, e31749, h31750⟩ := Iy31744.fld (h31747) 5 13 4 rfl
            refine g_getR C fi_X11_32 rfl e31749 (h31747).1 (h31747).2 dX11_quarter_38 ?_
            refine g_iload_n C dX11_quarter_41 rfl 1 rfl ?_
            refine g_iload_n C dX11_quarter_42 rfl 3 rfl ?_
            refine g_iast (j := (a1.toInt.toNat)) C h31750.1 h31750.2.1 (ix_in h31750.2.2 (by omega)) dX11_quarter_43 ?_
            refine gp (ks := [13]) (Iy31744.setA h31750 (by decide)) (EK.setI h31750.2.1 (by decide)) (fun Y31751 Iy31752 Xy31753 => ?_)
            have Xz31754 : EK [13] P Y31751 := Xz31746.tr (Xy31753.mono (by decide))
            have h31755 := Xy31753.at h31747
            refine g_iconst (v := 1) C dX11_quarter_44 (by decide) ?_
            exact ret _ _ _ _ _ _ dX11_quarter_45 rfl (by decide) (by decide) ⟨Iy31752, Xz31754, (by decide), Or.inr (by omega)⟩
          · have h31738 : 999 < a3.toInt := h31738
            refine g_lv (lv' := []) [] rfl ?_
            exact J28 
theorem dX11_read_0 : decode cX11_read 0 = .ok (.iload_n 1, 1) := by decide +kernel
theorem dX11_read_1 : decode cX11_read 1 = .ok (.invokestatic 158, 3) := by decide +kernel
theorem dX11_read_4 : decode cX11_read 4 = .ok (.ifCond .eq 20, 3) := by decide +kernel
theorem dX11_read_7 : decode cX11_read 7 = .ok (.aload_n 0, 1) := by decide +kernel
theorem dX11_read_8 : decode cX11_read 8 = .ok (.iload_n 2, 1) := by decide +kernel
theorem dX11_read_9 : decode cX11_read 9 = .ok (.iload_n 3, 1) := by decide +kernel
theorem dX11_read_10 : decode cX11_read 10 = .ok (.invokevirtual 155, 3) := by decide +kernel
theorem dX11_read_13 : decode cX11_read 13 = .ok (.ifCond .eq 11, 3) := by decide +kernel
theorem dX11_read_16 : decode cX11_read 16 = .ok (.iload 4, 2) := by decide +kernel
theorem dX11_read_18 : decode cX11_read 18 = .ok (.invokestatic 249, 3) := by decide +kernel
theorem dX11_read_21 : decode cX11_read 21 = .ok (.ifCond .ne 5, 3) := by decide +kernel
theorem dX11_read_26 : decode cX11_read 26 = .ok (.aload_n 0, 1) := by decide +kernel
theorem dX11_read_27 : decode cX11_read 27 = .ok (.iload_n 1, 1) := by decide +kernel
theorem dX11_read_28 : decode cX11_read 28 = .ok (.iload_n 2, 1) := by decide +kernel
theorem dX11_read_29 : decode cX11_read 29 = .ok (.iconst 0, 1) := by decide +kernel
theorem dX11_read_30 : decode cX11_read 30 = .ok (.iload_n 3, 1) := by decide +kernel
theorem dX11_read_31 : decode cX11_read 31 = .ok (.iload 4, 2) := by decide +kernel
theorem dX11_read_33 : decode cX11_read 33 = .ok (.invokevirtual 252, 3) := by decide +kernel
theorem dX11_readOctet_0 : decode cX11_readOctet 0 = .ok (.aload_n 0, 1) := by decide +kernel
theorem dX11_readOctet_1 : decode cX11_readOctet 1 = .ok (.iload_n 1, 1) := by decide +kernel
theorem dX11_readOctet_2 : decode cX11_readOctet 2 = .ok (.iload_n 2, 1) := by decide +kernel
theorem dX11_readOctet_3 : decode cX11_readOctet 3 = .ok (.iload_n 3, 1) := by decide +kernel
theorem dX11_readOctet_4 : decode cX11_readOctet 4 = .ok (.invokevirtual 216, 3) := by decide +kernel
theorem dX11_readOctet_7 : decode cX11_readOctet 7 = .ok (.astore 6, 2) := by decide +kernel
theorem dX11_readOctet_9 : decode cX11_readOctet 9 = .ok (.iload 5, 2) := by decide +kernel
theorem dX11_readOctet_11 : decode cX11_readOctet 11 = .ok (.ifCond .ne 33, 3) := by decide +kernel
theorem dX11_readOctet_14 : decode cX11_readOctet 14 = .ok (.aload 6, 2) := by decide +kernel
theorem dX11_readOctet_16 : decode cX11_readOctet 16 = .ok (.invokevirtual 220, 3) := by decide +kernel
theorem dX11_readOctet_19 : decode cX11_readOctet 19 = .ok (.istore 7, 2) := by decide +kernel
theorem dX11_readOctet_21 : decode cX11_readOctet 21 = .ok (.iload 7, 2) := by decide +kernel
theorem dX11_readOctet_23 : decode cX11_readOctet 23 = .ok (.iload 4, 2) := by decide +kernel
theorem dX11_readOctet_25 : decode cX11_readOctet 25 = .ok (.ishr, 1) := by decide +kernel
theorem dX11_readOctet_26 : decode cX11_readOctet 26 = .ok (.iconst 1, 1) := by decide +kernel
theorem dX11_readOctet_27 : decode cX11_readOctet 27 = .ok (.iand, 1) := by decide +kernel
theorem dX11_readOctet_28 : decode cX11_readOctet 28 = .ok (.ifCond .eq 14, 3) := by decide +kernel
theorem dX11_readOctet_31 : decode cX11_readOctet 31 = .ok (.aload 6, 2) := by decide +kernel
theorem dX11_readOctet_33 : decode cX11_readOctet 33 = .ok (.getfield 382, 3) := by decide +kernel
theorem dX11_readOctet_36 : decode cX11_readOctet 36 = .ok (.iload 4, 2) := by decide +kernel
theorem dX11_readOctet_38 : decode cX11_readOctet 38 = .ok (.iaload, 1) := by decide +kernel
theorem dX11_readOctet_39 : decode cX11_readOctet 39 = .ok (.goto 4, 3) := by decide +kernel
theorem dX11_readOctet_42 : decode cX11_readOctet 42 = .ok (.iconst (-1), 1) := by decide +kernel
theorem dX11_readOctet_43 : decode cX11_readOctet 43 = .ok (.ireturn, 1) := by decide +kernel
theorem dX11_readOctet_44 : decode cX11_readOctet 44 = .ok (.aload_n 0, 1) := by decide +kernel
theorem dX11_readOctet_45 : decode cX11_readOctet 45 = .ok (.getfield 53, 3) := by decide +kernel
theorem dX11_readOctet_48 : decode cX11_readOctet 48 = .ok (.iconst 0, 1) := by decide +kernel
theorem dX11_readOctet_49 : decode cX11_readOctet 49 = .ok (.aaload, 1) := by decide +kernel
theorem dX11_readOctet_50 : decode cX11_readOctet 50 = .ok (.astore 7, 2) := by decide +kernel
theorem dX11_readOctet_52 : decode cX11_readOctet 52 = .ok (.aload 7, 2) := by decide +kernel
theorem dX11_readOctet_54 : decode cX11_readOctet 54 = .ok (.aload 6, 2) := by decide +kernel
theorem dX11_readOctet_56 : decode cX11_readOctet 56 = .ok (.iconst (-1), 1) := by decide +kernel
theorem dX11_readOctet_57 : decode cX11_readOctet 57 = .ok (.invokevirtual 236, 3) := by decide +kernel
theorem dX11_readOctet_60 : decode cX11_readOctet 60 = .ok (.aload 7, 2) := by decide +kernel
theorem dX11_readOctet_62 : decode cX11_readOctet 62 = .ok (.iload 4, 2) := by decide +kernel
theorem dX11_readOctet_64 : decode cX11_readOctet 64 = .ok (.invokevirtual 272, 3) := by decide +kernel
theorem dX11_readOctet_67 : decode cX11_readOctet 67 = .ok (.ireturn, 1) := by decide +kernel
set_option maxHeartbeats 4000000 in
set_option maxRecDepth 100000 in
theorem s_X11_readOctet {P : PP} {a0 : Nat} {a1 : Int32} {a2 : Int32} {a3 : Int32} {a4 : Int32} {a5 : Int32} (I : IV P) (ha0 : At P a0 11) (ha1 : 0 ≤ a1.toInt ∧ a1.toInt ≤ 3) (ha2 : 0 ≤ a2.toInt ∧ a2.toInt ≤ 1) (ha3 : 0 ≤ a3.toInt ∧ a3.toInt ≤ 1) (ha4 : 0 ≤ a4.toInt ∧ a4.toInt ≤ 19) : CtrI yX11_readOctet cX11_readOctet 8 (some Jvm.ClassFile.FieldType.int) ({ frames := 4, cells := 0, slots := 0, locals := 256 } : Room) 0 0 P [.ref a0, .int a1, .int a2, .int a3, .int a4, .int a5] (fun r P2 => IV P2 ∧ EK [0, 5, 13] P P2 ∧ (True)) := by
  refine enI (lv := [(0, .ref a0), (1, .int a1), (2, .int a2), (3, .int a3), (4, .int a4), (5, .int a5)]) (by decide) (Nat.le_of_ble_eq_true rfl) rfl (fun E D cy C Ci0 ret => ?_)
  refine g_aload_n C dX11_readOctet_0 rfl 0 rfl ?_
  refine g_iload_n C dX11_readOctet_1 rfl 1 rfl ?_
  refine g_iload_n C dX11_readOctet_2 rfl 2 rfl ?_
  refine g_iload_n C dX11_readOctet_3 rfl 3 rfl ?_
  refine g_callVQ (rest := []) C mv_X11_216 [.int a1, .int a2, .int a3] (s_X11_gather I ha0 (by omega) (by omega) (by omega)) (ha0).1 (ha0).2 rfl rfl (by decide) (Nat.le_of_ble_eq_true rfl) (by decide) dX11_readOctet_4 (fun r31816 Y31817 h31818 => ?_)
  obtain ⟨Iy31819, Xy31820, h31818⟩ := h31818
  have Xz31821 : EK [0, 5, 13] P Y31817 := Xy31820.mono (by decide)
  have h31822 := Xy31820.at ha0
  obtain ⟨b31824, rfl, h31818⟩ := h31818
  show G _ _ _ _ _ _ _ _ _ _ (.ref b31824 :: _)
  refine g_astore (lv' := [(6, .ref b31824), (0, .ref a0), (1, .int a1), (2, .int a2), (3, .int a3), (4, .int a4), (5, .int a5)]) C dX11_readOctet_7 (by decide) rfl ?_
  refine g_iload C dX11_readOctet_9 6 rfl ?_
  have u31826 := ti_rng a5
  refine b_if_ne C 44 dX11_readOctet_11 (by decide) (fun h31825 => ?_) (fun h31825 => ?_)
  · have h31825 : a5.toInt ≠ 0 := ti_ne h31825
    refine g_aload_n C dX11_readOctet_44 rfl 1 rfl ?_
    obtain ⟨b31827, e31828, h31829⟩ := Iy31819.fld (h31822) 9 16 2 rfl
    refine g_getR C fi_X11_53 rfl e31828 (h31822).1 (h31822).2 dX11_readOctet_45 ?_
    refine g_iconst (v := 0) C dX11_readOctet_48 (by decide) ?_
    obtain ⟨b31830, e31831, h31832⟩ := Iy31819.elm h31829 (by decide) 0 (by decide)
    refine g_aldR C h31829.1 h31829.2.1 (by decide) (IX.litn (j := 0) h31829.2.2 rfl (by decide) (by decide)) e31831 dX11_readOctet_49 ?_
    refine g_astore (lv' := [(7, .ref b31830), (6, .ref b31824), (0, .ref a0), (1, .int a1), (2, .int a2), (3, .int a3), (4, .int a4), (5, .int a5)]) C dX11_readOctet_50 (by decide) rfl ?_
    refine g_aload C dX11_readOctet_52 0 rfl ?_
    refine g_aload C dX11_readOctet_54 1 rfl ?_
    refine g_iconst (v := (-1)) C dX11_readOctet_56 (by decide) ?_
    refine g_callVV (rest := []) C mv_X11_236 [.ref b31824, .int (-1)] (s_X0_take Iy31819 h31832 h31818) (h31832).1 (h31832).2 rfl rfl (by decide) (Nat.le_of_ble_eq_true rfl) (by decide) dX11_readOctet_57 (fun Y31834 h31835 => ?_)
    obtain ⟨Iy31836, Xy31837⟩ := h31835
    have Xz31838 : EK [0, 5, 13] P Y31834 := Xz31821.tr (Xy31837.mono (by decide))
    have h31839 := Xy31837.at h31822
    have h31840 := Xy31837.at h31818
    have h31841 := Xy31837.at h31832
    refine g_aload C dX11_readOctet_60 0 rfl ?_
    refine g_iload C dX11_readOctet_62 6 rfl ?_
    refine g_callVI (rest := []) C mv_X11_272 [.int a4] (s_X0_octetOf Iy31836 h31841) (h31841).1 (h31841).2 rfl rfl (by decide) (Nat.le_of_ble_eq_true rfl) (by decide) dX11_readOctet_64 (fun r31842 Y31843 h31844 => ?_)
    obtain ⟨rfl, h31844⟩ := h31844
    have h31844 : True := h31844
    exact ret _ _ _ _ _ _ dX11_readOctet_67 rfl (by decide) (by decide) ⟨Iy31836, Xz31838, trivial⟩
  · have h31825 : a5.toInt = 0 := congrArg Int32.toInt h31825
    refine g_aload C dX11_readOctet_14 0 rfl ?_
    refine g_callVI (rest := []) C mv_X11_220 [] (s_X5_peel Iy31819 h31818) (h31818).1 (h31818).2 rfl rfl (by decide) (Nat.le_of_ble_eq_true rfl) (by decide) dX11_readOctet_16 (fun r31845 Y31846 h31847 => ?_)
    obtain ⟨Iy31848, Xy31849, h31847⟩ := h31847
    have Xz31850 : EK [0, 5, 13] P Y31846 := Xz31821.tr (Xy31849.mono (by decide))
    have h31851 := Xy31849.at h31822
    have h31852 := Xy31849.at h31818
    have h31847 : True := h31847
    refine g_istore (lv' := [(7, .int r31845), (6, .ref b31824), (0, .ref a0), (1, .int a1), (2, .int a2), (3, .int a3), (4, .int a4), (5, .int a5)]) C dX11_readOctet_19 (by decide) rfl ?_
    refine g_iload C dX11_readOctet_21 0 rfl ?_
    refine g_iload C dX11_readOctet_23 6 rfl ?_
    refine a_ishr C dX11_readOctet_25 (fun z31853 => ?_)
    refine g_iconst (v := 1) C dX11_readOctet_26 (by decide) ?_
    refine s_iand C dX11_readOctet_27 (by show 0 ≤ 1; omega) (fun z31855 h31856 => ?_)
    have h31856 : 0 ≤ z31855.toInt ∧ z31855.toInt ≤ 1 := h31856
    refine b_if_eq C 42 dX11_readOctet_28 (by decide) (fun h31857 => ?_) (fun h31857 => ?_)
    · have h31857 : z31855.toInt = 0 := congrArg Int32.toInt h31857
      refine g_iconst (v := (-1)) C dX11_readOctet_42 (by decide) ?_
      exact ret _ _ _ _ _ _ dX11_readOctet_43 rfl (by decide) (by decide) ⟨Iy31848, Xz31850, trivial⟩
    · have h31857 : z31855.toInt ≠ 0 := ti_ne h31857
      refine g_aload C dX11_readOctet_31 1 rfl ?_
      obtain ⟨b31858, e31859, h31860⟩ := Iy31848.fld (h31852) 2 13 20 rfl
      refine g_getR C fi_X11_382 rfl e31859 (h31852).1 (h31852).2 dX11_readOctet_33 ?_
      refine g_iload C dX11_readOctet_36 6 rfl ?_
      refine g_iald (j := (a4.toInt.toNat)) C h31860.1 h31860.2.1 (ix_in h31860.2.2 (by omega)) dX11_readOctet_38 ?_
      refine g_topi (fun z31861 _ => ?_)
      refine g_goto C 43 dX11_readOctet_39 (by decide) ?_
      exact ret _ _ _ _ _ _ dX11_readOctet_43 rfl (by decide) (by decide) ⟨Iy31848, Xz31850, trivial⟩
theorem dX11_read_24 : decode cX11_read 24 = .ok (.iconst (-1), 1) := by decide +kernel
theorem dX11_read_25 : decode cX11_read 25 = .ok (.ireturn, 1) := by decide +kernel
theorem dX11_read_36 : decode cX11_read 36 = .ok (.istore 5, 2) := by decide +kernel
theorem dX11_read_38 : decode cX11_read 38 = .ok (.aload_n 0, 1) := by decide +kernel
theorem dX11_read_39 : decode cX11_read 39 = .ok (.iload_n 1, 1) := by decide +kernel
theorem dX11_read_40 : decode cX11_read 40 = .ok (.iload_n 2, 1) := by decide +kernel
theorem dX11_read_41 : decode cX11_read 41 = .ok (.iconst 1, 1) := by decide +kernel
theorem dX11_read_42 : decode cX11_read 42 = .ok (.iload_n 3, 1) := by decide +kernel
theorem dX11_read_43 : decode cX11_read 43 = .ok (.iload 4, 2) := by decide +kernel
theorem dX11_read_45 : decode cX11_read 45 = .ok (.invokevirtual 252, 3) := by decide +kernel
theorem dX11_read_48 : decode cX11_read 48 = .ok (.istore 6, 2) := by decide +kernel
theorem dX11_read_50 : decode cX11_read 50 = .ok (.iload 5, 2) := by decide +kernel
theorem dX11_read_52 : decode cX11_read 52 = .ok (.iconst (-1), 1) := by decide +kernel
theorem dX11_read_53 : decode cX11_read 53 = .ok (.if_icmp .eq 9, 3) := by decide +kernel
theorem dX11_read_56 : decode cX11_read 56 = .ok (.iload 6, 2) := by decide +kernel
theorem dX11_read_58 : decode cX11_read 58 = .ok (.iconst (-1), 1) := by decide +kernel
theorem dX11_read_59 : decode cX11_read 59 = .ok (.if_icmp .ne 7, 3) := by decide +kernel
theorem dX11_read_62 : decode cX11_read 62 = .ok (.iconst (-1), 1) := by decide +kernel
theorem dX11_read_63 : decode cX11_read 63 = .ok (.goto 11, 3) := by decide +kernel
theorem dX11_read_66 : decode cX11_read 66 = .ok (.iload 5, 2) := by decide +kernel
theorem dX11_read_68 : decode cX11_read 68 = .ok (.iload 6, 2) := by decide +kernel
theorem dX11_read_70 : decode cX11_read 70 = .ok (.bipush 8, 2) := by decide +kernel
theorem dX11_read_72 : decode cX11_read 72 = .ok (.ishl, 1) := by decide +kernel
theorem dX11_read_73 : decode cX11_read 73 = .ok (.ior, 1) := by decide +kernel
theorem dX11_read_74 : decode cX11_read 74 = .ok (.ireturn, 1) := by decide +kernel
set_option maxHeartbeats 4000000 in
set_option maxRecDepth 100000 in
theorem s_X11_read {P : PP} {a0 : Nat} {a1 : Int32} {a2 : Int32} {a3 : Int32} {a4 : Int32} (I : IV P) (ha0 : At P a0 11) : CtrI yX11_read cX11_read 7 (some Jvm.ClassFile.FieldType.int) ({ frames := 5, cells := 0, slots := 0, locals := 320 } : Room) 0 0 P [.ref a0, .int a1, .int a2, .int a3, .int a4] (fun r P2 => IV P2 ∧ EK [0, 5, 13] P P2 ∧ (True)) := by
  refine enI (lv := [(0, .ref a0), (1, .int a1), (2, .int a2), (3, .int a3), (4, .int a4)]) (by decide) (Nat.le_of_ble_eq_true rfl) rfl (fun E D cy C Ci0 ret => ?_)
  have J62 : ∀ (P62 : PP), (IV P62) → (EK [0, 5, 13] P P62) → G E ({ frames := 5, cells := 0, slots := 0, locals := 320 } : Room) D cy 7 P62 0 0 62 [] [] := by
    intro P62 I62 X62
    have h31899 := X62.at ha0
    refine g_iconst (v := (-1)) C dX11_read_62 (by decide) ?_
    refine g_goto C 74 dX11_read_63 (by decide) ?_
    exact ret _ _ _ _ _ _ dX11_read_74 rfl (by decide) (by decide) ⟨I62, X62, trivial⟩
  have J24 : G E ({ frames := 5, cells := 0, slots := 0, locals := 320 } : Room) D cy 7 P 0 0 24 [] [] := by
    refine g_iconst (v := (-1)) C dX11_read_24 (by decide) ?_
    exact ret _ _ _ _ _ _ dX11_read_25 rfl (by decide) (by decide) ⟨I, EK.rf, trivial⟩
  refine g_iload_n C dX11_read_0 rfl 1 rfl ?_
  refine g_callSI (b := 0) (ci := 0) (rest := []) C ms_X11_158 [.int a1] (s_X11_isQuarter I) rfl rfl (by decide) (Nat.le_of_ble_eq_true rfl) (by decide) dX11_read_1 (fun r31900 Y31901 h31902 => ?_)
  obtain ⟨rfl, h31902⟩ := h31902
  obtain ⟨h31902, hi31903⟩ := h31902
  have hi31903 : r31900.toInt = 0 ∨ (((0 : Int) ≤ a1.toInt ∧ a1.toInt ≤ (3 : Int))) := hi31903
  have h31902 : 0 ≤ r31900.toInt ∧ r31900.toInt ≤ 1 := h31902
  refine b_if_eq C 24 dX11_read_4 (by decide) (fun h31904 => ?_) (fun h31904 => ?_)
  · have h31904 : r31900.toInt = 0 := congrArg Int32.toInt h31904
    clear hi31903
    refine g_lv (lv' := []) [] rfl ?_
    exact J24 
  · have h31904 : r31900.toInt ≠ 0 := ti_ne h31904
    replace hi31903 := hi31903.resolve_left (by omega)
    refine g_aload_n C dX11_read_7 rfl 0 rfl ?_
    refine g_iload_n C dX11_read_8 rfl 2 rfl ?_
    refine g_iload_n C dX11_read_9 rfl 3 rfl ?_
    refine g_callVI (rest := []) C mv_X11_155 [.int a2, .int a3] (s_X11_isPageOf I ha0) (ha0).1 (ha0).2 rfl rfl (by decide) (Nat.le_of_ble_eq_true rfl) (by decide) dX11_read_10 (fun r31905 Y31906 h31907 => ?_)
    obtain ⟨rfl, h31907⟩ := h31907
    obtain ⟨h31907, hi31908⟩ := h31907
    have hi31908 : r31905.toInt = 0 ∨ (((0 : Int) ≤ a2.toInt ∧ a2.toInt ≤ (1 : Int)) ∧ ((0 : Int) ≤ a3.toInt ∧ a3.toInt ≤ (19 : Int))) := hi31908
    have h31907 : 0 ≤ r31905.toInt ∧ r31905.toInt ≤ 1 := h31907
    refine b_if_eq C 24 dX11_read_13 (by decide) (fun h31909 => ?_) (fun h31909 => ?_)
    · have h31909 : r31905.toInt = 0 := congrArg Int32.toInt h31909
      clear hi31908
      refine g_lv (lv' := []) [] rfl ?_
      exact J24 
    · have h31909 : r31905.toInt ≠ 0 := ti_ne h31909
      replace hi31908 := hi31908.resolve_left (by omega)
      refine g_iload C dX11_read_16 4 rfl ?_
      refine g_callSI (b := 0) (ci := 0) (rest := []) C ms_X11_249 [.int a4] (s_X11_isHow I) rfl rfl (by decide) (Nat.le_of_ble_eq_true rfl) (by decide) dX11_read_18 (fun r31910 Y31911 h31912 => ?_)
      obtain ⟨rfl, h31912⟩ := h31912
      have h31912 : 0 ≤ r31910.toInt ∧ r31910.toInt ≤ 1 := h31912
      refine b_if_ne C 26 dX11_read_21 (by decide) (fun h31913 => ?_) (fun h31913 => ?_)
      · have h31913 : r31910.toInt ≠ 0 := ti_ne h31913
        refine g_aload_n C dX11_read_26 rfl 0 rfl ?_
        refine g_iload_n C dX11_read_27 rfl 1 rfl ?_
        refine g_iload_n C dX11_read_28 rfl 2 rfl ?_
        refine g_iconst (v := 0) C dX11_read_29 (by decide) ?_
        refine g_iload_n C dX11_read_30 rfl 3 rfl ?_
        refine g_iload C dX11_read_31 4 rfl ?_
        refine g_callVI (rest := []) C mv_X11_252 [.int a1, .int a2, .int 0, .int a3, .int a4] (s_X11_readOctet I ha0 (by omega) (by omega) (by decide) (by omega)) (ha0).1 (ha0).2 rfl rfl (by decide) (Nat.le_of_ble_eq_true rfl) (by decide) dX11_read_33 (fun r31914 Y31915 h31916 => ?_)
        obtain ⟨Iy31917, Xy31918, h31916⟩ := h31916
        have Xz31919 : EK [0, 5, 13] P Y31915 := Xy31918.mono (by decide)
        have h31920 := Xy31918.at ha0
        have h31916 : True := h31916
        refine g_istore (lv' := [(5, .int r31914), (0, .ref a0), (1, .int a1), (2, .int a2), (3, .int a3), (4, .int a4)]) C dX11_read_36 (by decide) rfl ?_
        refine g_aload_n C dX11_read_38 rfl 1 rfl ?_
        refine g_iload_n C dX11_read_39 rfl 2 rfl ?_
        refine g_iload_n C dX11_read_40 rfl 3 rfl ?_
        refine g_iconst (v := 1) C dX11_read_41 (by decide) ?_
        refine g_iload_n C dX11_read_42 rfl 4 rfl ?_
        refine g_iload C dX11_read_43 5 rfl ?_
        refine g_callVI (rest := []) C mv_X11_252 [.int a1, .int a2, .int 1, .int a3, .int a4] (s_X11_readOctet Iy31917 h31920 (by omega) (by omega) (by decide) (by omega)) (h31920).1 (h31920).2 rfl rfl (by decide) (Nat.le_of_ble_eq_true rfl) (by decide) dX11_read_45 (fun r31921 Y31922 h31923 => ?_)
        obtain ⟨Iy31924, Xy31925, h31923⟩ := h31923
        have Xz31926 : EK [0, 5, 13] P Y31922 := Xz31919.tr (Xy31925.mono (by decide))
        have h31927 := Xy31925.at h31920
        have h31923 : True := h31923
        refine g_istore (lv' := [(6, .int r31921), (5, .int r31914), (0, .ref a0), (1, .int a1), (2, .int a2), (3, .int a3), (4, .int a4)]) C dX11_read_48 (by decide) rfl ?_
        refine g_iload C dX11_read_50 1 rfl ?_
        refine g_iconst (v := (-1)) C dX11_read_52 (by decide) ?_
        have u31929 := ti_rng r31914
        refine b_icmp_eq C 62 dX11_read_53 (by decide) (fun h31928 => ?_) (fun h31928 => ?_)
        · have h31928 : r31914.toInt = (-1) := congrArg Int32.toInt h31928
          refine g_lv (lv' := []) [] rfl ?_
          exact J62 Y31922 Iy31924 Xz31926
        · have h31928 : r31914.toInt ≠ (-1) := ti_ne h31928
          refine g_iload C dX11_read_56 0 rfl ?_
          refine g_iconst (v := (-1)) C dX11_read_58 (by decide) ?_
          have u31931 := ti_rng r31921
          refine b_icmp_ne C 66 dX11_read_59 (by decide) (fun h31930 => ?_) (fun h31930 => ?_)
          · have h31930 : r31921.toInt ≠ (-1) := ti_ne h31930
            refine g_iload C dX11_read_66 1 rfl ?_
            refine g_iload C dX11_read_68 0 rfl ?_
            refine g_bipush (v := 8) C dX11_read_70 (by decide) ?_
            refine a_ishl C dX11_read_72 (fun z31932 => ?_)
            refine a_ior C dX11_read_73 (fun z31934 => ?_)
            exact ret _ _ _ _ _ _ dX11_read_74 rfl (by decide) (by decide) ⟨Iy31924, Xz31926, trivial⟩
          · have h31930 : r31921.toInt = (-1) := congrArg Int32.toInt h31930
            refine g_lv (lv' := []) [] rfl ?_
            exact J62 Y31922 Iy31924 Xz31926
      · have h31913 : r31910.toInt = 0 := congrArg Int32.toInt h31913
        refine g_lv (lv' := []) [] rfl ?_
        exact J24 
theorem dX11_right_0 : decode cX11_right 0 = .ok (.iload_n 1, 1) := by decide +kernel
theorem dX11_right_1 : decode cX11_right 1 = .ok (.invokestatic 158, 3) := by decide +kernel
theorem dX11_right_4 : decode cX11_right 4 = .ok (.ifCond .eq 20, 3) := by decide +kernel
theorem dX11_right_7 : decode cX11_right 7 = .ok (.aload_n 0, 1) := by decide +kernel
theorem dX11_right_8 : decode cX11_right 8 = .ok (.iload_n 2, 1) := by decide +kernel
theorem dX11_right_9 : decode cX11_right 9 = .ok (.iload 4, 2) := by decide +kernel
theorem dX11_right_11 : decode cX11_right 11 = .ok (.invokevirtual 155, 3) := by decide +kernel
theorem dX11_right_14 : decode cX11_right 14 = .ok (.ifCond .eq 10, 3) := by decide +kernel
theorem dX11_right_17 : decode cX11_right 17 = .ok (.iload_n 3, 1) := by decide +kernel
theorem dX11_right_18 : decode cX11_right 18 = .ok (.invokestatic 213, 3) := by decide +kernel
theorem dX11_right_21 : decode cX11_right 21 = .ok (.ifCond .ne 5, 3) := by decide +kernel
theorem dX11_right_24 : decode cX11_right 24 = .ok (.iconst (-1), 1) := by decide +kernel
theorem dX11_right_25 : decode cX11_right 25 = .ok (.ireturn, 1) := by decide +kernel
theorem dX11_right_26 : decode cX11_right 26 = .ok (.aload_n 0, 1) := by decide +kernel
theorem dX11_right_27 : decode cX11_right 27 = .ok (.iload_n 1, 1) := by decide +kernel
theorem dX11_right_28 : decode cX11_right 28 = .ok (.iload_n 2, 1) := by decide +kernel
theorem dX11_right_29 : decode cX11_right 29 = .ok (.iload_n 3, 1) := by decide +kernel
theorem dX11_right_30 : decode cX11_right 30 = .ok (.invokevirtual 216, 3) := by decide +kernel
theorem dX11_right_33 : decode cX11_right 33 = .ok (.astore 5, 2) := by decide +kernel
theorem dX11_right_35 : decode cX11_right 35 = .ok (.aload_n 0, 1) := by decide +kernel
theorem dX11_right_36 : decode cX11_right 36 = .ok (.getfield 53, 3) := by decide +kernel
theorem dX11_right_39 : decode cX11_right 39 = .ok (.iconst 0, 1) := by decide +kernel
theorem dX11_right_40 : decode cX11_right 40 = .ok (.aaload, 1) := by decide +kernel
theorem dX11_right_41 : decode cX11_right 41 = .ok (.astore 6, 2) := by decide +kernel
theorem dX11_right_43 : decode cX11_right 43 = .ok (.aload 6, 2) := by decide +kernel
theorem dX11_right_45 : decode cX11_right 45 = .ok (.aload 5, 2) := by decide +kernel
theorem dX11_right_47 : decode cX11_right 47 = .ok (.iconst (-1), 1) := by decide +kernel
theorem dX11_right_48 : decode cX11_right 48 = .ok (.invokevirtual 236, 3) := by decide +kernel
theorem dX11_right_51 : decode cX11_right 51 = .ok (.aload 6, 2) := by decide +kernel
theorem dX11_right_53 : decode cX11_right 53 = .ok (.getfield 243, 3) := by decide +kernel
theorem dX11_right_56 : decode cX11_right 56 = .ok (.ifCond .eq 5, 3) := by decide +kernel
theorem dX11_right_59 : decode cX11_right 59 = .ok (.iconst (-1), 1) := by decide +kernel
theorem dX11_right_60 : decode cX11_right 60 = .ok (.ireturn, 1) := by decide +kernel
theorem dX11_right_61 : decode cX11_right 61 = .ok (.iconst (-1), 1) := by decide +kernel
theorem dX11_right_62 : decode cX11_right 62 = .ok (.istore 7, 2) := by decide +kernel
theorem dX11_right_64 : decode cX11_right 64 = .ok (.aload 5, 2) := by decide +kernel
theorem dX11_right_66 : decode cX11_right 66 = .ok (.getfield 263, 3) := by decide +kernel
theorem dX11_right_69 : decode cX11_right 69 = .ok (.istore 8, 2) := by decide +kernel
theorem dX11_right_71 : decode cX11_right 71 = .ok (.iload 8, 2) := by decide +kernel
theorem dX11_right_73 : decode cX11_right 73 = .ok (.aload 5, 2) := by decide +kernel
theorem dX11_right_75 : decode cX11_right 75 = .ok (.getfield 266, 3) := by decide +kernel
theorem dX11_right_78 : decode cX11_right 78 = .ok (.if_icmp .ge 60, 3) := by decide +kernel
theorem dX11_right_81 : decode cX11_right 81 = .ok (.aload 6, 2) := by decide +kernel
theorem dX11_right_83 : decode cX11_right 83 = .ok (.aload 5, 2) := by decide +kernel
theorem dX11_right_85 : decode cX11_right 85 = .ok (.iload 8, 2) := by decide +kernel
theorem dX11_right_87 : decode cX11_right 87 = .ok (.invokevirtual 236, 3) := by decide +kernel
theorem dX11_right_90 : decode cX11_right 90 = .ok (.aload 6, 2) := by decide +kernel
theorem dX11_right_92 : decode cX11_right 92 = .ok (.getfield 243, 3) := by decide +kernel
theorem dX11_right_95 : decode cX11_right 95 = .ok (.ifCond .eq 37, 3) := by decide +kernel
theorem dX11_right_98 : decode cX11_right 98 = .ok (.aload 6, 2) := by decide +kernel
theorem dX11_right_100 : decode cX11_right 100 = .ok (.iload 4, 2) := by decide +kernel
theorem dX11_right_102 : decode cX11_right 102 = .ok (.invokevirtual 272, 3) := by decide +kernel
theorem dX11_right_105 : decode cX11_right 105 = .ok (.istore 9, 2) := by decide +kernel
theorem dX11_right_107 : decode cX11_right 107 = .ok (.iload 9, 2) := by decide +kernel
theorem dX11_right_109 : decode cX11_right 109 = .ok (.iconst (-1), 1) := by decide +kernel
theorem dX11_right_110 : decode cX11_right 110 = .ok (.if_icmp .eq 16, 3) := by decide +kernel
theorem dX11_right_113 : decode cX11_right 113 = .ok (.iload 7, 2) := by decide +kernel
theorem dX11_right_115 : decode cX11_right 115 = .ok (.iconst (-1), 1) := by decide +kernel
theorem dX11_right_116 : decode cX11_right 116 = .ok (.if_icmp .eq 12, 3) := by decide +kernel
theorem dX11_right_119 : decode cX11_right 119 = .ok (.iload 7, 2) := by decide +kernel
theorem dX11_right_121 : decode cX11_right 121 = .ok (.iload 9, 2) := by decide +kernel
theorem dX11_right_123 : decode cX11_right 123 = .ok (.if_icmp .eq 5, 3) := by decide +kernel
theorem dX11_right_126 : decode cX11_right 126 = .ok (.iconst (-1), 1) := by decide +kernel
theorem dX11_right_127 : decode cX11_right 127 = .ok (.ireturn, 1) := by decide +kernel
theorem dX11_right_128 : decode cX11_right 128 = .ok (.iload 9, 2) := by decide +kernel
theorem dX11_right_130 : decode cX11_right 130 = .ok (.istore 7, 2) := by decide +kernel
theorem dX11_right_132 : decode cX11_right 132 = .ok (.iinc 8 1, 3) := by decide +kernel
theorem dX11_right_135 : decode cX11_right 135 = .ok (.goto (-64), 3) := by decide +kernel
theorem dX11_right_138 : decode cX11_right 138 = .ok (.iload 7, 2) := by decide +kernel
theorem dX11_right_140 : decode cX11_right 140 = .ok (.ireturn, 1) := by decide +kernel
set_option maxHeartbeats 4000000 in
set_option maxRecDepth 100000 in
theorem s_X11_right {P : PP} {a0 : Nat} {a1 : Int32} {a2 : Int32} {a3 : Int32} {a4 : Int32} (I : IV P) (ha0 : At P a0 11) : CtrI yX11_right cX11_right 10 (some Jvm.ClassFile.FieldType.int) ({ frames := 4, cells := 0, slots := 0, locals := 256 } : Room) 0 0 P [.ref a0, .int a1, .int a2, .int a3, .int a4] (fun r P2 => IV P2 ∧ EK [0, 5, 13] P P2 ∧ (True)) := by
  refine enI (lv := [(0, .ref a0), (1, .int a1), (2, .int a2), (3, .int a3), (4, .int a4)]) (by decide) (Nat.le_of_ble_eq_true rfl) rfl (fun E D cy C Ci0 ret => ?_)
  have J126 : ∀ (P126 : PP), (IV P126) → (EK [0, 5, 13] P P126) → G E ({ frames := 4, cells := 0, slots := 0, locals := 256 } : Room) D cy 10 P126 0 0 126 [] [] := by
    intro P126 I126 X126
    have h32034 := X126.at ha0
    refine g_iconst (v := (-1)) C dX11_right_126 (by decide) ?_
    exact ret _ _ _ _ _ _ dX11_right_127 rfl (by decide) (by decide) ⟨I126, X126, trivial⟩
  have J71 : ∀ (n71 : Nat) (P71 : PP) (b71_5 : Nat) (b71_6 : Nat) (v71_7 : Int32) (v71_8 : Int32), (44 - v71_8.toInt).toNat < n71 → (IV P71) → (EK [0, 5, 13] P P71) → (0 ≤ a4.toInt ∧ a4.toInt ≤ 19) → (At P71 b71_5 5) → (At P71 b71_6 0) → (0 ≤ v71_8.toInt ∧ v71_8.toInt ≤ 44) → G E ({ frames := 4, cells := 0, slots := 0, locals := 256 } : Room) D cy 10 P71 0 0 71 [(4, .int a4), (5, .ref b71_5), (6, .ref b71_6), (7, .int v71_7), (8, .int v71_8)] [] := by
    intro n71
    induction n71 with
    | zero => intro P71 b71_5 b71_6 v71_7 v71_8 hm71 I71 X71 hv71_4 hb71_5 hb71_6 hv71_8; omega
    | succ n71 ih71 =>
      intro P71 b71_5 b71_6 v71_7 v71_8 hm71 I71 X71 hv71_4 hb71_5 hb71_6 hv71_8
      have h32035 := X71.at ha0
      have J132 : ∀ (P132 : PP) (b132_5 : Nat) (b132_6 : Nat) (v132_7 : Int32), (IV P132) → (EK [0, 5, 13] P P132) → (0 ≤ a4.toInt ∧ a4.toInt ≤ 19) → (At P132 b132_5 5) → (At P132 b132_6 0) → (0 ≤ v71_8.toInt ∧ v71_8.toInt ≤ 43) → (1 ≤ (pI P132 b132_5 4).toInt ∧ (pI P132 b132_5 4).toInt ≤ 44) → (0 ≤ (pI P132 b132_6 3).toInt ∧ (pI P132 b132_6 3).toInt ≤ 1) → G E ({ frames := 4, cells := 0, slots := 0, locals := 256 } : Room) D cy 10 P132 0 0 132 [(4, .int a4), (5, .ref b132_5), (6, .ref b132_6), (7, .int v132_7), (8, .int v71_8)] [] := by
        intro P132 b132_5 b132_6 v132_7 I132 X132 hv132_4 hb132_5 hb132_6 hv132_8 hq132_0 hq132_1
        have h32036 := X132.at ha0
        refine s_iinc (lv0 := [(4, .int a4), (5, .ref b132_5), (6, .ref b132_6), (7, .int v132_7)]) (m := 1) C dX11_right_132 4 rfl (by decide) rfl (by decide) (by omega) (fun z32037 h32038 => ?_)
        have h32038 : z32037.toInt = v71_8.toInt + 1 := h32038
        refine g_goto C 71 dX11_right_135 (by decide) ?_
        refine g_lv (lv' := [(4, .int a4), (5, .ref b132_5), (6, .ref b132_6), (7, .int v132_7), (8, .int z32037)]) [1, 2, 3, 4, 0] rfl ?_
        exact ih71 P132 b132_5 b132_6 v132_7 z32037 (by omega) I132 X132 (by omega) hb132_5 hb132_6 (by omega)
      have J128 : ∀ (P128 : PP) (b128_5 : Nat) (b128_6 : Nat) (v128_9 : Int32), (IV P128) → (EK [0, 5, 13] P P128) → (0 ≤ a4.toInt ∧ a4.toInt ≤ 19) → (At P128 b128_5 5) → (At P128 b128_6 0) → (0 ≤ v71_8.toInt ∧ v71_8.toInt ≤ 43) → (1 ≤ (pI P128 b128_5 4).toInt ∧ (pI P128 b128_5 4).toInt ≤ 44) → (1 ≤ (pI P128 b128_6 3).toInt ∧ (pI P128 b128_6 3).toInt ≤ 1) → G E ({ frames := 4, cells := 0, slots := 0, locals := 256 } : Room) D cy 10 P128 0 0 128 [(4, .int a4), (5, .ref b128_5), (6, .ref b128_6), (8, .int v71_8), (9, .int v128_9)] [] := by
        intro P128 b128_5 b128_6 v128_9 I128 X128 hv128_4 hb128_5 hb128_6 hv128_8 hq128_0 hq128_1
        have h32039 := X128.at ha0
        refine g_iload C dX11_right_128 4 rfl ?_
        refine g_istore (lv' := [(7, .int v128_9), (4, .int a4), (5, .ref b128_5), (6, .ref b128_6), (8, .int v71_8), (9, .int v128_9)]) C dX11_right_130 (by decide) rfl ?_
        refine g_lv (lv' := [(4, .int a4), (5, .ref b128_5), (6, .ref b128_6), (7, .int v128_9), (8, .int v71_8)]) [1, 2, 3, 0, 4] rfl ?_
        exact J132 P128 b128_5 b128_6 v128_9 I128 X128 (by omega) hb128_5 hb128_6 (by omega) (by omega) (by omega)
      refine g_iload C dX11_right_71 4 rfl ?_
      refine g_aload C dX11_right_73 1 rfl ?_
      refine g_getI C fi_X11_266 (by decide) (hb71_5).1 (hb71_5).2 dX11_right_75 ?_
      have h32040 := I71.rg (hb71_5) 4 rfl
      refine b_icmp_ge C 138 dX11_right_78 (by decide) (fun h32041 => ?_) (fun h32041 => ?_)
      · have h32041 : (pI P71 b71_5 4).toInt ≤ v71_8.toInt := h32041
        refine g_iload C dX11_right_138 3 rfl ?_
        exact ret _ _ _ _ _ _ dX11_right_140 rfl (by decide) (by decide) ⟨I71, X71, trivial⟩
      · have h32041 : v71_8.toInt < (pI P71 b71_5 4).toInt := h32041
        refine g_aload C dX11_right_81 2 rfl ?_
        refine g_aload C dX11_right_83 1 rfl ?_
        refine g_iload C dX11_right_85 4 rfl ?_
        refine g_callVV (rest := []) C mv_X11_236 [.ref b71_5, .int v71_8] (s_X0_take I71 hb71_6 hb71_5) (hb71_6).1 (hb71_6).2 rfl rfl (by decide) (Nat.le_of_ble_eq_true rfl) (by decide) dX11_right_87 (fun Y32043 h32044 => ?_)
        obtain ⟨Iy32045, Xy32046⟩ := h32044
        have q32047 := Xy32046.keep hb71_5 (by decide) 4
        have Xz32048 : EK [0, 5, 13] P Y32043 := X71.tr (Xy32046.mono (by decide))
        have h32049 := Xy32046.at h32035
        have h32050 := Xy32046.at hb71_5
        have h32051 := Xy32046.at hb71_6
        refine g_aload C dX11_right_90 2 rfl ?_
        refine g_getI C fi_X11_243 (by decide) (h32051).1 (h32051).2 dX11_right_92 ?_
        have h32052 := Iy32045.rg (h32051) 3 rfl
        refine b_if_eq C 132 dX11_right_95 (by decide) (fun h32053 => ?_) (fun h32053 => ?_)
        · have h32053 : (pI Y32043 b71_6 3).toInt = 0 := congrArg Int32.toInt h32053
          exact J132 Y32043 b71_5 b71_6 v71_7 Iy32045 Xz32048 (by omega) h32050 h32051 (by omega) (by omega) (by omega)
        · have h32053 : (pI Y32043 b71_6 3).toInt ≠ 0 := ti_ne h32053
          refine g_aload C dX11_right_98 2 rfl ?_
          refine g_iload C dX11_right_100 0 rfl ?_
          refine g_callVI (rest := []) C mv_X11_272 [.int a4] (s_X0_octetOf Iy32045 h32051) (h32051).1 (h32051).2 rfl rfl (by decide) (Nat.le_of_ble_eq_true rfl) (by decide) dX11_right_102 (fun r32054 Y32055 h32056 => ?_)
          obtain ⟨rfl, h32056⟩ := h32056
          have h32056 : True := h32056
          refine g_istore (lv' := [(9, .int r32054), (4, .int a4), (5, .ref b71_5), (6, .ref b71_6), (7, .int v71_7), (8, .int v71_8)]) C dX11_right_105 (by decide) rfl ?_
          refine g_iload C dX11_right_107 0 rfl ?_
          refine g_iconst (v := (-1)) C dX11_right_109 (by decide) ?_
          have u32058 := ti_rng r32054
          refine b_icmp_eq C 126 dX11_right_110 (by decide) (fun h32057 => ?_) (fun h32057 => ?_)
          · have h32057 : r32054.toInt = (-1) := congrArg Int32.toInt h32057
            refine g_lv (lv' := []) [] rfl ?_
            exact J126 Y32043 Iy32045 Xz32048
          · have h32057 : r32054.toInt ≠ (-1) := ti_ne h32057
            refine g_iload C dX11_right_113 4 rfl ?_
            refine g_iconst (v := (-1)) C dX11_right_115 (by decide) ?_
            have u32060 := ti_rng v71_7
            refine b_icmp_eq C 128 dX11_right_116 (by decide) (fun h32059 => ?_) (fun h32059 => ?_)
            · have h32059 : v71_7.toInt = (-1) := congrArg Int32.toInt h32059
              refine g_lv (lv' := [(4, .int a4), (5, .ref b71_5), (6, .ref b71_6), (8, .int v71_8), (9, .int r32054)]) [1, 2, 3, 5, 0] rfl ?_
              exact J128 Y32043 b71_5 b71_6 r32054 Iy32045 Xz32048 (by omega) h32050 h32051 (by omega) (by omega) (by omega)
            · have h32059 : v71_7.toInt ≠ (-1) := ti_ne h32059
              refine g_iload C dX11_right_119 4 rfl ?_
              refine g_iload C dX11_right_121 0 rfl ?_
              have u32062 := ti_rng v71_7
              have u32063 := ti_rng r32054
              refine b_icmp_eq C 128 dX11_right_123 (by decide) (fun h32061 => ?_) (fun h32061 => ?_)
              · have h32061 : v71_7.toInt = r32054.toInt := congrArg Int32.toInt h32061
                refine g_lv (lv' := [(4, .int a4), (5, .ref b71_5), (6, .ref b71_6), (8, .int v71_8), (9, .int r32054)]) [1, 2, 3, 5, 0] rfl ?_
                exact J128 Y32043 b71_5 b71_6 r32054 Iy32045 Xz32048 (by omega) h32050 h32051 (by omega) (by omega) (by omega)
              · have h32061 : v71_7.toInt ≠ r32054.toInt := ti_ne h32061
                refine g_lv (lv' := []) [] rfl ?_
                exact J126 Y32043 Iy32045 Xz32048
  have J24 : G E ({ frames := 4, cells := 0, slots := 0, locals := 256 } : Room) D cy 10 P 0 0 24 [] [] := by
    refine g_iconst (v := (-1)) C dX11_right_24 (by decide) ?_
    exact ret _ _ _ _ _ _ dX11_right_25 rfl (by decide) (by decide) ⟨I, EK.rf, trivial⟩
  refine g_iload_n C dX11_right_0 rfl 1 rfl ?_
  refine g_callSI (b := 0) (ci := 0) (rest := []) C ms_X11_158 [.int a1] (s_X11_isQuarter I) rfl rfl (by decide) (Nat.le_of_ble_eq_true rfl) (by decide) dX11_right_1 (fun r32064 Y32065 h32066 => ?_)
  obtain ⟨rfl, h32066⟩ := h32066
  obtain ⟨h32066, hi32067⟩ := h32066
  have hi32067 : r32064.toInt = 0 ∨ (((0 : Int) ≤ a1.toInt ∧ a1.toInt ≤ (3 : Int))) := hi32067
  have h32066 : 0 ≤ r32064.toInt ∧ r32064.toInt ≤ 1 := h32066
  refine b_if_eq C 24 dX11_right_4 (by decide) (fun h32068 => ?_) (fun h32068 => ?_)
  · have h32068 : r32064.toInt = 0 := congrArg Int32.toInt h32068
    clear hi32067
    refine g_lv (lv' := []) [] rfl ?_
    exact J24 
  · have h32068 : r32064.toInt ≠ 0 := ti_ne h32068
    replace hi32067 := hi32067.resolve_left (by omega)
    refine g_aload_n C dX11_right_7 rfl 0 rfl ?_
    refine g_iload_n C dX11_right_8 rfl 2 rfl ?_
    refine g_iload C dX11_right_9 4 rfl ?_
    refine g_callVI (rest := []) C mv_X11_155 [.int a2, .int a4] (s_X11_isPageOf I ha0) (ha0).1 (ha0).2 rfl rfl (by decide) (Nat.le_of_ble_eq_true rfl) (by decide) dX11_right_11 (fun r32069 Y32070 h32071 => ?_)
    obtain ⟨rfl, h32071⟩ := h32071
    obtain ⟨h32071, hi32072⟩ := h32071
    have hi32072 : r32069.toInt = 0 ∨ (((0 : Int) ≤ a2.toInt ∧ a2.toInt ≤ (1 : Int)) ∧ ((0 : Int) ≤ a4.toInt ∧ a4.toInt ≤ (19 : Int))) := hi32072
    have h32071 : 0 ≤ r32069.toInt ∧ r32069.toInt ≤ 1 := h32071
    refine b_if_eq C 24 dX11_right_14 (by decide) (fun h32073 => ?_) (fun h32073 => ?_)
    · have h32073 : r32069.toInt = 0 := congrArg Int32.toInt h32073
      clear hi32072
      refine g_lv (lv' := []) [] rfl ?_
      exact J24 
    · have h32073 : r32069.toInt ≠ 0 := ti_ne h32073
      replace hi32072 := hi32072.resolve_left (by omega)
      refine g_iload_n C dX11_right_17 rfl 3 rfl ?_
      refine g_callSI (b := 0) (ci := 0) (rest := []) C ms_X11_213 [.int a3] (s_X11_isOctet I) rfl rfl (by decide) (Nat.le_of_ble_eq_true rfl) (by decide) dX11_right_18 (fun r32074 Y32075 h32076 => ?_)
      obtain ⟨rfl, h32076⟩ := h32076
      obtain ⟨h32076, hi32077⟩ := h32076
      have hi32077 : r32074.toInt = 0 ∨ (((0 : Int) ≤ a3.toInt ∧ a3.toInt ≤ (1 : Int))) := hi32077
      have h32076 : 0 ≤ r32074.toInt ∧ r32074.toInt ≤ 1 := h32076
      refine b_if_ne C 26 dX11_right_21 (by decide) (fun h32078 => ?_) (fun h32078 => ?_)
      · have h32078 : r32074.toInt ≠ 0 := ti_ne h32078
        replace hi32077 := hi32077.resolve_left (by omega)
        refine g_aload_n C dX11_right_26 rfl 0 rfl ?_
        refine g_iload_n C dX11_right_27 rfl 1 rfl ?_
        refine g_iload_n C dX11_right_28 rfl 2 rfl ?_
        refine g_iload_n C dX11_right_29 rfl 3 rfl ?_
        refine g_callVQ (rest := []) C mv_X11_216 [.int a1, .int a2, .int a3] (s_X11_gather I ha0 (by omega) (by omega) (by omega)) (ha0).1 (ha0).2 rfl rfl (by decide) (Nat.le_of_ble_eq_true rfl) (by decide) dX11_right_30 (fun r32079 Y32080 h32081 => ?_)
        obtain ⟨Iy32082, Xy32083, h32081⟩ := h32081
        have Xz32084 : EK [0, 5, 13] P Y32080 := Xy32083.mono (by decide)
        have h32085 := Xy32083.at ha0
        obtain ⟨b32087, rfl, h32081⟩ := h32081
        show G _ _ _ _ _ _ _ _ _ _ (.ref b32087 :: _)
        refine g_astore (lv' := [(5, .ref b32087), (0, .ref a0), (1, .int a1), (2, .int a2), (3, .int a3), (4, .int a4)]) C dX11_right_33 (by decide) rfl ?_
        refine g_aload_n C dX11_right_35 rfl 1 rfl ?_
        obtain ⟨b32088, e32089, h32090⟩ := Iy32082.fld (h32085) 9 16 2 rfl
        refine g_getR C fi_X11_53 rfl e32089 (h32085).1 (h32085).2 dX11_right_36 ?_
        refine g_iconst (v := 0) C dX11_right_39 (by decide) ?_
        obtain ⟨b32091, e32092, h32093⟩ := Iy32082.elm h32090 (by decide) 0 (by decide)
        refine g_aldR C h32090.1 h32090.2.1 (by decide) (IX.litn (j := 0) h32090.2.2 rfl (by decide) (by decide)) e32092 dX11_right_40 ?_
        refine g_astore (lv' := [(6, .ref b32091), (5, .ref b32087), (0, .ref a0), (1, .int a1), (2, .int a2), (3, .int a3), (4, .int a4)]) C dX11_right_41 (by decide) rfl ?_
        refine g_aload C dX11_right_43 0 rfl ?_
        refine g_aload C dX11_right_45 1 rfl ?_
        refine g_iconst (v := (-1)) C dX11_right_47 (by decide) ?_
        refine g_callVV (rest := []) C mv_X11_236 [.ref b32087, .int (-1)] (s_X0_take Iy32082 h32093 h32081) (h32093).1 (h32093).2 rfl rfl (by decide) (Nat.le_of_ble_eq_true rfl) (by decide) dX11_right_48 (fun Y32095 h32096 => ?_)
        obtain ⟨Iy32097, Xy32098⟩ := h32096
        have Xz32099 : EK [0, 5, 13] P Y32095 := Xz32084.tr (Xy32098.mono (by decide))
        have h32100 := Xy32098.at h32085
        have h32101 := Xy32098.at h32081
        have h32102 := Xy32098.at h32093
        refine g_aload C dX11_right_51 0 rfl ?_
        refine g_getI C fi_X11_243 (by decide) (h32102).1 (h32102).2 dX11_right_53 ?_
        have h32103 := Iy32097.rg (h32102) 3 rfl
        refine b_if_eq C 61 dX11_right_56 (by decide) (fun h32104 => ?_) (fun h32104 => ?_)
        · have h32104 : (pI Y32095 b32091 3).toInt = 0 := congrArg Int32.toInt h32104
          refine g_iconst (v := (-1)) C dX11_right_61 (by decide) ?_
          refine g_istore (lv' := [(7, .int (-1)), (6, .ref b32091), (5, .ref b32087), (0, .ref a0), (1, .int a1), (2, .int a2), (3, .int a3), (4, .int a4)]) C dX11_right_62 (by decide) rfl ?_
          refine g_aload C dX11_right_64 2 rfl ?_
          refine g_getI C fi_X11_263 (by decide) (h32101).1 (h32101).2 dX11_right_66 ?_
          have h32105 := Iy32097.rg (h32101) 5 rfl
          refine g_topi (fun z32106 h32107 => ?_)
          have h32107 : z32106.toInt = (pI Y32095 b32087 5).toInt := congrArg Int32.toInt h32107
          refine g_istore (lv' := [(8, .int z32106), (7, .int (-1)), (6, .ref b32091), (5, .ref b32087), (0, .ref a0), (1, .int a1), (2, .int a2), (3, .int a3), (4, .int a4)]) C dX11_right_69 (by decide) rfl ?_
          refine g_lv (lv' := [(4, .int a4), (5, .ref b32087), (6, .ref b32091), (7, .int (-1)), (8, .int z32106)]) [8, 3, 2, 1, 0] rfl ?_
          exact J71 _ Y32095 b32087 b32091 (-1) z32106 (Nat.lt_succ_self _) Iy32097 Xz32099 (by omega) h32101 h32102 (by omega)
        · have h32104 : (pI Y32095 b32091 3).toInt ≠ 0 := ti_ne h32104
          refine g_iconst (v := (-1)) C dX11_right_59 (by decide) ?_
          exact ret _ _ _ _ _ _ dX11_right_60 rfl (by decide) (by decide) ⟨Iy32097, Xz32099, trivial⟩
      · have h32078 : r32074.toInt = 0 := congrArg Int32.toInt h32078
        clear hi32077
        refine g_lv (lv' := []) [] rfl ?_
        exact J24 
theorem dX11_scatter_0 : decode cX11_scatter 0 = .ok (.aload_n 0, 1) := by decide +kernel
theorem dX11_scatter_1 : decode cX11_scatter 1 = .ok (.iload_n 1, 1) := by decide +kernel
theorem dX11_scatter_2 : decode cX11_scatter 2 = .ok (.iload_n 2, 1) := by decide +kernel
theorem dX11_scatter_3 : decode cX11_scatter 3 = .ok (.invokevirtual 136, 3) := by decide +kernel
theorem dX11_scatter_6 : decode cX11_scatter 6 = .ok (.ifCond .eq 23, 3) := by decide +kernel
theorem dX11_scatter_9 : decode cX11_scatter 9 = .ok (.iload_n 3, 1) := by decide +kernel
theorem dX11_scatter_10 : decode cX11_scatter 10 = .ok (.invokestatic 173, 3) := by decide +kernel
theorem dX11_scatter_13 : decode cX11_scatter 13 = .ok (.ifCond .eq 16, 3) := by decide +kernel
theorem dX11_scatter_16 : decode cX11_scatter 16 = .ok (.iload_n 3, 1) := by decide +kernel
theorem dX11_scatter_17 : decode cX11_scatter 17 = .ok (.iload_n 2, 1) := by decide +kernel
theorem dX11_scatter_18 : decode cX11_scatter 18 = .ok (.if_icmp .lt 11, 3) := by decide +kernel
theorem dX11_scatter_21 : decode cX11_scatter 21 = .ok (.iload_n 3, 1) := by decide +kernel
theorem dX11_scatter_22 : decode cX11_scatter 22 = .ok (.iload_n 2, 1) := by decide +kernel
theorem dX11_scatter_23 : decode cX11_scatter 23 = .ok (.isub, 1) := by decide +kernel
theorem dX11_scatter_24 : decode cX11_scatter 24 = .ok (.bipush 100, 2) := by decide +kernel
theorem dX11_scatter_26 : decode cX11_scatter 26 = .ok (.if_icmp .lt 5, 3) := by decide +kernel
theorem dX11_scatter_29 : decode cX11_scatter 29 = .ok (.iconst (-1), 1) := by decide +kernel
theorem dX11_scatter_30 : decode cX11_scatter 30 = .ok (.ireturn, 1) := by decide +kernel
theorem dX11_scatter_31 : decode cX11_scatter 31 = .ok (.iconst 0, 1) := by decide +kernel
theorem dX11_scatter_32 : decode cX11_scatter 32 = .ok (.istore 4, 2) := by decide +kernel
theorem dX11_scatter_34 : decode cX11_scatter 34 = .ok (.iload_n 2, 1) := by decide +kernel
theorem dX11_scatter_35 : decode cX11_scatter 35 = .ok (.istore 5, 2) := by decide +kernel
theorem dX11_scatter_37 : decode cX11_scatter 37 = .ok (.iload 5, 2) := by decide +kernel
theorem dX11_scatter_39 : decode cX11_scatter 39 = .ok (.iload_n 3, 1) := by decide +kernel
theorem dX11_scatter_40 : decode cX11_scatter 40 = .ok (.if_icmp .gt 33, 3) := by decide +kernel
theorem dX11_scatter_43 : decode cX11_scatter 43 = .ok (.aload_n 0, 1) := by decide +kernel
theorem dX11_scatter_44 : decode cX11_scatter 44 = .ok (.invokevirtual 319, 3) := by decide +kernel
theorem dX11_scatter_47 : decode cX11_scatter 47 = .ok (.ifCond .eq 20, 3) := by decide +kernel
theorem dX11_scatter_50 : decode cX11_scatter 50 = .ok (.iload 4, 2) := by decide +kernel
theorem dX11_scatter_52 : decode cX11_scatter 52 = .ok (.aload_n 0, 1) := by decide +kernel
theorem dX11_scatter_53 : decode cX11_scatter 53 = .ok (.aload_n 0, 1) := by decide +kernel
theorem dX11_scatter_54 : decode cX11_scatter 54 = .ok (.getfield 11, 3) := by decide +kernel
theorem dX11_scatter_57 : decode cX11_scatter 57 = .ok (.iload_n 1, 1) := by decide +kernel
theorem dX11_scatter_58 : decode cX11_scatter 58 = .ok (.aaload, 1) := by decide +kernel
theorem dX11_scatter_59 : decode cX11_scatter 59 = .ok (.iload 5, 2) := by decide +kernel
theorem dX11_scatter_61 : decode cX11_scatter 61 = .ok (.invokevirtual 323, 3) := by decide +kernel
theorem dX11_scatter_73 : decode cX11_scatter 73 = .ok (.iload 4, 2) := by decide +kernel
theorem dX11_scatter_75 : decode cX11_scatter 75 = .ok (.ireturn, 1) := by decide +kernel
theorem dX11_throwOne_0 : decode cX11_throwOne 0 = .ok (.aload_n 1, 1) := by decide +kernel
theorem dX11_throwOne_1 : decode cX11_throwOne 1 = .ok (.iload_n 2, 1) := by decide +kernel
theorem dX11_throwOne_2 : decode cX11_throwOne 2 = .ok (.iconst 3, 1) := by decide +kernel
theorem dX11_throwOne_3 : decode cX11_throwOne 3 = .ok (.invokevirtual 161, 3) := by decide +kernel
theorem dX11_throwOne_6 : decode cX11_throwOne 6 = .ok (.astore_n 3, 1) := by decide +kernel
theorem dX11_throwOne_7 : decode cX11_throwOne 7 = .ok (.iconst 0, 1) := by decide +kernel
theorem dX11_throwOne_8 : decode cX11_throwOne 8 = .ok (.istore 4, 2) := by decide +kernel
theorem dX11_throwOne_10 : decode cX11_throwOne 10 = .ok (.iconst 0, 1) := by decide +kernel
theorem dX11_throwOne_11 : decode cX11_throwOne 11 = .ok (.istore 5, 2) := by decide +kernel
theorem dX11_throwOne_13 : decode cX11_throwOne 13 = .ok (.iload 5, 2) := by decide +kernel
theorem dX11_throwOne_15 : decode cX11_throwOne 15 = .ok (.iconst 4, 1) := by decide +kernel
theorem dX11_throwOne_16 : decode cX11_throwOne 16 = .ok (.if_icmp .ge 52, 3) := by decide +kernel
theorem dX11_throwOne_19 : decode cX11_throwOne 19 = .ok (.aload_n 0, 1) := by decide +kernel
theorem dX11_throwOne_20 : decode cX11_throwOne 20 = .ok (.aload_n 1, 1) := by decide +kernel
theorem dX11_throwOne_21 : decode cX11_throwOne 21 = .ok (.iload_n 2, 1) := by decide +kernel
theorem dX11_throwOne_22 : decode cX11_throwOne 22 = .ok (.iload 5, 2) := by decide +kernel
theorem dX11_throwOne_24 : decode cX11_throwOne 24 = .ok (.invokevirtual 397, 3) := by decide +kernel
theorem dX11_throwOne_27 : decode cX11_throwOne 27 = .ok (.ifCond .eq 35, 3) := by decide +kernel
theorem dX11_throwOne_30 : decode cX11_throwOne 30 = .ok (.aload_n 0, 1) := by decide +kernel
theorem dX11_throwOne_31 : decode cX11_throwOne 31 = .ok (.getfield 17, 3) := by decide +kernel
theorem dX11_throwOne_34 : decode cX11_throwOne 34 = .ok (.iload 5, 2) := by decide +kernel
theorem dX11_throwOne_36 : decode cX11_throwOne 36 = .ok (.aaload, 1) := by decide +kernel
theorem dX11_throwOne_37 : decode cX11_throwOne 37 = .ok (.aload_n 3, 1) := by decide +kernel
theorem dX11_throwOne_38 : decode cX11_throwOne 38 = .ok (.invokevirtual 341, 3) := by decide +kernel
theorem dX6_hasAlike_0 : decode cX6_hasAlike 0 = .ok (.iconst 0, 1) := by decide +kernel
theorem dX6_hasAlike_1 : decode cX6_hasAlike 1 = .ok (.istore_n 2, 1) := by decide +kernel
theorem dX6_hasAlike_2 : decode cX6_hasAlike 2 = .ok (.iload_n 2, 1) := by decide +kernel
theorem dX6_hasAlike_3 : decode cX6_hasAlike 3 = .ok (.aload_n 0, 1) := by decide +kernel
theorem dX6_hasAlike_4 : decode cX6_hasAlike 4 = .ok (.getfield 17, 3) := by decide +kernel
theorem dX6_hasAlike_7 : decode cX6_hasAlike 7 = .ok (.if_icmp .ge 30, 3) := by decide +kernel
theorem dX6_hasAlike_10 : decode cX6_hasAlike 10 = .ok (.aload_n 0, 1) := by decide +kernel
theorem dX6_hasAlike_11 : decode cX6_hasAlike 11 = .ok (.getfield 11, 3) := by decide +kernel
theorem dX6_hasAlike_14 : decode cX6_hasAlike 14 = .ok (.iload_n 2, 1) := by decide +kernel
theorem dX6_hasAlike_15 : decode cX6_hasAlike 15 = .ok (.aaload, 1) := by decide +kernel
theorem dX6_hasAlike_16 : decode cX6_hasAlike 16 = .ok (.astore_n 3, 1) := by decide +kernel
theorem dX6_hasAlike_17 : decode cX6_hasAlike 17 = .ok (.aload_n 3, 1) := by decide +kernel
theorem dX6_hasAlike_18 : decode cX6_hasAlike 18 = .ok (.ifnull 13, 3) := by decide +kernel
theorem dX6_hasAlike_21 : decode cX6_hasAlike 21 = .ok (.aload_n 3, 1) := by decide +kernel
theorem dX6_hasAlike_22 : decode cX6_hasAlike 22 = .ok (.aload_n 1, 1) := by decide +kernel
theorem dX6_hasAlike_23 : decode cX6_hasAlike 23 = .ok (.invokevirtual 28, 3) := by decide +kernel
theorem dX6_hasAlike_37 : decode cX6_hasAlike 37 = .ok (.iconst 0, 1) := by decide +kernel
theorem dX6_hasAlike_38 : decode cX6_hasAlike 38 = .ok (.ireturn, 1) := by decide +kernel
theorem dX7_isAlike_0 : decode cX7_isAlike 0 = .ok (.aload_n 0, 1) := by decide +kernel
theorem dX7_isAlike_1 : decode cX7_isAlike 1 = .ok (.getfield 9, 3) := by decide +kernel
theorem dX7_isAlike_4 : decode cX7_isAlike 4 = .ok (.aload_n 1, 1) := by decide +kernel
theorem dX7_isAlike_5 : decode cX7_isAlike 5 = .ok (.getfield 9, 3) := by decide +kernel
theorem dX7_isAlike_8 : decode cX7_isAlike 8 = .ok (.if_icmp .ne 51, 3) := by decide +kernel
theorem dX7_isAlike_11 : decode cX7_isAlike 11 = .ok (.aload_n 0, 1) := by decide +kernel
theorem dX7_isAlike_12 : decode cX7_isAlike 12 = .ok (.getfield 15, 3) := by decide +kernel
theorem dX7_isAlike_15 : decode cX7_isAlike 15 = .ok (.aload_n 1, 1) := by decide +kernel
theorem dX7_isAlike_16 : decode cX7_isAlike 16 = .ok (.getfield 15, 3) := by decide +kernel
theorem dX7_isAlike_19 : decode cX7_isAlike 19 = .ok (.if_icmp .ne 40, 3) := by decide +kernel
theorem dX7_isAlike_22 : decode cX7_isAlike 22 = .ok (.aload_n 0, 1) := by decide +kernel
theorem dX7_isAlike_23 : decode cX7_isAlike 23 = .ok (.getfield 18, 3) := by decide +kernel
theorem dX7_isAlike_26 : decode cX7_isAlike 26 = .ok (.aload_n 1, 1) := by decide +kernel
theorem dX7_isAlike_27 : decode cX7_isAlike 27 = .ok (.getfield 18, 3) := by decide +kernel
theorem dX7_isAlike_30 : decode cX7_isAlike 30 = .ok (.if_icmp .ne 29, 3) := by decide +kernel
theorem dX7_isAlike_33 : decode cX7_isAlike 33 = .ok (.aload_n 0, 1) := by decide +kernel
theorem dX7_isAlike_34 : decode cX7_isAlike 34 = .ok (.getfield 21, 3) := by decide +kernel
theorem dX7_isAlike_37 : decode cX7_isAlike 37 = .ok (.aload_n 1, 1) := by decide +kernel
theorem dX7_isAlike_38 : decode cX7_isAlike 38 = .ok (.getfield 21, 3) := by decide +kernel
theorem dX7_isAlike_41 : decode cX7_isAlike 41 = .ok (.if_icmp .ne 18, 3) := by decide +kernel
theorem dX7_isAlike_44 : decode cX7_isAlike 44 = .ok (.aload_n 0, 1) := by decide +kernel
theorem dX7_isAlike_45 : decode cX7_isAlike 45 = .ok (.getfield 24, 3) := by decide +kernel
theorem dX7_isAlike_48 : decode cX7_isAlike 48 = .ok (.aload_n 1, 1) := by decide +kernel
theorem dX7_isAlike_49 : decode cX7_isAlike 49 = .ok (.getfield 24, 3) := by decide +kernel
theorem dX7_isAlike_52 : decode cX7_isAlike 52 = .ok (.if_icmp .ne 7, 3) := by decide +kernel
theorem dX7_isAlike_55 : decode cX7_isAlike 55 = .ok (.iconst 1, 1) := by decide +kernel
theorem dX7_isAlike_56 : decode cX7_isAlike 56 = .ok (.goto 4, 3) := by decide +kernel
theorem dX7_isAlike_59 : decode cX7_isAlike 59 = .ok (.iconst 0, 1) := by decide +kernel
theorem dX7_isAlike_60 : decode cX7_isAlike 60 = .ok (.ireturn, 1) := by decide +kernel
set_option maxHeartbeats 4000000 in
set_option maxRecDepth 100000 in
theorem s_X7_isAlike {P : PP} {a0 : Nat} {a1 : Nat} (I : IV P) (ha0 : At P a0 7) (ha1 : At P a1 7) : CtrI yX7_isAlike cX7_isAlike 2 (some Jvm.ClassFile.FieldType.boolean) ({ frames := 1, cells := 0, slots := 0, locals := 64 } : Room) 0 0 P [.ref a0, .ref a1] (fun r P2 => P = P2 ∧ (0 ≤ r.toInt ∧ r.toInt ≤ 1)) := by
  refine enI (lv := [(0, .ref a0), (1, .ref a1)]) (by decide) (Nat.le_of_ble_eq_true rfl) rfl (fun E D cy C Ci0 ret => ?_)
  have J59 : G E ({ frames := 1, cells := 0, slots := 0, locals := 64 } : Room) D cy 2 P 0 0 59 [] [] := by
    refine g_iconst (v := 0) C dX7_isAlike_59 (by decide) ?_
    exact ret _ _ _ _ _ _ dX7_isAlike_60 rfl (by decide) (by decide) ⟨rfl, (by decide)⟩
  refine g_aload_n C dX7_isAlike_0 rfl 0 rfl ?_
  refine g_getI C fi_X7_9 (by decide) (ha0).1 (ha0).2 dX7_isAlike_1 ?_
  have h32179 := I.rg (ha0) 0 rfl
  refine g_aload_n C dX7_isAlike_4 rfl 1 rfl ?_
  refine g_getI C fi_X7_9 (by decide) (ha1).1 (ha1).2 dX7_isAlike_5 ?_
  have h32180 := I.rg (ha1) 0 rfl
  refine b_icmp_ne C 59 dX7_isAlike_8 (by decide) (fun h32181 => ?_) (fun h32181 => ?_)
  · have h32181 : (pI P a0 0).toInt ≠ (pI P a1 0).toInt := ti_ne h32181
    refine g_lv (lv' := []) [] rfl ?_
    exact J59 
  · have h32181 : (pI P a0 0).toInt = (pI P a1 0).toInt := congrArg Int32.toInt h32181
    refine g_aload_n C dX7_isAlike_11 rfl 0 rfl ?_
    refine g_getI C fi_X7_15 (by decide) (ha0).1 (ha0).2 dX7_isAlike_12 ?_
    refine g_aload_n C dX7_isAlike_15 rfl 1 rfl ?_
    refine g_getI C fi_X7_15 (by decide) (ha1).1 (ha1).2 dX7_isAlike_16 ?_
    have u32183 := ti_rng (pI P a0 1)
    have u32184 := ti_rng (pI P a1 1)
    refine b_icmp_ne C 59 dX7_isAlike_19 (by decide) (fun h32182 => ?_) (fun h32182 => ?_)
    · have h32182 : (pI P a0 1).toInt ≠ (pI P a1 1).toInt := ti_ne h32182
      refine g_lv (lv' := []) [] rfl ?_
      exact J59 
    · have h32182 : (pI P a0 1).toInt = (pI P a1 1).toInt := congrArg Int32.toInt h32182
      refine g_aload_n C dX7_isAlike_22 rfl 0 rfl ?_
      refine g_getI C fi_X7_18 (by decide) (ha0).1 (ha0).2 dX7_isAlike_23 ?_
      refine g_aload_n C dX7_isAlike_26 rfl 1 rfl ?_
      refine g_getI C fi_X7_18 (by decide) (ha1).1 (ha1).2 dX7_isAlike_27 ?_
      have u32186 := ti_rng (pI P a0 2)
      have u32187 := ti_rng (pI P a1 2)
      refine b_icmp_ne C 59 dX7_isAlike_30 (by decide) (fun h32185 => ?_) (fun h32185 => ?_)
      · have h32185 : (pI P a0 2).toInt ≠ (pI P a1 2).toInt := ti_ne h32185
        refine g_lv (lv' := []) [] rfl ?_
        exact J59 
      · have h32185 : (pI P a0 2).toInt = (pI P a1 2).toInt := congrArg Int32.toInt h32185
        refine g_aload_n C dX7_isAlike_33 rfl 0 rfl ?_
        refine g_getI C fi_X7_21 (by decide) (ha0).1 (ha0).2 dX7_isAlike_34 ?_
        refine g_aload_n C dX7_isAlike_37 rfl 1 rfl ?_
        refine g_getI C fi_X7_21 (by decide) (ha1).1 (ha1).2 dX7_isAlike_38 ?_
        have u32189 := ti_rng (pI P a0 3)
        have u32190 := ti_rng (pI P a1 3)
        refine b_icmp_ne C 59 dX7_isAlike_41 (by decide) (fun h32188 => ?_) (fun h32188 => ?_)
        · have h32188 : (pI P a0 3).toInt ≠ (pI P a1 3).toInt := ti_ne h32188
          refine g_lv (lv' := []) [] rfl ?_
          exact J59 
        · have h32188 : (pI P a0 3).toInt = (pI P a1 3).toInt := congrArg Int32.toInt h32188
          refine g_aload_n C dX7_isAlike_44 rfl 0 rfl ?_
          refine g_getI C fi_X7_24 (by decide) (ha0).1 (ha0).2 dX7_isAlike_45 ?_
          refine g_aload_n C dX7_isAlike_48 rfl 1 rfl ?_
          refine g_getI C fi_X7_24 (by decide) (ha1).1 (ha1).2 dX7_isAlike_49 ?_
          have u32192 := ti_rng (pI P a0 4)
          have u32193 := ti_rng (pI P a1 4)
          refine b_icmp_ne C 59 dX7_isAlike_52 (by decide) (fun h32191 => ?_) (fun h32191 => ?_)
          · have h32191 : (pI P a0 4).toInt ≠ (pI P a1 4).toInt := ti_ne h32191
            refine g_lv (lv' := []) [] rfl ?_
            exact J59 
          · have h32191 : (pI P a0 4).toInt = (pI P a1 4).toInt := congrArg Int32.toInt h32191
            refine g_iconst (v := 1) C dX7_isAlike_55 (by decide) ?_
            refine g_goto C 60 dX7_isAlike_56 (by decide) ?_
            exact ret _ _ _ _ _ _ dX7_isAlike_60 rfl (by decide) (by decide) ⟨rfl, (by decide)⟩
theorem dX6_hasAlike_26 : decode cX6_hasAlike 26 = .ok (.ifCond .eq 5, 3) := by decide +kernel
theorem dX6_hasAlike_29 : decode cX6_hasAlike 29 = .ok (.iconst 1, 1) := by decide +kernel
theorem dX6_hasAlike_30 : decode cX6_hasAlike 30 = .ok (.ireturn, 1) := by decide +kernel
theorem dX6_hasAlike_31 : decode cX6_hasAlike 31 = .ok (.iinc 2 1, 3) := by decide +kernel
theorem dX6_hasAlike_34 : decode cX6_hasAlike 34 = .ok (.goto (-32), 3) := by decide +kernel
set_option maxHeartbeats 4000000 in
set_option maxRecDepth 100000 in
theorem s_X6_hasAlike {P : PP} {a0 : Nat} {a1 : Nat} (I : IV P) (ha0 : At P a0 6) (ha1 : At P a1 7) : CtrI yX6_hasAlike cX6_hasAlike 4 (some Jvm.ClassFile.FieldType.boolean) ({ frames := 2, cells := 0, slots := 0, locals := 128 } : Room) 0 0 P [.ref a0, .ref a1] (fun r P2 => P = P2 ∧ (0 ≤ r.toInt ∧ r.toInt ≤ 1)) := by
  refine enI (lv := [(0, .ref a0), (1, .ref a1)]) (by decide) (Nat.le_of_ble_eq_true rfl) rfl (fun E D cy C Ci0 ret => ?_)
  have J2 : ∀ (n2 : Nat) (v2_2 : Int32), (40 - v2_2.toInt).toNat < n2 → (0 ≤ v2_2.toInt ∧ v2_2.toInt ≤ 40) → G E ({ frames := 2, cells := 0, slots := 0, locals := 128 } : Room) D cy 4 P 0 0 2 [(0, .ref a0), (1, .ref a1), (2, .int v2_2)] [] := by
    intro n2
    induction n2 with
    | zero => intro v2_2 hm2 hv2_2; omega
    | succ n2 ih2 =>
      intro v2_2 hm2 hv2_2
      have J31 : (0 ≤ v2_2.toInt ∧ v2_2.toInt ≤ 39) → (1 ≤ (pI P a0 1).toInt ∧ (pI P a0 1).toInt ≤ 40) → G E ({ frames := 2, cells := 0, slots := 0, locals := 128 } : Room) D cy 4 P 0 0 31 [(0, .ref a0), (1, .ref a1), (2, .int v2_2)] [] := by
        intro hv31_2 hq31_0
        refine s_iinc (lv0 := [(0, .ref a0), (1, .ref a1)]) (m := 1) C dX6_hasAlike_31 2 rfl (by decide) rfl (by decide) (by omega) (fun z32404 h32405 => ?_)
        have h32405 : z32404.toInt = v2_2.toInt + 1 := h32405
        refine g_goto C 2 dX6_hasAlike_34 (by decide) ?_
        refine g_lv (lv' := [(0, .ref a0), (1, .ref a1), (2, .int z32404)]) [1, 2, 0] rfl ?_
        exact ih2 z32404 (by omega) (by omega)
      refine g_iload_n C dX6_hasAlike_2 rfl 2 rfl ?_
      refine g_aload_n C dX6_hasAlike_3 rfl 0 rfl ?_
      refine g_getI C fi_X6_17 (by decide) (ha0).1 (ha0).2 dX6_hasAlike_4 ?_
      have h32406 := I.rg (ha0) 1 rfl
      refine b_icmp_ge C 37 dX6_hasAlike_7 (by decide) (fun h32407 => ?_) (fun h32407 => ?_)
      · have h32407 : (pI P a0 1).toInt ≤ v2_2.toInt := h32407
        refine g_iconst (v := 0) C dX6_hasAlike_37 (by decide) ?_
        exact ret _ _ _ _ _ _ dX6_hasAlike_38 rfl (by decide) (by decide) ⟨rfl, (by decide)⟩
      · have h32407 : v2_2.toInt < (pI P a0 1).toInt := h32407
        refine g_aload_n C dX6_hasAlike_10 rfl 0 rfl ?_
        obtain ⟨b32408, e32409, h32410⟩ := I.fld (ha0) 0 20 40 rfl
        refine g_getR C fi_X6_11 rfl e32409 (ha0).1 (ha0).2 dX6_hasAlike_11 ?_
        refine g_iload_n C dX6_hasAlike_14 rfl 2 rfl ?_
        refine g_aldQ (j := (v2_2.toInt.toNat)) C h32410.1 h32410.2.1 (by decide) (ix_in h32410.2.2 (by omega)) dX6_hasAlike_15 ?_
        rcases I.pap h32410 (v2_2.toInt.toNat) with e32412 | ⟨b32411, e32412, h32413⟩
        · rw [e32412]
          show G _ _ _ _ _ _ _ _ _ _ (.null :: _)
          refine g_astore_nN (lv' := [(3, .null), (0, .ref a0), (1, .ref a1), (2, .int v2_2)]) C dX6_hasAlike_16 rfl (by decide) rfl ?_
          refine g_aload_nN C dX6_hasAlike_17 rfl 0 rfl ?_
          refine g_ifnullN C 31 dX6_hasAlike_18 (by decide) ?_
          refine g_lv (lv' := [(0, .ref a0), (1, .ref a1), (2, .int v2_2)]) [1, 2, 3] rfl ?_
          exact J31 (by omega) (by omega)
        · rw [e32412]
          show G _ _ _ _ _ _ _ _ _ _ (.ref b32411 :: _)
          refine g_astore_n (lv' := [(3, .ref b32411), (0, .ref a0), (1, .ref a1), (2, .int v2_2)]) C dX6_hasAlike_16 rfl (by decide) rfl ?_
          refine g_aload_n C dX6_hasAlike_17 rfl 0 rfl ?_
          refine g_ifnull C dX6_hasAlike_18 ?_
          refine g_aload_n C dX6_hasAlike_21 rfl 0 rfl ?_
          refine g_aload_n C dX6_hasAlike_22 rfl 2 rfl ?_
          refine g_callVI (rest := []) C mv_X6_28 [.ref a1] (s_X7_isAlike I h32413 ha1) (h32413).1 (h32413).2 rfl rfl (by decide) (Nat.le_of_ble_eq_true rfl) (by decide) dX6_hasAlike_23 (fun r32414 Y32415 h32416 => ?_)
          obtain ⟨rfl, h32416⟩ := h32416
          have h32416 : 0 ≤ r32414.toInt ∧ r32414.toInt ≤ 1 := h32416
          refine b_if_eq C 31 dX6_hasAlike_26 (by decide) (fun h32417 => ?_) (fun h32417 => ?_)
          · have h32417 : r32414.toInt = 0 := congrArg Int32.toInt h32417
            refine g_lv (lv' := [(0, .ref a0), (1, .ref a1), (2, .int v2_2)]) [1, 2, 3] rfl ?_
            exact J31 (by omega) (by omega)
          · have h32417 : r32414.toInt ≠ 0 := ti_ne h32417
            refine g_iconst (v := 1) C dX6_hasAlike_29 (by decide) ?_
            exact ret _ _ _ _ _ _ dX6_hasAlike_30 rfl (by decide) (by decide) ⟨rfl, (by decide)⟩
  refine g_iconst (v := 0) C dX6_hasAlike_0 (by decide) ?_
  refine g_istore_n (lv' := [(2, .int 0), (0, .ref a0), (1, .ref a1)]) C dX6_hasAlike_1 rfl (by decide) rfl ?_
  refine g_lv (lv' := [(0, .ref a0), (1, .ref a1), (2, .int 0)]) [1, 2, 0] rfl ?_
  exact J2 _ 0 (Nat.lt_succ_self _) (by decide)
theorem dX11_throwOne_41 : decode cX11_throwOne 41 = .ok (.ifCond .ne 21, 3) := by decide +kernel
theorem dX11_throwOne_44 : decode cX11_throwOne 44 = .ok (.aload_n 0, 1) := by decide +kernel
theorem dX11_throwOne_45 : decode cX11_throwOne 45 = .ok (.getfield 17, 3) := by decide +kernel
theorem dX11_throwOne_48 : decode cX11_throwOne 48 = .ok (.iload 5, 2) := by decide +kernel
theorem dX11_throwOne_50 : decode cX11_throwOne 50 = .ok (.aaload, 1) := by decide +kernel
theorem dX11_throwOne_51 : decode cX11_throwOne 51 = .ok (.aload_n 3, 1) := by decide +kernel
theorem dX11_throwOne_52 : decode cX11_throwOne 52 = .ok (.invokevirtual 165, 3) := by decide +kernel
theorem dX11_throwOne_55 : decode cX11_throwOne 55 = .ok (.iconst (-1), 1) := by decide +kernel
theorem dX11_throwOne_56 : decode cX11_throwOne 56 = .ok (.if_icmp .eq 6, 3) := by decide +kernel
theorem dX11_throwOne_59 : decode cX11_throwOne 59 = .ok (.iinc 4 1, 3) := by decide +kernel
theorem dX11_throwOne_62 : decode cX11_throwOne 62 = .ok (.iinc 5 1, 3) := by decide +kernel
theorem dX11_throwOne_65 : decode cX11_throwOne 65 = .ok (.goto (-52), 3) := by decide +kernel
theorem dX11_throwOne_68 : decode cX11_throwOne 68 = .ok (.iload 4, 2) := by decide +kernel
theorem dX11_throwOne_70 : decode cX11_throwOne 70 = .ok (.ireturn, 1) := by decide +kernel
set_option maxHeartbeats 4000000 in
set_option maxRecDepth 100000 in
theorem s_X11_throwOne {P : PP} {a0 : Nat} {a1 : Nat} {a2 : Int32} (I : IV P) (ha0 : At P a0 11) (ha1 : At P a1 1) : CtrI yX11_throwOne cX11_throwOne 6 (some Jvm.ClassFile.FieldType.int) ({ frames := 6, cells := 1, slots := 7, locals := 384 } : Room) 1 7 P [.ref a0, .ref a1, .int a2] (fun r P2 => IV P2 ∧ EK [1, 6, 7, 13] P P2 ∧ (True)) := by
  refine enI (lv := [(0, .ref a0), (1, .ref a1), (2, .int a2)]) (by decide) (Nat.le_of_ble_eq_true rfl) rfl (fun E D cy C Ci0 ret => ?_)
  have J13 : ∀ (n13 : Nat) (P13 : PP) (b13_3 : Nat) (v13_4 : Int32) (v13_5 : Int32), (4 - v13_5.toInt).toNat < n13 → (IV P13) → (EK [1, 6, 7, 13] P P13) → (At P13 b13_3 7) → (0 ≤ v13_5.toInt ∧ v13_5.toInt ≤ 4) → G E ({ frames := 6, cells := 1, slots := 7, locals := 384 } : Room) D cy 6 P13 1 7 13 [(0, .ref a0), (1, .ref a1), (2, .int a2), (3, .ref b13_3), (4, .int v13_4), (5, .int v13_5)] [] := by
    intro n13
    induction n13 with
    | zero => intro P13 b13_3 v13_4 v13_5 hm13 I13 X13 hb13_3 hv13_5; omega
    | succ n13 ih13 =>
      intro P13 b13_3 v13_4 v13_5 hm13 I13 X13 hb13_3 hv13_5
      have h33648 := X13.at ha0
      have h33649 := X13.at ha1
      have J62 : ∀ (P62 : PP) (b62_3 : Nat) (v62_4 : Int32), (IV P62) → (EK [1, 6, 7, 13] P P62) → (At P62 b62_3 7) → (0 ≤ v13_5.toInt ∧ v13_5.toInt ≤ 3) → G E ({ frames := 6, cells := 1, slots := 7, locals := 384 } : Room) D cy 6 P62 1 7 62 [(0, .ref a0), (1, .ref a1), (2, .int a2), (3, .ref b62_3), (4, .int v62_4), (5, .int v13_5)] [] := by
        intro P62 b62_3 v62_4 I62 X62 hb62_3 hv62_5
        have h33650 := X62.at ha0
        have h33651 := X62.at ha1
        refine s_iinc (lv0 := [(0, .ref a0), (1, .ref a1), (2, .int a2), (3, .ref b62_3), (4, .int v62_4)]) (m := 1) C dX11_throwOne_62 5 rfl (by decide) rfl (by decide) (by omega) (fun z33652 h33653 => ?_)
        have h33653 : z33652.toInt = v13_5.toInt + 1 := h33653
        refine g_goto C 13 dX11_throwOne_65 (by decide) ?_
        refine g_lv (lv' := [(0, .ref a0), (1, .ref a1), (2, .int a2), (3, .ref b62_3), (4, .int v62_4), (5, .int z33652)]) [1, 2, 3, 4, 5, 0] rfl ?_
        exact ih13 P62 b62_3 v62_4 z33652 (by omega) I62 X62 hb62_3 (by omega)
      refine g_iload C dX11_throwOne_13 5 rfl ?_
      refine g_iconst (v := 4) C dX11_throwOne_15 (by decide) ?_
      refine b_icmp_ge C 68 dX11_throwOne_16 (by decide) (fun h33654 => ?_) (fun h33654 => ?_)
      · have h33654 : 4 ≤ v13_5.toInt := h33654
        refine g_iload C dX11_throwOne_68 4 rfl ?_
        exact ret _ _ _ _ _ _ dX11_throwOne_70 rfl (by decide) (by decide) ⟨I13, X13, trivial⟩
      · have h33654 : v13_5.toInt < 4 := h33654
        refine g_aload_n C dX11_throwOne_19 rfl 0 rfl ?_
        refine g_aload_n C dX11_throwOne_20 rfl 1 rfl ?_
        refine g_iload_n C dX11_throwOne_21 rfl 2 rfl ?_
        refine g_iload C dX11_throwOne_22 5 rfl ?_
        refine g_callVI (rest := []) C mv_X11_397 [.ref a1, .int a2, .int v13_5] (s_X11_falls I13 h33648 h33649 (by omega)) (h33648).1 (h33648).2 rfl rfl (by decide) (Nat.le_of_ble_eq_true rfl) (by decide) dX11_throwOne_24 (fun r33655 Y33656 h33657 => ?_)
        obtain ⟨rfl, h33657⟩ := h33657
        have h33657 : 0 ≤ r33655.toInt ∧ r33655.toInt ≤ 1 := h33657
        refine b_if_eq C 62 dX11_throwOne_27 (by decide) (fun h33658 => ?_) (fun h33658 => ?_)
        · have h33658 : r33655.toInt = 0 := congrArg Int32.toInt h33658
          exact J62 P13 b13_3 v13_4 I13 X13 hb13_3 (by omega)
        · have h33658 : r33655.toInt ≠ 0 := ti_ne h33658
          refine g_aload_n C dX11_throwOne_30 rfl 0 rfl ?_
          obtain ⟨b33659, e33660, h33661⟩ := I13.fld (h33648) 1 19 4 rfl
          refine g_getR C fi_X11_17 rfl e33660 (h33648).1 (h33648).2 dX11_throwOne_31 ?_
          refine g_iload C dX11_throwOne_34 5 rfl ?_
          obtain ⟨b33662, e33663, h33664⟩ := I13.elm h33661 (by decide) (v13_5.toInt.toNat) (by omega)
          refine g_aldR C h33661.1 h33661.2.1 (by decide) (ix_in h33661.2.2 (by omega)) e33663 dX11_throwOne_36 ?_
          refine g_aload_n C dX11_throwOne_37 rfl 3 rfl ?_
          refine g_callVI (rest := []) C mv_X11_341 [.ref b13_3] (s_X6_hasAlike I13 h33664 hb13_3) (h33664).1 (h33664).2 rfl rfl (by decide) (Nat.le_of_ble_eq_true rfl) (by decide) dX11_throwOne_38 (fun r33665 Y33666 h33667 => ?_)
          obtain ⟨rfl, h33667⟩ := h33667
          have h33667 : 0 ≤ r33665.toInt ∧ r33665.toInt ≤ 1 := h33667
          refine b_if_ne C 62 dX11_throwOne_41 (by decide) (fun h33668 => ?_) (fun h33668 => ?_)
          · have h33668 : r33665.toInt ≠ 0 := ti_ne h33668
            exact J62 P13 b13_3 v13_4 I13 X13 hb13_3 (by omega)
          · have h33668 : r33665.toInt = 0 := congrArg Int32.toInt h33668
            refine g_aload_n C dX11_throwOne_44 rfl 0 rfl ?_
            refine g_getR C fi_X11_17 rfl e33660 (h33648).1 (h33648).2 dX11_throwOne_45 ?_
            refine g_iload C dX11_throwOne_48 5 rfl ?_
            obtain ⟨b33669, e33670, h33671⟩ := I13.elm h33661 (by decide) (v13_5.toInt.toNat) (by omega)
            refine g_aldR C h33661.1 h33661.2.1 (by decide) (ix_in h33661.2.2 (by omega)) e33670 dX11_throwOne_50 ?_
            refine g_aload_n C dX11_throwOne_51 rfl 3 rfl ?_
            refine g_callVI (rest := []) C mv_X11_165 [.ref b13_3] (s_X6_put I13 h33671 hb13_3) (h33671).1 (h33671).2 rfl rfl (by decide) (Nat.le_of_ble_eq_true rfl) (by decide) dX11_throwOne_52 (fun r33672 Y33673 h33674 => ?_)
            obtain ⟨Iy33675, Xy33676, h33674⟩ := h33674
            have Xz33677 : EK [1, 6, 7, 13] P Y33673 := X13.tr (Xy33676.mono (by decide))
            have h33678 := Xy33676.at h33648
            have h33679 := Xy33676.at h33649
            have h33680 := Xy33676.at hb13_3
            have h33674 : -1 ≤ r33672.toInt ∧ r33672.toInt ≤ 39 := h33674
            refine g_iconst (v := (-1)) C dX11_throwOne_55 (by decide) ?_
            refine b_icmp_eq C 62 dX11_throwOne_56 (by decide) (fun h33681 => ?_) (fun h33681 => ?_)
            · have h33681 : r33672.toInt = (-1) := congrArg Int32.toInt h33681
              exact J62 Y33673 b13_3 v13_4 Iy33675 Xz33677 h33680 (by omega)
            · have h33681 : r33672.toInt ≠ (-1) := ti_ne h33681
              refine a_iinc (lv0 := [(0, .ref a0), (1, .ref a1), (2, .int a2), (3, .ref b13_3), (5, .int v13_5)]) C dX11_throwOne_59 4 rfl (by decide) rfl (fun z33682 => ?_)
              refine g_lv (lv' := [(0, .ref a0), (1, .ref a1), (2, .int a2), (3, .ref b13_3), (4, .int z33682), (5, .int v13_5)]) [1, 2, 3, 4, 0, 5] rfl ?_
              exact J62 Y33673 b13_3 z33682 Iy33675 Xz33677 h33680 (by omega)
  refine g_aload_n C dX11_throwOne_0 rfl 1 rfl ?_
  refine g_iload_n C dX11_throwOne_1 rfl 2 rfl ?_
  refine g_iconst (v := 3) C dX11_throwOne_2 (by decide) ?_
  refine g_callVQ (rest := []) C mv_X11_161 [.int a2, .int 3] (s_X1_leafletPaper I ha1) (ha1).1 (ha1).2 rfl rfl (by decide) (Nat.le_of_ble_eq_true rfl) (by decide) dX11_throwOne_3 (fun r33684 Y33685 h33686 => ?_)
  obtain ⟨Iy33687, Xy33688, h33686⟩ := h33686
  have Xz33689 : EK [1, 6, 7, 13] P Y33685 := Xy33688.mono (by decide)
  have h33690 := Xy33688.at ha0
  have h33691 := Xy33688.at ha1
  obtain ⟨b33693, rfl, h33686⟩ := h33686
  show G _ _ _ _ _ _ _ _ _ _ (.ref b33693 :: _)
  refine g_astore_n (lv' := [(3, .ref b33693), (0, .ref a0), (1, .ref a1), (2, .int a2)]) C dX11_throwOne_6 rfl (by decide) rfl ?_
  refine g_iconst (v := 0) C dX11_throwOne_7 (by decide) ?_
  refine g_istore (lv' := [(4, .int 0), (3, .ref b33693), (0, .ref a0), (1, .ref a1), (2, .int a2)]) C dX11_throwOne_8 (by decide) rfl ?_
  refine g_iconst (v := 0) C dX11_throwOne_10 (by decide) ?_
  refine g_istore (lv' := [(5, .int 0), (4, .int 0), (3, .ref b33693), (0, .ref a0), (1, .ref a1), (2, .int a2)]) C dX11_throwOne_11 (by decide) rfl ?_
  refine g_lv (lv' := [(0, .ref a0), (1, .ref a1), (2, .int a2), (3, .ref b33693), (4, .int 0), (5, .int 0)]) [3, 4, 5, 2, 1, 0] rfl ?_
  exact J13 _ Y33685 b33693 0 0 (Nat.lt_succ_self _) Iy33687 Xz33689 h33686 (by decide)
theorem dX11_scatter_64 : decode cX11_scatter 64 = .ok (.iadd, 1) := by decide +kernel
theorem dX11_scatter_65 : decode cX11_scatter 65 = .ok (.istore 4, 2) := by decide +kernel
theorem dX11_scatter_67 : decode cX11_scatter 67 = .ok (.iinc 5 1, 3) := by decide +kernel
theorem dX11_scatter_70 : decode cX11_scatter 70 = .ok (.goto (-33), 3) := by decide +kernel
set_option maxHeartbeats 4000000 in
set_option maxRecDepth 100000 in
theorem s_X11_scatter {P : PP} {a0 : Nat} {a1 : Int32} {a2 : Int32} {a3 : Int32} (I : IV P) (ha0 : At P a0 11) : CtrI yX11_scatter cX11_scatter 6 (some Jvm.ClassFile.FieldType.int) ({ frames := 7, cells := 100, slots := 700, locals := 448 } : Room) 100 700 P [.ref a0, .int a1, .int a2, .int a3] (fun r P2 => IV P2 ∧ EK [1, 6, 7, 13] P P2 ∧ (True)) := by
  refine enI (lv := [(0, .ref a0), (1, .int a1), (2, .int a2), (3, .int a3)]) (by decide) (Nat.le_of_ble_eq_true rfl) rfl (fun E D cy C Ci0 ret => ?_)
  have J37 : ∀ (n37 : Nat) (P37 : PP) (v37_4 : Int32) (v37_5 : Int32) (c37 : Nat) (d37 : Nat), (a3.toInt - v37_5.toInt + 1).toNat < n37 → (IV P37) → (EK [1, 6, 7, 13] P P37) → (0 ≤ a1.toInt ∧ a1.toInt ≤ 1) → (0 ≤ a3.toInt ∧ a3.toInt ≤ 9999) → (0 ≤ v37_5.toInt ∧ v37_5.toInt ≤ 10000) → (c37 + 1 * (a3.toInt - v37_5.toInt + 1).toNat ≤ 100) → (d37 + 7 * (a3.toInt - v37_5.toInt + 1).toNat ≤ 700) → G E ({ frames := 7, cells := 100, slots := 700, locals := 448 } : Room) D cy 6 P37 c37 d37 37 [(0, .ref a0), (1, .int a1), (3, .int a3), (4, .int v37_4), (5, .int v37_5)] [] := by
    intro n37
    induction n37 with
    | zero => intro P37 v37_4 v37_5 c37 d37 hm37 I37 X37 hv37_1 hv37_3 hv37_5 rel37_0 rel37_1; omega
    | succ n37 ih37 =>
      intro P37 v37_4 v37_5 c37 d37 hm37 I37 X37 hv37_1 hv37_3 hv37_5 rel37_0 rel37_1
      have h33755 := X37.at ha0
      have J67 : ∀ (P67 : PP) (v67_4 : Int32), (IV P67) → (EK [1, 6, 7, 13] P P67) → (0 ≤ a1.toInt ∧ a1.toInt ≤ 1) → (0 ≤ a3.toInt ∧ a3.toInt ≤ 9999) → (0 ≤ v37_5.toInt ∧ v37_5.toInt ≤ 9999) → (v37_5.toInt ≤ a3.toInt) → G E ({ frames := 7, cells := 100, slots := 700, locals := 448 } : Room) D cy 6 P67 (c37 + 1) (d37 + 7) 67 [(0, .ref a0), (1, .int a1), (3, .int a3), (4, .int v67_4), (5, .int v37_5)] [] := by
        intro P67 v67_4 I67 X67 hv67_1 hv67_3 hv67_5 rel67_0
        have h33756 := X67.at ha0
        refine s_iinc (lv0 := [(0, .ref a0), (1, .int a1), (3, .int a3), (4, .int v67_4)]) (m := 1) C dX11_scatter_67 4 rfl (by decide) rfl (by decide) (by omega) (fun z33757 h33758 => ?_)
        have h33758 : z33757.toInt = v37_5.toInt + 1 := h33758
        refine g_goto C 37 dX11_scatter_70 (by decide) ?_
        refine g_lv (lv' := [(0, .ref a0), (1, .int a1), (3, .int a3), (4, .int v67_4), (5, .int z33757)]) [1, 2, 3, 4, 0] rfl ?_
        exact ih37 P67 v67_4 z33757 (c37 + 1) (d37 + 7) (by omega) I67 X67 (by omega) (by omega) (by omega) (by show (c37 + 1) + 1 * (a3.toInt - z33757.toInt + 1).toNat ≤ 100; omega) (by show (d37 + 7) + 7 * (a3.toInt - z33757.toInt + 1).toNat ≤ 700; omega)
      refine g_iload C dX11_scatter_37 4 rfl ?_
      refine g_iload_n C dX11_scatter_39 rfl 2 rfl ?_
      refine b_icmp_gt C 73 dX11_scatter_40 (by decide) (fun h33759 => ?_) (fun h33759 => ?_)
      · have h33759 : a3.toInt < v37_5.toInt := h33759
        refine g_iload C dX11_scatter_73 3 rfl ?_
        exact ret _ _ _ _ _ _ dX11_scatter_75 rfl (by omega) (by omega) ⟨I37, X37, trivial⟩
      · have h33759 : v37_5.toInt ≤ a3.toInt := h33759
        refine g_aload_n C dX11_scatter_43 rfl 0 rfl ?_
        refine g_callVI (rest := []) C mv_X11_319 [] (s_X11_isRoomAnywhere I37 h33755) (h33755).1 (h33755).2 rfl rfl (by decide) (Nat.le_of_ble_eq_true rfl) (by show _ + _ ≤ 100 ∧ _ + _ ≤ 700; omega) dX11_scatter_44 (fun r33760 Y33761 h33762 => ?_)
        obtain ⟨rfl, h33762⟩ := h33762
        have h33762 : 0 ≤ r33760.toInt ∧ r33760.toInt ≤ 1 := h33762
        refine b_if_eq C 67 dX11_scatter_47 (by decide) (fun h33763 => ?_) (fun h33763 => ?_)
        · have h33763 : r33760.toInt = 0 := congrArg Int32.toInt h33763
          refine g_widen (cs2 := (c37 + 1)) (sl2 := (d37 + 7)) (by omega) (by omega) ?_
          exact J67 P37 v37_4 I37 X37 (by omega) (by omega) (by omega) (by show v37_5.toInt ≤ a3.toInt; omega)
        · have h33763 : r33760.toInt ≠ 0 := ti_ne h33763
          refine g_iload C dX11_scatter_50 3 rfl ?_
          refine g_aload_n C dX11_scatter_52 rfl 0 rfl ?_
          refine g_aload_n C dX11_scatter_53 rfl 0 rfl ?_
          obtain ⟨b33764, e33765, h33766⟩ := I37.fld (h33755) 0 17 2 rfl
          refine g_getR C fi_X11_11 rfl e33765 (h33755).1 (h33755).2 dX11_scatter_54 ?_
          refine g_iload_n C dX11_scatter_57 rfl 1 rfl ?_
          obtain ⟨b33767, e33768, h33769⟩ := I37.elm h33766 (by decide) (a1.toInt.toNat) (by omega)
          refine g_aldR C h33766.1 h33766.2.1 (by decide) (ix_in h33766.2.2 (by omega)) e33768 dX11_scatter_58 ?_
          refine g_iload C dX11_scatter_59 4 rfl ?_
          refine g_callVI (rest := [.int v37_4]) C mv_X11_323 [.ref b33767, .int v37_5] (s_X11_throwOne I37 h33755 h33769) (h33755).1 (h33755).2 rfl rfl (by decide) (Nat.le_of_ble_eq_true rfl) (by show _ + _ ≤ 100 ∧ _ + _ ≤ 700; omega) dX11_scatter_61 (fun r33770 Y33771 h33772 => ?_)
          obtain ⟨Iy33773, Xy33774, h33772⟩ := h33772
          have Xz33775 : EK [1, 6, 7, 13] P Y33771 := X37.tr (Xy33774.mono (by decide))
          have h33776 := Xy33774.at h33755
          have h33772 : True := h33772
          refine a_iadd C dX11_scatter_64 (fun z33777 => ?_)
          refine g_istore (lv' := [(4, .int z33777), (0, .ref a0), (1, .int a1), (3, .int a3), (5, .int v37_5)]) C dX11_scatter_65 (by decide) rfl ?_
          refine g_lv (lv' := [(0, .ref a0), (1, .int a1), (3, .int a3), (4, .int z33777), (5, .int v37_5)]) [1, 2, 3, 0, 4] rfl ?_
          exact J67 Y33771 z33777 Iy33773 Xz33775 (by omega) (by omega) (by omega) (by show v37_5.toInt ≤ a3.toInt; omega)
  have J29 : G E ({ frames := 7, cells := 100, slots := 700, locals := 448 } : Room) D cy 6 P 0 0 29 [] [] := by
    refine g_iconst (v := (-1)) C dX11_scatter_29 (by decide) ?_
    exact ret _ _ _ _ _ _ dX11_scatter_30 rfl (by decide) (by decide) ⟨I, EK.rf, trivial⟩
  refine g_aload_n C dX11_scatter_0 rfl 0 rfl ?_
  refine g_iload_n C dX11_scatter_1 rfl 1 rfl ?_
  refine g_iload_n C dX11_scatter_2 rfl 2 rfl ?_
  refine g_callVI (rest := []) C mv_X11_136 [.int a1, .int a2] (s_X11_isLeaflet I ha0) (ha0).1 (ha0).2 rfl rfl (by decide) (Nat.le_of_ble_eq_true rfl) (by decide) dX11_scatter_3 (fun r33779 Y33780 h33781 => ?_)
  obtain ⟨rfl, h33781⟩ := h33781
  obtain ⟨h33781, hi33782⟩ := h33781
  have hi33782 : r33779.toInt = 0 ∨ (((0 : Int) ≤ a1.toInt ∧ a1.toInt ≤ (1 : Int)) ∧ ((0 : Int) ≤ a2.toInt ∧ a2.toInt ≤ (9999 : Int))) := hi33782
  have h33781 : 0 ≤ r33779.toInt ∧ r33779.toInt ≤ 1 := h33781
  refine b_if_eq C 29 dX11_scatter_6 (by decide) (fun h33783 => ?_) (fun h33783 => ?_)
  · have h33783 : r33779.toInt = 0 := congrArg Int32.toInt h33783
    clear hi33782
    refine g_lv (lv' := []) [] rfl ?_
    exact J29 
  · have h33783 : r33779.toInt ≠ 0 := ti_ne h33783
    replace hi33782 := hi33782.resolve_left (by omega)
    refine g_iload_n C dX11_scatter_9 rfl 3 rfl ?_
    refine g_callSI (b := 0) (ci := 0) (rest := []) C ms_X11_173 [.int a3] (s_X11_isNumber I) rfl rfl (by decide) (Nat.le_of_ble_eq_true rfl) (by decide) dX11_scatter_10 (fun r33784 Y33785 h33786 => ?_)
    obtain ⟨rfl, h33786⟩ := h33786
    obtain ⟨h33786, hi33787⟩ := h33786
    have hi33787 : r33784.toInt = 0 ∨ (((0 : Int) ≤ a3.toInt ∧ a3.toInt ≤ (9999 : Int))) := hi33787
    have h33786 : 0 ≤ r33784.toInt ∧ r33784.toInt ≤ 1 := h33786
    refine b_if_eq C 29 dX11_scatter_13 (by decide) (fun h33788 => ?_) (fun h33788 => ?_)
    · have h33788 : r33784.toInt = 0 := congrArg Int32.toInt h33788
      clear hi33787
      refine g_lv (lv' := []) [] rfl ?_
      exact J29 
    · have h33788 : r33784.toInt ≠ 0 := ti_ne h33788
      replace hi33787 := hi33787.resolve_left (by omega)
      refine g_iload_n C dX11_scatter_16 rfl 3 rfl ?_
      refine g_iload_n C dX11_scatter_17 rfl 2 rfl ?_
      refine b_icmp_lt C 29 dX11_scatter_18 (by decide) (fun h33789 => ?_) (fun h33789 => ?_)
      · have h33789 : a3.toInt < a2.toInt := h33789
        refine g_lv (lv' := []) [] rfl ?_
        exact J29 
      · have h33789 : a2.toInt ≤ a3.toInt := h33789
        refine g_iload_n C dX11_scatter_21 rfl 3 rfl ?_
        refine g_iload_n C dX11_scatter_22 rfl 2 rfl ?_
        refine s_isub C dX11_scatter_23 (by show -2147483648 ≤ a3.toInt - a2.toInt ∧ a3.toInt - a2.toInt ≤ 2147483647; omega) (fun z33790 h33791 => ?_)
        have h33791 : z33790.toInt = a3.toInt - a2.toInt := h33791
        refine g_bipush (v := 100) C dX11_scatter_24 (by decide) ?_
        refine b_icmp_lt C 31 dX11_scatter_26 (by decide) (fun h33792 => ?_) (fun h33792 => ?_)
        · have h33792 : z33790.toInt < 100 := h33792
          refine g_iconst (v := 0) C dX11_scatter_31 (by decide) ?_
          refine g_istore (lv' := [(4, .int 0), (0, .ref a0), (1, .int a1), (2, .int a2), (3, .int a3)]) C dX11_scatter_32 (by decide) rfl ?_
          refine g_iload_n C dX11_scatter_34 rfl 3 rfl ?_
          refine g_istore (lv' := [(5, .int a2), (4, .int 0), (0, .ref a0), (1, .int a1), (2, .int a2), (3, .int a3)]) C dX11_scatter_35 (by decide) rfl ?_
          refine g_lv (lv' := [(0, .ref a0), (1, .int a1), (3, .int a3), (4, .int 0), (5, .int a2)]) [2, 3, 5, 1, 0] rfl ?_
          exact J37 _ P 0 a2 0 0 (Nat.lt_succ_self _) I EK.rf (by omega) (by omega) (by omega) (by show 0 + 1 * (a3.toInt - a2.toInt + 1).toNat ≤ 100; omega) (by show 0 + 7 * (a3.toInt - a2.toInt + 1).toNat ≤ 700; omega)
        · have h33792 : 100 ≤ z33790.toInt := h33792
          refine g_lv (lv' := []) [] rfl ?_
          exact J29 
theorem dX11_slip_0 : decode cX11_slip 0 = .ok (.iload_n 1, 1) := by decide +kernel
theorem dX11_slip_1 : decode cX11_slip 1 = .ok (.invokestatic 158, 3) := by decide +kernel
theorem dX11_slip_4 : decode cX11_slip 4 = .ok (.ifCond .eq 25, 3) := by decide +kernel
theorem dX11_slip_7 : decode cX11_slip 7 = .ok (.aload_n 0, 1) := by decide +kernel
theorem dX11_slip_8 : decode cX11_slip 8 = .ok (.iload_n 2, 1) := by decide +kernel
theorem dX11_slip_9 : decode cX11_slip 9 = .ok (.iload_n 3, 1) := by decide +kernel
theorem dX11_slip_10 : decode cX11_slip 10 = .ok (.invokevirtual 136, 3) := by decide +kernel
theorem dX11_slip_13 : decode cX11_slip 13 = .ok (.ifCond .eq 16, 3) := by decide +kernel
theorem dX11_slip_16 : decode cX11_slip 16 = .ok (.iload 4, 2) := by decide +kernel
theorem dX11_slip_18 : decode cX11_slip 18 = .ok (.iconst 1, 1) := by decide +kernel
theorem dX11_slip_19 : decode cX11_slip 19 = .ok (.if_icmp .lt 10, 3) := by decide +kernel
theorem dX11_slip_22 : decode cX11_slip 22 = .ok (.iload 4, 2) := by decide +kernel
theorem dX11_slip_24 : decode cX11_slip 24 = .ok (.ldc 104, 2) := by decide +kernel
theorem dX11_slip_26 : decode cX11_slip 26 = .ok (.if_icmp .le 5, 3) := by decide +kernel
theorem dX11_slip_29 : decode cX11_slip 29 = .ok (.iconst (-1), 1) := by decide +kernel
theorem dX11_slip_30 : decode cX11_slip 30 = .ok (.ireturn, 1) := by decide +kernel
theorem dX11_slip_31 : decode cX11_slip 31 = .ok (.aload_n 0, 1) := by decide +kernel
theorem dX11_slip_32 : decode cX11_slip 32 = .ok (.getfield 11, 3) := by decide +kernel
theorem dX11_slip_35 : decode cX11_slip 35 = .ok (.iload_n 2, 1) := by decide +kernel
theorem dX11_slip_36 : decode cX11_slip 36 = .ok (.aaload, 1) := by decide +kernel
theorem dX11_slip_37 : decode cX11_slip 37 = .ok (.astore 5, 2) := by decide +kernel
theorem dX11_slip_39 : decode cX11_slip 39 = .ok (.aload 5, 2) := by decide +kernel
theorem dX11_slip_41 : decode cX11_slip 41 = .ok (.aload 5, 2) := by decide +kernel
theorem dX11_slip_43 : decode cX11_slip 43 = .ok (.iload_n 3, 1) := by decide +kernel
theorem dX11_slip_44 : decode cX11_slip 44 = .ok (.invokevirtual 140, 3) := by decide +kernel
theorem dX11_slip_47 : decode cX11_slip 47 = .ok (.invokevirtual 143, 3) := by decide +kernel
theorem dX11_slip_50 : decode cX11_slip 50 = .ok (.istore 6, 2) := by decide +kernel
theorem dX11_slip_52 : decode cX11_slip 52 = .ok (.aload_n 0, 1) := by decide +kernel
theorem dX11_slip_53 : decode cX11_slip 53 = .ok (.iload_n 1, 1) := by decide +kernel
theorem dX11_slip_54 : decode cX11_slip 54 = .ok (.aload 5, 2) := by decide +kernel
theorem dX11_slip_56 : decode cX11_slip 56 = .ok (.iload_n 3, 1) := by decide +kernel
theorem dX11_slip_57 : decode cX11_slip 57 = .ok (.iload 6, 2) := by decide +kernel
theorem dX11_slip_59 : decode cX11_slip 59 = .ok (.iload 4, 2) := by decide +kernel
theorem dX11_slip_61 : decode cX11_slip 61 = .ok (.ixor, 1) := by decide +kernel
theorem dX11_slip_62 : decode cX11_slip 62 = .ok (.aload 5, 2) := by decide +kernel
theorem dX11_slip_64 : decode cX11_slip 64 = .ok (.iload_n 3, 1) := by decide +kernel
theorem dX11_slip_65 : decode cX11_slip 65 = .ok (.iload 6, 2) := by decide +kernel
theorem dX11_slip_67 : decode cX11_slip 67 = .ok (.invokevirtual 146, 3) := by decide +kernel
theorem dX11_slip_70 : decode cX11_slip 70 = .ok (.invokevirtual 169, 3) := by decide +kernel
theorem dX11_slip_73 : decode cX11_slip 73 = .ok (.ireturn, 1) := by decide +kernel
set_option maxHeartbeats 4000000 in
set_option maxRecDepth 100000 in
theorem s_X11_slip {P : PP} {a0 : Nat} {a1 : Int32} {a2 : Int32} {a3 : Int32} {a4 : Int32} (I : IV P) (ha0 : At P a0 11) : CtrI yX11_slip cX11_slip 7 (some Jvm.ClassFile.FieldType.int) ({ frames := 6, cells := 1, slots := 7, locals := 384 } : Room) 1 7 P [.ref a0, .int a1, .int a2, .int a3, .int a4] (fun r P2 => IV P2 ∧ EK [1, 6, 7, 11, 13] P P2 ∧ (-1 ≤ r.toInt ∧ r.toInt ≤ 39)) := by
  refine enI (lv := [(0, .ref a0), (1, .int a1), (2, .int a2), (3, .int a3), (4, .int a4)]) (by decide) (Nat.le_of_ble_eq_true rfl) rfl (fun E D cy C Ci0 ret => ?_)
  have J29 : G E ({ frames := 6, cells := 1, slots := 7, locals := 384 } : Room) D cy 7 P 0 0 29 [] [] := by
    refine g_iconst (v := (-1)) C dX11_slip_29 (by decide) ?_
    exact ret _ _ _ _ _ _ dX11_slip_30 rfl (by decide) (by decide) ⟨I, EK.rf, (by decide)⟩
  refine g_iload_n C dX11_slip_0 rfl 1 rfl ?_
  refine g_callSI (b := 0) (ci := 0) (rest := []) C ms_X11_158 [.int a1] (s_X11_isQuarter I) rfl rfl (by decide) (Nat.le_of_ble_eq_true rfl) (by decide) dX11_slip_1 (fun r33837 Y33838 h33839 => ?_)
  obtain ⟨rfl, h33839⟩ := h33839
  obtain ⟨h33839, hi33840⟩ := h33839
  have hi33840 : r33837.toInt = 0 ∨ (((0 : Int) ≤ a1.toInt ∧ a1.toInt ≤ (3 : Int))) := hi33840
  have h33839 : 0 ≤ r33837.toInt ∧ r33837.toInt ≤ 1 := h33839
  refine b_if_eq C 29 dX11_slip_4 (by decide) (fun h33841 => ?_) (fun h33841 => ?_)
  · have h33841 : r33837.toInt = 0 := congrArg Int32.toInt h33841
    clear hi33840
    refine g_lv (lv' := []) [] rfl ?_
    exact J29 
  · have h33841 : r33837.toInt ≠ 0 := ti_ne h33841
    replace hi33840 := hi33840.resolve_left (by omega)
    refine g_aload_n C dX11_slip_7 rfl 0 rfl ?_
    refine g_iload_n C dX11_slip_8 rfl 2 rfl ?_
    refine g_iload_n C dX11_slip_9 rfl 3 rfl ?_
    refine g_callVI (rest := []) C mv_X11_136 [.int a2, .int a3] (s_X11_isLeaflet I ha0) (ha0).1 (ha0).2 rfl rfl (by decide) (Nat.le_of_ble_eq_true rfl) (by decide) dX11_slip_10 (fun r33842 Y33843 h33844 => ?_)
    obtain ⟨rfl, h33844⟩ := h33844
    obtain ⟨h33844, hi33845⟩ := h33844
    have hi33845 : r33842.toInt = 0 ∨ (((0 : Int) ≤ a2.toInt ∧ a2.toInt ≤ (1 : Int)) ∧ ((0 : Int) ≤ a3.toInt ∧ a3.toInt ≤ (9999 : Int))) := hi33845
    have h33844 : 0 ≤ r33842.toInt ∧ r33842.toInt ≤ 1 := h33844
    refine b_if_eq C 29 dX11_slip_13 (by decide) (fun h33846 => ?_) (fun h33846 => ?_)
    · have h33846 : r33842.toInt = 0 := congrArg Int32.toInt h33846
      clear hi33845
      refine g_lv (lv' := []) [] rfl ?_
      exact J29 
    · have h33846 : r33842.toInt ≠ 0 := ti_ne h33846
      replace hi33845 := hi33845.resolve_left (by omega)
      refine g_iload C dX11_slip_16 4 rfl ?_
      refine g_iconst (v := 1) C dX11_slip_18 (by decide) ?_
      have u33848 := ti_rng a4
      refine b_icmp_lt C 29 dX11_slip_19 (by decide) (fun h33847 => ?_) (fun h33847 => ?_)
      · have h33847 : a4.toInt < 1 := h33847
        refine g_lv (lv' := []) [] rfl ?_
        exact J29 
      · have h33847 : 1 ≤ a4.toInt := h33847
        refine g_iload C dX11_slip_22 4 rfl ?_
        refine g_ldc (v := 65535) C kc_X11_104 dX11_slip_24 ?_
        have u33850 := ti_rng a4
        refine b_icmp_le C 31 dX11_slip_26 (by decide) (fun h33849 => ?_) (fun h33849 => ?_)
        · have h33849 : a4.toInt ≤ 65535 := h33849
          refine g_aload_n C dX11_slip_31 rfl 0 rfl ?_
          obtain ⟨b33851, e33852, h33853⟩ := I.fld (ha0) 0 17 2 rfl
          refine g_getR C fi_X11_11 rfl e33852 (ha0).1 (ha0).2 dX11_slip_32 ?_
          refine g_iload_n C dX11_slip_35 rfl 2 rfl ?_
          obtain ⟨b33854, e33855, h33856⟩ := I.elm h33853 (by decide) (a2.toInt.toNat) (by omega)
          refine g_aldR C h33853.1 h33853.2.1 (by decide) (ix_in h33853.2.2 (by omega)) e33855 dX11_slip_36 ?_
          refine g_astore (lv' := [(5, .ref b33854), (0, .ref a0), (1, .int a1), (2, .int a2), (3, .int a3), (4, .int a4)]) C dX11_slip_37 (by decide) rfl ?_
          refine g_aload C dX11_slip_39 0 rfl ?_
          refine g_aload C dX11_slip_41 0 rfl ?_
          refine g_iload_n C dX11_slip_43 rfl 4 rfl ?_
          refine g_callVI (rest := [.ref b33854]) C mv_X11_140 [.int a3] (s_X1_pagesOf I h33856) (h33856).1 (h33856).2 rfl rfl (by decide) (Nat.le_of_ble_eq_true rfl) (by decide) dX11_slip_44 (fun r33857 Y33858 h33859 => ?_)
          obtain ⟨Iy33860, Xy33861, h33859⟩ := h33859
          have Xz33862 : EK [1, 6, 7, 11, 13] P Y33858 := Xy33861.mono (by decide)
          have h33863 := Xy33861.at ha0
          have h33864 := Xy33861.at h33856
          have h33859 : True := h33859
          refine g_callVI (rest := []) C mv_X11_143 [.int r33857] (s_X1_sumOf Iy33860 h33864) (h33864).1 (h33864).2 rfl rfl (by decide) (Nat.le_of_ble_eq_true rfl) (by decide) dX11_slip_47 (fun r33865 Y33866 h33867 => ?_)
          obtain ⟨rfl, h33867⟩ := h33867
          have h33867 : True := h33867
          refine g_istore (lv' := [(6, .int r33865), (5, .ref b33854), (0, .ref a0), (1, .int a1), (2, .int a2), (3, .int a3), (4, .int a4)]) C dX11_slip_50 (by decide) rfl ?_
          refine g_aload_n C dX11_slip_52 rfl 2 rfl ?_
          refine g_iload_n C dX11_slip_53 rfl 3 rfl ?_
          refine g_aload C dX11_slip_54 1 rfl ?_
          refine g_iload_n C dX11_slip_56 rfl 5 rfl ?_
          refine g_iload C dX11_slip_57 0 rfl ?_
          refine g_iload C dX11_slip_59 6 rfl ?_
          refine a_ixor C dX11_slip_61 (fun z33868 => ?_)
          refine g_aload C dX11_slip_62 1 rfl ?_
          refine g_iload_n C dX11_slip_64 rfl 5 rfl ?_
          refine g_iload C dX11_slip_65 0 rfl ?_
          refine g_callVI (rest := [.int z33868, .int a3, .ref b33854, .int a1, .ref a0]) C mv_X11_146 [.int a3, .int r33865] (s_X1_sealOf Iy33860 h33864) (h33864).1 (h33864).2 rfl rfl (by decide) (Nat.le_of_ble_eq_true rfl) (by decide) dX11_slip_67 (fun r33870 Y33871 h33872 => ?_)
          obtain ⟨rfl, h33872⟩ := h33872
          have h33872 : True := h33872
          refine g_callVI (rest := []) C mv_X11_169 [.int a1, .ref b33854, .int a3, .int z33868, .int r33870] (s_X11_send Iy33860 h33863 (by omega) h33864) (h33863).1 (h33863).2 rfl rfl (by decide) (Nat.le_of_ble_eq_true rfl) (by decide) dX11_slip_70 (fun r33873 Y33874 h33875 => ?_)
          obtain ⟨Iy33876, Xy33877, h33875⟩ := h33875
          have Xz33878 : EK [1, 6, 7, 11, 13] P Y33874 := Xz33862.tr (Xy33877.mono (by decide))
          have h33879 := Xy33877.at h33863
          have h33880 := Xy33877.at h33864
          have h33875 : -1 ≤ r33873.toInt ∧ r33873.toInt ≤ 39 := h33875
          exact ret _ _ _ _ _ _ dX11_slip_73 rfl (by decide) (by decide) ⟨Iy33876, Xz33878, (by omega)⟩
        · have h33849 : 65535 < a4.toInt := h33849
          refine g_lv (lv' := []) [] rfl ?_
          exact J29 
theorem dX11_slipped_0 : decode cX11_slipped 0 = .ok (.iload_n 1, 1) := by decide +kernel
theorem dX11_slipped_1 : decode cX11_slipped 1 = .ok (.invokestatic 158, 3) := by decide +kernel
theorem dX11_slipped_4 : decode cX11_slipped 4 = .ok (.ifCond .eq 29, 3) := by decide +kernel
theorem dX11_slipped_7 : decode cX11_slipped 7 = .ok (.aload_n 0, 1) := by decide +kernel
theorem dX11_slipped_8 : decode cX11_slipped 8 = .ok (.iload_n 2, 1) := by decide +kernel
theorem dX11_slipped_9 : decode cX11_slipped 9 = .ok (.invokevirtual 97, 3) := by decide +kernel
theorem dX11_slipped_12 : decode cX11_slipped 12 = .ok (.ifCond .eq 21, 3) := by decide +kernel
theorem dX11_slipped_15 : decode cX11_slipped 15 = .ok (.iload_n 3, 1) := by decide +kernel
theorem dX11_slipped_16 : decode cX11_slipped 16 = .ok (.invokestatic 213, 3) := by decide +kernel
theorem dX11_slipped_19 : decode cX11_slipped 19 = .ok (.ifCond .eq 14, 3) := by decide +kernel
theorem dX11_slipped_22 : decode cX11_slipped 22 = .ok (.iload 4, 2) := by decide +kernel
theorem dX11_slipped_24 : decode cX11_slipped 24 = .ok (.ifCond .lt 9, 3) := by decide +kernel
theorem dX11_slipped_27 : decode cX11_slipped 27 = .ok (.iload 4, 2) := by decide +kernel
theorem dX11_slipped_29 : decode cX11_slipped 29 = .ok (.iconst 2, 1) := by decide +kernel
theorem dX11_slipped_30 : decode cX11_slipped 30 = .ok (.if_icmp .le 5, 3) := by decide +kernel
theorem dX11_slipped_33 : decode cX11_slipped 33 = .ok (.iconst (-1), 1) := by decide +kernel
theorem dX11_slipped_34 : decode cX11_slipped 34 = .ok (.ireturn, 1) := by decide +kernel
theorem dX11_slipped_35 : decode cX11_slipped 35 = .ok (.aload_n 0, 1) := by decide +kernel
theorem dX11_slipped_36 : decode cX11_slipped 36 = .ok (.iload_n 1, 1) := by decide +kernel
theorem dX11_slipped_37 : decode cX11_slipped 37 = .ok (.iload_n 2, 1) := by decide +kernel
theorem dX11_slipped_38 : decode cX11_slipped 38 = .ok (.iload_n 3, 1) := by decide +kernel
theorem dX11_slipped_39 : decode cX11_slipped 39 = .ok (.invokevirtual 216, 3) := by decide +kernel
theorem dX11_slipped_42 : decode cX11_slipped 42 = .ok (.astore 5, 2) := by decide +kernel
theorem dX11_slipped_44 : decode cX11_slipped 44 = .ok (.aload_n 0, 1) := by decide +kernel
theorem dX11_slipped_45 : decode cX11_slipped 45 = .ok (.getfield 53, 3) := by decide +kernel
theorem dX11_slipped_48 : decode cX11_slipped 48 = .ok (.iconst 0, 1) := by decide +kernel
theorem dX11_slipped_49 : decode cX11_slipped 49 = .ok (.aaload, 1) := by decide +kernel
theorem dX11_slipped_50 : decode cX11_slipped 50 = .ok (.astore 6, 2) := by decide +kernel
theorem dX11_slipped_52 : decode cX11_slipped 52 = .ok (.aload 6, 2) := by decide +kernel
theorem dX11_slipped_54 : decode cX11_slipped 54 = .ok (.aload 5, 2) := by decide +kernel
theorem dX11_slipped_56 : decode cX11_slipped 56 = .ok (.iconst (-1), 1) := by decide +kernel
theorem dX11_slipped_57 : decode cX11_slipped 57 = .ok (.invokevirtual 236, 3) := by decide +kernel
theorem dX11_slipped_60 : decode cX11_slipped 60 = .ok (.aload 6, 2) := by decide +kernel
theorem dX11_slipped_62 : decode cX11_slipped 62 = .ok (.getfield 243, 3) := by decide +kernel
theorem dX11_slipped_65 : decode cX11_slipped 65 = .ok (.ifCond .eq 5, 3) := by decide +kernel
theorem dX11_slipped_68 : decode cX11_slipped 68 = .ok (.iconst (-1), 1) := by decide +kernel
theorem dX11_slipped_69 : decode cX11_slipped 69 = .ok (.ireturn, 1) := by decide +kernel
theorem dX11_slipped_70 : decode cX11_slipped 70 = .ok (.iconst 0, 1) := by decide +kernel
theorem dX11_slipped_71 : decode cX11_slipped 71 = .ok (.istore 7, 2) := by decide +kernel
theorem dX11_slipped_73 : decode cX11_slipped 73 = .ok (.iconst (-1), 1) := by decide +kernel
theorem dX11_slipped_74 : decode cX11_slipped 74 = .ok (.istore 8, 2) := by decide +kernel
theorem dX11_slipped_76 : decode cX11_slipped 76 = .ok (.aload 5, 2) := by decide +kernel
theorem dX11_slipped_78 : decode cX11_slipped 78 = .ok (.getfield 263, 3) := by decide +kernel
theorem dX11_slipped_81 : decode cX11_slipped 81 = .ok (.istore 9, 2) := by decide +kernel
theorem dX11_slipped_83 : decode cX11_slipped 83 = .ok (.iload 9, 2) := by decide +kernel
theorem dX11_slipped_85 : decode cX11_slipped 85 = .ok (.aload 5, 2) := by decide +kernel
theorem dX11_slipped_87 : decode cX11_slipped 87 = .ok (.getfield 266, 3) := by decide +kernel
theorem dX11_slipped_90 : decode cX11_slipped 90 = .ok (.if_icmp .ge 49, 3) := by decide +kernel
theorem dX11_slipped_93 : decode cX11_slipped 93 = .ok (.aload 6, 2) := by decide +kernel
theorem dX11_slipped_95 : decode cX11_slipped 95 = .ok (.aload 5, 2) := by decide +kernel
theorem dX11_slipped_97 : decode cX11_slipped 97 = .ok (.iload 9, 2) := by decide +kernel
theorem dX11_slipped_99 : decode cX11_slipped 99 = .ok (.invokevirtual 236, 3) := by decide +kernel
theorem dX11_slipped_102 : decode cX11_slipped 102 = .ok (.aload 6, 2) := by decide +kernel
theorem dX11_slipped_104 : decode cX11_slipped 104 = .ok (.getfield 243, 3) := by decide +kernel
theorem dX11_slipped_107 : decode cX11_slipped 107 = .ok (.ifCond .eq 26, 3) := by decide +kernel
theorem dX11_slipped_110 : decode cX11_slipped 110 = .ok (.iload 7, 2) := by decide +kernel
theorem dX11_slipped_112 : decode cX11_slipped 112 = .ok (.ifCond .ne 14, 3) := by decide +kernel
theorem dX11_slipped_115 : decode cX11_slipped 115 = .ok (.aload 5, 2) := by decide +kernel
theorem dX11_slipped_117 : decode cX11_slipped 117 = .ok (.getfield 269, 3) := by decide +kernel
theorem dX11_slipped_120 : decode cX11_slipped 120 = .ok (.iload 9, 2) := by decide +kernel
theorem dX11_slipped_122 : decode cX11_slipped 122 = .ok (.iaload, 1) := by decide +kernel
theorem dX11_slipped_123 : decode cX11_slipped 123 = .ok (.goto 5, 3) := by decide +kernel
theorem dX11_slipped_126 : decode cX11_slipped 126 = .ok (.iload 8, 2) := by decide +kernel
theorem dX11_slipped_128 : decode cX11_slipped 128 = .ok (.istore 8, 2) := by decide +kernel
theorem dX11_slipped_130 : decode cX11_slipped 130 = .ok (.iinc 7 1, 3) := by decide +kernel
theorem dX11_slipped_133 : decode cX11_slipped 133 = .ok (.iinc 9 1, 3) := by decide +kernel
theorem dX11_slipped_136 : decode cX11_slipped 136 = .ok (.goto (-53), 3) := by decide +kernel
theorem dX11_slipped_139 : decode cX11_slipped 139 = .ok (.iload 4, 2) := by decide +kernel
theorem dX11_slipped_141 : decode cX11_slipped 141 = .ok (.iconst 1, 1) := by decide +kernel
theorem dX11_slipped_142 : decode cX11_slipped 142 = .ok (.if_icmp .ne 6, 3) := by decide +kernel
theorem dX11_slipped_145 : decode cX11_slipped 145 = .ok (.iload 8, 2) := by decide +kernel
theorem dX11_slipped_147 : decode cX11_slipped 147 = .ok (.ireturn, 1) := by decide +kernel
theorem dX11_slipped_148 : decode cX11_slipped 148 = .ok (.iload 4, 2) := by decide +kernel
theorem dX11_slipped_150 : decode cX11_slipped 150 = .ok (.ifCond .ne 8, 3) := by decide +kernel
theorem dX11_slipped_153 : decode cX11_slipped 153 = .ok (.iload 7, 2) := by decide +kernel
theorem dX11_slipped_155 : decode cX11_slipped 155 = .ok (.goto 14, 3) := by decide +kernel
theorem dX11_slipped_158 : decode cX11_slipped 158 = .ok (.iload 7, 2) := by decide +kernel
theorem dX11_slipped_160 : decode cX11_slipped 160 = .ok (.iconst 1, 1) := by decide +kernel
theorem dX11_slipped_161 : decode cX11_slipped 161 = .ok (.if_icmp .ne 7, 3) := by decide +kernel
theorem dX11_slipped_164 : decode cX11_slipped 164 = .ok (.iconst 1, 1) := by decide +kernel
theorem dX11_slipped_165 : decode cX11_slipped 165 = .ok (.goto 4, 3) := by decide +kernel
theorem dX11_slipped_168 : decode cX11_slipped 168 = .ok (.iconst 0, 1) := by decide +kernel
theorem dX11_slipped_169 : decode cX11_slipped 169 = .ok (.ireturn, 1) := by decide +kernel
set_option maxHeartbeats 4000000 in
set_option maxRecDepth 100000 in
theorem s_X11_slipped {P : PP} {a0 : Nat} {a1 : Int32} {a2 : Int32} {a3 : Int32} {a4 : Int32} (I : IV P) (ha0 : At P a0 11) : CtrI yX11_slipped cX11_slipped 10 (some Jvm.ClassFile.FieldType.int) ({ frames := 4, cells := 0, slots := 0, locals := 256 } : Room) 0 0 P [.ref a0, .int a1, .int a2, .int a3, .int a4] (fun r P2 => IV P2 ∧ EK [0, 5, 13] P P2 ∧ (True)) := by
  refine enI (lv := [(0, .ref a0), (1, .int a1), (2, .int a2), (3, .int a3), (4, .int a4)]) (by decide) (Nat.le_of_ble_eq_true rfl) rfl (fun E D cy C Ci0 ret => ?_)
  have J83 : ∀ (n83 : Nat) (P83 : PP) (b83_5 : Nat) (b83_6 : Nat) (v83_7 : Int32) (v83_8 : Int32) (v83_9 : Int32), (44 - v83_9.toInt).toNat < n83 → (IV P83) → (EK [0, 5, 13] P P83) → (0 ≤ a4.toInt ∧ a4.toInt ≤ 2) → (At P83 b83_5 5) → (At P83 b83_6 0) → (0 ≤ v83_9.toInt ∧ v83_9.toInt ≤ 44) → G E ({ frames := 4, cells := 0, slots := 0, locals := 256 } : Room) D cy 10 P83 0 0 83 [(4, .int a4), (5, .ref b83_5), (6, .ref b83_6), (7, .int v83_7), (8, .int v83_8), (9, .int v83_9)] [] := by
    intro n83
    induction n83 with
    | zero => intro P83 b83_5 b83_6 v83_7 v83_8 v83_9 hm83 I83 X83 hv83_4 hb83_5 hb83_6 hv83_9; omega
    | succ n83 ih83 =>
      intro P83 b83_5 b83_6 v83_7 v83_8 v83_9 hm83 I83 X83 hv83_4 hb83_5 hb83_6 hv83_9
      have h34964 := X83.at ha0
      have J133 : ∀ (P133 : PP) (b133_5 : Nat) (b133_6 : Nat) (v133_7 : Int32) (v133_8 : Int32), (IV P133) → (EK [0, 5, 13] P P133) → (0 ≤ a4.toInt ∧ a4.toInt ≤ 2) → (At P133 b133_5 5) → (At P133 b133_6 0) → (0 ≤ v83_9.toInt ∧ v83_9.toInt ≤ 43) → (1 ≤ (pI P133 b133_5 4).toInt ∧ (pI P133 b133_5 4).toInt ≤ 44) → (0 ≤ (pI P133 b133_6 3).toInt ∧ (pI P133 b133_6 3).toInt ≤ 1) → G E ({ frames := 4, cells := 0, slots := 0, locals := 256 } : Room) D cy 10 P133 0 0 133 [(4, .int a4), (5, .ref b133_5), (6, .ref b133_6), (7, .int v133_7), (8, .int v133_8), (9, .int v83_9)] [] := by
        intro P133 b133_5 b133_6 v133_7 v133_8 I133 X133 hv133_4 hb133_5 hb133_6 hv133_9 hq133_0 hq133_1
        have h34965 := X133.at ha0
        refine s_iinc (lv0 := [(4, .int a4), (5, .ref b133_5), (6, .ref b133_6), (7, .int v133_7), (8, .int v133_8)]) (m := 1) C dX11_slipped_133 5 rfl (by decide) rfl (by decide) (by omega) (fun z34966 h34967 => ?_)
        have h34967 : z34966.toInt = v83_9.toInt + 1 := h34967
        refine g_goto C 83 dX11_slipped_136 (by decide) ?_
        refine g_lv (lv' := [(4, .int a4), (5, .ref b133_5), (6, .ref b133_6), (7, .int v133_7), (8, .int v133_8), (9, .int z34966)]) [1, 2, 3, 4, 5, 0] rfl ?_
        exact ih83 P133 b133_5 b133_6 v133_7 v133_8 z34966 (by omega) I133 X133 (by omega) hb133_5 hb133_6 (by omega)
      have J128 : ∀ (P128 : PP) (b128_5 : Nat) (b128_6 : Nat) (v128_s0 : Int32), (IV P128) → (EK [0, 5, 13] P P128) → (0 ≤ a4.toInt ∧ a4.toInt ≤ 2) → (At P128 b128_5 5) → (At P128 b128_6 0) → (0 ≤ v83_9.toInt ∧ v83_9.toInt ≤ 43) → (1 ≤ (pI P128 b128_5 4).toInt ∧ (pI P128 b128_5 4).toInt ≤ 44) → (1 ≤ (pI P128 b128_6 3).toInt ∧ (pI P128 b128_6 3).toInt ≤ 1) → G E ({ frames := 4, cells := 0, slots := 0, locals := 256 } : Room) D cy 10 P128 0 0 128 [(4, .int a4), (5, .ref b128_5), (6, .ref b128_6), (7, .int v83_7), (9, .int v83_9)] [.int v128_s0] := by
        intro P128 b128_5 b128_6 v128_s0 I128 X128 hv128_4 hb128_5 hb128_6 hv128_9 hq128_0 hq128_1
        have h34968 := X128.at ha0
        refine g_istore (lv' := [(8, .int v128_s0), (4, .int a4), (5, .ref b128_5), (6, .ref b128_6), (7, .int v83_7), (9, .int v83_9)]) C dX11_slipped_128 (by decide) rfl ?_
        refine a_iinc (lv0 := [(8, .int v128_s0), (4, .int a4), (5, .ref b128_5), (6, .ref b128_6), (9, .int v83_9)]) C dX11_slipped_130 4 rfl (by decide) rfl (fun z34969 => ?_)
        refine g_lv (lv' := [(4, .int a4), (5, .ref b128_5), (6, .ref b128_6), (7, .int z34969), (8, .int v128_s0), (9, .int v83_9)]) [2, 3, 4, 0, 1, 5] rfl ?_
        exact J133 P128 b128_5 b128_6 z34969 v128_s0 I128 X128 (by omega) hb128_5 hb128_6 (by omega) (by omega) (by omega)
      refine g_iload C dX11_slipped_83 5 rfl ?_
      refine g_aload C dX11_slipped_85 1 rfl ?_
      refine g_getI C fi_X11_266 (by decide) (hb83_5).1 (hb83_5).2 dX11_slipped_87 ?_
      have h34971 := I83.rg (hb83_5) 4 rfl
      refine b_icmp_ge C 139 dX11_slipped_90 (by decide) (fun h34972 => ?_) (fun h34972 => ?_)
      · have h34972 : (pI P83 b83_5 4).toInt ≤ v83_9.toInt := h34972
        refine g_iload C dX11_slipped_139 0 rfl ?_
        refine g_iconst (v := 1) C dX11_slipped_141 (by decide) ?_
        refine b_icmp_ne C 148 dX11_slipped_142 (by decide) (fun h34973 => ?_) (fun h34973 => ?_)
        · have h34973 : a4.toInt ≠ 1 := ti_ne h34973
          refine g_iload C dX11_slipped_148 0 rfl ?_
          refine b_if_ne C 158 dX11_slipped_150 (by decide) (fun h34974 => ?_) (fun h34974 => ?_)
          · have h34974 : a4.toInt ≠ 0 := ti_ne h34974
            refine g_iload C dX11_slipped_158 3 rfl ?_
            refine g_iconst (v := 1) C dX11_slipped_160 (by decide) ?_
            have u34976 := ti_rng v83_7
            refine b_icmp_ne C 168 dX11_slipped_161 (by decide) (fun h34975 => ?_) (fun h34975 => ?_)
            · have h34975 : v83_7.toInt ≠ 1 := ti_ne h34975
              refine g_iconst (v := 0) C dX11_slipped_168 (by decide) ?_
              exact ret _ _ _ _ _ _ dX11_slipped_169 rfl (by decide) (by decide) ⟨I83, X83, trivial⟩
            · have h34975 : v83_7.toInt = 1 := congrArg Int32.toInt h34975
              refine g_iconst (v := 1) C dX11_slipped_164 (by decide) ?_
              refine g_goto C 169 dX11_slipped_165 (by decide) ?_
              exact ret _ _ _ _ _ _ dX11_slipped_169 rfl (by decide) (by decide) ⟨I83, X83, trivial⟩
          · have h34974 : a4.toInt = 0 := congrArg Int32.toInt h34974
            refine g_iload C dX11_slipped_153 3 rfl ?_
            refine g_goto C 169 dX11_slipped_155 (by decide) ?_
            exact ret _ _ _ _ _ _ dX11_slipped_169 rfl (by decide) (by decide) ⟨I83, X83, trivial⟩
        · have h34973 : a4.toInt = 1 := congrArg Int32.toInt h34973
          refine g_iload C dX11_slipped_145 4 rfl ?_
          exact ret _ _ _ _ _ _ dX11_slipped_147 rfl (by decide) (by decide) ⟨I83, X83, trivial⟩
      · have h34972 : v83_9.toInt < (pI P83 b83_5 4).toInt := h34972
        refine g_aload C dX11_slipped_93 2 rfl ?_
        refine g_aload C dX11_slipped_95 1 rfl ?_
        refine g_iload C dX11_slipped_97 5 rfl ?_
        refine g_callVV (rest := []) C mv_X11_236 [.ref b83_5, .int v83_9] (s_X0_take I83 hb83_6 hb83_5) (hb83_6).1 (hb83_6).2 rfl rfl (by decide) (Nat.le_of_ble_eq_true rfl) (by decide) dX11_slipped_99 (fun Y34978 h34979 => ?_)
        obtain ⟨Iy34980, Xy34981⟩ := h34979
        have q34982 := Xy34981.keep hb83_5 (by decide) 4
        have Xz34983 : EK [0, 5, 13] P Y34978 := X83.tr (Xy34981.mono (by decide))
        have h34984 := Xy34981.at h34964
        have h34985 := Xy34981.at hb83_5
        have h34986 := Xy34981.at hb83_6
        refine g_aload C dX11_slipped_102 2 rfl ?_
        refine g_getI C fi_X11_243 (by decide) (h34986).1 (h34986).2 dX11_slipped_104 ?_
        have h34987 := Iy34980.rg (h34986) 3 rfl
        refine b_if_eq C 133 dX11_slipped_107 (by decide) (fun h34988 => ?_) (fun h34988 => ?_)
        · have h34988 : (pI Y34978 b83_6 3).toInt = 0 := congrArg Int32.toInt h34988
          exact J133 Y34978 b83_5 b83_6 v83_7 v83_8 Iy34980 Xz34983 (by omega) h34985 h34986 (by omega) (by omega) (by omega)
        · have h34988 : (pI Y34978 b83_6 3).toInt ≠ 0 := ti_ne h34988
          refine g_iload C dX11_slipped_110 3 rfl ?_
          have u34990 := ti_rng v83_7
          refine b_if_ne C 126 dX11_slipped_112 (by decide) (fun h34989 => ?_) (fun h34989 => ?_)
          · have h34989 : v83_7.toInt ≠ 0 := ti_ne h34989
            refine g_iload C dX11_slipped_126 4 rfl ?_
            refine g_lv (lv' := [(4, .int a4), (5, .ref b83_5), (6, .ref b83_6), (7, .int v83_7), (9, .int v83_9)]) [0, 1, 2, 3, 5] rfl ?_
            exact J128 Y34978 b83_5 b83_6 v83_8 Iy34980 Xz34983 (by omega) h34985 h34986 (by omega) (by omega) (by omega)
          · have h34989 : v83_7.toInt = 0 := congrArg Int32.toInt h34989
            refine g_aload C dX11_slipped_115 1 rfl ?_
            obtain ⟨b34991, e34992, h34993⟩ := Iy34980.fld (h34985) 1 13 44 rfl
            refine g_getR C fi_X11_269 rfl e34992 (h34985).1 (h34985).2 dX11_slipped_117 ?_
            refine g_iload C dX11_slipped_120 5 rfl ?_
            refine g_iald (j := (v83_9.toInt.toNat)) C h34993.1 h34993.2.1 (ix_in h34993.2.2 (by omega)) dX11_slipped_122 ?_
            refine g_topi (fun z34994 _ => ?_)
            refine g_goto C 128 dX11_slipped_123 (by decide) ?_
            refine g_lv (lv' := [(4, .int a4), (5, .ref b83_5), (6, .ref b83_6), (7, .int v83_7), (9, .int v83_9)]) [0, 1, 2, 3, 5] rfl ?_
            exact J128 Y34978 b83_5 b83_6 z34994 Iy34980 Xz34983 (by omega) h34985 h34986 (by omega) (by omega) (by omega)
  have J33 : G E ({ frames := 4, cells := 0, slots := 0, locals := 256 } : Room) D cy 10 P 0 0 33 [] [] := by
    refine g_iconst (v := (-1)) C dX11_slipped_33 (by decide) ?_
    exact ret _ _ _ _ _ _ dX11_slipped_34 rfl (by decide) (by decide) ⟨I, EK.rf, trivial⟩
  refine g_iload_n C dX11_slipped_0 rfl 1 rfl ?_
  refine g_callSI (b := 0) (ci := 0) (rest := []) C ms_X11_158 [.int a1] (s_X11_isQuarter I) rfl rfl (by decide) (Nat.le_of_ble_eq_true rfl) (by decide) dX11_slipped_1 (fun r34995 Y34996 h34997 => ?_)
  obtain ⟨rfl, h34997⟩ := h34997
  obtain ⟨h34997, hi34998⟩ := h34997
  have hi34998 : r34995.toInt = 0 ∨ (((0 : Int) ≤ a1.toInt ∧ a1.toInt ≤ (3 : Int))) := hi34998
  have h34997 : 0 ≤ r34995.toInt ∧ r34995.toInt ≤ 1 := h34997
  refine b_if_eq C 33 dX11_slipped_4 (by decide) (fun h34999 => ?_) (fun h34999 => ?_)
  · have h34999 : r34995.toInt = 0 := congrArg Int32.toInt h34999
    clear hi34998
    refine g_lv (lv' := []) [] rfl ?_
    exact J33 
  · have h34999 : r34995.toInt ≠ 0 := ti_ne h34999
    replace hi34998 := hi34998.resolve_left (by omega)
    refine g_aload_n C dX11_slipped_7 rfl 0 rfl ?_
    refine g_iload_n C dX11_slipped_8 rfl 2 rfl ?_
    refine g_callVI (rest := []) C mv_X11_97 [.int a2] (s_X11_isTold I ha0) (ha0).1 (ha0).2 rfl rfl (by decide) (Nat.le_of_ble_eq_true rfl) (by decide) dX11_slipped_9 (fun r35000 Y35001 h35002 => ?_)
    obtain ⟨rfl, h35002⟩ := h35002
    obtain ⟨h35002, hi35003⟩ := h35002
    have hi35003 : r35000.toInt = 0 ∨ (((0 : Int) ≤ a2.toInt ∧ a2.toInt ≤ (1 : Int))) := hi35003
    have h35002 : 0 ≤ r35000.toInt ∧ r35000.toInt ≤ 1 := h35002
    refine b_if_eq C 33 dX11_slipped_12 (by decide) (fun h35004 => ?_) (fun h35004 => ?_)
    · have h35004 : r35000.toInt = 0 := congrArg Int32.toInt h35004
      clear hi35003
      refine g_lv (lv' := []) [] rfl ?_
      exact J33 
    · have h35004 : r35000.toInt ≠ 0 := ti_ne h35004
      replace hi35003 := hi35003.resolve_left (by omega)
      refine g_iload_n C dX11_slipped_15 rfl 3 rfl ?_
      refine g_callSI (b := 0) (ci := 0) (rest := []) C ms_X11_213 [.int a3] (s_X11_isOctet I) rfl rfl (by decide) (Nat.le_of_ble_eq_true rfl) (by decide) dX11_slipped_16 (fun r35005 Y35006 h35007 => ?_)
      obtain ⟨rfl, h35007⟩ := h35007
      obtain ⟨h35007, hi35008⟩ := h35007
      have hi35008 : r35005.toInt = 0 ∨ (((0 : Int) ≤ a3.toInt ∧ a3.toInt ≤ (1 : Int))) := hi35008
      have h35007 : 0 ≤ r35005.toInt ∧ r35005.toInt ≤ 1 := h35007
      refine b_if_eq C 33 dX11_slipped_19 (by decide) (fun h35009 => ?_) (fun h35009 => ?_)
      · have h35009 : r35005.toInt = 0 := congrArg Int32.toInt h35009
        clear hi35008
        refine g_lv (lv' := []) [] rfl ?_
        exact J33 
      · have h35009 : r35005.toInt ≠ 0 := ti_ne h35009
        replace hi35008 := hi35008.resolve_left (by omega)
        refine g_iload C dX11_slipped_22 4 rfl ?_
        have u35011 := ti_rng a4
        refine b_if_lt C 33 dX11_slipped_24 (by decide) (fun h35010 => ?_) (fun h35010 => ?_)
        · have h35010 : a4.toInt < 0 := h35010
          refine g_lv (lv' := []) [] rfl ?_
          exact J33 
        · have h35010 : 0 ≤ a4.toInt := h35010
          refine g_iload C dX11_slipped_27 4 rfl ?_
          refine g_iconst (v := 2) C dX11_slipped_29 (by decide) ?_
          have u35013 := ti_rng a4
          refine b_icmp_le C 35 dX11_slipped_30 (by decide) (fun h35012 => ?_) (fun h35012 => ?_)
          · have h35012 : a4.toInt ≤ 2 := h35012
            refine g_aload_n C dX11_slipped_35 rfl 0 rfl ?_
            refine g_iload_n C dX11_slipped_36 rfl 1 rfl ?_
            refine g_iload_n C dX11_slipped_37 rfl 2 rfl ?_
            refine g_iload_n C dX11_slipped_38 rfl 3 rfl ?_
            refine g_callVQ (rest := []) C mv_X11_216 [.int a1, .int a2, .int a3] (s_X11_gather I ha0 (by omega) (by omega) (by omega)) (ha0).1 (ha0).2 rfl rfl (by decide) (Nat.le_of_ble_eq_true rfl) (by decide) dX11_slipped_39 (fun r35014 Y35015 h35016 => ?_)
            obtain ⟨Iy35017, Xy35018, h35016⟩ := h35016
            have Xz35019 : EK [0, 5, 13] P Y35015 := Xy35018.mono (by decide)
            have h35020 := Xy35018.at ha0
            obtain ⟨b35022, rfl, h35016⟩ := h35016
            show G _ _ _ _ _ _ _ _ _ _ (.ref b35022 :: _)
            refine g_astore (lv' := [(5, .ref b35022), (0, .ref a0), (1, .int a1), (2, .int a2), (3, .int a3), (4, .int a4)]) C dX11_slipped_42 (by decide) rfl ?_
            refine g_aload_n C dX11_slipped_44 rfl 1 rfl ?_
            obtain ⟨b35023, e35024, h35025⟩ := Iy35017.fld (h35020) 9 16 2 rfl
            refine g_getR C fi_X11_53 rfl e35024 (h35020).1 (h35020).2 dX11_slipped_45 ?_
            refine g_iconst (v := 0) C dX11_slipped_48 (by decide) ?_
            obtain ⟨b35026, e35027, h35028⟩ := Iy35017.elm h35025 (by decide) 0 (by decide)
            refine g_aldR C h35025.1 h35025.2.1 (by decide) (IX.litn (j := 0) h35025.2.2 rfl (by decide) (by decide)) e35027 dX11_slipped_49 ?_
            refine g_astore (lv' := [(6, .ref b35026), (5, .ref b35022), (0, .ref a0), (1, .int a1), (2, .int a2), (3, .int a3), (4, .int a4)]) C dX11_slipped_50 (by decide) rfl ?_
            refine g_aload C dX11_slipped_52 0 rfl ?_
            refine g_aload C dX11_slipped_54 1 rfl ?_
            refine g_iconst (v := (-1)) C dX11_slipped_56 (by decide) ?_
            refine g_callVV (rest := []) C mv_X11_236 [.ref b35022, .int (-1)] (s_X0_take Iy35017 h35028 h35016) (h35028).1 (h35028).2 rfl rfl (by decide) (Nat.le_of_ble_eq_true rfl) (by decide) dX11_slipped_57 (fun Y35030 h35031 => ?_)
            obtain ⟨Iy35032, Xy35033⟩ := h35031
            have Xz35034 : EK [0, 5, 13] P Y35030 := Xz35019.tr (Xy35033.mono (by decide))
            have h35035 := Xy35033.at h35020
            have h35036 := Xy35033.at h35016
            have h35037 := Xy35033.at h35028
            refine g_aload C dX11_slipped_60 0 rfl ?_
            refine g_getI C fi_X11_243 (by decide) (h35037).1 (h35037).2 dX11_slipped_62 ?_
            have h35038 := Iy35032.rg (h35037) 3 rfl
            refine b_if_eq C 70 dX11_slipped_65 (by decide) (fun h35039 => ?_) (fun h35039 => ?_)
            · have h35039 : (pI Y35030 b35026 3).toInt = 0 := congrArg Int32.toInt h35039
              refine g_iconst (v := 0) C dX11_slipped_70 (by decide) ?_
              refine g_istore (lv' := [(7, .int 0), (6, .ref b35026), (5, .ref b35022), (0, .ref a0), (1, .int a1), (2, .int a2), (3, .int a3), (4, .int a4)]) C dX11_slipped_71 (by decide) rfl ?_
              refine g_iconst (v := (-1)) C dX11_slipped_73 (by decide) ?_
              refine g_istore (lv' := [(8, .int (-1)), (7, .int 0), (6, .ref b35026), (5, .ref b35022), (0, .ref a0), (1, .int a1), (2, .int a2), (3, .int a3), (4, .int a4)]) C dX11_slipped_74 (by decide) rfl ?_
              refine g_aload C dX11_slipped_76 3 rfl ?_
              refine g_getI C fi_X11_263 (by decide) (h35036).1 (h35036).2 dX11_slipped_78 ?_
              have h35040 := Iy35032.rg (h35036) 5 rfl
              refine g_topi (fun z35041 h35042 => ?_)
              have h35042 : z35041.toInt = (pI Y35030 b35022 5).toInt := congrArg Int32.toInt h35042
              refine g_istore (lv' := [(9, .int z35041), (8, .int (-1)), (7, .int 0), (6, .ref b35026), (5, .ref b35022), (0, .ref a0), (1, .int a1), (2, .int a2), (3, .int a3), (4, .int a4)]) C dX11_slipped_81 (by decide) rfl ?_
              refine g_lv (lv' := [(4, .int a4), (5, .ref b35022), (6, .ref b35026), (7, .int 0), (8, .int (-1)), (9, .int z35041)]) [9, 4, 3, 2, 1, 0] rfl ?_
              exact J83 _ Y35030 b35022 b35026 0 (-1) z35041 (Nat.lt_succ_self _) Iy35032 Xz35034 (by omega) h35036 h35037 (by omega)
            · have h35039 : (pI Y35030 b35026 3).toInt ≠ 0 := ti_ne h35039
              refine g_iconst (v := (-1)) C dX11_slipped_68 (by decide) ?_
              exact ret _ _ _ _ _ _ dX11_slipped_69 rfl (by decide) (by decide) ⟨Iy35032, Xz35034, trivial⟩
          · have h35012 : 2 < a4.toInt := h35012
            refine g_lv (lv' := []) [] rfl ?_
            exact J33 
theorem dX11_solves_0 : decode cX11_solves 0 = .ok (.iload_n 1, 1) := by decide +kernel
theorem dX11_solves_1 : decode cX11_solves 1 = .ok (.invokestatic 158, 3) := by decide +kernel
theorem dX11_solves_4 : decode cX11_solves 4 = .ok (.ifCond .eq 18, 3) := by decide +kernel
theorem dX11_solves_7 : decode cX11_solves 7 = .ok (.aload_n 0, 1) := by decide +kernel
theorem dX11_solves_8 : decode cX11_solves 8 = .ok (.iload_n 2, 1) := by decide +kernel
theorem dX11_solves_9 : decode cX11_solves 9 = .ok (.invokevirtual 97, 3) := by decide +kernel
theorem dX11_solves_12 : decode cX11_solves 12 = .ok (.ifCond .eq 10, 3) := by decide +kernel
theorem dX11_solves_15 : decode cX11_solves 15 = .ok (.iload_n 3, 1) := by decide +kernel
theorem dX11_solves_16 : decode cX11_solves 16 = .ok (.invokestatic 213, 3) := by decide +kernel
theorem dX11_solves_19 : decode cX11_solves 19 = .ok (.ifCond .ne 5, 3) := by decide +kernel
theorem dX11_solves_22 : decode cX11_solves 22 = .ok (.iconst (-1), 1) := by decide +kernel
theorem dX11_solves_23 : decode cX11_solves 23 = .ok (.ireturn, 1) := by decide +kernel
theorem dX11_solves_24 : decode cX11_solves 24 = .ok (.aload_n 0, 1) := by decide +kernel
theorem dX11_solves_25 : decode cX11_solves 25 = .ok (.getfield 11, 3) := by decide +kernel
theorem dX11_solves_28 : decode cX11_solves 28 = .ok (.iload_n 2, 1) := by decide +kernel
theorem dX11_solves_29 : decode cX11_solves 29 = .ok (.aaload, 1) := by decide +kernel
theorem dX11_solves_30 : decode cX11_solves 30 = .ok (.invokevirtual 233, 3) := by decide +kernel
theorem dX11_solves_33 : decode cX11_solves 33 = .ok (.istore 5, 2) := by decide +kernel
theorem dX11_solves_35 : decode cX11_solves 35 = .ok (.aload_n 0, 1) := by decide +kernel
theorem dX11_solves_36 : decode cX11_solves 36 = .ok (.getfield 53, 3) := by decide +kernel
theorem dX11_solves_39 : decode cX11_solves 39 = .ok (.iconst 0, 1) := by decide +kernel
theorem dX11_solves_40 : decode cX11_solves 40 = .ok (.aaload, 1) := by decide +kernel
theorem dX11_solves_41 : decode cX11_solves 41 = .ok (.astore 6, 2) := by decide +kernel
theorem dX11_solves_43 : decode cX11_solves 43 = .ok (.aload 6, 2) := by decide +kernel
theorem dX11_solves_45 : decode cX11_solves 45 = .ok (.aload_n 0, 1) := by decide +kernel
theorem dX11_solves_46 : decode cX11_solves 46 = .ok (.iload_n 1, 1) := by decide +kernel
theorem dX11_solves_47 : decode cX11_solves 47 = .ok (.iload_n 2, 1) := by decide +kernel
theorem dX11_solves_48 : decode cX11_solves 48 = .ok (.iload_n 3, 1) := by decide +kernel
theorem dX11_solves_49 : decode cX11_solves 49 = .ok (.invokevirtual 216, 3) := by decide +kernel
theorem dX11_solves_52 : decode cX11_solves 52 = .ok (.iconst (-1), 1) := by decide +kernel
theorem dX11_solves_53 : decode cX11_solves 53 = .ok (.invokevirtual 236, 3) := by decide +kernel
theorem dX11_solves_56 : decode cX11_solves 56 = .ok (.iload 4, 2) := by decide +kernel
theorem dX11_solves_58 : decode cX11_solves 58 = .ok (.tableswitch 67 0 3 #[30, 38, 52, 58], 30) := by decide +kernel
theorem dX11_solves_88 : decode cX11_solves 88 = .ok (.aload 6, 2) := by decide +kernel
theorem dX11_solves_90 : decode cX11_solves 90 = .ok (.iload 5, 2) := by decide +kernel
theorem dX11_solves_92 : decode cX11_solves 92 = .ok (.invokevirtual 240, 3) := by decide +kernel
theorem dX11_solves_95 : decode cX11_solves 95 = .ok (.ireturn, 1) := by decide +kernel
theorem dX11_solves_96 : decode cX11_solves 96 = .ok (.aload 6, 2) := by decide +kernel
theorem dX11_solves_98 : decode cX11_solves 98 = .ok (.getfield 243, 3) := by decide +kernel
theorem dX11_solves_101 : decode cX11_solves 101 = .ok (.ifCond .eq 7, 3) := by decide +kernel
theorem dX11_solves_104 : decode cX11_solves 104 = .ok (.iconst 1, 1) := by decide +kernel
theorem dX11_solves_105 : decode cX11_solves 105 = .ok (.goto 4, 3) := by decide +kernel
theorem dX11_solves_108 : decode cX11_solves 108 = .ok (.iconst 0, 1) := by decide +kernel
theorem dX11_solves_109 : decode cX11_solves 109 = .ok (.ireturn, 1) := by decide +kernel
theorem dX11_solves_110 : decode cX11_solves 110 = .ok (.aload 6, 2) := by decide +kernel
theorem dX11_solves_112 : decode cX11_solves 112 = .ok (.getfield 246, 3) := by decide +kernel
theorem dX11_solves_115 : decode cX11_solves 115 = .ok (.ireturn, 1) := by decide +kernel
theorem dX11_solves_116 : decode cX11_solves 116 = .ok (.iload 5, 2) := by decide +kernel
theorem dX11_solves_118 : decode cX11_solves 118 = .ok (.aload 6, 2) := by decide +kernel
theorem dX11_solves_120 : decode cX11_solves 120 = .ok (.getfield 246, 3) := by decide +kernel
theorem dX11_solves_123 : decode cX11_solves 123 = .ok (.isub, 1) := by decide +kernel
theorem dX11_solves_124 : decode cX11_solves 124 = .ok (.ireturn, 1) := by decide +kernel
theorem dX11_solves_125 : decode cX11_solves 125 = .ok (.iconst (-1), 1) := by decide +kernel
theorem dX11_solves_126 : decode cX11_solves 126 = .ok (.ireturn, 1) := by decide +kernel
set_option maxHeartbeats 4000000 in
set_option maxRecDepth 100000 in
theorem s_X11_solves {P : PP} {a0 : Nat} {a1 : Int32} {a2 : Int32} {a3 : Int32} {a4 : Int32} (I : IV P) (ha0 : At P a0 11) : CtrI yX11_solves cX11_solves 7 (some Jvm.ClassFile.FieldType.int) ({ frames := 4, cells := 0, slots := 0, locals := 256 } : Room) 0 0 P [.ref a0, .int a1, .int a2, .int a3, .int a4] (fun r P2 => IV P2 ∧ EK [0, 5, 13] P P2 ∧ (True)) := by
  refine enI (lv := [(0, .ref a0), (1, .int a1), (2, .int a2), (3, .int a3), (4, .int a4)]) (by decide) (Nat.le_of_ble_eq_true rfl) rfl (fun E D cy C Ci0 ret => ?_)
  have J22 : G E ({ frames := 4, cells := 0, slots := 0, locals := 256 } : Room) D cy 7 P 0 0 22 [] [] := by
    refine g_iconst (v := (-1)) C dX11_solves_22 (by decide) ?_
    exact ret _ _ _ _ _ _ dX11_solves_23 rfl (by decide) (by decide) ⟨I, EK.rf, trivial⟩
  refine g_iload_n C dX11_solves_0 rfl 1 rfl ?_
  refine g_callSI (b := 0) (ci := 0) (rest := []) C ms_X11_158 [.int a1] (s_X11_isQuarter I) rfl rfl (by decide) (Nat.le_of_ble_eq_true rfl) (by decide) dX11_solves_1 (fun r35102 Y35103 h35104 => ?_)
  obtain ⟨rfl, h35104⟩ := h35104
  obtain ⟨h35104, hi35105⟩ := h35104
  have hi35105 : r35102.toInt = 0 ∨ (((0 : Int) ≤ a1.toInt ∧ a1.toInt ≤ (3 : Int))) := hi35105
  have h35104 : 0 ≤ r35102.toInt ∧ r35102.toInt ≤ 1 := h35104
  refine b_if_eq C 22 dX11_solves_4 (by decide) (fun h35106 => ?_) (fun h35106 => ?_)
  · have h35106 : r35102.toInt = 0 := congrArg Int32.toInt h35106
    clear hi35105
    refine g_lv (lv' := []) [] rfl ?_
    exact J22 
  · have h35106 : r35102.toInt ≠ 0 := ti_ne h35106
    replace hi35105 := hi35105.resolve_left (by omega)
    refine g_aload_n C dX11_solves_7 rfl 0 rfl ?_
    refine g_iload_n C dX11_solves_8 rfl 2 rfl ?_
    refine g_callVI (rest := []) C mv_X11_97 [.int a2] (s_X11_isTold I ha0) (ha0).1 (ha0).2 rfl rfl (by decide) (Nat.le_of_ble_eq_true rfl) (by decide) dX11_solves_9 (fun r35107 Y35108 h35109 => ?_)
    obtain ⟨rfl, h35109⟩ := h35109
    obtain ⟨h35109, hi35110⟩ := h35109
    have hi35110 : r35107.toInt = 0 ∨ (((0 : Int) ≤ a2.toInt ∧ a2.toInt ≤ (1 : Int))) := hi35110
    have h35109 : 0 ≤ r35107.toInt ∧ r35107.toInt ≤ 1 := h35109
    refine b_if_eq C 22 dX11_solves_12 (by decide) (fun h35111 => ?_) (fun h35111 => ?_)
    · have h35111 : r35107.toInt = 0 := congrArg Int32.toInt h35111
      clear hi35110
      refine g_lv (lv' := []) [] rfl ?_
      exact J22 
    · have h35111 : r35107.toInt ≠ 0 := ti_ne h35111
      replace hi35110 := hi35110.resolve_left (by omega)
      refine g_iload_n C dX11_solves_15 rfl 3 rfl ?_
      refine g_callSI (b := 0) (ci := 0) (rest := []) C ms_X11_213 [.int a3] (s_X11_isOctet I) rfl rfl (by decide) (Nat.le_of_ble_eq_true rfl) (by decide) dX11_solves_16 (fun r35112 Y35113 h35114 => ?_)
      obtain ⟨rfl, h35114⟩ := h35114
      obtain ⟨h35114, hi35115⟩ := h35114
      have hi35115 : r35112.toInt = 0 ∨ (((0 : Int) ≤ a3.toInt ∧ a3.toInt ≤ (1 : Int))) := hi35115
      have h35114 : 0 ≤ r35112.toInt ∧ r35112.toInt ≤ 1 := h35114
      refine b_if_ne C 24 dX11_solves_19 (by decide) (fun h35116 => ?_) (fun h35116 => ?_)
      · have h35116 : r35112.toInt ≠ 0 := ti_ne h35116
        replace hi35115 := hi35115.resolve_left (by omega)
        refine g_aload_n C dX11_solves_24 rfl 0 rfl ?_
        obtain ⟨b35117, e35118, h35119⟩ := I.fld (ha0) 0 17 2 rfl
        refine g_getR C fi_X11_11 rfl e35118 (ha0).1 (ha0).2 dX11_solves_25 ?_
        refine g_iload_n C dX11_solves_28 rfl 2 rfl ?_
        obtain ⟨b35120, e35121, h35122⟩ := I.elm h35119 (by decide) (a2.toInt.toNat) (by omega)
        refine g_aldR C h35119.1 h35119.2.1 (by decide) (ix_in h35119.2.2 (by omega)) e35121 dX11_solves_29 ?_
        refine g_callVI (rest := []) C mv_X11_233 [] (s_X1_all I h35122) (h35122).1 (h35122).2 rfl rfl (by decide) (Nat.le_of_ble_eq_true rfl) (by decide) dX11_solves_30 (fun r35123 Y35124 h35125 => ?_)
        obtain ⟨rfl, h35125⟩ := h35125
        have h35125 : 0 ≤ r35123.toInt ∧ r35123.toInt ≤ 20 := h35125
        refine g_istore (lv' := [(5, .int r35123), (0, .ref a0), (1, .int a1), (2, .int a2), (3, .int a3), (4, .int a4)]) C dX11_solves_33 (by decide) rfl ?_
        refine g_aload_n C dX11_solves_35 rfl 1 rfl ?_
        obtain ⟨b35126, e35127, h35128⟩ := I.fld (ha0) 9 16 2 rfl
        refine g_getR C fi_X11_53 rfl e35127 (ha0).1 (ha0).2 dX11_solves_36 ?_
        refine g_iconst (v := 0) C dX11_solves_39 (by decide) ?_
        obtain ⟨b35129, e35130, h35131⟩ := I.elm h35128 (by decide) 0 (by decide)
        refine g_aldR C h35128.1 h35128.2.1 (by decide) (IX.litn (j := 0) h35128.2.2 rfl (by decide) (by decide)) e35130 dX11_solves_40 ?_
        refine g_astore (lv' := [(6, .ref b35129), (5, .int r35123), (0, .ref a0), (1, .int a1), (2, .int a2), (3, .int a3), (4, .int a4)]) C dX11_solves_41 (by decide) rfl ?_
        refine g_aload C dX11_solves_43 0 rfl ?_
        refine g_aload_n C dX11_solves_45 rfl 2 rfl ?_
        refine g_iload_n C dX11_solves_46 rfl 3 rfl ?_
        refine g_iload_n C dX11_solves_47 rfl 4 rfl ?_
        refine g_iload_n C dX11_solves_48 rfl 5 rfl ?_
        refine g_callVQ (rest := [.ref b35129]) C mv_X11_216 [.int a1, .int a2, .int a3] (s_X11_gather I ha0 (by omega) (by omega) (by omega)) (ha0).1 (ha0).2 rfl rfl (by decide) (Nat.le_of_ble_eq_true rfl) (by decide) dX11_solves_49 (fun r35132 Y35133 h35134 => ?_)
        obtain ⟨Iy35135, Xy35136, h35134⟩ := h35134
        have Xz35137 : EK [0, 5, 13] P Y35133 := Xy35136.mono (by decide)
        have h35138 := Xy35136.at ha0
        have h35139 := Xy35136.at h35131
        obtain ⟨b35141, rfl, h35134⟩ := h35134
        show G _ _ _ _ _ _ _ _ _ _ (.ref b35141 :: _)
        refine g_iconst (v := (-1)) C dX11_solves_52 (by decide) ?_
        refine g_callVV (rest := []) C mv_X11_236 [.ref b35141, .int (-1)] (s_X0_take Iy35135 h35139 h35134) (h35139).1 (h35139).2 rfl rfl (by decide) (Nat.le_of_ble_eq_true rfl) (by decide) dX11_solves_53 (fun Y35143 h35144 => ?_)
        obtain ⟨Iy35145, Xy35146⟩ := h35144
        have Xz35147 : EK [0, 5, 13] P Y35143 := Xz35137.tr (Xy35146.mono (by decide))
        have h35148 := Xy35146.at h35138
        have h35149 := Xy35146.at h35139
        refine g_iload C dX11_solves_56 6 rfl ?_
        by_cases h35150 : a4.toInt < 0 ∨ 3 < a4.toInt
        · refine g_tableOut C 125 dX11_solves_58 h35150 (by decide) ?_
          refine g_iconst (v := (-1)) C dX11_solves_125 (by decide) ?_
          exact ret _ _ _ _ _ _ dX11_solves_126 rfl (by decide) (by decide) ⟨Iy35145, Xz35147, trivial⟩
        · rcases (show a4.toInt = 0 ∨ a4.toInt = 1 ∨ a4.toInt = 2 ∨ a4.toInt = 3 by omega) with h35151 | h35151 | h35151 | h35151
          · refine g_tableIn C 88 dX11_solves_58 (by omega) (by omega) (by rw [h35151]; rfl) (by decide) ?_
            refine g_aload C dX11_solves_88 0 rfl ?_
            refine g_iload C dX11_solves_90 1 rfl ?_
            refine g_callVI (rest := []) C mv_X11_240 [.int r35123] (s_X0_fixedPages Iy35145 h35149) (h35149).1 (h35149).2 rfl rfl (by decide) (Nat.le_of_ble_eq_true rfl) (by decide) dX11_solves_92 (fun r35152 Y35153 h35154 => ?_)
            obtain ⟨rfl, h35154⟩ := h35154
            have h35154 : True := h35154
            exact ret _ _ _ _ _ _ dX11_solves_95 rfl (by decide) (by decide) ⟨Iy35145, Xz35147, trivial⟩
          · refine g_tableIn C 96 dX11_solves_58 (by omega) (by omega) (by rw [h35151]; rfl) (by decide) ?_
            refine g_aload C dX11_solves_96 0 rfl ?_
            refine g_getI C fi_X11_243 (by decide) (h35149).1 (h35149).2 dX11_solves_98 ?_
            have h35155 := Iy35145.rg (h35149) 3 rfl
            refine b_if_eq C 108 dX11_solves_101 (by decide) (fun h35156 => ?_) (fun h35156 => ?_)
            · have h35156 : (pI Y35143 b35129 3).toInt = 0 := congrArg Int32.toInt h35156
              refine g_iconst (v := 0) C dX11_solves_108 (by decide) ?_
              exact ret _ _ _ _ _ _ dX11_solves_109 rfl (by decide) (by decide) ⟨Iy35145, Xz35147, trivial⟩
            · have h35156 : (pI Y35143 b35129 3).toInt ≠ 0 := ti_ne h35156
              refine g_iconst (v := 1) C dX11_solves_104 (by decide) ?_
              refine g_goto C 109 dX11_solves_105 (by decide) ?_
              exact ret _ _ _ _ _ _ dX11_solves_109 rfl (by decide) (by decide) ⟨Iy35145, Xz35147, trivial⟩
          · refine g_tableIn C 110 dX11_solves_58 (by omega) (by omega) (by rw [h35151]; rfl) (by decide) ?_
            refine g_aload C dX11_solves_110 0 rfl ?_
            refine g_getI C fi_X11_246 (by decide) (h35149).1 (h35149).2 dX11_solves_112 ?_
            have h35157 := Iy35145.rg (h35149) 2 rfl
            exact ret _ _ _ _ _ _ dX11_solves_115 rfl (by decide) (by decide) ⟨Iy35145, Xz35147, trivial⟩
          · refine g_tableIn C 116 dX11_solves_58 (by omega) (by omega) (by rw [h35151]; rfl) (by decide) ?_
            refine g_iload C dX11_solves_116 1 rfl ?_
            refine g_aload C dX11_solves_118 0 rfl ?_
            refine g_getI C fi_X11_246 (by decide) (h35149).1 (h35149).2 dX11_solves_120 ?_
            have h35158 := Iy35145.rg (h35149) 2 rfl
            refine s_isub C dX11_solves_123 (by show -2147483648 ≤ r35123.toInt - (pI Y35143 b35129 2).toInt ∧ r35123.toInt - (pI Y35143 b35129 2).toInt ≤ 2147483647; omega) (fun z35159 h35160 => ?_)
            have h35160 : z35159.toInt = r35123.toInt - (pI Y35143 b35129 2).toInt := h35160
            exact ret _ _ _ _ _ _ dX11_solves_124 rfl (by decide) (by decide) ⟨Iy35145, Xz35147, trivial⟩
      · have h35116 : r35112.toInt = 0 := congrArg Int32.toInt h35116
        clear hi35115
        refine g_lv (lv' := []) [] rfl ?_
        exact J22 
