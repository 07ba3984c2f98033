theorem w_done {S : List Nat} {P Pn P2 : PP} {a qb : Nat} (dd : xAG (qb :: S) Pn ∧ xExt [a] P Pn ∧ zG Pn) (hn : qb ∉ pL P) (L : LI [qb] (qb :: S) Pn P2) (f : yFl P2 qb 16 4 4) : xAG S P2 ∧ xExt [a] P P2 ∧ zG P2 := by
  refine ⟨fun b hb hs => ?_, ⟨fun c hc => ?_, fun c hc hs => ?_⟩, L.2.2⟩
  · by_cases e : b = qb
    · subst e; exact f.ok (by decide)
    · exact L.2.1 b hb (fun h9 => by rcases List.mem_cons.mp h9 with h8 | h8; exact e h8; exact hs h8)
  · obtain ⟨q1, q2, q3⟩ := dd.2.1.1 c hc
    obtain ⟨r1, r2, r3⟩ := L.1.1 c q1
    exact ⟨r1, r2.trans q2, r3.trans q3⟩
  · obtain ⟨q1, q2, q3⟩ := dd.2.1.2 c hc hs
    obtain ⟨r1, r2, r3⟩ := L.1.2 c (dd.2.1.1 c hc).1 (fun h9 => hn (List.mem_singleton.mp h9 ▸ hc))
    exact ⟨r1.trans q1, r2.trans q2, r3.trans q3⟩
theorem dX10_init_0 : decode cX10_init 0 = .ok (.aload_n 0, 1) := by decide +kernel
theorem dX10_init_1 : decode cX10_init 1 = .ok (.invokespecial 3, 3) := by decide +kernel
theorem dX10_init_4 : decode cX10_init 4 = .ok (.aload_n 0, 1) := by decide +kernel
theorem dX10_init_5 : decode cX10_init 5 = .ok (.bipush 6, 2) := by decide +kernel
theorem dX10_init_7 : decode cX10_init 7 = .ok (.anewarray 9, 3) := by decide +kernel
theorem dX10_init_10 : decode cX10_init 10 = .ok (.putfield 11, 3) := by decide +kernel
theorem dX10_init_13 : decode cX10_init 13 = .ok (.aload_n 0, 1) := by decide +kernel
theorem dX10_init_14 : decode cX10_init 14 = .ok (.bipush 6, 2) := by decide +kernel
theorem dX10_init_16 : decode cX10_init 16 = .ok (.newarray .int, 2) := by decide +kernel
theorem dX10_init_18 : decode cX10_init 18 = .ok (.putfield 17, 3) := by decide +kernel
theorem dX10_init_21 : decode cX10_init 21 = .ok (.aload_n 0, 1) := by decide +kernel
theorem dX10_init_22 : decode cX10_init 22 = .ok (.iconst 4, 1) := by decide +kernel
theorem dX10_init_23 : decode cX10_init 23 = .ok (.anewarray 21, 3) := by decide +kernel
theorem dX10_init_26 : decode cX10_init 26 = .ok (.putfield 23, 3) := by decide +kernel
theorem dX10_init_29 : decode cX10_init 29 = .ok (.iconst 0, 1) := by decide +kernel
theorem dX10_init_30 : decode cX10_init 30 = .ok (.istore_n 1, 1) := by decide +kernel
theorem dX10_init_31 : decode cX10_init 31 = .ok (.iload_n 1, 1) := by decide +kernel
theorem dX10_init_32 : decode cX10_init 32 = .ok (.iconst 4, 1) := by decide +kernel
theorem dX10_init_33 : decode cX10_init 33 = .ok (.if_icmp .ge 22, 3) := by decide +kernel
theorem dX10_init_36 : decode cX10_init 36 = .ok (.aload_n 0, 1) := by decide +kernel
theorem dX10_init_37 : decode cX10_init 37 = .ok (.getfield 23, 3) := by decide +kernel
theorem dX10_init_40 : decode cX10_init 40 = .ok (.iload_n 1, 1) := by decide +kernel
theorem dX10_init_41 : decode cX10_init 41 = .ok (.new 21, 3) := by decide +kernel
theorem dX10_init_44 : decode cX10_init 44 = .ok (.dup, 1) := by decide +kernel
theorem dX10_init_45 : decode cX10_init 45 = .ok (.invokespecial 27, 3) := by decide +kernel
theorem dX10_init_48 : decode cX10_init 48 = .ok (.aastore, 1) := by decide +kernel
theorem dX10_init_49 : decode cX10_init 49 = .ok (.iinc 1 1, 3) := by decide +kernel
theorem dX10_init_52 : decode cX10_init 52 = .ok (.goto (-21), 3) := by decide +kernel
theorem dX10_init_55 : decode cX10_init 55 = .ok (.return_, 1) := by decide +kernel
set_option maxHeartbeats 4000000 in
set_option maxRecDepth 100000 in
theorem c_X10_init {P : PP} {a : Nat} {S : List Nat} (ha : a ∈ pL P) (haK : pK P a = 10) (hr : ∀ k, pR P a k = none) (hg : xAG (a :: S) P) (z : zG P)  : CtrV yX10_init cX10_init 2 none ({ frames := 3, cells := 15, slots := 192, locals := 192 } : Room) 15 192 P [.ref a] (fun P2 => xAG S P2 ∧ xExt [a] P P2 ∧ zG P2) := by
  have D0 := yDn.zero ha hg z hr
  refine enV (lv := [(0, .ref a)]) (by decide) (Nat.le_of_ble_eq_true rfl) rfl (fun E D cy C Ci0 ret => ?_)
  have Ci9 := Ci0 rfl
  refine g_aload_n C dX10_init_0 rfl 0 rfl ?_
  refine g_objInit C oi_X10_3 oi_inst oi_code (by decide) (by decide) (Nat.le_of_ble_eq_true rfl) dX10_init_1 ?_
  refine g_aload_n C dX10_init_4 rfl 0 rfl ?_
  refine g_bipush (v := 6) C dX10_init_5 (by decide) ?_
  refine g_newQ (kd := 20) (N := 6) C (by decide) cl_X10_9 ao_X7 (by decide) rfl (by decide) (by decide) (by decide) dX10_init_7 (fun q932 h933 => ?_)
  refine g_putFR C fi_X10_11 Ci9 ⟨_, rfl, rfl⟩ rfl ((xExt.new (S := []) h933).1 _ D0.mem).1 (((xExt.new (S := []) h933).1 _ D0.mem).2.1.trans (D0.kind.trans haK)) dX10_init_10 ?_
  have D934 := D0.arr (k := 0) h933 (show shp (pK P a) 0 = some (20, 6) by rw [haK]; rfl) (by decide) (by decide)
  generalize pSR (pNw P q932 20 6) a 0 (some q932) = P935 at D934  ⊢
  refine g_aload_n C dX10_init_13 rfl 0 rfl ?_
  refine g_bipush (v := 6) C dX10_init_14 (by decide) ?_
  refine g_newI (N := 6) C ac_int (by decide) rfl (by decide) (by decide) (by decide) dX10_init_16 (fun q936 h937 => ?_)
  refine g_putFR C fi_X10_17 Ci9 ⟨_, rfl, rfl⟩ rfl ((xExt.new (S := []) h937).1 _ D934.mem).1 (((xExt.new (S := []) h937).1 _ D934.mem).2.1.trans (D934.kind.trans haK)) dX10_init_18 ?_
  have D938 := D934.arr (k := 1) h937 (show shp (pK P a) 1 = some (13, 6) by rw [haK]; rfl) (by decide) (by decide)
  generalize pSR (pNw P935 q936 13 6) a 1 (some q936) = P939 at D938  ⊢
  refine g_aload_n C dX10_init_21 rfl 0 rfl ?_
  refine g_iconst (v := 4) C dX10_init_22 (by decide) ?_
  refine g_newQ (kd := 16) (N := 4) C (by decide) cl_X10_21 ao_X0 (by decide) rfl (by decide) (by decide) (by decide) dX10_init_23 (fun q940 h941 => ?_)
  refine g_putFR C fi_X10_23 Ci9 ⟨_, rfl, rfl⟩ rfl ((xExt.new (S := []) h941).1 _ D938.mem).1 (((xExt.new (S := []) h941).1 _ D938.mem).2.1.trans (D938.kind.trans haK)) dX10_init_26 ?_
  have e943 : pR (pSR (pNw P939 q940 16 4) a 2 (some q940)) a 2 = some q940 := R_put
  have D942 := D938.arrQ (k := 2) h941 (show shp (pK P a) 2 = some (16, 4) by rw [haK]; rfl)
  generalize pSR (pNw P939 q940 16 4) a 2 (some q940) = P944 at D942 e943 ⊢
  refine g_iconst (v := 0) C dX10_init_29 (by decide) ?_
  refine g_istore_n (lv' := [(1, .int 0), (0, .ref a)]) C dX10_init_30 rfl (by decide) rfl ?_
  have dd := D942.done haK (by decide) (kin (by decide +kernel))
  have hq := fd_at D942 haK (by decide) (k := 2) rfl e943
  have L0 : LI [q940] (q940 :: S) P944 P944 := ⟨xExt.rf, dd.1, dd.2.2⟩
  have f0 := yFl.zero hq.1 hq.2.1 hq.2.2
  have am := D942.mem
  have aK := D942.kind.trans haK
  have anT : a ∉ [q940] := fun h9 => by have h8 := hq.2.1; rw [← List.mem_singleton.mp h9, aK] at h8; omega
  have lp948 : ∀ (n950 i945 : Nat), i945 + n950 = 4 → ∀ (P951 : PP), (LI [q940] (q940 :: S) P944 P951) → (yFl P951 q940 16 4 i945) → G E ({ frames := 3, cells := 15, slots := 192, locals := 192 } : Room) D cy 2 P951 (3 + i945 * 3) (16 + i945 * 44) 31 [(1, .int (nI i945)), (0, .ref a)] [] := by
    intro n950
    induction n950 with
    | zero =>
      intro i945 hi946 P951 L952 f953
      have ei947 : (nI i945).toInt = (i945 : Int) := ti_nI (by omega)
      have ehi946 : i945 = 4 := by omega
      subst ehi946
      refine g_iload_n C dX10_init_31 rfl 0 rfl ?_
      refine g_iconst (v := 4) C dX10_init_32 (by decide) ?_
      refine b_icmp_ge C 55 dX10_init_33 (by decide) (fun h954 => ?_) (fun h954 => ?_)
      · have h954 : 4 ≤ (nI 4).toInt := h954
        exact ret _ _ _ _ _ dX10_init_55 (by omega) (by omega) (w_done dd (D942.2.2.1 _ _ e943).2.1 L952 f953)
      · have h954 : (nI 4).toInt < 4 := h954
        omega
    | succ n950 ih949 =>
      intro i945 hi946 P951 L952 f953
      have ei947 : (nI i945).toInt = (i945 : Int) := ti_nI (by omega)
      refine g_iload_n C dX10_init_31 rfl 0 rfl ?_
      refine g_iconst (v := 4) C dX10_init_32 (by decide) ?_
      refine b_icmp_ge C 55 dX10_init_33 (by decide) (fun h955 => ?_) (fun h955 => ?_)
      · have h955 : 4 ≤ (nI i945).toInt := h955
        omega
      · have h955 : (nI i945).toInt < 4 := h955
        refine g_aload_n C dX10_init_36 rfl 1 rfl ?_
        refine g_getR C fi_X10_23 rfl ((by rw [(L952.1.2 a am anT).2.1]; exact e943)) (L952.1.1 a am).1 ((L952.1.1 a am).2.1.trans aK) dX10_init_37 ?_
        refine g_iload_n C dX10_init_40 rfl 0 rfl ?_
        refine g_new C ni_X10_21 (show (3 + i945 * 3) + 1 ≤ 15 by omega) (show (16 + i945 * 44) + 4 ≤ 192 by omega) dX10_init_41 (fun q956 h957 => ?_)
        refine g_dup C dX10_init_44 rfl ?_
        refine g_callNV (ci := 0) (ret := none) (rest := [.ref q956, .int (nI i945), .ref q940]) C mn_X10_27 [] (c_X0_init (S := (q940 :: S)) in_new K_new (fun _ => by rw [R_new]) (L952.2.1.new h957) (L952.2.2.new h957)) rfl rfl (by decide) (Nat.le_of_ble_eq_true rfl) (⟨show ((3 + i945 * 3) + 1) + 2 ≤ 15 by omega, show ((16 + i945 * 44) + 4) + 40 ≤ 192 by omega⟩) dX10_init_45 (fun Q959 h960 => ?_)
        obtain ⟨x961L, x961, x961m, x961k⟩ := L952.obj h957 h960
        have f962 := f953.more x961
        refine g_astR (j := i945) C f962.1 f962.2.1 (by decide) (IX.inn f962.2.2.1 (by omega) (by decide)) x961m x961k (by decide) rfl rfl dX10_init_48 ?_
        have L963 := x961L.putR (a := q940) (k := i945) (v := some q956) (by simp) (by simp)
        have f964 := f962.put (b := q956) x961m x961k
        generalize pSR Q959 q940 i945 (some q956) = P965 at L963 f964 ⊢
        refine g_iinc (v := (nI (i945 + 1))) (lv' := [(1, .int (nI (i945 + 1))), (0, .ref a)]) C dX10_init_49 0 rfl (nI_1 _) (by decide) rfl ?_
        refine g_goto C 31 dX10_init_52 (by decide) ?_
        refine g_widen (cs2 := (3 + (i945 + 1) * 3)) (sl2 := (16 + (i945 + 1) * 44)) (by omega) (by omega) ?_
        exact ih949 (i945 + 1) (by omega) _ L963 f964
  exact lp948 4 0 rfl _ L0 f0
theorem dX11_init_0 : decode cX11_init 0 = .ok (.aload_n 0, 1) := by decide +kernel
theorem dX11_init_1 : decode cX11_init 1 = .ok (.invokespecial 3, 3) := by decide +kernel
theorem dX11_init_4 : decode cX11_init 4 = .ok (.aload_n 0, 1) := by decide +kernel
theorem dX11_init_5 : decode cX11_init 5 = .ok (.iconst 2, 1) := by decide +kernel
theorem dX11_init_6 : decode cX11_init 6 = .ok (.anewarray 9, 3) := by decide +kernel
theorem dX11_init_9 : decode cX11_init 9 = .ok (.putfield 11, 3) := by decide +kernel
theorem dX11_init_12 : decode cX11_init 12 = .ok (.aload_n 0, 1) := by decide +kernel
theorem dX11_init_13 : decode cX11_init 13 = .ok (.iconst 4, 1) := by decide +kernel
theorem dX11_init_14 : decode cX11_init 14 = .ok (.anewarray 15, 3) := by decide +kernel
theorem dX11_init_17 : decode cX11_init 17 = .ok (.putfield 17, 3) := by decide +kernel
theorem dX11_init_20 : decode cX11_init 20 = .ok (.aload_n 0, 1) := by decide +kernel
theorem dX11_init_21 : decode cX11_init 21 = .ok (.bipush 16, 2) := by decide +kernel
theorem dX11_init_23 : decode cX11_init 23 = .ok (.anewarray 15, 3) := by decide +kernel
theorem dX11_init_26 : decode cX11_init 26 = .ok (.putfield 21, 3) := by decide +kernel
theorem dX11_init_29 : decode cX11_init 29 = .ok (.aload_n 0, 1) := by decide +kernel
theorem dX11_init_30 : decode cX11_init 30 = .ok (.iconst 4, 1) := by decide +kernel
theorem dX11_init_31 : decode cX11_init 31 = .ok (.newarray .boolean, 2) := by decide +kernel
theorem dX11_init_33 : decode cX11_init 33 = .ok (.putfield 24, 3) := by decide +kernel
theorem dX11_init_36 : decode cX11_init 36 = .ok (.aload_n 0, 1) := by decide +kernel
theorem dX11_init_37 : decode cX11_init 37 = .ok (.iconst 4, 1) := by decide +kernel
theorem dX11_init_38 : decode cX11_init 38 = .ok (.newarray .int, 2) := by decide +kernel
theorem dX11_init_40 : decode cX11_init 40 = .ok (.putfield 28, 3) := by decide +kernel
theorem dX11_init_43 : decode cX11_init 43 = .ok (.aload_n 0, 1) := by decide +kernel
theorem dX11_init_44 : decode cX11_init 44 = .ok (.iconst 4, 1) := by decide +kernel
theorem dX11_init_45 : decode cX11_init 45 = .ok (.newarray .int, 2) := by decide +kernel
theorem dX11_init_47 : decode cX11_init 47 = .ok (.putfield 32, 3) := by decide +kernel
theorem dX11_init_50 : decode cX11_init 50 = .ok (.aload_n 0, 1) := by decide +kernel
theorem dX11_init_51 : decode cX11_init 51 = .ok (.iconst 4, 1) := by decide +kernel
theorem dX11_init_52 : decode cX11_init 52 = .ok (.newarray .int, 2) := by decide +kernel
theorem dX11_init_54 : decode cX11_init 54 = .ok (.putfield 35, 3) := by decide +kernel
theorem dX11_init_57 : decode cX11_init 57 = .ok (.aload_n 0, 1) := by decide +kernel
theorem dX11_init_58 : decode cX11_init 58 = .ok (.new 38, 3) := by decide +kernel
theorem dX11_init_61 : decode cX11_init 61 = .ok (.dup, 1) := by decide +kernel
theorem dX11_init_62 : decode cX11_init 62 = .ok (.invokespecial 40, 3) := by decide +kernel
theorem dX11_init_65 : decode cX11_init 65 = .ok (.putfield 41, 3) := by decide +kernel
theorem dX11_init_68 : decode cX11_init 68 = .ok (.aload_n 0, 1) := by decide +kernel
theorem dX11_init_69 : decode cX11_init 69 = .ok (.iconst 2, 1) := by decide +kernel
theorem dX11_init_70 : decode cX11_init 70 = .ok (.anewarray 45, 3) := by decide +kernel
theorem dX11_init_73 : decode cX11_init 73 = .ok (.putfield 47, 3) := by decide +kernel
theorem dX11_init_76 : decode cX11_init 76 = .ok (.aload_n 0, 1) := by decide +kernel
theorem dX11_init_77 : decode cX11_init 77 = .ok (.iconst 2, 1) := by decide +kernel
theorem dX11_init_78 : decode cX11_init 78 = .ok (.anewarray 51, 3) := by decide +kernel
theorem dX11_init_81 : decode cX11_init 81 = .ok (.putfield 53, 3) := by decide +kernel
theorem dX11_init_84 : decode cX11_init 84 = .ok (.aload_n 0, 1) := by decide +kernel
theorem dX11_init_85 : decode cX11_init 85 = .ok (.new 57, 3) := by decide +kernel
theorem dX11_init_88 : decode cX11_init 88 = .ok (.dup, 1) := by decide +kernel
theorem dX11_init_89 : decode cX11_init 89 = .ok (.invokespecial 59, 3) := by decide +kernel
theorem dX11_init_92 : decode cX11_init 92 = .ok (.putfield 60, 3) := by decide +kernel
theorem dX11_init_95 : decode cX11_init 95 = .ok (.aload_n 0, 1) := by decide +kernel
theorem dX11_init_96 : decode cX11_init 96 = .ok (.new 64, 3) := by decide +kernel
theorem dX11_init_99 : decode cX11_init 99 = .ok (.dup, 1) := by decide +kernel
theorem dX11_init_100 : decode cX11_init 100 = .ok (.invokespecial 66, 3) := by decide +kernel
theorem dX11_init_103 : decode cX11_init 103 = .ok (.putfield 67, 3) := by decide +kernel
theorem dX11_init_106 : decode cX11_init 106 = .ok (.aload_n 0, 1) := by decide +kernel
theorem dX11_init_107 : decode cX11_init 107 = .ok (.new 71, 3) := by decide +kernel
theorem dX11_init_110 : decode cX11_init 110 = .ok (.dup, 1) := by decide +kernel
theorem dX11_init_111 : decode cX11_init 111 = .ok (.invokespecial 73, 3) := by decide +kernel
theorem dX11_init_114 : decode cX11_init 114 = .ok (.putfield 74, 3) := by decide +kernel
theorem dX11_init_117 : decode cX11_init 117 = .ok (.iconst 0, 1) := by decide +kernel
theorem dX11_init_118 : decode cX11_init 118 = .ok (.istore_n 1, 1) := by decide +kernel
theorem dX11_init_119 : decode cX11_init 119 = .ok (.iload_n 1, 1) := by decide +kernel
theorem dX11_init_120 : decode cX11_init 120 = .ok (.iconst 2, 1) := by decide +kernel
theorem dX11_init_121 : decode cX11_init 121 = .ok (.if_icmp .ge 23, 3) := by decide +kernel
theorem dX11_init_124 : decode cX11_init 124 = .ok (.aload_n 0, 1) := by decide +kernel
theorem dX11_init_125 : decode cX11_init 125 = .ok (.getfield 11, 3) := by decide +kernel
theorem dX11_init_128 : decode cX11_init 128 = .ok (.iload_n 1, 1) := by decide +kernel
theorem dX11_init_129 : decode cX11_init 129 = .ok (.new 9, 3) := by decide +kernel
theorem dX11_init_132 : decode cX11_init 132 = .ok (.dup, 1) := by decide +kernel
theorem dX11_init_133 : decode cX11_init 133 = .ok (.iload_n 1, 1) := by decide +kernel
theorem dX11_init_134 : decode cX11_init 134 = .ok (.invokespecial 78, 3) := by decide +kernel
theorem dX11_init_137 : decode cX11_init 137 = .ok (.aastore, 1) := by decide +kernel
theorem dX11_init_138 : decode cX11_init 138 = .ok (.iinc 1 1, 3) := by decide +kernel
theorem dX11_init_141 : decode cX11_init 141 = .ok (.goto (-22), 3) := by decide +kernel
theorem dX11_init_144 : decode cX11_init 144 = .ok (.iconst 0, 1) := by decide +kernel
theorem dX11_init_145 : decode cX11_init 145 = .ok (.istore_n 1, 1) := by decide +kernel
theorem dX11_init_146 : decode cX11_init 146 = .ok (.iload_n 1, 1) := by decide +kernel
theorem dX11_init_147 : decode cX11_init 147 = .ok (.iconst 4, 1) := by decide +kernel
theorem dX11_init_148 : decode cX11_init 148 = .ok (.if_icmp .ge 29, 3) := by decide +kernel
theorem dX11_init_151 : decode cX11_init 151 = .ok (.aload_n 0, 1) := by decide +kernel
theorem dX11_init_152 : decode cX11_init 152 = .ok (.getfield 17, 3) := by decide +kernel
theorem dX11_init_155 : decode cX11_init 155 = .ok (.iload_n 1, 1) := by decide +kernel
theorem dX11_init_156 : decode cX11_init 156 = .ok (.new 15, 3) := by decide +kernel
theorem dX11_init_159 : decode cX11_init 159 = .ok (.dup, 1) := by decide +kernel
theorem dX11_init_160 : decode cX11_init 160 = .ok (.invokespecial 81, 3) := by decide +kernel
theorem dX11_init_163 : decode cX11_init 163 = .ok (.aastore, 1) := by decide +kernel
theorem dX11_init_164 : decode cX11_init 164 = .ok (.aload_n 0, 1) := by decide +kernel
theorem dX11_init_165 : decode cX11_init 165 = .ok (.getfield 32, 3) := by decide +kernel
theorem dX11_init_168 : decode cX11_init 168 = .ok (.iload_n 1, 1) := by decide +kernel
theorem dX11_init_169 : decode cX11_init 169 = .ok (.iconst 1, 1) := by decide +kernel
theorem dX11_init_170 : decode cX11_init 170 = .ok (.iastore, 1) := by decide +kernel
theorem dX11_init_171 : decode cX11_init 171 = .ok (.iinc 1 1, 3) := by decide +kernel
theorem dX11_init_174 : decode cX11_init 174 = .ok (.goto (-28), 3) := by decide +kernel
theorem dX11_init_177 : decode cX11_init 177 = .ok (.iconst 0, 1) := by decide +kernel
theorem dX11_init_178 : decode cX11_init 178 = .ok (.istore_n 1, 1) := by decide +kernel
theorem dX11_init_179 : decode cX11_init 179 = .ok (.iload_n 1, 1) := by decide +kernel
theorem dX11_init_180 : decode cX11_init 180 = .ok (.bipush 16, 2) := by decide +kernel
theorem dX11_init_182 : decode cX11_init 182 = .ok (.if_icmp .ge 22, 3) := by decide +kernel
theorem dX11_init_185 : decode cX11_init 185 = .ok (.aload_n 0, 1) := by decide +kernel
theorem dX11_init_186 : decode cX11_init 186 = .ok (.getfield 21, 3) := by decide +kernel
theorem dX11_init_189 : decode cX11_init 189 = .ok (.iload_n 1, 1) := by decide +kernel
theorem dX11_init_190 : decode cX11_init 190 = .ok (.new 15, 3) := by decide +kernel
theorem dX11_init_193 : decode cX11_init 193 = .ok (.dup, 1) := by decide +kernel
theorem dX11_init_194 : decode cX11_init 194 = .ok (.invokespecial 81, 3) := by decide +kernel
theorem dX11_init_197 : decode cX11_init 197 = .ok (.aastore, 1) := by decide +kernel
theorem dX11_init_198 : decode cX11_init 198 = .ok (.iinc 1 1, 3) := by decide +kernel
theorem dX11_init_201 : decode cX11_init 201 = .ok (.goto (-22), 3) := by decide +kernel
theorem dX11_init_204 : decode cX11_init 204 = .ok (.iconst 0, 1) := by decide +kernel
theorem dX11_init_205 : decode cX11_init 205 = .ok (.istore_n 1, 1) := by decide +kernel
theorem dX11_init_206 : decode cX11_init 206 = .ok (.iload_n 1, 1) := by decide +kernel
theorem dX11_init_207 : decode cX11_init 207 = .ok (.iconst 2, 1) := by decide +kernel
theorem dX11_init_208 : decode cX11_init 208 = .ok (.if_icmp .ge 35, 3) := by decide +kernel
theorem dX11_init_211 : decode cX11_init 211 = .ok (.aload_n 0, 1) := by decide +kernel
theorem dX11_init_212 : decode cX11_init 212 = .ok (.getfield 47, 3) := by decide +kernel
theorem dX11_init_215 : decode cX11_init 215 = .ok (.iload_n 1, 1) := by decide +kernel
theorem dX11_init_216 : decode cX11_init 216 = .ok (.new 45, 3) := by decide +kernel
theorem dX11_init_219 : decode cX11_init 219 = .ok (.dup, 1) := by decide +kernel
theorem dX11_init_220 : decode cX11_init 220 = .ok (.invokespecial 82, 3) := by decide +kernel
theorem dX11_init_223 : decode cX11_init 223 = .ok (.aastore, 1) := by decide +kernel
theorem dX11_init_224 : decode cX11_init 224 = .ok (.aload_n 0, 1) := by decide +kernel
theorem dX11_init_225 : decode cX11_init 225 = .ok (.getfield 53, 3) := by decide +kernel
theorem dX11_init_228 : decode cX11_init 228 = .ok (.iload_n 1, 1) := by decide +kernel
theorem dX11_init_229 : decode cX11_init 229 = .ok (.new 51, 3) := by decide +kernel
theorem dX11_init_232 : decode cX11_init 232 = .ok (.dup, 1) := by decide +kernel
theorem dX11_init_233 : decode cX11_init 233 = .ok (.invokespecial 83, 3) := by decide +kernel
theorem dX11_init_236 : decode cX11_init 236 = .ok (.aastore, 1) := by decide +kernel
theorem dX11_init_237 : decode cX11_init 237 = .ok (.iinc 1 1, 3) := by decide +kernel
theorem dX11_init_240 : decode cX11_init 240 = .ok (.goto (-34), 3) := by decide +kernel
theorem dX11_init_243 : decode cX11_init 243 = .ok (.return_, 1) := by decide +kernel
set_option maxHeartbeats 4000000 in
set_option maxRecDepth 100000 in
theorem c_X11_init {P : PP} {a : Nat} {S : List Nat} (ha : a ∈ pL P) (haK : pK P a = 11) (hr : ∀ k, pR P a k = none) (hg : xAG (a :: S) P) (z : zG P) (hS : S = []) (hz : ∀ j, pI P a j = 0) : CtrV yX11_init cX11_init 2 none ({ frames := 4, cells := 119, slots := 3017, locals := 256 } : Room) 119 3017 P [.ref a] (fun P2 => FC P2 a) := by
  subst hS
  have D0 := yDn.zero ha hg z hr
  refine enV (lv := [(0, .ref a)]) (by decide) (Nat.le_of_ble_eq_true rfl) rfl (fun E D cy C Ci0 ret => ?_)
  have Ci9 := Ci0 rfl
  refine g_aload_n C dX11_init_0 rfl 0 rfl ?_
  refine g_objInit C oi_X11_3 oi_inst oi_code (by decide) (by decide) (Nat.le_of_ble_eq_true rfl) dX11_init_1 ?_
  refine g_aload_n C dX11_init_4 rfl 0 rfl ?_
  refine g_iconst (v := 2) C dX11_init_5 (by decide) ?_
  refine g_newQ (kd := 17) (N := 2) C (by decide) cl_X11_9 ao_X1 (by decide) rfl (by decide) (by decide) (by decide) dX11_init_6 (fun q966 h967 => ?_)
  refine g_putFR C fi_X11_11 Ci9 ⟨_, rfl, rfl⟩ rfl ((xExt.new (S := []) h967).1 _ D0.mem).1 (((xExt.new (S := []) h967).1 _ D0.mem).2.1.trans (D0.kind.trans haK)) dX11_init_9 ?_
  have e969 : pR (pSR (pNw P q966 17 2) a 0 (some q966)) a 0 = some q966 := R_put
  have D968 := D0.arrQ (k := 0) h967 (show shp (pK P a) 0 = some (17, 2) by rw [haK]; rfl)
  generalize pSR (pNw P q966 17 2) a 0 (some q966) = P970 at D968 e969 ⊢
  refine g_aload_n C dX11_init_12 rfl 0 rfl ?_
  refine g_iconst (v := 4) C dX11_init_13 (by decide) ?_
  refine g_newQ (kd := 19) (N := 4) C (by decide) cl_X11_15 ao_X6 (by decide) rfl (by decide) (by decide) (by decide) dX11_init_14 (fun q971 h972 => ?_)
  refine g_putFR C fi_X11_17 Ci9 ⟨_, rfl, rfl⟩ rfl ((xExt.new (S := []) h972).1 _ D968.mem).1 (((xExt.new (S := []) h972).1 _ D968.mem).2.1.trans (D968.kind.trans haK)) dX11_init_17 ?_
  have e974 := R_keep (k := 1) (kd := 19) (n := 4) (v := some q971) h972 D968.mem (by decide) e969
  have e975 : pR (pSR (pNw P970 q971 19 4) a 1 (some q971)) a 1 = some q971 := R_put
  have D973 := D968.arrQ (k := 1) h972 (show shp (pK P a) 1 = some (19, 4) by rw [haK]; rfl)
  generalize pSR (pNw P970 q971 19 4) a 1 (some q971) = P976 at D973 e974 e975 ⊢
  refine g_aload_n C dX11_init_20 rfl 0 rfl ?_
  refine g_bipush (v := 16) C dX11_init_21 (by decide) ?_
  refine g_newQ (kd := 19) (N := 16) C (by decide) cl_X11_15 ao_X6 (by decide) rfl (by decide) (by decide) (by decide) dX11_init_23 (fun q977 h978 => ?_)
  refine g_putFR C fi_X11_21 Ci9 ⟨_, rfl, rfl⟩ rfl ((xExt.new (S := []) h978).1 _ D973.mem).1 (((xExt.new (S := []) h978).1 _ D973.mem).2.1.trans (D973.kind.trans haK)) dX11_init_26 ?_
  have e980 := R_keep (k := 2) (kd := 19) (n := 16) (v := some q977) h978 D973.mem (by decide) e974
  have e981 := R_keep (k := 2) (kd := 19) (n := 16) (v := some q977) h978 D973.mem (by decide) e975
  have e982 : pR (pSR (pNw P976 q977 19 16) a 2 (some q977)) a 2 = some q977 := R_put
  have D979 := D973.arrQ (k := 2) h978 (show shp (pK P a) 2 = some (19, 16) by rw [haK]; rfl)
  generalize pSR (pNw P976 q977 19 16) a 2 (some q977) = P983 at D979 e980 e981 e982 ⊢
  refine g_aload_n C dX11_init_29 rfl 0 rfl ?_
  refine g_iconst (v := 4) C dX11_init_30 (by decide) ?_
  refine g_newZ (N := 4) C ac_boolean (by decide) rfl (by decide) (by decide) (by decide) dX11_init_31 (fun q984 h985 => ?_)
  refine g_putFR C fi_X11_24 Ci9 ⟨_, rfl, rfl⟩ rfl ((xExt.new (S := []) h985).1 _ D979.mem).1 (((xExt.new (S := []) h985).1 _ D979.mem).2.1.trans (D979.kind.trans haK)) dX11_init_33 ?_
  have e987 := R_keep (k := 3) (kd := 15) (n := 4) (v := some q984) h985 D979.mem (by decide) e980
  have e988 := R_keep (k := 3) (kd := 15) (n := 4) (v := some q984) h985 D979.mem (by decide) e981
  have e989 := R_keep (k := 3) (kd := 15) (n := 4) (v := some q984) h985 D979.mem (by decide) e982
  have D986 := D979.arr (k := 3) h985 (show shp (pK P a) 3 = some (15, 4) by rw [haK]; rfl) (by decide) (by decide)
  generalize pSR (pNw P983 q984 15 4) a 3 (some q984) = P990 at D986 e987 e988 e989 ⊢
  refine g_aload_n C dX11_init_36 rfl 0 rfl ?_
  refine g_iconst (v := 4) C dX11_init_37 (by decide) ?_
  refine g_newI (N := 4) C ac_int (by decide) rfl (by decide) (by decide) (by decide) dX11_init_38 (fun q991 h992 => ?_)
  refine g_putFR C fi_X11_28 Ci9 ⟨_, rfl, rfl⟩ rfl ((xExt.new (S := []) h992).1 _ D986.mem).1 (((xExt.new (S := []) h992).1 _ D986.mem).2.1.trans (D986.kind.trans haK)) dX11_init_40 ?_
  have e994 := R_keep (k := 4) (kd := 13) (n := 4) (v := some q991) h992 D986.mem (by decide) e987
  have e995 := R_keep (k := 4) (kd := 13) (n := 4) (v := some q991) h992 D986.mem (by decide) e988
  have e996 := R_keep (k := 4) (kd := 13) (n := 4) (v := some q991) h992 D986.mem (by decide) e989
  have D993 := D986.arr (k := 4) h992 (show shp (pK P a) 4 = some (13, 4) by rw [haK]; rfl) (by decide) (by decide)
  generalize pSR (pNw P990 q991 13 4) a 4 (some q991) = P997 at D993 e994 e995 e996 ⊢
  refine g_aload_n C dX11_init_43 rfl 0 rfl ?_
  refine g_iconst (v := 4) C dX11_init_44 (by decide) ?_
  refine g_newI (N := 4) C ac_int (by decide) rfl (by decide) (by decide) (by decide) dX11_init_45 (fun q998 h999 => ?_)
  refine g_putFR C fi_X11_32 Ci9 ⟨_, rfl, rfl⟩ rfl ((xExt.new (S := []) h999).1 _ D993.mem).1 (((xExt.new (S := []) h999).1 _ D993.mem).2.1.trans (D993.kind.trans haK)) dX11_init_47 ?_
  have e1001 := R_keep (k := 5) (kd := 13) (n := 4) (v := some q998) h999 D993.mem (by decide) e994
  have e1002 := R_keep (k := 5) (kd := 13) (n := 4) (v := some q998) h999 D993.mem (by decide) e995
  have e1003 := R_keep (k := 5) (kd := 13) (n := 4) (v := some q998) h999 D993.mem (by decide) e996
  have e1004 : pR (pSR (pNw P997 q998 13 4) a 5 (some q998)) a 5 = some q998 := R_put
  have D1000 := D993.arr (k := 5) h999 (show shp (pK P a) 5 = some (13, 4) by rw [haK]; rfl) (by decide) (by decide)
  generalize pSR (pNw P997 q998 13 4) a 5 (some q998) = P1005 at D1000 e1001 e1002 e1003 e1004 ⊢
  refine g_aload_n C dX11_init_50 rfl 0 rfl ?_
  refine g_iconst (v := 4) C dX11_init_51 (by decide) ?_
  refine g_newI (N := 4) C ac_int (by decide) rfl (by decide) (by decide) (by decide) dX11_init_52 (fun q1006 h1007 => ?_)
  refine g_putFR C fi_X11_35 Ci9 ⟨_, rfl, rfl⟩ rfl ((xExt.new (S := []) h1007).1 _ D1000.mem).1 (((xExt.new (S := []) h1007).1 _ D1000.mem).2.1.trans (D1000.kind.trans haK)) dX11_init_54 ?_
  have e1009 := R_keep (k := 6) (kd := 13) (n := 4) (v := some q1006) h1007 D1000.mem (by decide) e1001
  have e1010 := R_keep (k := 6) (kd := 13) (n := 4) (v := some q1006) h1007 D1000.mem (by decide) e1002
  have e1011 := R_keep (k := 6) (kd := 13) (n := 4) (v := some q1006) h1007 D1000.mem (by decide) e1003
  have e1012 := R_keep (k := 6) (kd := 13) (n := 4) (v := some q1006) h1007 D1000.mem (by decide) e1004
  have D1008 := D1000.arr (k := 6) h1007 (show shp (pK P a) 6 = some (13, 4) by rw [haK]; rfl) (by decide) (by decide)
  generalize pSR (pNw P1005 q1006 13 4) a 6 (some q1006) = P1013 at D1008 e1009 e1010 e1011 e1012 ⊢
  refine g_aload_n C dX11_init_57 rfl 0 rfl ?_
  refine g_new C ni_X11_38 (by decide) (by decide) dX11_init_58 (fun q1014 h1015 => ?_)
  refine g_dup C dX11_init_61 rfl ?_
  refine g_callNV (ci := 0) (ret := none) (rest := [.ref q1014, .ref a]) C mn_X11_40 [] (c_X4_init (S := a :: (q977 :: (q971 :: (q966 :: [])))) in_new K_new (fun _ => by rw [R_new]) (D1008.1.2.1.new h1015) (D1008.2.1.new h1015)) rfl rfl (by decide) (Nat.le_of_ble_eq_true rfl) (by decide) dX11_init_62 (fun Q1017 h1018 => ?_)
  refine g_putFR C fi_X11_41 Ci9 ⟨_, rfl, rfl⟩ rfl (((xExt.new (S := [q1014]) h1015).tr h1018.2.1).1 _ D1008.mem).1 ((((xExt.new (S := [q1014]) h1015).tr h1018.2.1).1 _ D1008.mem).2.1.trans (D1008.kind.trans haK)) dX11_init_65 ?_
  have e1020 := R_keepO (k := 7) (v := some q1014) h1015 D1008.mem (by decide) e1009 h1018.2.1
  have e1021 := R_keepO (k := 7) (v := some q1014) h1015 D1008.mem (by decide) e1010 h1018.2.1
  have e1022 := R_keepO (k := 7) (v := some q1014) h1015 D1008.mem (by decide) e1011 h1018.2.1
  have e1023 := R_keepO (k := 7) (v := some q1014) h1015 D1008.mem (by decide) e1012 h1018.2.1
  have D1019 := D1008.obj (k := 7) h1015 (by decide) h1018 (show shp (pK P a) 7 = some (4, 0) by rw [haK]; rfl)
  generalize pSR Q1017 a 7 (some q1014) = P1024 at D1019 e1020 e1021 e1022 e1023 ⊢
  refine g_aload_n C dX11_init_68 rfl 0 rfl ?_
  refine g_iconst (v := 2) C dX11_init_69 (by decide) ?_
  refine g_newQ (kd := 18) (N := 2) C (by decide) cl_X11_45 ao_X5 (by decide) rfl (by decide) (by decide) (by decide) dX11_init_70 (fun q1025 h1026 => ?_)
  refine g_putFR C fi_X11_47 Ci9 ⟨_, rfl, rfl⟩ rfl ((xExt.new (S := []) h1026).1 _ D1019.mem).1 (((xExt.new (S := []) h1026).1 _ D1019.mem).2.1.trans (D1019.kind.trans haK)) dX11_init_73 ?_
  have e1028 := R_keep (k := 8) (kd := 18) (n := 2) (v := some q1025) h1026 D1019.mem (by decide) e1020
  have e1029 := R_keep (k := 8) (kd := 18) (n := 2) (v := some q1025) h1026 D1019.mem (by decide) e1021
  have e1030 := R_keep (k := 8) (kd := 18) (n := 2) (v := some q1025) h1026 D1019.mem (by decide) e1022
  have e1031 := R_keep (k := 8) (kd := 18) (n := 2) (v := some q1025) h1026 D1019.mem (by decide) e1023
  have e1032 : pR (pSR (pNw P1024 q1025 18 2) a 8 (some q1025)) a 8 = some q1025 := R_put
  have D1027 := D1019.arrQ (k := 8) h1026 (show shp (pK P a) 8 = some (18, 2) by rw [haK]; rfl)
  generalize pSR (pNw P1024 q1025 18 2) a 8 (some q1025) = P1033 at D1027 e1028 e1029 e1030 e1031 e1032 ⊢
  refine g_aload_n C dX11_init_76 rfl 0 rfl ?_
  refine g_iconst (v := 2) C dX11_init_77 (by decide) ?_
  refine g_newQ (kd := 16) (N := 2) C (by decide) cl_X11_51 ao_X0 (by decide) rfl (by decide) (by decide) (by decide) dX11_init_78 (fun q1034 h1035 => ?_)
  refine g_putFR C fi_X11_53 Ci9 ⟨_, rfl, rfl⟩ rfl ((xExt.new (S := []) h1035).1 _ D1027.mem).1 (((xExt.new (S := []) h1035).1 _ D1027.mem).2.1.trans (D1027.kind.trans haK)) dX11_init_81 ?_
  have e1037 := R_keep (k := 9) (kd := 16) (n := 2) (v := some q1034) h1035 D1027.mem (by decide) e1028
  have e1038 := R_keep (k := 9) (kd := 16) (n := 2) (v := some q1034) h1035 D1027.mem (by decide) e1029
  have e1039 := R_keep (k := 9) (kd := 16) (n := 2) (v := some q1034) h1035 D1027.mem (by decide) e1030
  have e1040 := R_keep (k := 9) (kd := 16) (n := 2) (v := some q1034) h1035 D1027.mem (by decide) e1031
  have e1041 := R_keep (k := 9) (kd := 16) (n := 2) (v := some q1034) h1035 D1027.mem (by decide) e1032
  have e1042 : pR (pSR (pNw P1033 q1034 16 2) a 9 (some q1034)) a 9 = some q1034 := R_put
  have D1036 := D1027.arrQ (k := 9) h1035 (show shp (pK P a) 9 = some (16, 2) by rw [haK]; rfl)
  generalize pSR (pNw P1033 q1034 16 2) a 9 (some q1034) = P1043 at D1036 e1037 e1038 e1039 e1040 e1041 e1042 ⊢
  refine g_aload_n C dX11_init_84 rfl 0 rfl ?_
  refine g_new C ni_X11_57 (by decide) (by decide) dX11_init_85 (fun q1044 h1045 => ?_)
  refine g_dup C dX11_init_88 rfl ?_
  refine g_callNV (ci := 0) (ret := none) (rest := [.ref q1044, .ref a]) C mn_X11_59 [] (c_X8_init (S := a :: (q1034 :: (q1025 :: (q977 :: (q971 :: (q966 :: [])))))) in_new K_new (fun _ => by rw [R_new]) (D1036.1.2.1.new h1045) (D1036.2.1.new h1045)) rfl rfl (by decide) (Nat.le_of_ble_eq_true rfl) (by decide) dX11_init_89 (fun Q1047 h1048 => ?_)
  refine g_putFR C fi_X11_60 Ci9 ⟨_, rfl, rfl⟩ rfl (((xExt.new (S := [q1044]) h1045).tr h1048.2.1).1 _ D1036.mem).1 ((((xExt.new (S := [q1044]) h1045).tr h1048.2.1).1 _ D1036.mem).2.1.trans (D1036.kind.trans haK)) dX11_init_92 ?_
  have e1050 := R_keepO (k := 10) (v := some q1044) h1045 D1036.mem (by decide) e1037 h1048.2.1
  have e1051 := R_keepO (k := 10) (v := some q1044) h1045 D1036.mem (by decide) e1038 h1048.2.1
  have e1052 := R_keepO (k := 10) (v := some q1044) h1045 D1036.mem (by decide) e1039 h1048.2.1
  have e1053 := R_keepO (k := 10) (v := some q1044) h1045 D1036.mem (by decide) e1040 h1048.2.1
  have e1054 := R_keepO (k := 10) (v := some q1044) h1045 D1036.mem (by decide) e1041 h1048.2.1
  have e1055 := R_keepO (k := 10) (v := some q1044) h1045 D1036.mem (by decide) e1042 h1048.2.1
  have D1049 := D1036.obj (k := 10) h1045 (by decide) h1048 (show shp (pK P a) 10 = some (8, 0) by rw [haK]; rfl)
  generalize pSR Q1047 a 10 (some q1044) = P1056 at D1049 e1050 e1051 e1052 e1053 e1054 e1055 ⊢
  refine g_aload_n C dX11_init_95 rfl 0 rfl ?_
  refine g_new C ni_X11_64 (by decide) (by decide) dX11_init_96 (fun q1057 h1058 => ?_)
  refine g_dup C dX11_init_99 rfl ?_
  refine g_callNV (ci := 0) (ret := none) (rest := [.ref q1057, .ref a]) C mn_X11_66 [] (c_X2_init (S := a :: (q1034 :: (q1025 :: (q977 :: (q971 :: (q966 :: [])))))) in_new K_new (fun _ => by rw [R_new]) (D1049.1.2.1.new h1058) (D1049.2.1.new h1058)) rfl rfl (by decide) (Nat.le_of_ble_eq_true rfl) (by decide) dX11_init_100 (fun Q1060 h1061 => ?_)
  refine g_putFR C fi_X11_67 Ci9 ⟨_, rfl, rfl⟩ rfl (((xExt.new (S := [q1057]) h1058).tr h1061.2.1).1 _ D1049.mem).1 ((((xExt.new (S := [q1057]) h1058).tr h1061.2.1).1 _ D1049.mem).2.1.trans (D1049.kind.trans haK)) dX11_init_103 ?_
  have e1063 := R_keepO (k := 11) (v := some q1057) h1058 D1049.mem (by decide) e1050 h1061.2.1
  have e1064 := R_keepO (k := 11) (v := some q1057) h1058 D1049.mem (by decide) e1051 h1061.2.1
  have e1065 := R_keepO (k := 11) (v := some q1057) h1058 D1049.mem (by decide) e1052 h1061.2.1
  have e1066 := R_keepO (k := 11) (v := some q1057) h1058 D1049.mem (by decide) e1053 h1061.2.1
  have e1067 := R_keepO (k := 11) (v := some q1057) h1058 D1049.mem (by decide) e1054 h1061.2.1
  have e1068 := R_keepO (k := 11) (v := some q1057) h1058 D1049.mem (by decide) e1055 h1061.2.1
  have D1062 := D1049.obj (k := 11) h1058 (by decide) h1061 (show shp (pK P a) 11 = some (2, 0) by rw [haK]; rfl)
  generalize pSR Q1060 a 11 (some q1057) = P1069 at D1062 e1063 e1064 e1065 e1066 e1067 e1068 ⊢
  refine g_aload_n C dX11_init_106 rfl 0 rfl ?_
  refine g_new C ni_X11_71 (by decide) (by decide) dX11_init_107 (fun q1070 h1071 => ?_)
  refine g_dup C dX11_init_110 rfl ?_
  refine g_callCV (ci := 0) (ret := none) (rest := [.ref q1070, .ref a]) C mi_X11_73 [] (c_X10_init (S := a :: (q1034 :: (q1025 :: (q977 :: (q971 :: (q966 :: [])))))) in_new K_new (fun _ => by rw [R_new]) (D1062.1.2.1.new h1071) (D1062.2.1.new h1071)) rfl rfl (by decide) (Nat.le_of_ble_eq_true rfl) (by decide) dX11_init_111 (fun Q1073 h1074 => ?_)
  refine g_putFR C fi_X11_74 Ci9 ⟨_, rfl, rfl⟩ rfl (((xExt.new (S := [q1070]) h1071).tr h1074.2.1).1 _ D1062.mem).1 ((((xExt.new (S := [q1070]) h1071).tr h1074.2.1).1 _ D1062.mem).2.1.trans (D1062.kind.trans haK)) dX11_init_114 ?_
  have e1076 := R_keepO (k := 12) (v := some q1070) h1071 D1062.mem (by decide) e1063 h1074.2.1
  have e1077 := R_keepO (k := 12) (v := some q1070) h1071 D1062.mem (by decide) e1064 h1074.2.1
  have e1078 := R_keepO (k := 12) (v := some q1070) h1071 D1062.mem (by decide) e1065 h1074.2.1
  have e1079 := R_keepO (k := 12) (v := some q1070) h1071 D1062.mem (by decide) e1066 h1074.2.1
  have e1080 := R_keepO (k := 12) (v := some q1070) h1071 D1062.mem (by decide) e1067 h1074.2.1
  have e1081 := R_keepO (k := 12) (v := some q1070) h1071 D1062.mem (by decide) e1068 h1074.2.1
  have D1075 := D1062.obj (k := 12) h1071 (by decide) h1074 (show shp (pK P a) 12 = some (10, 0) by rw [haK]; rfl)
  generalize pSR Q1073 a 12 (some q1070) = P1082 at D1075 e1076 e1077 e1078 e1079 e1080 e1081 ⊢
  refine g_iconst (v := 0) C dX11_init_117 (by decide) ?_
  refine g_istore_n (lv' := [(1, .int 0), (0, .ref a)]) C dX11_init_118 rfl (by decide) rfl ?_
  have dd := D1075.done haK (by decide) (kin (by decide +kernel))
  have hq0 := fd_at D1075 haK (by decide) (k := 0) rfl e1076
  have hq1 := fd_at D1075 haK (by decide) (k := 1) rfl e1077
  have hq2 := fd_at D1075 haK (by decide) (k := 2) rfl e1078
  have hq8 := fd_at D1075 haK (by decide) (k := 8) rfl e1080
  have hq9 := fd_at D1075 haK (by decide) (k := 9) rfl e1081
  have hq5 := fd_at D1075 haK (by decide) (k := 5) rfl e1079
  have L0 : LI [q1034, q1025, q977, q971, q966, q998] [q1034, q1025, q977, q971, q966] P1082 P1082 := ⟨xExt.rf, dd.1, dd.2.2⟩
  have am := D1075.mem
  have aK := D1075.kind.trans haK
  have inj := D1075.2.2.2.1
  have anT : a ∉ [q1034, q1025, q977, q971, q966, q998] := fun h9 => by
    simp only [List.mem_cons, List.not_mem_nil, or_false] at h9
    rcases h9 with h | h | h | h | h | h <;> subst h <;> omega
  have f00 := yFl.zero hq0.1 hq0.2.1 hq0.2.2
  have f10 := yFl.zero hq1.1 hq1.2.1 hq1.2.2
  have f20 := yFl.zero hq2.1 hq2.2.1 hq2.2.2
  have f80 := yFl.zero hq8.1 hq8.2.1 hq8.2.2
  have f90 := yFl.zero hq9.1 hq9.2.1 hq9.2.2
  have g0 : ∀ j, j < 0 → pI P1082 q998 j = 1 := fun j hj => absurd hj (by omega)
  have lp1086 : ∀ (n1088 i1083 : Nat), i1083 + n1088 = 2 → ∀ (P1089 : PP), (LI [q1034, q1025, q977, q971, q966, q998] [q1034, q1025, q977, q971, q966] P1082 P1089) → (yFl P1089 q966 17 2 i1083) → (yFl P1089 q971 19 4 0) → (yFl P1089 q977 19 16 0) → (yFl P1089 q1025 18 2 0) → (yFl P1089 q1034 16 2 0) → ((∀ j, j < 0 → pI P1089 q998 j = 1)) → G E ({ frames := 4, cells := 119, slots := 3017, locals := 256 } : Room) D cy 2 P1089 (51 + i1083 * 6) (1601 + i1083 * 114) 119 [(1, .int (nI i1083)), (0, .ref a)] [] := by
    intro n1088
    induction n1088 with
    | zero =>
      intro i1083 hi1084 P1089 L1090 f1091 f1092 f1093 f1094 f1095 g1096
      have ei1085 : (nI i1083).toInt = (i1083 : Int) := ti_nI (by omega)
      have ehi1084 : i1083 = 2 := by omega
      subst ehi1084
      refine g_iload_n C dX11_init_119 rfl 0 rfl ?_
      refine g_iconst (v := 2) C dX11_init_120 (by decide) ?_
      refine b_icmp_ge C 144 dX11_init_121 (by decide) (fun h1097 => ?_) (fun h1097 => ?_)
      · have h1097 : 2 ≤ (nI 2).toInt := h1097
        refine g_iconst (v := 0) C dX11_init_144 (by decide) ?_
        refine g_istore_n (lv' := [(1, .int 0), (0, .ref a)]) C dX11_init_145 rfl (by decide) rfl ?_
        have lp1101 : ∀ (n1103 i1098 : Nat), i1098 + n1103 = 4 → ∀ (P1104 : PP), (LI [q1034, q1025, q977, q971, q966, q998] [q1034, q1025, q977, q971, q966] P1082 P1104) → (yFl P1104 q966 17 2 2) → (yFl P1104 q971 19 4 i1098) → (yFl P1104 q977 19 16 0) → (yFl P1104 q1025 18 2 0) → (yFl P1104 q1034 16 2 0) → ((∀ j, j < i1098 → pI P1104 q998 j = 1)) → G E ({ frames := 4, cells := 119, slots := 3017, locals := 256 } : Room) D cy 2 P1104 ((51 + 2 * 6) + i1098 * 2) ((1601 + 2 * 114) + i1098 * 42) 146 [(1, .int (nI i1098)), (0, .ref a)] [] := by
          intro n1103
          induction n1103 with
          | zero =>
            intro i1098 hi1099 P1104 L1105 f1106 f1107 f1108 f1109 f1110 g1111
            have ei1100 : (nI i1098).toInt = (i1098 : Int) := ti_nI (by omega)
            have ehi1099 : i1098 = 4 := by omega
            subst ehi1099
            refine g_iload_n C dX11_init_146 rfl 0 rfl ?_
            refine g_iconst (v := 4) C dX11_init_147 (by decide) ?_
            refine b_icmp_ge C 177 dX11_init_148 (by decide) (fun h1112 => ?_) (fun h1112 => ?_)
            · have h1112 : 4 ≤ (nI 4).toInt := h1112
              refine g_iconst (v := 0) C dX11_init_177 (by decide) ?_
              refine g_istore_n (lv' := [(1, .int 0), (0, .ref a)]) C dX11_init_178 rfl (by decide) rfl ?_
              have lp1116 : ∀ (n1118 i1113 : Nat), i1113 + n1118 = 16 → ∀ (P1119 : PP), (LI [q1034, q1025, q977, q971, q966, q998] [q1034, q1025, q977, q971, q966] P1082 P1119) → (yFl P1119 q966 17 2 2) → (yFl P1119 q971 19 4 4) → (yFl P1119 q977 19 16 i1113) → (yFl P1119 q1025 18 2 0) → (yFl P1119 q1034 16 2 0) → ((∀ j, j < 4 → pI P1119 q998 j = 1)) → G E ({ frames := 4, cells := 119, slots := 3017, locals := 256 } : Room) D cy 2 P1119 (((51 + 2 * 6) + 4 * 2) + i1113 * 2) (((1601 + 2 * 114) + 4 * 42) + i1113 * 42) 179 [(1, .int (nI i1113)), (0, .ref a)] [] := by
                intro n1118
                induction n1118 with
                | zero =>
                  intro i1113 hi1114 P1119 L1120 f1121 f1122 f1123 f1124 f1125 g1126
                  have ei1115 : (nI i1113).toInt = (i1113 : Int) := ti_nI (by omega)
                  have ehi1114 : i1113 = 16 := by omega
                  subst ehi1114
                  refine g_iload_n C dX11_init_179 rfl 0 rfl ?_
                  refine g_bipush (v := 16) C dX11_init_180 (by decide) ?_
                  refine b_icmp_ge C 204 dX11_init_182 (by decide) (fun h1127 => ?_) (fun h1127 => ?_)
                  · have h1127 : 16 ≤ (nI 16).toInt := h1127
                    refine g_iconst (v := 0) C dX11_init_204 (by decide) ?_
                    refine g_istore_n (lv' := [(1, .int 0), (0, .ref a)]) C dX11_init_205 rfl (by decide) rfl ?_
                    have lp1131 : ∀ (n1133 i1128 : Nat), i1128 + n1133 = 2 → ∀ (P1134 : PP), (LI [q1034, q1025, q977, q971, q966, q998] [q1034, q1025, q977, q971, q966] P1082 P1134) → (yFl P1134 q966 17 2 2) → (yFl P1134 q971 19 4 4) → (yFl P1134 q977 19 16 16) → (yFl P1134 q1025 18 2 i1128) → (yFl P1134 q1034 16 2 i1128) → ((∀ j, j < 4 → pI P1134 q998 j = 1)) → G E ({ frames := 4, cells := 119, slots := 3017, locals := 256 } : Room) D cy 2 P1134 ((((51 + 2 * 6) + 4 * 2) + 16 * 2) + i1128 * 8) ((((1601 + 2 * 114) + 4 * 42) + 16 * 42) + i1128 * 174) 206 [(1, .int (nI i1128)), (0, .ref a)] [] := by
                      intro n1133
                      induction n1133 with
                      | zero =>
                        intro i1128 hi1129 P1134 L1135 f1136 f1137 f1138 f1139 f1140 g1141
                        have ei1130 : (nI i1128).toInt = (i1128 : Int) := ti_nI (by omega)
                        have ehi1129 : i1128 = 2 := by omega
                        subst ehi1129
                        refine g_iload_n C dX11_init_206 rfl 0 rfl ?_
                        refine g_iconst (v := 2) C dX11_init_207 (by decide) ?_
                        refine b_icmp_ge C 243 dX11_init_208 (by decide) (fun h1142 => ?_) (fun h1142 => ?_)
                        · have h1142 : 2 ≤ (nI 2).toInt := h1142
                          exact ret _ _ _ _ _ dX11_init_243 (by omega) (by omega) (FC.of D1075 rfl haK hz e1076 e1077 e1078 e1080 e1081 e1079 L1135 f1136 f1137 f1138 f1139 f1140 g1141 )
                        · have h1142 : (nI 2).toInt < 2 := h1142
                          omega
                      | succ n1133 ih1132 =>
                        intro i1128 hi1129 P1134 L1135 f1136 f1137 f1138 f1139 f1140 g1141
                        have ei1130 : (nI i1128).toInt = (i1128 : Int) := ti_nI (by omega)
                        refine g_iload_n C dX11_init_206 rfl 0 rfl ?_
                        refine g_iconst (v := 2) C dX11_init_207 (by decide) ?_
                        refine b_icmp_ge C 243 dX11_init_208 (by decide) (fun h1143 => ?_) (fun h1143 => ?_)
                        · have h1143 : 2 ≤ (nI i1128).toInt := h1143
                          omega
                        · have h1143 : (nI i1128).toInt < 2 := h1143
                          refine g_aload_n C dX11_init_211 rfl 1 rfl ?_
                          refine g_getR C fi_X11_47 rfl ((by rw [(L1135.1.2 a am anT).2.1]; exact e1080)) (L1135.1.1 a am).1 ((L1135.1.1 a am).2.1.trans aK) dX11_init_212 ?_
                          refine g_iload_n C dX11_init_215 rfl 0 rfl ?_
                          refine g_new C ni_X11_45 (show ((((51 + 2 * 6) + 4 * 2) + 16 * 2) + i1128 * 8) + 1 ≤ 119 by omega) (show ((((1601 + 2 * 114) + 4 * 42) + 16 * 42) + i1128 * 174) + 6 ≤ 3017 by omega) dX11_init_216 (fun q1144 h1145 => ?_)
                          refine g_dup C dX11_init_219 rfl ?_
                          refine g_callNV (ci := 0) (ret := none) (rest := [.ref q1144, .int (nI i1128), .ref q1025]) C mn_X11_82 [] (c_X5_init (S := [q1034, q1025, q977, q971, q966]) in_new K_new (fun _ => by rw [R_new]) (L1135.2.1.new h1145) (L1135.2.2.new h1145)) rfl rfl (by decide) (Nat.le_of_ble_eq_true rfl) (⟨show (((((51 + 2 * 6) + 4 * 2) + 16 * 2) + i1128 * 8) + 1) + 4 ≤ 119 by omega, show (((((1601 + 2 * 114) + 4 * 42) + 16 * 42) + i1128 * 174) + 6) + 124 ≤ 3017 by omega⟩) dX11_init_220 (fun Q1147 h1148 => ?_)
                          obtain ⟨x1149L, x1149, x1149m, x1149k⟩ := L1135.obj h1145 h1148
                          have f1150 := f1136.more x1149
                          have f1151 := f1137.more x1149
                          have f1152 := f1138.more x1149
                          have f1153 := f1139.more x1149
                          have f1154 := f1140.more x1149
                          have g1155 : ∀ j, j < 4 → pI Q1147 q998 j = 1 := fun j hj => by rw [(x1149.2 _ (L1135.1.1 _ hq5.1).1 List.not_mem_nil).1]; exact g1141 j hj
                          refine g_astR (j := i1128) C f1153.1 f1153.2.1 (by decide) (IX.inn f1153.2.2.1 (by omega) (by decide)) x1149m x1149k (by decide) rfl rfl dX11_init_223 ?_
                          have L1156 := x1149L.putR (a := q1025) (k := i1128) (v := some q1144) (by simp) (by simp)
                          have f1157 := f1150.off (a := q1025) (k := i1128) (v := some q1144) (fun h9 => by have h8 := inj 0 8 _ e1076 (h9 ▸ e1080); omega)
                          have f1158 := f1151.off (a := q1025) (k := i1128) (v := some q1144) (fun h9 => by have h8 := inj 1 8 _ e1077 (h9 ▸ e1080); omega)
                          have f1159 := f1152.off (a := q1025) (k := i1128) (v := some q1144) (fun h9 => by have h8 := inj 2 8 _ e1078 (h9 ▸ e1080); omega)
                          have f1160 := f1153.put (b := q1144) x1149m x1149k
                          have f1161 := f1154.off (a := q1025) (k := i1128) (v := some q1144) (fun h9 => by have h8 := inj 9 8 _ e1081 (h9 ▸ e1080); omega)
                          have g1163 : ∀ j, j < 4 → pI (pSR Q1147 q1025 i1128 (some q1144)) q998 j = 1 := g1155
                          generalize pSR Q1147 q1025 i1128 (some q1144) = P1162 at L1156 f1157 f1158 f1159 f1160 f1161 g1163 ⊢
                          refine g_aload_n C dX11_init_224 rfl 1 rfl ?_
                          refine g_getR C fi_X11_53 rfl ((by rw [(L1156.1.2 a am anT).2.1]; exact e1081)) (L1156.1.1 a am).1 ((L1156.1.1 a am).2.1.trans aK) dX11_init_225 ?_
                          refine g_iload_n C dX11_init_228 rfl 0 rfl ?_
                          refine g_new C ni_X11_51 (show ((((((51 + 2 * 6) + 4 * 2) + 16 * 2) + i1128 * 8) + 1) + 4) + 1 ≤ 119 by omega) (show ((((((1601 + 2 * 114) + 4 * 42) + 16 * 42) + i1128 * 174) + 6) + 124) + 4 ≤ 3017 by omega) dX11_init_229 (fun q1164 h1165 => ?_)
                          refine g_dup C dX11_init_232 rfl ?_
                          refine g_callNV (ci := 0) (ret := none) (rest := [.ref q1164, .int (nI i1128), .ref q1034]) C mn_X11_83 [] (c_X0_init (S := [q1034, q1025, q977, q971, q966]) in_new K_new (fun _ => by rw [R_new]) (L1156.2.1.new h1165) (L1156.2.2.new h1165)) rfl rfl (by decide) (Nat.le_of_ble_eq_true rfl) (⟨show (((((((51 + 2 * 6) + 4 * 2) + 16 * 2) + i1128 * 8) + 1) + 4) + 1) + 2 ≤ 119 by omega, show (((((((1601 + 2 * 114) + 4 * 42) + 16 * 42) + i1128 * 174) + 6) + 124) + 4) + 40 ≤ 3017 by omega⟩) dX11_init_233 (fun Q1167 h1168 => ?_)
                          obtain ⟨x1169L, x1169, x1169m, x1169k⟩ := L1156.obj h1165 h1168
                          have f1170 := f1157.more x1169
                          have f1171 := f1158.more x1169
                          have f1172 := f1159.more x1169
                          have f1173 := f1160.more x1169
                          have f1174 := f1161.more x1169
                          have g1175 : ∀ j, j < 4 → pI Q1167 q998 j = 1 := fun j hj => by rw [(x1169.2 _ (L1156.1.1 _ hq5.1).1 List.not_mem_nil).1]; exact g1163 j hj
                          refine g_astR (j := i1128) C f1174.1 f1174.2.1 (by decide) (IX.inn f1174.2.2.1 (by omega) (by decide)) x1169m x1169k (by decide) rfl rfl dX11_init_236 ?_
                          have L1176 := x1169L.putR (a := q1034) (k := i1128) (v := some q1164) (by simp) (by simp)
                          have f1177 := f1170.off (a := q1034) (k := i1128) (v := some q1164) (fun h9 => by have h8 := inj 0 9 _ e1076 (h9 ▸ e1081); omega)
                          have f1178 := f1171.off (a := q1034) (k := i1128) (v := some q1164) (fun h9 => by have h8 := inj 1 9 _ e1077 (h9 ▸ e1081); omega)
                          have f1179 := f1172.off (a := q1034) (k := i1128) (v := some q1164) (fun h9 => by have h8 := inj 2 9 _ e1078 (h9 ▸ e1081); omega)
                          have f1180 := f1173.off (a := q1034) (k := i1128) (v := some q1164) (fun h9 => by have h8 := inj 8 9 _ e1080 (h9 ▸ e1081); omega)
                          have f1181 := f1174.put (b := q1164) x1169m x1169k
                          have g1183 : ∀ j, j < 4 → pI (pSR Q1167 q1034 i1128 (some q1164)) q998 j = 1 := g1175
                          generalize pSR Q1167 q1034 i1128 (some q1164) = P1182 at L1176 f1177 f1178 f1179 f1180 f1181 g1183 ⊢
                          refine g_iinc (v := (nI (i1128 + 1))) (lv' := [(1, .int (nI (i1128 + 1))), (0, .ref a)]) C dX11_init_237 0 rfl (nI_1 _) (by decide) rfl ?_
                          refine g_goto C 206 dX11_init_240 (by decide) ?_
                          refine g_widen (cs2 := ((((51 + 2 * 6) + 4 * 2) + 16 * 2) + (i1128 + 1) * 8)) (sl2 := ((((1601 + 2 * 114) + 4 * 42) + 16 * 42) + (i1128 + 1) * 174)) (by omega) (by omega) ?_
                          exact ih1132 (i1128 + 1) (by omega) _ L1176 f1177 f1178 f1179 f1180 f1181 g1183
                    exact lp1131 2 0 rfl _ L1120 f1121 f1122 f1123 f1124 f1125 g1126
                  · have h1127 : (nI 16).toInt < 16 := h1127
                    omega
                | succ n1118 ih1117 =>
                  intro i1113 hi1114 P1119 L1120 f1121 f1122 f1123 f1124 f1125 g1126
                  have ei1115 : (nI i1113).toInt = (i1113 : Int) := ti_nI (by omega)
                  refine g_iload_n C dX11_init_179 rfl 0 rfl ?_
                  refine g_bipush (v := 16) C dX11_init_180 (by decide) ?_
                  refine b_icmp_ge C 204 dX11_init_182 (by decide) (fun h1184 => ?_) (fun h1184 => ?_)
                  · have h1184 : 16 ≤ (nI i1113).toInt := h1184
                    omega
                  · have h1184 : (nI i1113).toInt < 16 := h1184
                    refine g_aload_n C dX11_init_185 rfl 1 rfl ?_
                    refine g_getR C fi_X11_21 rfl ((by rw [(L1120.1.2 a am anT).2.1]; exact e1078)) (L1120.1.1 a am).1 ((L1120.1.1 a am).2.1.trans aK) dX11_init_186 ?_
                    refine g_iload_n C dX11_init_189 rfl 0 rfl ?_
                    refine g_new C ni_X11_15 (show (((51 + 2 * 6) + 4 * 2) + i1113 * 2) + 1 ≤ 119 by omega) (show (((1601 + 2 * 114) + 4 * 42) + i1113 * 42) + 2 ≤ 3017 by omega) dX11_init_190 (fun q1185 h1186 => ?_)
                    refine g_dup C dX11_init_193 rfl ?_
                    refine g_callNV (ci := 0) (ret := none) (rest := [.ref q1185, .int (nI i1113), .ref q977]) C mn_X11_81 [] (c_X6_init (S := [q1034, q1025, q977, q971, q966]) in_new K_new (fun _ => by rw [R_new]) (L1120.2.1.new h1186) (L1120.2.2.new h1186)) rfl rfl (by decide) (Nat.le_of_ble_eq_true rfl) (⟨show ((((51 + 2 * 6) + 4 * 2) + i1113 * 2) + 1) + 1 ≤ 119 by omega, show ((((1601 + 2 * 114) + 4 * 42) + i1113 * 42) + 2) + 40 ≤ 3017 by omega⟩) dX11_init_194 (fun Q1188 h1189 => ?_)
                    obtain ⟨x1190L, x1190, x1190m, x1190k⟩ := L1120.obj h1186 h1189
                    have f1191 := f1121.more x1190
                    have f1192 := f1122.more x1190
                    have f1193 := f1123.more x1190
                    have f1194 := f1124.more x1190
                    have f1195 := f1125.more x1190
                    have g1196 : ∀ j, j < 4 → pI Q1188 q998 j = 1 := fun j hj => by rw [(x1190.2 _ (L1120.1.1 _ hq5.1).1 List.not_mem_nil).1]; exact g1126 j hj
                    refine g_astR (j := i1113) C f1193.1 f1193.2.1 (by decide) (IX.inn f1193.2.2.1 (by omega) (by decide)) x1190m x1190k (by decide) rfl rfl dX11_init_197 ?_
                    have L1197 := x1190L.putR (a := q977) (k := i1113) (v := some q1185) (by simp) (by simp)
                    have f1198 := f1191.off (a := q977) (k := i1113) (v := some q1185) (fun h9 => by have h8 := inj 0 2 _ e1076 (h9 ▸ e1078); omega)
                    have f1199 := f1192.off (a := q977) (k := i1113) (v := some q1185) (fun h9 => by have h8 := inj 1 2 _ e1077 (h9 ▸ e1078); omega)
                    have f1200 := f1193.put (b := q1185) x1190m x1190k
                    have f1201 := f1194.off (a := q977) (k := i1113) (v := some q1185) (fun h9 => by have h8 := inj 8 2 _ e1080 (h9 ▸ e1078); omega)
                    have f1202 := f1195.off (a := q977) (k := i1113) (v := some q1185) (fun h9 => by have h8 := inj 9 2 _ e1081 (h9 ▸ e1078); omega)
                    have g1204 : ∀ j, j < 4 → pI (pSR Q1188 q977 i1113 (some q1185)) q998 j = 1 := g1196
                    generalize pSR Q1188 q977 i1113 (some q1185) = P1203 at L1197 f1198 f1199 f1200 f1201 f1202 g1204 ⊢
                    refine g_iinc (v := (nI (i1113 + 1))) (lv' := [(1, .int (nI (i1113 + 1))), (0, .ref a)]) C dX11_init_198 0 rfl (nI_1 _) (by decide) rfl ?_
                    refine g_goto C 179 dX11_init_201 (by decide) ?_
                    refine g_widen (cs2 := (((51 + 2 * 6) + 4 * 2) + (i1113 + 1) * 2)) (sl2 := (((1601 + 2 * 114) + 4 * 42) + (i1113 + 1) * 42)) (by omega) (by omega) ?_
                    exact ih1117 (i1113 + 1) (by omega) _ L1197 f1198 f1199 f1200 f1201 f1202 g1204
              exact lp1116 16 0 rfl _ L1105 f1106 f1107 f1108 f1109 f1110 g1111
            · have h1112 : (nI 4).toInt < 4 := h1112
              omega
          | succ n1103 ih1102 =>
            intro i1098 hi1099 P1104 L1105 f1106 f1107 f1108 f1109 f1110 g1111
            have ei1100 : (nI i1098).toInt = (i1098 : Int) := ti_nI (by omega)
            refine g_iload_n C dX11_init_146 rfl 0 rfl ?_
            refine g_iconst (v := 4) C dX11_init_147 (by decide) ?_
            refine b_icmp_ge C 177 dX11_init_148 (by decide) (fun h1205 => ?_) (fun h1205 => ?_)
            · have h1205 : 4 ≤ (nI i1098).toInt := h1205
              omega
            · have h1205 : (nI i1098).toInt < 4 := h1205
              refine g_aload_n C dX11_init_151 rfl 1 rfl ?_
              refine g_getR C fi_X11_17 rfl ((by rw [(L1105.1.2 a am anT).2.1]; exact e1077)) (L1105.1.1 a am).1 ((L1105.1.1 a am).2.1.trans aK) dX11_init_152 ?_
              refine g_iload_n C dX11_init_155 rfl 0 rfl ?_
              refine g_new C ni_X11_15 (show ((51 + 2 * 6) + i1098 * 2) + 1 ≤ 119 by omega) (show ((1601 + 2 * 114) + i1098 * 42) + 2 ≤ 3017 by omega) dX11_init_156 (fun q1206 h1207 => ?_)
              refine g_dup C dX11_init_159 rfl ?_
              refine g_callNV (ci := 0) (ret := none) (rest := [.ref q1206, .int (nI i1098), .ref q971]) C mn_X11_81 [] (c_X6_init (S := [q1034, q1025, q977, q971, q966]) in_new K_new (fun _ => by rw [R_new]) (L1105.2.1.new h1207) (L1105.2.2.new h1207)) rfl rfl (by decide) (Nat.le_of_ble_eq_true rfl) (⟨show (((51 + 2 * 6) + i1098 * 2) + 1) + 1 ≤ 119 by omega, show (((1601 + 2 * 114) + i1098 * 42) + 2) + 40 ≤ 3017 by omega⟩) dX11_init_160 (fun Q1209 h1210 => ?_)
              obtain ⟨x1211L, x1211, x1211m, x1211k⟩ := L1105.obj h1207 h1210
              have f1212 := f1106.more x1211
              have f1213 := f1107.more x1211
              have f1214 := f1108.more x1211
              have f1215 := f1109.more x1211
              have f1216 := f1110.more x1211
              have g1217 : ∀ j, j < i1098 → pI Q1209 q998 j = 1 := fun j hj => by rw [(x1211.2 _ (L1105.1.1 _ hq5.1).1 List.not_mem_nil).1]; exact g1111 j hj
              refine g_astR (j := i1098) C f1213.1 f1213.2.1 (by decide) (IX.inn f1213.2.2.1 (by omega) (by decide)) x1211m x1211k (by decide) rfl rfl dX11_init_163 ?_
              have L1218 := x1211L.putR (a := q971) (k := i1098) (v := some q1206) (by simp) (by simp)
              have f1219 := f1212.off (a := q971) (k := i1098) (v := some q1206) (fun h9 => by have h8 := inj 0 1 _ e1076 (h9 ▸ e1077); omega)
              have f1220 := f1213.put (b := q1206) x1211m x1211k
              have f1221 := f1214.off (a := q971) (k := i1098) (v := some q1206) (fun h9 => by have h8 := inj 2 1 _ e1078 (h9 ▸ e1077); omega)
              have f1222 := f1215.off (a := q971) (k := i1098) (v := some q1206) (fun h9 => by have h8 := inj 8 1 _ e1080 (h9 ▸ e1077); omega)
              have f1223 := f1216.off (a := q971) (k := i1098) (v := some q1206) (fun h9 => by have h8 := inj 9 1 _ e1081 (h9 ▸ e1077); omega)
              have g1225 : ∀ j, j < i1098 → pI (pSR Q1209 q971 i1098 (some q1206)) q998 j = 1 := g1217
              generalize pSR Q1209 q971 i1098 (some q1206) = P1224 at L1218 f1219 f1220 f1221 f1222 f1223 g1225 ⊢
              refine g_aload_n C dX11_init_164 rfl 1 rfl ?_
              refine g_getR C fi_X11_32 rfl ((by rw [(L1218.1.2 a am anT).2.1]; exact e1079)) (L1218.1.1 a am).1 ((L1218.1.1 a am).2.1.trans aK) dX11_init_165 ?_
              refine g_iload_n C dX11_init_168 rfl 0 rfl ?_
              refine g_iconst (v := 1) C dX11_init_169 (by decide) ?_
              refine g_iast (j := i1098) C (L1218.1.1 _ hq5.1).1 ((L1218.1.1 _ hq5.1).2.1.trans hq5.2.1) (IX.inn ((L1218.1.1 _ hq5.1).2.2.trans hq5.2.2) (by omega) (by decide)) dX11_init_170 ?_
              have L1226 := L1218.putI (a := q998) (k := i1098) (v := 1) (by simp) (L1218.1.1 _ hq5.1).1 (by rw [((L1218.1.1 _ hq5.1).2.1.trans hq5.2.1)]; decide)
              have g1227 : ∀ j, j < i1098 + 1 → pI (pSI P1224 q998 i1098 1) q998 j = 1 := fun j hj => by by_cases ej : j = i1098 <;> simp [pSI, pI, va_up, ej] <;> exact g1225 j (by omega)
              have f1228 : yFl (pSI P1224 q998 i1098 1) q966 17 2 2 := f1219
              have f1229 : yFl (pSI P1224 q998 i1098 1) q971 19 4 (i1098 + 1) := f1220
              have f1230 : yFl (pSI P1224 q998 i1098 1) q977 19 16 0 := f1221
              have f1231 : yFl (pSI P1224 q998 i1098 1) q1025 18 2 0 := f1222
              have f1232 : yFl (pSI P1224 q998 i1098 1) q1034 16 2 0 := f1223
              generalize pSI P1224 q998 i1098 1 = P1233 at L1226 g1227 f1228 f1229 f1230 f1231 f1232 ⊢
              refine g_iinc (v := (nI (i1098 + 1))) (lv' := [(1, .int (nI (i1098 + 1))), (0, .ref a)]) C dX11_init_171 0 rfl (nI_1 _) (by decide) rfl ?_
              refine g_goto C 146 dX11_init_174 (by decide) ?_
              refine g_widen (cs2 := ((51 + 2 * 6) + (i1098 + 1) * 2)) (sl2 := ((1601 + 2 * 114) + (i1098 + 1) * 42)) (by omega) (by omega) ?_
              exact ih1102 (i1098 + 1) (by omega) _ L1226 f1228 f1229 f1230 f1231 f1232 g1227
        exact lp1101 4 0 rfl _ L1090 f1091 f1092 f1093 f1094 f1095 g1096
      · have h1097 : (nI 2).toInt < 2 := h1097
        omega
    | succ n1088 ih1087 =>
      intro i1083 hi1084 P1089 L1090 f1091 f1092 f1093 f1094 f1095 g1096
      have ei1085 : (nI i1083).toInt = (i1083 : Int) := ti_nI (by omega)
      refine g_iload_n C dX11_init_119 rfl 0 rfl ?_
      refine g_iconst (v := 2) C dX11_init_120 (by decide) ?_
      refine b_icmp_ge C 144 dX11_init_121 (by decide) (fun h1234 => ?_) (fun h1234 => ?_)
      · have h1234 : 2 ≤ (nI i1083).toInt := h1234
        omega
      · have h1234 : (nI i1083).toInt < 2 := h1234
        refine g_aload_n C dX11_init_124 rfl 1 rfl ?_
        refine g_getR C fi_X11_11 rfl ((by rw [(L1090.1.2 a am anT).2.1]; exact e1076)) (L1090.1.1 a am).1 ((L1090.1.1 a am).2.1.trans aK) dX11_init_125 ?_
        refine g_iload_n C dX11_init_128 rfl 0 rfl ?_
        refine g_new C ni_X11_9 (show (51 + i1083 * 6) + 1 ≤ 119 by omega) (show (1601 + i1083 * 114) + 7 ≤ 3017 by omega) dX11_init_129 (fun q1235 h1236 => ?_)
        refine g_dup C dX11_init_132 rfl ?_
        refine g_iload_n C dX11_init_133 rfl 0 rfl ?_
        refine g_callCV (ci := 0) (ret := none) (rest := [.ref q1235, .int (nI i1083), .ref q966]) C mi_X11_78 [.int (nI i1083)] (c_X1_init (S := [q1034, q1025, q977, q971, q966]) in_new K_new (fun _ => by rw [R_new]) (L1090.2.1.new h1236) (L1090.2.2.new h1236)) rfl rfl (by decide) (Nat.le_of_ble_eq_true rfl) (⟨show ((51 + i1083 * 6) + 1) + 5 ≤ 119 by omega, show ((1601 + i1083 * 114) + 7) + 107 ≤ 3017 by omega⟩) dX11_init_134 (fun Q1238 h1239 => ?_)
        obtain ⟨x1240L, x1240, x1240m, x1240k⟩ := L1090.obj h1236 h1239
        have f1241 := f1091.more x1240
        have f1242 := f1092.more x1240
        have f1243 := f1093.more x1240
        have f1244 := f1094.more x1240
        have f1245 := f1095.more x1240
        have g1246 : ∀ j, j < 0 → pI Q1238 q998 j = 1 := fun j hj => by rw [(x1240.2 _ (L1090.1.1 _ hq5.1).1 List.not_mem_nil).1]; exact g1096 j hj
        refine g_astR (j := i1083) C f1241.1 f1241.2.1 (by decide) (IX.inn f1241.2.2.1 (by omega) (by decide)) x1240m x1240k (by decide) rfl rfl dX11_init_137 ?_
        have L1247 := x1240L.putR (a := q966) (k := i1083) (v := some q1235) (by simp) (by simp)
        have f1248 := f1241.put (b := q1235) x1240m x1240k
        have f1249 := f1242.off (a := q966) (k := i1083) (v := some q1235) (fun h9 => by have h8 := inj 1 0 _ e1077 (h9 ▸ e1076); omega)
        have f1250 := f1243.off (a := q966) (k := i1083) (v := some q1235) (fun h9 => by have h8 := inj 2 0 _ e1078 (h9 ▸ e1076); omega)
        have f1251 := f1244.off (a := q966) (k := i1083) (v := some q1235) (fun h9 => by have h8 := inj 8 0 _ e1080 (h9 ▸ e1076); omega)
        have f1252 := f1245.off (a := q966) (k := i1083) (v := some q1235) (fun h9 => by have h8 := inj 9 0 _ e1081 (h9 ▸ e1076); omega)
        have g1254 : ∀ j, j < 0 → pI (pSR Q1238 q966 i1083 (some q1235)) q998 j = 1 := g1246
        generalize pSR Q1238 q966 i1083 (some q1235) = P1253 at L1247 f1248 f1249 f1250 f1251 f1252 g1254 ⊢
        refine g_iinc (v := (nI (i1083 + 1))) (lv' := [(1, .int (nI (i1083 + 1))), (0, .ref a)]) C dX11_init_138 0 rfl (nI_1 _) (by decide) rfl ?_
        refine g_goto C 119 dX11_init_141 (by decide) ?_
        refine g_widen (cs2 := (51 + (i1083 + 1) * 6)) (sl2 := (1601 + (i1083 + 1) * 114)) (by omega) (by omega) ?_
        exact ih1087 (i1083 + 1) (by omega) _ L1247 f1248 f1249 f1250 f1251 f1252 g1254
  exact lp1086 2 0 rfl _ L0 f00 f10 f20 f80 f90 g0
