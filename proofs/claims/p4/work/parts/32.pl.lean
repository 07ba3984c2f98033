theorem w_done {S : List Nat} {P Pn P2 : PP} {a qb : Nat} (dd : xAG (qb :: S) Pn ∧ xExt [a] P Pn ∧ zG Pn) (hn : qb ∉ pL P) (L : LI [qb] (qb :: S) Pn P2) (f : yFl P2 qb 16 4 4) : xAG S P2 ∧ xExt [a] P P2 ∧ zG P2 := by
  refine ⟨fun b hb hs => ?_, ⟨fun c hc => ?_, fun c hc hs => ?_⟩, L.2.2⟩
  · by_cases e : b = qb
    · subst e; exact f.ok (by decide)
    · exact L.2.1 b hb (fun h9 => by rcases List.mem_cons.mp h9 with h8 | h8; exact e h8; exact hs h8)
  · obtain ⟨q1, q2, q3⟩ := dd.2.1.1 c hc
    obtain ⟨r1, r2, r3⟩ := L.1.1 c q1
    exact ⟨r1, r2.trans q2, r3.trans q3⟩
  · obtain ⟨q1, q2, q3⟩ := dd.2.1.2 c hc hs
    obtain ⟨r1, r2, r3⟩ := L.1.2 c (dd.2.1.1 c hc).1 (fun h9 => hn (List.mem_singleton.mp h9 ▸ hc))
    exact ⟨r1.trans q1, r2.trans q2, r3.trans q3⟩
theorem dX10_init_10 : decode cX10_init 10 = .ok (.putfield 11, 3) := by decide +kernel
theorem dX10_init_13 : decode cX10_init 13 = .ok (.aload_n 0, 1) := by decide +kernel
theorem dX10_init_14 : decode cX10_init 14 = .ok (.bipush 6, 2) := by decide +kernel
theorem dX10_init_16 : decode cX10_init 16 = .ok (.newarray .int, 2) := by decide +kernel
theorem dX10_init_18 : decode cX10_init 18 = .ok (.putfield 17, 3) := by decide +kernel
theorem dX10_init_21 : decode cX10_init 21 = .ok (.aload_n 0, 1) := by decide +kernel
theorem dX10_init_22 : decode cX10_init 22 = .ok (.iconst 4, 1) := by decide +kernel
theorem dX10_init_23 : decode cX10_init 23 = .ok (.anewarray 21, 3) := by decide +kernel
theorem dX10_init_26 : decode cX10_init 26 = .ok (.putfield 23, 3) := by decide +kernel
theorem dX10_init_29 : decode cX10_init 29 = .ok (.iconst 0, 1) := by decide +kernel
theorem dX10_init_30 : decode cX10_init 30 = .ok (.istore_n 1, 1) := by decide +kernel
theorem dX10_init_31 : decode cX10_init 31 = .ok (.iload_n 1, 1) := by decide +kernel
theorem dX10_init_32 : decode cX10_init 32 = .ok (.iconst 4, 1) := by decide +kernel
theorem dX10_init_33 : decode cX10_init 33 = .ok (.if_icmp .ge 22, 3) := by decide +kernel
theorem dX10_init_36 : decode cX10_init 36 = .ok (.aload_n 0, 1) := by decide +kernel
theorem dX10_init_37 : decode cX10_init 37 = .ok (.getfield 23, 3) := by decide +kernel
theorem dX10_init_40 : decode cX10_init 40 = .ok (.iload_n 1, 1) := by decide +kernel
theorem dX10_init_41 : decode cX10_init 41 = .ok (.new 21, 3) := by decide +kernel
theorem dX10_init_44 : decode cX10_init 44 = .ok (.dup, 1) := by decide +kernel
theorem dX10_init_45 : decode cX10_init 45 = .ok (.invokespecial 27, 3) := by decide +kernel
theorem dX10_init_48 : decode cX10_init 48 = .ok (.aastore, 1) := by decide +kernel
theorem dX10_init_49 : decode cX10_init 49 = .ok (.iinc 1 1, 3) := by decide +kernel
theorem dX10_init_52 : decode cX10_init 52 = .ok (.goto (-21), 3) := by decide +kernel
theorem dX10_init_55 : decode cX10_init 55 = .ok (.return_, 1) := by decide +kernel
set_option maxHeartbeats 4000000 in
set_option maxRecDepth 100000 in
theorem c_X10_init {P : PP} {a : Nat} {S : List Nat} (ha : a ∈ pL P) (haK : pK P a = 10) (hr : ∀ k, pR P a k = none) (hg : xAG (a :: S) P) (z : zG P)  : CtrV yX10_init cX10_init 2 none ({ frames := 3, cells := 15, slots := 192, locals := 192 } : Room) 15 192 P [.ref a] (fun P2 => xAG S P2 ∧ xExt [a] P P2 ∧ zG P2) := by
  have D0 := yDn.zero ha hg z hr
  refine enV (lv := [(0, .ref a)]) (by decide) (Nat.le_of_ble_eq_true rfl) rfl (fun E D cy C Ci0 ret => ?_)
  have Ci9 := Ci0 rfl
  refine g_aload_n C dX10_init_0 rfl 0 rfl ?_
  refine g_objInit C oi_X10_3 oi_inst oi_code (by decide) (by decide) (Nat.le_of_ble_eq_true rfl) dX10_init_1 ?_
  refine g_aload_n C dX10_init_4 rfl 0 rfl ?_
  refine g_bipush (v := 6) C dX10_init_5 (by decide) ?_
  refine g_newQ (kd := 20) (N := 6) C (by decide) cl_X10_9 ao_X7 (by decide) rfl (by decide) (by decide) (by decide) dX10_init_7 (fun q132 h133 => ?_)
  refine g_putFR C fi_X10_11 Ci9 ⟨_, rfl, rfl⟩ rfl ((xExt.new (S := []) h133).1 _ D0.mem).1 (((xExt.new (S := []) h133).1 _ D0.mem).2.1.trans (D0.kind.trans haK)) dX10_init_10 ?_
  have D134 := D0.arr (k := 0) h133 (show shp (pK P a) 0 = some (20, 6) by rw [haK]; rfl) (by decide) (by decide)
  generalize pSR (pNw P q132 20 6) a 0 (some q132) = P135 at D134  ⊢
  refine g_aload_n C dX10_init_13 rfl 0 rfl ?_
  refine g_bipush (v := 6) C dX10_init_14 (by decide) ?_
  refine g_newI (N := 6) C ac_int (by decide) rfl (by decide) (by decide) (by decide) dX10_init_16 (fun q136 h137 => ?_)
  refine g_putFR C fi_X10_17 Ci9 ⟨_, rfl, rfl⟩ rfl ((xExt.new (S := []) h137).1 _ D134.mem).1 (((xExt.new (S := []) h137).1 _ D134.mem).2.1.trans (D134.kind.trans haK)) dX10_init_18 ?_
  have D138 := D134.arr (k := 1) h137 (show shp (pK P a) 1 = some (13, 6) by rw [haK]; rfl) (by decide) (by decide)
  generalize pSR (pNw P135 q136 13 6) a 1 (some q136) = P139 at D138  ⊢
  refine g_aload_n C dX10_init_21 rfl 0 rfl ?_
  refine g_iconst (v := 4) C dX10_init_22 (by decide) ?_
  refine g_newQ (kd := 16) (N := 4) C (by decide) cl_X10_21 ao_X0 (by decide) rfl (by decide) (by decide) (by decide) dX10_init_23 (fun q140 h141 => ?_)
  refine g_putFR C fi_X10_23 Ci9 ⟨_, rfl, rfl⟩ rfl ((xExt.new (S := []) h141).1 _ D138.mem).1 (((xExt.new (S := []) h141).1 _ D138.mem).2.1.trans (D138.kind.trans haK)) dX10_init_26 ?_
  have e143 : pR (pSR (pNw P139 q140 16 4) a 2 (some q140)) a 2 = some q140 := R_put
  have D142 := D138.arrQ (k := 2) h141 (show shp (pK P a) 2 = some (16, 4) by rw [haK]; rfl)
  generalize pSR (pNw P139 q140 16 4) a 2 (some q140) = P144 at D142 e143 ⊢
  refine g_iconst (v := 0) C dX10_init_29 (by decide) ?_
  refine g_istore_n (lv' := [(1, .int 0), (0, .ref a)]) C dX10_init_30 rfl (by decide) rfl ?_
  have dd := D142.done haK (by decide) (kin (by decide +kernel))
  have hq := fd_at D142 haK (by decide) (k := 2) rfl e143
  have L0 : LI [q140] (q140 :: S) P144 P144 := ⟨xExt.rf, dd.1, dd.2.2⟩
  have f0 := yFl.zero hq.1 hq.2.1 hq.2.2
  have am := D142.mem
  have aK := D142.kind.trans haK
  have anT : a ∉ [q140] := fun h9 => by have h8 := hq.2.1; rw [← List.mem_singleton.mp h9, aK] at h8; omega
  have lp148 : ∀ (n150 i145 : Nat), i145 + n150 = 4 → ∀ (P151 : PP), (LI [q140] (q140 :: S) P144 P151) → (yFl P151 q140 16 4 i145) → G E ({ frames := 3, cells := 15, slots := 192, locals := 192 } : Room) D cy 2 P151 (3 + i145 * 3) (16 + i145 * 44) 31 [(1, .int (nI i145)), (0, .ref a)] [] := by
    intro n150
    induction n150 with
    | zero =>
      intro i145 hi146 P151 L152 f153
      have ei147 : (nI i145).toInt = (i145 : Int) := ti_nI (by omega)
      have ehi146 : i145 = 4 := by omega
      subst ehi146
      refine g_iload_n C dX10_init_31 rfl 0 rfl ?_
      refine g_iconst (v := 4) C dX10_init_32 (by decide) ?_
      refine b_icmp_ge C 55 dX10_init_33 (by decide) (fun h154 => ?_) (fun h154 => ?_)
      · have h154 : 4 ≤ (nI 4).toInt := h154
        exact ret _ _ _ _ _ dX10_init_55 (by omega) (by omega) (w_done dd (D142.2.2.1 _ _ e143).2.1 L152 f153)
      · have h154 : (nI 4).toInt < 4 := h154
        omega
    | succ n150 ih149 =>
      intro i145 hi146 P151 L152 f153
      have ei147 : (nI i145).toInt = (i145 : Int) := ti_nI (by omega)
      refine g_iload_n C dX10_init_31 rfl 0 rfl ?_
      refine g_iconst (v := 4) C dX10_init_32 (by decide) ?_
      refine b_icmp_ge C 55 dX10_init_33 (by decide) (fun h155 => ?_) (fun h155 => ?_)
      · have h155 : 4 ≤ (nI i145).toInt := h155
        omega
      · have h155 : (nI i145).toInt < 4 := h155
        refine g_aload_n C dX10_init_36 rfl 1 rfl ?_
        refine g_getR C fi_X10_23 rfl ((by rw [(L152.1.2 a am anT).2.1]; exact e143)) (L152.1.1 a am).1 ((L152.1.1 a am).2.1.trans aK) dX10_init_37 ?_
        refine g_iload_n C dX10_init_40 rfl 0 rfl ?_
        refine g_new C ni_X10_21 (show (3 + i145 * 3) + 1 ≤ 15 by omega) (show (16 + i145 * 44) + 4 ≤ 192 by omega) dX10_init_41 (fun q156 h157 => ?_)
        refine g_dup C dX10_init_44 rfl ?_
        refine g_callNV (ci := 0) (ret := none) (rest := [.ref q156, .int (nI i145), .ref q140]) C mn_X10_27 [] (c_X0_init (S := (q140 :: S)) in_new K_new (fun _ => by rw [R_new]) (L152.2.1.new h157) (L152.2.2.new h157)) rfl rfl (by decide) (Nat.le_of_ble_eq_true rfl) (⟨show ((3 + i145 * 3) + 1) + 2 ≤ 15 by omega, show ((16 + i145 * 44) + 4) + 40 ≤ 192 by omega⟩) dX10_init_45 (fun Q159 h160 => ?_)
        obtain ⟨x161L, x161, x161m, x161k⟩ := L152.obj h157 h160
        have f162 := f153.more x161
        refine g_astR (j := i145) C f162.1 f162.2.1 (by decide) (IX.inn f162.2.2.1 (by omega) (by decide)) x161m x161k (by decide) rfl rfl dX10_init_48 ?_
        have L163 := x161L.putR (a := q140) (k := i145) (v := some q156) (by simp) (by simp) (by rw [f162.2.1]; decide)
        have f164 := f162.put (b := q156) x161m x161k
        generalize pSR Q159 q140 i145 (some q156) = P165 at L163 f164 ⊢
        refine g_iinc (v := (nI (i145 + 1))) (lv' := [(1, .int (nI (i145 + 1))), (0, .ref a)]) C dX10_init_49 0 rfl (nI_1 _) (by decide) rfl ?_
        refine g_goto C 31 dX10_init_52 (by decide) ?_
        refine g_widen (cs2 := (3 + (i145 + 1) * 3)) (sl2 := (16 + (i145 + 1) * 44)) (by omega) (by omega) ?_
        exact ih149 (i145 + 1) (by omega) _ L163 f164
  exact lp148 4 0 rfl _ L0 f0
theorem dX11_init_9 : decode cX11_init 9 = .ok (.putfield 11, 3) := by decide +kernel
theorem dX11_init_12 : decode cX11_init 12 = .ok (.aload_n 0, 1) := by decide +kernel
theorem dX11_init_13 : decode cX11_init 13 = .ok (.iconst 4, 1) := by decide +kernel
theorem dX11_init_14 : decode cX11_init 14 = .ok (.anewarray 15, 3) := by decide +kernel
theorem dX11_init_17 : decode cX11_init 17 = .ok (.putfield 17, 3) := by decide +kernel
theorem dX11_init_20 : decode cX11_init 20 = .ok (.aload_n 0, 1) := by decide +kernel
theorem dX11_init_21 : decode cX11_init 21 = .ok (.bipush 16, 2) := by decide +kernel
theorem dX11_init_23 : decode cX11_init 23 = .ok (.anewarray 15, 3) := by decide +kernel
theorem dX11_init_26 : decode cX11_init 26 = .ok (.putfield 21, 3) := by decide +kernel
theorem dX11_init_29 : decode cX11_init 29 = .ok (.aload_n 0, 1) := by decide +kernel
theorem dX11_init_30 : decode cX11_init 30 = .ok (.iconst 4, 1) := by decide +kernel
theorem dX11_init_31 : decode cX11_init 31 = .ok (.newarray .boolean, 2) := by decide +kernel
theorem dX11_init_33 : decode cX11_init 33 = .ok (.putfield 24, 3) := by decide +kernel
theorem dX11_init_36 : decode cX11_init 36 = .ok (.aload_n 0, 1) := by decide +kernel
theorem dX11_init_37 : decode cX11_init 37 = .ok (.iconst 4, 1) := by decide +kernel
theorem dX11_init_38 : decode cX11_init 38 = .ok (.newarray .int, 2) := by decide +kernel
theorem dX11_init_40 : decode cX11_init 40 = .ok (.putfield 28, 3) := by decide +kernel
theorem dX11_init_43 : decode cX11_init 43 = .ok (.aload_n 0, 1) := by decide +kernel
theorem dX11_init_44 : decode cX11_init 44 = .ok (.iconst 4, 1) := by decide +kernel
theorem dX11_init_45 : decode cX11_init 45 = .ok (.newarray .int, 2) := by decide +kernel
theorem dX11_init_47 : decode cX11_init 47 = .ok (.putfield 32, 3) := by decide +kernel
theorem dX11_init_50 : decode cX11_init 50 = .ok (.aload_n 0, 1) := by decide +kernel
theorem dX11_init_51 : decode cX11_init 51 = .ok (.iconst 4, 1) := by decide +kernel
theorem dX11_init_52 : decode cX11_init 52 = .ok (.newarray .int, 2) := by decide +kernel
theorem dX11_init_54 : decode cX11_init 54 = .ok (.putfield 35, 3) := by decide +kernel
theorem dX11_init_57 : decode cX11_init 57 = .ok (.aload_n 0, 1) := by decide +kernel
theorem dX11_init_58 : decode cX11_init 58 = .ok (.new 38, 3) := by decide +kernel
theorem dX11_init_61 : decode cX11_init 61 = .ok (.dup, 1) := by decide +kernel
theorem dX11_init_62 : decode cX11_init 62 = .ok (.invokespecial 40, 3) := by decide +kernel
theorem dX11_init_65 : decode cX11_init 65 = .ok (.putfield 41, 3) := by decide +kernel
theorem dX11_init_68 : decode cX11_init 68 = .ok (.aload_n 0, 1) := by decide +kernel
theorem dX11_init_69 : decode cX11_init 69 = .ok (.iconst 2, 1) := by decide +kernel
theorem dX11_init_70 : decode cX11_init 70 = .ok (.anewarray 45, 3) := by decide +kernel
theorem dX11_init_73 : decode cX11_init 73 = .ok (.putfield 47, 3) := by decide +kernel
theorem dX11_init_76 : decode cX11_init 76 = .ok (.aload_n 0, 1) := by decide +kernel
theorem dX11_init_77 : decode cX11_init 77 = .ok (.iconst 2, 1) := by decide +kernel
theorem dX11_init_78 : decode cX11_init 78 = .ok (.anewarray 51, 3) := by decide +kernel
theorem dX11_init_81 : decode cX11_init 81 = .ok (.putfield 53, 3) := by decide +kernel
theorem dX11_init_84 : decode cX11_init 84 = .ok (.aload_n 0, 1) := by decide +kernel
theorem dX11_init_85 : decode cX11_init 85 = .ok (.new 57, 3) := by decide +kernel
theorem dX11_init_88 : decode cX11_init 88 = .ok (.dup, 1) := by decide +kernel
theorem dX11_init_89 : decode cX11_init 89 = .ok (.invokespecial 59, 3) := by decide +kernel
theorem dX11_init_92 : decode cX11_init 92 = .ok (.putfield 60, 3) := by decide +kernel
theorem dX11_init_95 : decode cX11_init 95 = .ok (.aload_n 0, 1) := by decide +kernel
theorem dX11_init_96 : decode cX11_init 96 = .ok (.new 64, 3) := by decide +kernel
theorem dX11_init_99 : decode cX11_init 99 = .ok (.dup, 1) := by decide +kernel
theorem dX11_init_100 : decode cX11_init 100 = .ok (.invokespecial 66, 3) := by decide +kernel
theorem dX11_init_103 : decode cX11_init 103 = .ok (.putfield 67, 3) := by decide +kernel
theorem dX11_init_106 : decode cX11_init 106 = .ok (.aload_n 0, 1) := by decide +kernel
theorem dX11_init_107 : decode cX11_init 107 = .ok (.new 71, 3) := by decide +kernel
theorem dX11_init_110 : decode cX11_init 110 = .ok (.dup, 1) := by decide +kernel
theorem dX11_init_111 : decode cX11_init 111 = .ok (.invokespecial 73, 3) := by decide +kernel
theorem dX11_init_114 : decode cX11_init 114 = .ok (.putfield 74, 3) := by decide +kernel
theorem dX11_init_117 : decode cX11_init 117 = .ok (.iconst 0, 1) := by decide +kernel
theorem dX11_init_118 : decode cX11_init 118 = .ok (.istore_n 1, 1) := by decide +kernel
theorem dX11_init_119 : decode cX11_init 119 = .ok (.iload_n 1, 1) := by decide +kernel
theorem dX11_init_120 : decode cX11_init 120 = .ok (.iconst 2, 1) := by decide +kernel
theorem dX11_init_121 : decode cX11_init 121 = .ok (.if_icmp .ge 23, 3) := by decide +kernel
theorem dX11_init_124 : decode cX11_init 124 = .ok (.aload_n 0, 1) := by decide +kernel
theorem dX11_init_125 : decode cX11_init 125 = .ok (.getfield 11, 3) := by decide +kernel
theorem dX11_init_128 : decode cX11_init 128 = .ok (.iload_n 1, 1) := by decide +kernel
theorem dX11_init_129 : decode cX11_init 129 = .ok (.new 9, 3) := by decide +kernel
theorem dX11_init_132 : decode cX11_init 132 = .ok (.dup, 1) := by decide +kernel
theorem dX11_init_133 : decode cX11_init 133 = .ok (.iload_n 1, 1) := by decide +kernel
theorem dX11_init_134 : decode cX11_init 134 = .ok (.invokespecial 78, 3) := by decide +kernel
theorem dX11_init_137 : decode cX11_init 137 = .ok (.aastore, 1) := by decide +kernel
theorem dX11_init_138 : decode cX11_init 138 = .ok (.iinc 1 1, 3) := by decide +kernel
theorem dX11_init_141 : decode cX11_init 141 = .ok (.goto (-22), 3) := by decide +kernel
theorem dX11_init_144 : decode cX11_init 144 = .ok (.iconst 0, 1) := by decide +kernel
theorem dX11_init_145 : decode cX11_init 145 = .ok (.istore_n 1, 1) := by decide +kernel
theorem dX11_init_146 : decode cX11_init 146 = .ok (.iload_n 1, 1) := by decide +kernel
theorem dX11_init_147 : decode cX11_init 147 = .ok (.iconst 4, 1) := by decide +kernel
theorem dX11_init_148 : decode cX11_init 148 = .ok (.if_icmp .ge 29, 3) := by decide +kernel
theorem dX11_init_151 : decode cX11_init 151 = .ok (.aload_n 0, 1) := by decide +kernel
theorem dX11_init_152 : decode cX11_init 152 = .ok (.getfield 17, 3) := by decide +kernel
theorem dX11_init_155 : decode cX11_init 155 = .ok (.iload_n 1, 1) := by decide +kernel
theorem dX11_init_156 : decode cX11_init 156 = .ok (.new 15, 3) := by decide +kernel
theorem dX11_init_159 : decode cX11_init 159 = .ok (.dup, 1) := by decide +kernel
theorem dX11_init_160 : decode cX11_init 160 = .ok (.invokespecial 81, 3) := by decide +kernel
theorem dX11_init_163 : decode cX11_init 163 = .ok (.aastore, 1) := by decide +kernel
theorem dX11_init_164 : decode cX11_init 164 = .ok (.aload_n 0, 1) := by decide +kernel
theorem dX11_init_165 : decode cX11_init 165 = .ok (.getfield 32, 3) := by decide +kernel
theorem dX11_init_168 : decode cX11_init 168 = .ok (.iload_n 1, 1) := by decide +kernel
theorem dX11_init_169 : decode cX11_init 169 = .ok (.iconst 1, 1) := by decide +kernel
theorem dX11_init_170 : decode cX11_init 170 = .ok (.iastore, 1) := by decide +kernel
theorem dX11_init_171 : decode cX11_init 171 = .ok (.iinc 1 1, 3) := by decide +kernel
theorem dX11_init_174 : decode cX11_init 174 = .ok (.goto (-28), 3) := by decide +kernel
theorem dX11_init_177 : decode cX11_init 177 = .ok (.iconst 0, 1) := by decide +kernel
theorem dX11_init_178 : decode cX11_init 178 = .ok (.istore_n 1, 1) := by decide +kernel
theorem dX11_init_179 : decode cX11_init 179 = .ok (.iload_n 1, 1) := by decide +kernel
theorem dX11_init_180 : decode cX11_init 180 = .ok (.bipush 16, 2) := by decide +kernel
theorem dX11_init_182 : decode cX11_init 182 = .ok (.if_icmp .ge 22, 3) := by decide +kernel
theorem dX11_init_185 : decode cX11_init 185 = .ok (.aload_n 0, 1) := by decide +kernel
theorem dX11_init_186 : decode cX11_init 186 = .ok (.getfield 21, 3) := by decide +kernel
theorem dX11_init_189 : decode cX11_init 189 = .ok (.iload_n 1, 1) := by decide +kernel
theorem dX11_init_190 : decode cX11_init 190 = .ok (.new 15, 3) := by decide +kernel
theorem dX11_init_193 : decode cX11_init 193 = .ok (.dup, 1) := by decide +kernel
theorem dX11_init_194 : decode cX11_init 194 = .ok (.invokespecial 81, 3) := by decide +kernel
theorem dX11_init_197 : decode cX11_init 197 = .ok (.aastore, 1) := by decide +kernel
theorem dX11_init_198 : decode cX11_init 198 = .ok (.iinc 1 1, 3) := by decide +kernel
theorem dX11_init_201 : decode cX11_init 201 = .ok (.goto (-22), 3) := by decide +kernel
theorem dX11_init_204 : decode cX11_init 204 = .ok (.iconst 0, 1) := by decide +kernel
theorem dX11_init_205 : decode cX11_init 205 = .ok (.istore_n 1, 1) := by decide +kernel
theorem dX11_init_206 : decode cX11_init 206 = .ok (.iload_n 1, 1) := by decide +kernel
theorem dX11_init_207 : decode cX11_init 207 = .ok (.iconst 2, 1) := by decide +kernel
theorem dX11_init_208 : decode cX11_init 208 = .ok (.if_icmp .ge 35, 3) := by decide +kernel
theorem dX11_init_211 : decode cX11_init 211 = .ok (.aload_n 0, 1) := by decide +kernel
theorem dX11_init_212 : decode cX11_init 212 = .ok (.getfield 47, 3) := by decide +kernel
theorem dX11_init_215 : decode cX11_init 215 = .ok (.iload_n 1, 1) := by decide +kernel
theorem dX11_init_216 : decode cX11_init 216 = .ok (.new 45, 3) := by decide +kernel
theorem dX11_init_219 : decode cX11_init 219 = .ok (.dup, 1) := by decide +kernel
theorem dX11_init_220 : decode cX11_init 220 = .ok (.invokespecial 82, 3) := by decide +kernel
theorem dX11_init_223 : decode cX11_init 223 = .ok (.aastore, 1) := by decide +kernel
theorem dX11_init_224 : decode cX11_init 224 = .ok (.aload_n 0, 1) := by decide +kernel
theorem dX11_init_225 : decode cX11_init 225 = .ok (.getfield 53, 3) := by decide +kernel
theorem dX11_init_228 : decode cX11_init 228 = .ok (.iload_n 1, 1) := by decide +kernel
theorem dX11_init_229 : decode cX11_init 229 = .ok (.new 51, 3) := by decide +kernel
theorem dX11_init_232 : decode cX11_init 232 = .ok (.dup, 1) := by decide +kernel
theorem dX11_init_233 : decode cX11_init 233 = .ok (.invokespecial 83, 3) := by decide +kernel
theorem dX11_init_236 : decode cX11_init 236 = .ok (.aastore, 1) := by decide +kernel
theorem dX11_init_237 : decode cX11_init 237 = .ok (.iinc 1 1, 3) := by decide +kernel
theorem dX11_init_240 : decode cX11_init 240 = .ok (.goto (-34), 3) := by decide +kernel
theorem dX11_init_243 : decode cX11_init 243 = .ok (.return_, 1) := by decide +kernel
set_option maxHeartbeats 4000000 in
set_option maxRecDepth 100000 in
theorem c_X11_init {P : PP} {a : Nat} {S : List Nat} (ha : a ∈ pL P) (haK : pK P a = 11) (hr : ∀ k, pR P a k = none) (hg : xAG (a :: S) P) (z : zG P) (hS : S = []) : CtrV yX11_init cX11_init 2 none ({ frames := 4, cells := 119, slots := 3017, locals := 256 } : Room) 119 3017 P [.ref a] (fun P2 => IV P2 ∧ At P2 a 11 ∧ ∀ b, b ∈ pL P2 → pK P2 b = 9 → pI P2 b 1 = 0) := by
  subst hS
  have D0 := yDn.zero ha hg z hr
  refine enV (lv := [(0, .ref a)]) (by decide) (Nat.le_of_ble_eq_true rfl) rfl (fun E D cy C Ci0 ret => ?_)
  have Ci9 := Ci0 rfl
  refine g_aload_n C dX11_init_0 rfl 0 rfl ?_
  refine g_objInit C oi_X11_3 oi_inst oi_code (by decide) (by decide) (Nat.le_of_ble_eq_true rfl) dX11_init_1 ?_
  refine g_aload_n C dX11_init_4 rfl 0 rfl ?_
  refine g_iconst (v := 2) C dX11_init_5 (by decide) ?_
  refine g_newQ (kd := 17) (N := 2) C (by decide) cl_X11_9 ao_X1 (by decide) rfl (by decide) (by decide) (by decide) dX11_init_6 (fun q166 h167 => ?_)
  refine g_putFR C fi_X11_11 Ci9 ⟨_, rfl, rfl⟩ rfl ((xExt.new (S := []) h167).1 _ D0.mem).1 (((xExt.new (S := []) h167).1 _ D0.mem).2.1.trans (D0.kind.trans haK)) dX11_init_9 ?_
  have e169 : pR (pSR (pNw P q166 17 2) a 0 (some q166)) a 0 = some q166 := R_put
  have D168 := D0.arrQ (k := 0) h167 (show shp (pK P a) 0 = some (17, 2) by rw [haK]; rfl)
  generalize pSR (pNw P q166 17 2) a 0 (some q166) = P170 at D168 e169 ⊢
  refine g_aload_n C dX11_init_12 rfl 0 rfl ?_
  refine g_iconst (v := 4) C dX11_init_13 (by decide) ?_
  refine g_newQ (kd := 19) (N := 4) C (by decide) cl_X11_15 ao_X6 (by decide) rfl (by decide) (by decide) (by decide) dX11_init_14 (fun q171 h172 => ?_)
  refine g_putFR C fi_X11_17 Ci9 ⟨_, rfl, rfl⟩ rfl ((xExt.new (S := []) h172).1 _ D168.mem).1 (((xExt.new (S := []) h172).1 _ D168.mem).2.1.trans (D168.kind.trans haK)) dX11_init_17 ?_
  have e174 := R_keep (k := 1) (kd := 19) (n := 4) (v := some q171) h172 D168.mem (by decide) e169
  have e175 : pR (pSR (pNw P170 q171 19 4) a 1 (some q171)) a 1 = some q171 := R_put
  have D173 := D168.arrQ (k := 1) h172 (show shp (pK P a) 1 = some (19, 4) by rw [haK]; rfl)
  generalize pSR (pNw P170 q171 19 4) a 1 (some q171) = P176 at D173 e174 e175 ⊢
  refine g_aload_n C dX11_init_20 rfl 0 rfl ?_
  refine g_bipush (v := 16) C dX11_init_21 (by decide) ?_
  refine g_newQ (kd := 19) (N := 16) C (by decide) cl_X11_15 ao_X6 (by decide) rfl (by decide) (by decide) (by decide) dX11_init_23 (fun q177 h178 => ?_)
  refine g_putFR C fi_X11_21 Ci9 ⟨_, rfl, rfl⟩ rfl ((xExt.new (S := []) h178).1 _ D173.mem).1 (((xExt.new (S := []) h178).1 _ D173.mem).2.1.trans (D173.kind.trans haK)) dX11_init_26 ?_
  have e180 := R_keep (k := 2) (kd := 19) (n := 16) (v := some q177) h178 D173.mem (by decide) e174
  have e181 := R_keep (k := 2) (kd := 19) (n := 16) (v := some q177) h178 D173.mem (by decide) e175
  have e182 : pR (pSR (pNw P176 q177 19 16) a 2 (some q177)) a 2 = some q177 := R_put
  have D179 := D173.arrQ (k := 2) h178 (show shp (pK P a) 2 = some (19, 16) by rw [haK]; rfl)
  generalize pSR (pNw P176 q177 19 16) a 2 (some q177) = P183 at D179 e180 e181 e182 ⊢
  refine g_aload_n C dX11_init_29 rfl 0 rfl ?_
  refine g_iconst (v := 4) C dX11_init_30 (by decide) ?_
  refine g_newZ (N := 4) C ac_boolean (by decide) rfl (by decide) (by decide) (by decide) dX11_init_31 (fun q184 h185 => ?_)
  refine g_putFR C fi_X11_24 Ci9 ⟨_, rfl, rfl⟩ rfl ((xExt.new (S := []) h185).1 _ D179.mem).1 (((xExt.new (S := []) h185).1 _ D179.mem).2.1.trans (D179.kind.trans haK)) dX11_init_33 ?_
  have e187 := R_keep (k := 3) (kd := 15) (n := 4) (v := some q184) h185 D179.mem (by decide) e180
  have e188 := R_keep (k := 3) (kd := 15) (n := 4) (v := some q184) h185 D179.mem (by decide) e181
  have e189 := R_keep (k := 3) (kd := 15) (n := 4) (v := some q184) h185 D179.mem (by decide) e182
  have D186 := D179.arr (k := 3) h185 (show shp (pK P a) 3 = some (15, 4) by rw [haK]; rfl) (by decide) (by decide)
  generalize pSR (pNw P183 q184 15 4) a 3 (some q184) = P190 at D186 e187 e188 e189 ⊢
  refine g_aload_n C dX11_init_36 rfl 0 rfl ?_
  refine g_iconst (v := 4) C dX11_init_37 (by decide) ?_
  refine g_newI (N := 4) C ac_int (by decide) rfl (by decide) (by decide) (by decide) dX11_init_38 (fun q191 h192 => ?_)
  refine g_putFR C fi_X11_28 Ci9 ⟨_, rfl, rfl⟩ rfl ((xExt.new (S := []) h192).1 _ D186.mem).1 (((xExt.new (S := []) h192).1 _ D186.mem).2.1.trans (D186.kind.trans haK)) dX11_init_40 ?_
  have e194 := R_keep (k := 4) (kd := 13) (n := 4) (v := some q191) h192 D186.mem (by decide) e187
  have e195 := R_keep (k := 4) (kd := 13) (n := 4) (v := some q191) h192 D186.mem (by decide) e188
  have e196 := R_keep (k := 4) (kd := 13) (n := 4) (v := some q191) h192 D186.mem (by decide) e189
  have D193 := D186.arr (k := 4) h192 (show shp (pK P a) 4 = some (13, 4) by rw [haK]; rfl) (by decide) (by decide)
  generalize pSR (pNw P190 q191 13 4) a 4 (some q191) = P197 at D193 e194 e195 e196 ⊢
  refine g_aload_n C dX11_init_43 rfl 0 rfl ?_
  refine g_iconst (v := 4) C dX11_init_44 (by decide) ?_
  refine g_newI (N := 4) C ac_int (by decide) rfl (by decide) (by decide) (by decide) dX11_init_45 (fun q198 h199 => ?_)
  refine g_putFR C fi_X11_32 Ci9 ⟨_, rfl, rfl⟩ rfl ((xExt.new (S := []) h199).1 _ D193.mem).1 (((xExt.new (S := []) h199).1 _ D193.mem).2.1.trans (D193.kind.trans haK)) dX11_init_47 ?_
  have e201 := R_keep (k := 5) (kd := 13) (n := 4) (v := some q198) h199 D193.mem (by decide) e194
  have e202 := R_keep (k := 5) (kd := 13) (n := 4) (v := some q198) h199 D193.mem (by decide) e195
  have e203 := R_keep (k := 5) (kd := 13) (n := 4) (v := some q198) h199 D193.mem (by decide) e196
  have e204 : pR (pSR (pNw P197 q198 13 4) a 5 (some q198)) a 5 = some q198 := R_put
  have D200 := D193.arr (k := 5) h199 (show shp (pK P a) 5 = some (13, 4) by rw [haK]; rfl) (by decide) (by decide)
  generalize pSR (pNw P197 q198 13 4) a 5 (some q198) = P205 at D200 e201 e202 e203 e204 ⊢
  refine g_aload_n C dX11_init_50 rfl 0 rfl ?_
  refine g_iconst (v := 4) C dX11_init_51 (by decide) ?_
  refine g_newI (N := 4) C ac_int (by decide) rfl (by decide) (by decide) (by decide) dX11_init_52 (fun q206 h207 => ?_)
  refine g_putFR C fi_X11_35 Ci9 ⟨_, rfl, rfl⟩ rfl ((xExt.new (S := []) h207).1 _ D200.mem).1 (((xExt.new (S := []) h207).1 _ D200.mem).2.1.trans (D200.kind.trans haK)) dX11_init_54 ?_
  have e209 := R_keep (k := 6) (kd := 13) (n := 4) (v := some q206) h207 D200.mem (by decide) e201
  have e210 := R_keep (k := 6) (kd := 13) (n := 4) (v := some q206) h207 D200.mem (by decide) e202
  have e211 := R_keep (k := 6) (kd := 13) (n := 4) (v := some q206) h207 D200.mem (by decide) e203
  have e212 := R_keep (k := 6) (kd := 13) (n := 4) (v := some q206) h207 D200.mem (by decide) e204
  have D208 := D200.arr (k := 6) h207 (show shp (pK P a) 6 = some (13, 4) by rw [haK]; rfl) (by decide) (by decide)
  generalize pSR (pNw P205 q206 13 4) a 6 (some q206) = P213 at D208 e209 e210 e211 e212 ⊢
  refine g_aload_n C dX11_init_57 rfl 0 rfl ?_
  refine g_new C ni_X11_38 (by decide) (by decide) dX11_init_58 (fun q214 h215 => ?_)
  refine g_dup C dX11_init_61 rfl ?_
  refine g_callNV (ci := 0) (ret := none) (rest := [.ref q214, .ref a]) C mn_X11_40 [] (c_X4_init (S := a :: (q177 :: (q171 :: (q166 :: [])))) in_new K_new (fun _ => by rw [R_new]) (D208.1.2.1.new h215) (D208.2.1.new h215)) rfl rfl (by decide) (Nat.le_of_ble_eq_true rfl) (by decide) dX11_init_62 (fun Q217 h218 => ?_)
  refine g_putFR C fi_X11_41 Ci9 ⟨_, rfl, rfl⟩ rfl (((xExt.new (S := [q214]) h215).tr h218.2.1).1 _ D208.mem).1 ((((xExt.new (S := [q214]) h215).tr h218.2.1).1 _ D208.mem).2.1.trans (D208.kind.trans haK)) dX11_init_65 ?_
  have e220 := R_keepO (k := 7) (v := some q214) h215 D208.mem (by decide) e209 h218.2.1
  have e221 := R_keepO (k := 7) (v := some q214) h215 D208.mem (by decide) e210 h218.2.1
  have e222 := R_keepO (k := 7) (v := some q214) h215 D208.mem (by decide) e211 h218.2.1
  have e223 := R_keepO (k := 7) (v := some q214) h215 D208.mem (by decide) e212 h218.2.1
  have D219 := D208.obj (k := 7) h215 (by decide) h218 (show shp (pK P a) 7 = some (4, 0) by rw [haK]; rfl)
  generalize pSR Q217 a 7 (some q214) = P224 at D219 e220 e221 e222 e223 ⊢
  refine g_aload_n C dX11_init_68 rfl 0 rfl ?_
  refine g_iconst (v := 2) C dX11_init_69 (by decide) ?_
  refine g_newQ (kd := 18) (N := 2) C (by decide) cl_X11_45 ao_X5 (by decide) rfl (by decide) (by decide) (by decide) dX11_init_70 (fun q225 h226 => ?_)
  refine g_putFR C fi_X11_47 Ci9 ⟨_, rfl, rfl⟩ rfl ((xExt.new (S := []) h226).1 _ D219.mem).1 (((xExt.new (S := []) h226).1 _ D219.mem).2.1.trans (D219.kind.trans haK)) dX11_init_73 ?_
  have e228 := R_keep (k := 8) (kd := 18) (n := 2) (v := some q225) h226 D219.mem (by decide) e220
  have e229 := R_keep (k := 8) (kd := 18) (n := 2) (v := some q225) h226 D219.mem (by decide) e221
  have e230 := R_keep (k := 8) (kd := 18) (n := 2) (v := some q225) h226 D219.mem (by decide) e222
  have e231 := R_keep (k := 8) (kd := 18) (n := 2) (v := some q225) h226 D219.mem (by decide) e223
  have e232 : pR (pSR (pNw P224 q225 18 2) a 8 (some q225)) a 8 = some q225 := R_put
  have D227 := D219.arrQ (k := 8) h226 (show shp (pK P a) 8 = some (18, 2) by rw [haK]; rfl)
  generalize pSR (pNw P224 q225 18 2) a 8 (some q225) = P233 at D227 e228 e229 e230 e231 e232 ⊢
  refine g_aload_n C dX11_init_76 rfl 0 rfl ?_
  refine g_iconst (v := 2) C dX11_init_77 (by decide) ?_
  refine g_newQ (kd := 16) (N := 2) C (by decide) cl_X11_51 ao_X0 (by decide) rfl (by decide) (by decide) (by decide) dX11_init_78 (fun q234 h235 => ?_)
  refine g_putFR C fi_X11_53 Ci9 ⟨_, rfl, rfl⟩ rfl ((xExt.new (S := []) h235).1 _ D227.mem).1 (((xExt.new (S := []) h235).1 _ D227.mem).2.1.trans (D227.kind.trans haK)) dX11_init_81 ?_
  have e237 := R_keep (k := 9) (kd := 16) (n := 2) (v := some q234) h235 D227.mem (by decide) e228
  have e238 := R_keep (k := 9) (kd := 16) (n := 2) (v := some q234) h235 D227.mem (by decide) e229
  have e239 := R_keep (k := 9) (kd := 16) (n := 2) (v := some q234) h235 D227.mem (by decide) e230
  have e240 := R_keep (k := 9) (kd := 16) (n := 2) (v := some q234) h235 D227.mem (by decide) e231
  have e241 := R_keep (k := 9) (kd := 16) (n := 2) (v := some q234) h235 D227.mem (by decide) e232
  have e242 : pR (pSR (pNw P233 q234 16 2) a 9 (some q234)) a 9 = some q234 := R_put
  have D236 := D227.arrQ (k := 9) h235 (show shp (pK P a) 9 = some (16, 2) by rw [haK]; rfl)
  generalize pSR (pNw P233 q234 16 2) a 9 (some q234) = P243 at D236 e237 e238 e239 e240 e241 e242 ⊢
  refine g_aload_n C dX11_init_84 rfl 0 rfl ?_
  refine g_new C ni_X11_57 (by decide) (by decide) dX11_init_85 (fun q244 h245 => ?_)
  refine g_dup C dX11_init_88 rfl ?_
  refine g_callNV (ci := 0) (ret := none) (rest := [.ref q244, .ref a]) C mn_X11_59 [] (c_X8_init (S := a :: (q234 :: (q225 :: (q177 :: (q171 :: (q166 :: [])))))) in_new K_new (fun _ => by rw [R_new]) (D236.1.2.1.new h245) (D236.2.1.new h245)) rfl rfl (by decide) (Nat.le_of_ble_eq_true rfl) (by decide) dX11_init_89 (fun Q247 h248 => ?_)
  refine g_putFR C fi_X11_60 Ci9 ⟨_, rfl, rfl⟩ rfl (((xExt.new (S := [q244]) h245).tr h248.2.1).1 _ D236.mem).1 ((((xExt.new (S := [q244]) h245).tr h248.2.1).1 _ D236.mem).2.1.trans (D236.kind.trans haK)) dX11_init_92 ?_
  have e250 := R_keepO (k := 10) (v := some q244) h245 D236.mem (by decide) e237 h248.2.1
  have e251 := R_keepO (k := 10) (v := some q244) h245 D236.mem (by decide) e238 h248.2.1
  have e252 := R_keepO (k := 10) (v := some q244) h245 D236.mem (by decide) e239 h248.2.1
  have e253 := R_keepO (k := 10) (v := some q244) h245 D236.mem (by decide) e240 h248.2.1
  have e254 := R_keepO (k := 10) (v := some q244) h245 D236.mem (by decide) e241 h248.2.1
  have e255 := R_keepO (k := 10) (v := some q244) h245 D236.mem (by decide) e242 h248.2.1
  have D249 := D236.obj (k := 10) h245 (by decide) h248 (show shp (pK P a) 10 = some (8, 0) by rw [haK]; rfl)
  generalize pSR Q247 a 10 (some q244) = P256 at D249 e250 e251 e252 e253 e254 e255 ⊢
  refine g_aload_n C dX11_init_95 rfl 0 rfl ?_
  refine g_new C ni_X11_64 (by decide) (by decide) dX11_init_96 (fun q257 h258 => ?_)
  refine g_dup C dX11_init_99 rfl ?_
  refine g_callNV (ci := 0) (ret := none) (rest := [.ref q257, .ref a]) C mn_X11_66 [] (c_X2_init (S := a :: (q234 :: (q225 :: (q177 :: (q171 :: (q166 :: [])))))) in_new K_new (fun _ => by rw [R_new]) (D249.1.2.1.new h258) (D249.2.1.new h258)) rfl rfl (by decide) (Nat.le_of_ble_eq_true rfl) (by decide) dX11_init_100 (fun Q260 h261 => ?_)
  refine g_putFR C fi_X11_67 Ci9 ⟨_, rfl, rfl⟩ rfl (((xExt.new (S := [q257]) h258).tr h261.2.1).1 _ D249.mem).1 ((((xExt.new (S := [q257]) h258).tr h261.2.1).1 _ D249.mem).2.1.trans (D249.kind.trans haK)) dX11_init_103 ?_
  have e263 := R_keepO (k := 11) (v := some q257) h258 D249.mem (by decide) e250 h261.2.1
  have e264 := R_keepO (k := 11) (v := some q257) h258 D249.mem (by decide) e251 h261.2.1
  have e265 := R_keepO (k := 11) (v := some q257) h258 D249.mem (by decide) e252 h261.2.1
  have e266 := R_keepO (k := 11) (v := some q257) h258 D249.mem (by decide) e253 h261.2.1
  have e267 := R_keepO (k := 11) (v := some q257) h258 D249.mem (by decide) e254 h261.2.1
  have e268 := R_keepO (k := 11) (v := some q257) h258 D249.mem (by decide) e255 h261.2.1
  have D262 := D249.obj (k := 11) h258 (by decide) h261 (show shp (pK P a) 11 = some (2, 0) by rw [haK]; rfl)
  generalize pSR Q260 a 11 (some q257) = P269 at D262 e263 e264 e265 e266 e267 e268 ⊢
  refine g_aload_n C dX11_init_106 rfl 0 rfl ?_
  refine g_new C ni_X11_71 (by decide) (by decide) dX11_init_107 (fun q270 h271 => ?_)
  refine g_dup C dX11_init_110 rfl ?_
  refine g_callCV (ci := 0) (ret := none) (rest := [.ref q270, .ref a]) C mi_X11_73 [] (c_X10_init (S := a :: (q234 :: (q225 :: (q177 :: (q171 :: (q166 :: [])))))) in_new K_new (fun _ => by rw [R_new]) (D262.1.2.1.new h271) (D262.2.1.new h271)) rfl rfl (by decide) (Nat.le_of_ble_eq_true rfl) (by decide) dX11_init_111 (fun Q273 h274 => ?_)
  refine g_putFR C fi_X11_74 Ci9 ⟨_, rfl, rfl⟩ rfl (((xExt.new (S := [q270]) h271).tr h274.2.1).1 _ D262.mem).1 ((((xExt.new (S := [q270]) h271).tr h274.2.1).1 _ D262.mem).2.1.trans (D262.kind.trans haK)) dX11_init_114 ?_
  have e276 := R_keepO (k := 12) (v := some q270) h271 D262.mem (by decide) e263 h274.2.1
  have e277 := R_keepO (k := 12) (v := some q270) h271 D262.mem (by decide) e264 h274.2.1
  have e278 := R_keepO (k := 12) (v := some q270) h271 D262.mem (by decide) e265 h274.2.1
  have e279 := R_keepO (k := 12) (v := some q270) h271 D262.mem (by decide) e266 h274.2.1
  have e280 := R_keepO (k := 12) (v := some q270) h271 D262.mem (by decide) e267 h274.2.1
  have e281 := R_keepO (k := 12) (v := some q270) h271 D262.mem (by decide) e268 h274.2.1
  have D275 := D262.obj (k := 12) h271 (by decide) h274 (show shp (pK P a) 12 = some (10, 0) by rw [haK]; rfl)
  generalize pSR Q273 a 12 (some q270) = P282 at D275 e276 e277 e278 e279 e280 e281 ⊢
  refine g_iconst (v := 0) C dX11_init_117 (by decide) ?_
  refine g_istore_n (lv' := [(1, .int 0), (0, .ref a)]) C dX11_init_118 rfl (by decide) rfl ?_
  have dd := D275.done haK (by decide) (kin (by decide +kernel))
  have hq0 := fd_at D275 haK (by decide) (k := 0) rfl e276
  have hq1 := fd_at D275 haK (by decide) (k := 1) rfl e277
  have hq2 := fd_at D275 haK (by decide) (k := 2) rfl e278
  have hq8 := fd_at D275 haK (by decide) (k := 8) rfl e280
  have hq9 := fd_at D275 haK (by decide) (k := 9) rfl e281
  have hq5 := fd_at D275 haK (by decide) (k := 5) rfl e279
  have L0 : LI [q234, q225, q177, q171, q166, q198] [q234, q225, q177, q171, q166] P282 P282 := ⟨xExt.rf, dd.1, dd.2.2⟩
  have am := D275.mem
  have aK := D275.kind.trans haK
  have inj := D275.2.2.2.1
  have anT : a ∉ [q234, q225, q177, q171, q166, q198] := fun h9 => by
    simp only [List.mem_cons, List.not_mem_nil, or_false] at h9
    rcases h9 with h | h | h | h | h | h <;> subst h <;> omega
  have f00 := yFl.zero hq0.1 hq0.2.1 hq0.2.2
  have f10 := yFl.zero hq1.1 hq1.2.1 hq1.2.2
  have f20 := yFl.zero hq2.1 hq2.2.1 hq2.2.2
  have f80 := yFl.zero hq8.1 hq8.2.1 hq8.2.2
  have f90 := yFl.zero hq9.1 hq9.2.1 hq9.2.2
  have g0 : ∀ j, j < 0 → pI P282 q198 j = 1 := fun j hj => absurd hj (by omega)
  have lp286 : ∀ (n288 i283 : Nat), i283 + n288 = 2 → ∀ (P289 : PP), (LI [q234, q225, q177, q171, q166, q198] [q234, q225, q177, q171, q166] P282 P289) → (yFl P289 q166 17 2 i283) → (yFl P289 q171 19 4 0) → (yFl P289 q177 19 16 0) → (yFl P289 q225 18 2 0) → (yFl P289 q234 16 2 0) → ((∀ j, j < 0 → pI P289 q198 j = 1)) → G E ({ frames := 4, cells := 119, slots := 3017, locals := 256 } : Room) D cy 2 P289 (51 + i283 * 6) (1601 + i283 * 114) 119 [(1, .int (nI i283)), (0, .ref a)] [] := by
    intro n288
    induction n288 with
    | zero =>
      intro i283 hi284 P289 L290 f291 f292 f293 f294 f295 g296
      have ei285 : (nI i283).toInt = (i283 : Int) := ti_nI (by omega)
      have ehi284 : i283 = 2 := by omega
      subst ehi284
      refine g_iload_n C dX11_init_119 rfl 0 rfl ?_
      refine g_iconst (v := 2) C dX11_init_120 (by decide) ?_
      refine b_icmp_ge C 144 dX11_init_121 (by decide) (fun h297 => ?_) (fun h297 => ?_)
      · have h297 : 2 ≤ (nI 2).toInt := h297
        refine g_iconst (v := 0) C dX11_init_144 (by decide) ?_
        refine g_istore_n (lv' := [(1, .int 0), (0, .ref a)]) C dX11_init_145 rfl (by decide) rfl ?_
        have lp301 : ∀ (n303 i298 : Nat), i298 + n303 = 4 → ∀ (P304 : PP), (LI [q234, q225, q177, q171, q166, q198] [q234, q225, q177, q171, q166] P282 P304) → (yFl P304 q166 17 2 2) → (yFl P304 q171 19 4 i298) → (yFl P304 q177 19 16 0) → (yFl P304 q225 18 2 0) → (yFl P304 q234 16 2 0) → ((∀ j, j < i298 → pI P304 q198 j = 1)) → G E ({ frames := 4, cells := 119, slots := 3017, locals := 256 } : Room) D cy 2 P304 ((51 + 2 * 6) + i298 * 2) ((1601 + 2 * 114) + i298 * 42) 146 [(1, .int (nI i298)), (0, .ref a)] [] := by
          intro n303
          induction n303 with
          | zero =>
            intro i298 hi299 P304 L305 f306 f307 f308 f309 f310 g311
            have ei300 : (nI i298).toInt = (i298 : Int) := ti_nI (by omega)
            have ehi299 : i298 = 4 := by omega
            subst ehi299
            refine g_iload_n C dX11_init_146 rfl 0 rfl ?_
            refine g_iconst (v := 4) C dX11_init_147 (by decide) ?_
            refine b_icmp_ge C 177 dX11_init_148 (by decide) (fun h312 => ?_) (fun h312 => ?_)
            · have h312 : 4 ≤ (nI 4).toInt := h312
              refine g_iconst (v := 0) C dX11_init_177 (by decide) ?_
              refine g_istore_n (lv' := [(1, .int 0), (0, .ref a)]) C dX11_init_178 rfl (by decide) rfl ?_
              have lp316 : ∀ (n318 i313 : Nat), i313 + n318 = 16 → ∀ (P319 : PP), (LI [q234, q225, q177, q171, q166, q198] [q234, q225, q177, q171, q166] P282 P319) → (yFl P319 q166 17 2 2) → (yFl P319 q171 19 4 4) → (yFl P319 q177 19 16 i313) → (yFl P319 q225 18 2 0) → (yFl P319 q234 16 2 0) → ((∀ j, j < 4 → pI P319 q198 j = 1)) → G E ({ frames := 4, cells := 119, slots := 3017, locals := 256 } : Room) D cy 2 P319 (((51 + 2 * 6) + 4 * 2) + i313 * 2) (((1601 + 2 * 114) + 4 * 42) + i313 * 42) 179 [(1, .int (nI i313)), (0, .ref a)] [] := by
                intro n318
                induction n318 with
                | zero =>
                  intro i313 hi314 P319 L320 f321 f322 f323 f324 f325 g326
                  have ei315 : (nI i313).toInt = (i313 : Int) := ti_nI (by omega)
                  have ehi314 : i313 = 16 := by omega
                  subst ehi314
                  refine g_iload_n C dX11_init_179 rfl 0 rfl ?_
                  refine g_bipush (v := 16) C dX11_init_180 (by decide) ?_
                  refine b_icmp_ge C 204 dX11_init_182 (by decide) (fun h327 => ?_) (fun h327 => ?_)
                  · have h327 : 16 ≤ (nI 16).toInt := h327
                    refine g_iconst (v := 0) C dX11_init_204 (by decide) ?_
                    refine g_istore_n (lv' := [(1, .int 0), (0, .ref a)]) C dX11_init_205 rfl (by decide) rfl ?_
                    have lp331 : ∀ (n333 i328 : Nat), i328 + n333 = 2 → ∀ (P334 : PP), (LI [q234, q225, q177, q171, q166, q198] [q234, q225, q177, q171, q166] P282 P334) → (yFl P334 q166 17 2 2) → (yFl P334 q171 19 4 4) → (yFl P334 q177 19 16 16) → (yFl P334 q225 18 2 i328) → (yFl P334 q234 16 2 i328) → ((∀ j, j < 4 → pI P334 q198 j = 1)) → G E ({ frames := 4, cells := 119, slots := 3017, locals := 256 } : Room) D cy 2 P334 ((((51 + 2 * 6) + 4 * 2) + 16 * 2) + i328 * 8) ((((1601 + 2 * 114) + 4 * 42) + 16 * 42) + i328 * 174) 206 [(1, .int (nI i328)), (0, .ref a)] [] := by
                      intro n333
                      induction n333 with
                      | zero =>
                        intro i328 hi329 P334 L335 f336 f337 f338 f339 f340 g341
                        have ei330 : (nI i328).toInt = (i328 : Int) := ti_nI (by omega)
                        have ehi329 : i328 = 2 := by omega
                        subst ehi329
                        refine g_iload_n C dX11_init_206 rfl 0 rfl ?_
                        refine g_iconst (v := 2) C dX11_init_207 (by decide) ?_
                        refine b_icmp_ge C 243 dX11_init_208 (by decide) (fun h342 => ?_) (fun h342 => ?_)
                        · have h342 : 2 ≤ (nI 2).toInt := h342
                          exact ret _ _ _ _ _ dX11_init_243 (by omega) (by omega) (IV.made D275 haK L335 f336 f337 f338 f339 f340)
                        · have h342 : (nI 2).toInt < 2 := h342
                          omega
                      | succ n333 ih332 =>
                        intro i328 hi329 P334 L335 f336 f337 f338 f339 f340 g341
                        have ei330 : (nI i328).toInt = (i328 : Int) := ti_nI (by omega)
                        refine g_iload_n C dX11_init_206 rfl 0 rfl ?_
                        refine g_iconst (v := 2) C dX11_init_207 (by decide) ?_
                        refine b_icmp_ge C 243 dX11_init_208 (by decide) (fun h343 => ?_) (fun h343 => ?_)
                        · have h343 : 2 ≤ (nI i328).toInt := h343
                          omega
                        · have h343 : (nI i328).toInt < 2 := h343
                          refine g_aload_n C dX11_init_211 rfl 1 rfl ?_
                          refine g_getR C fi_X11_47 rfl ((by rw [(L335.1.2 a am anT).2.1]; exact e280)) (L335.1.1 a am).1 ((L335.1.1 a am).2.1.trans aK) dX11_init_212 ?_
                          refine g_iload_n C dX11_init_215 rfl 0 rfl ?_
                          refine g_new C ni_X11_45 (show ((((51 + 2 * 6) + 4 * 2) + 16 * 2) + i328 * 8) + 1 ≤ 119 by omega) (show ((((1601 + 2 * 114) + 4 * 42) + 16 * 42) + i328 * 174) + 6 ≤ 3017 by omega) dX11_init_216 (fun q344 h345 => ?_)
                          refine g_dup C dX11_init_219 rfl ?_
                          refine g_callNV (ci := 0) (ret := none) (rest := [.ref q344, .int (nI i328), .ref q225]) C mn_X11_82 [] (c_X5_init (S := [q234, q225, q177, q171, q166]) in_new K_new (fun _ => by rw [R_new]) (L335.2.1.new h345) (L335.2.2.new h345)) rfl rfl (by decide) (Nat.le_of_ble_eq_true rfl) (⟨show (((((51 + 2 * 6) + 4 * 2) + 16 * 2) + i328 * 8) + 1) + 4 ≤ 119 by omega, show (((((1601 + 2 * 114) + 4 * 42) + 16 * 42) + i328 * 174) + 6) + 124 ≤ 3017 by omega⟩) dX11_init_220 (fun Q347 h348 => ?_)
                          obtain ⟨x349L, x349, x349m, x349k⟩ := L335.obj h345 h348
                          have f350 := f336.more x349
                          have f351 := f337.more x349
                          have f352 := f338.more x349
                          have f353 := f339.more x349
                          have f354 := f340.more x349
                          have g355 : ∀ j, j < 4 → pI Q347 q198 j = 1 := fun j hj => by rw [(x349.2 _ (L335.1.1 _ hq5.1).1 List.not_mem_nil).1]; exact g341 j hj
                          refine g_astR (j := i328) C f353.1 f353.2.1 (by decide) (IX.inn f353.2.2.1 (by omega) (by decide)) x349m x349k (by decide) rfl rfl dX11_init_223 ?_
                          have L356 := x349L.putR (a := q225) (k := i328) (v := some q344) (by simp) (by simp) (by rw [f353.2.1]; decide)
                          have f357 := f350.off (a := q225) (k := i328) (v := some q344) (fun h9 => by have h8 := inj 0 8 _ e276 (h9 ▸ e280); omega)
                          have f358 := f351.off (a := q225) (k := i328) (v := some q344) (fun h9 => by have h8 := inj 1 8 _ e277 (h9 ▸ e280); omega)
                          have f359 := f352.off (a := q225) (k := i328) (v := some q344) (fun h9 => by have h8 := inj 2 8 _ e278 (h9 ▸ e280); omega)
                          have f360 := f353.put (b := q344) x349m x349k
                          have f361 := f354.off (a := q225) (k := i328) (v := some q344) (fun h9 => by have h8 := inj 9 8 _ e281 (h9 ▸ e280); omega)
                          have g363 : ∀ j, j < 4 → pI (pSR Q347 q225 i328 (some q344)) q198 j = 1 := g355
                          generalize pSR Q347 q225 i328 (some q344) = P362 at L356 f357 f358 f359 f360 f361 g363 ⊢
                          refine g_aload_n C dX11_init_224 rfl 1 rfl ?_
                          refine g_getR C fi_X11_53 rfl ((by rw [(L356.1.2 a am anT).2.1]; exact e281)) (L356.1.1 a am).1 ((L356.1.1 a am).2.1.trans aK) dX11_init_225 ?_
                          refine g_iload_n C dX11_init_228 rfl 0 rfl ?_
                          refine g_new C ni_X11_51 (show ((((((51 + 2 * 6) + 4 * 2) + 16 * 2) + i328 * 8) + 1) + 4) + 1 ≤ 119 by omega) (show ((((((1601 + 2 * 114) + 4 * 42) + 16 * 42) + i328 * 174) + 6) + 124) + 4 ≤ 3017 by omega) dX11_init_229 (fun q364 h365 => ?_)
                          refine g_dup C dX11_init_232 rfl ?_
                          refine g_callNV (ci := 0) (ret := none) (rest := [.ref q364, .int (nI i328), .ref q234]) C mn_X11_83 [] (c_X0_init (S := [q234, q225, q177, q171, q166]) in_new K_new (fun _ => by rw [R_new]) (L356.2.1.new h365) (L356.2.2.new h365)) rfl rfl (by decide) (Nat.le_of_ble_eq_true rfl) (⟨show (((((((51 + 2 * 6) + 4 * 2) + 16 * 2) + i328 * 8) + 1) + 4) + 1) + 2 ≤ 119 by omega, show (((((((1601 + 2 * 114) + 4 * 42) + 16 * 42) + i328 * 174) + 6) + 124) + 4) + 40 ≤ 3017 by omega⟩) dX11_init_233 (fun Q367 h368 => ?_)
                          obtain ⟨x369L, x369, x369m, x369k⟩ := L356.obj h365 h368
                          have f370 := f357.more x369
                          have f371 := f358.more x369
                          have f372 := f359.more x369
                          have f373 := f360.more x369
                          have f374 := f361.more x369
                          have g375 : ∀ j, j < 4 → pI Q367 q198 j = 1 := fun j hj => by rw [(x369.2 _ (L356.1.1 _ hq5.1).1 List.not_mem_nil).1]; exact g363 j hj
                          refine g_astR (j := i328) C f374.1 f374.2.1 (by decide) (IX.inn f374.2.2.1 (by omega) (by decide)) x369m x369k (by decide) rfl rfl dX11_init_236 ?_
                          have L376 := x369L.putR (a := q234) (k := i328) (v := some q364) (by simp) (by simp) (by rw [f374.2.1]; decide)
                          have f377 := f370.off (a := q234) (k := i328) (v := some q364) (fun h9 => by have h8 := inj 0 9 _ e276 (h9 ▸ e281); omega)
                          have f378 := f371.off (a := q234) (k := i328) (v := some q364) (fun h9 => by have h8 := inj 1 9 _ e277 (h9 ▸ e281); omega)
                          have f379 := f372.off (a := q234) (k := i328) (v := some q364) (fun h9 => by have h8 := inj 2 9 _ e278 (h9 ▸ e281); omega)
                          have f380 := f373.off (a := q234) (k := i328) (v := some q364) (fun h9 => by have h8 := inj 8 9 _ e280 (h9 ▸ e281); omega)
                          have f381 := f374.put (b := q364) x369m x369k
                          have g383 : ∀ j, j < 4 → pI (pSR Q367 q234 i328 (some q364)) q198 j = 1 := g375
                          generalize pSR Q367 q234 i328 (some q364) = P382 at L376 f377 f378 f379 f380 f381 g383 ⊢
                          refine g_iinc (v := (nI (i328 + 1))) (lv' := [(1, .int (nI (i328 + 1))), (0, .ref a)]) C dX11_init_237 0 rfl (nI_1 _) (by decide) rfl ?_
                          refine g_goto C 206 dX11_init_240 (by decide) ?_
                          refine g_widen (cs2 := ((((51 + 2 * 6) + 4 * 2) + 16 * 2) + (i328 + 1) * 8)) (sl2 := ((((1601 + 2 * 114) + 4 * 42) + 16 * 42) + (i328 + 1) * 174)) (by omega) (by omega) ?_
                          exact ih332 (i328 + 1) (by omega) _ L376 f377 f378 f379 f380 f381 g383
                    exact lp331 2 0 rfl _ L320 f321 f322 f323 f324 f325 g326
                  · have h327 : (nI 16).toInt < 16 := h327
                    omega
                | succ n318 ih317 =>
                  intro i313 hi314 P319 L320 f321 f322 f323 f324 f325 g326
                  have ei315 : (nI i313).toInt = (i313 : Int) := ti_nI (by omega)
                  refine g_iload_n C dX11_init_179 rfl 0 rfl ?_
                  refine g_bipush (v := 16) C dX11_init_180 (by decide) ?_
                  refine b_icmp_ge C 204 dX11_init_182 (by decide) (fun h384 => ?_) (fun h384 => ?_)
                  · have h384 : 16 ≤ (nI i313).toInt := h384
                    omega
                  · have h384 : (nI i313).toInt < 16 := h384
                    refine g_aload_n C dX11_init_185 rfl 1 rfl ?_
                    refine g_getR C fi_X11_21 rfl ((by rw [(L320.1.2 a am anT).2.1]; exact e278)) (L320.1.1 a am).1 ((L320.1.1 a am).2.1.trans aK) dX11_init_186 ?_
                    refine g_iload_n C dX11_init_189 rfl 0 rfl ?_
                    refine g_new C ni_X11_15 (show (((51 + 2 * 6) + 4 * 2) + i313 * 2) + 1 ≤ 119 by omega) (show (((1601 + 2 * 114) + 4 * 42) + i313 * 42) + 2 ≤ 3017 by omega) dX11_init_190 (fun q385 h386 => ?_)
                    refine g_dup C dX11_init_193 rfl ?_
                    refine g_callNV (ci := 0) (ret := none) (rest := [.ref q385, .int (nI i313), .ref q177]) C mn_X11_81 [] (c_X6_init (S := [q234, q225, q177, q171, q166]) in_new K_new (fun _ => by rw [R_new]) (L320.2.1.new h386) (L320.2.2.new h386)) rfl rfl (by decide) (Nat.le_of_ble_eq_true rfl) (⟨show ((((51 + 2 * 6) + 4 * 2) + i313 * 2) + 1) + 1 ≤ 119 by omega, show ((((1601 + 2 * 114) + 4 * 42) + i313 * 42) + 2) + 40 ≤ 3017 by omega⟩) dX11_init_194 (fun Q388 h389 => ?_)
                    obtain ⟨x390L, x390, x390m, x390k⟩ := L320.obj h386 h389
                    have f391 := f321.more x390
                    have f392 := f322.more x390
                    have f393 := f323.more x390
                    have f394 := f324.more x390
                    have f395 := f325.more x390
                    have g396 : ∀ j, j < 4 → pI Q388 q198 j = 1 := fun j hj => by rw [(x390.2 _ (L320.1.1 _ hq5.1).1 List.not_mem_nil).1]; exact g326 j hj
                    refine g_astR (j := i313) C f393.1 f393.2.1 (by decide) (IX.inn f393.2.2.1 (by omega) (by decide)) x390m x390k (by decide) rfl rfl dX11_init_197 ?_
                    have L397 := x390L.putR (a := q177) (k := i313) (v := some q385) (by simp) (by simp) (by rw [f393.2.1]; decide)
                    have f398 := f391.off (a := q177) (k := i313) (v := some q385) (fun h9 => by have h8 := inj 0 2 _ e276 (h9 ▸ e278); omega)
                    have f399 := f392.off (a := q177) (k := i313) (v := some q385) (fun h9 => by have h8 := inj 1 2 _ e277 (h9 ▸ e278); omega)
                    have f400 := f393.put (b := q385) x390m x390k
                    have f401 := f394.off (a := q177) (k := i313) (v := some q385) (fun h9 => by have h8 := inj 8 2 _ e280 (h9 ▸ e278); omega)
                    have f402 := f395.off (a := q177) (k := i313) (v := some q385) (fun h9 => by have h8 := inj 9 2 _ e281 (h9 ▸ e278); omega)
                    have g404 : ∀ j, j < 4 → pI (pSR Q388 q177 i313 (some q385)) q198 j = 1 := g396
                    generalize pSR Q388 q177 i313 (some q385) = P403 at L397 f398 f399 f400 f401 f402 g404 ⊢
                    refine g_iinc (v := (nI (i313 + 1))) (lv' := [(1, .int (nI (i313 + 1))), (0, .ref a)]) C dX11_init_198 0 rfl (nI_1 _) (by decide) rfl ?_
                    refine g_goto C 179 dX11_init_201 (by decide) ?_
                    refine g_widen (cs2 := (((51 + 2 * 6) + 4 * 2) + (i313 + 1) * 2)) (sl2 := (((1601 + 2 * 114) + 4 * 42) + (i313 + 1) * 42)) (by omega) (by omega) ?_
                    exact ih317 (i313 + 1) (by omega) _ L397 f398 f399 f400 f401 f402 g404
              exact lp316 16 0 rfl _ L305 f306 f307 f308 f309 f310 g311
            · have h312 : (nI 4).toInt < 4 := h312
              omega
          | succ n303 ih302 =>
            intro i298 hi299 P304 L305 f306 f307 f308 f309 f310 g311
            have ei300 : (nI i298).toInt = (i298 : Int) := ti_nI (by omega)
            refine g_iload_n C dX11_init_146 rfl 0 rfl ?_
            refine g_iconst (v := 4) C dX11_init_147 (by decide) ?_
            refine b_icmp_ge C 177 dX11_init_148 (by decide) (fun h405 => ?_) (fun h405 => ?_)
            · have h405 : 4 ≤ (nI i298).toInt := h405
              omega
            · have h405 : (nI i298).toInt < 4 := h405
              refine g_aload_n C dX11_init_151 rfl 1 rfl ?_
              refine g_getR C fi_X11_17 rfl ((by rw [(L305.1.2 a am anT).2.1]; exact e277)) (L305.1.1 a am).1 ((L305.1.1 a am).2.1.trans aK) dX11_init_152 ?_
              refine g_iload_n C dX11_init_155 rfl 0 rfl ?_
              refine g_new C ni_X11_15 (show ((51 + 2 * 6) + i298 * 2) + 1 ≤ 119 by omega) (show ((1601 + 2 * 114) + i298 * 42) + 2 ≤ 3017 by omega) dX11_init_156 (fun q406 h407 => ?_)
              refine g_dup C dX11_init_159 rfl ?_
              refine g_callNV (ci := 0) (ret := none) (rest := [.ref q406, .int (nI i298), .ref q171]) C mn_X11_81 [] (c_X6_init (S := [q234, q225, q177, q171, q166]) in_new K_new (fun _ => by rw [R_new]) (L305.2.1.new h407) (L305.2.2.new h407)) rfl rfl (by decide) (Nat.le_of_ble_eq_true rfl) (⟨show (((51 + 2 * 6) + i298 * 2) + 1) + 1 ≤ 119 by omega, show (((1601 + 2 * 114) + i298 * 42) + 2) + 40 ≤ 3017 by omega⟩) dX11_init_160 (fun Q409 h410 => ?_)
              obtain ⟨x411L, x411, x411m, x411k⟩ := L305.obj h407 h410
              have f412 := f306.more x411
              have f413 := f307.more x411
              have f414 := f308.more x411
              have f415 := f309.more x411
              have f416 := f310.more x411
              have g417 : ∀ j, j < i298 → pI Q409 q198 j = 1 := fun j hj => by rw [(x411.2 _ (L305.1.1 _ hq5.1).1 List.not_mem_nil).1]; exact g311 j hj
              refine g_astR (j := i298) C f413.1 f413.2.1 (by decide) (IX.inn f413.2.2.1 (by omega) (by decide)) x411m x411k (by decide) rfl rfl dX11_init_163 ?_
              have L418 := x411L.putR (a := q171) (k := i298) (v := some q406) (by simp) (by simp) (by rw [f413.2.1]; decide)
              have f419 := f412.off (a := q171) (k := i298) (v := some q406) (fun h9 => by have h8 := inj 0 1 _ e276 (h9 ▸ e277); omega)
              have f420 := f413.put (b := q406) x411m x411k
              have f421 := f414.off (a := q171) (k := i298) (v := some q406) (fun h9 => by have h8 := inj 2 1 _ e278 (h9 ▸ e277); omega)
              have f422 := f415.off (a := q171) (k := i298) (v := some q406) (fun h9 => by have h8 := inj 8 1 _ e280 (h9 ▸ e277); omega)
              have f423 := f416.off (a := q171) (k := i298) (v := some q406) (fun h9 => by have h8 := inj 9 1 _ e281 (h9 ▸ e277); omega)
              have g425 : ∀ j, j < i298 → pI (pSR Q409 q171 i298 (some q406)) q198 j = 1 := g417
              generalize pSR Q409 q171 i298 (some q406) = P424 at L418 f419 f420 f421 f422 f423 g425 ⊢
              refine g_aload_n C dX11_init_164 rfl 1 rfl ?_
              refine g_getR C fi_X11_32 rfl ((by rw [(L418.1.2 a am anT).2.1]; exact e279)) (L418.1.1 a am).1 ((L418.1.1 a am).2.1.trans aK) dX11_init_165 ?_
              refine g_iload_n C dX11_init_168 rfl 0 rfl ?_
              refine g_iconst (v := 1) C dX11_init_169 (by decide) ?_
              refine g_iast (j := i298) C (L418.1.1 _ hq5.1).1 ((L418.1.1 _ hq5.1).2.1.trans hq5.2.1) (IX.inn ((L418.1.1 _ hq5.1).2.2.trans hq5.2.2) (by omega) (by decide)) dX11_init_170 ?_
              have L426 := L418.putI (a := q198) (k := i298) (v := 1) (by simp) (L418.1.1 _ hq5.1).1 (by rw [((L418.1.1 _ hq5.1).2.1.trans hq5.2.1)]; decide)
              have g427 : ∀ j, j < i298 + 1 → pI (pSI P424 q198 i298 1) q198 j = 1 := fun j hj => by by_cases ej : j = i298 <;> simp [pSI, pI, va_up, ej] <;> exact g425 j (by omega)
              have f428 : yFl (pSI P424 q198 i298 1) q166 17 2 2 := f419
              have f429 : yFl (pSI P424 q198 i298 1) q171 19 4 (i298 + 1) := f420
              have f430 : yFl (pSI P424 q198 i298 1) q177 19 16 0 := f421
              have f431 : yFl (pSI P424 q198 i298 1) q225 18 2 0 := f422
              have f432 : yFl (pSI P424 q198 i298 1) q234 16 2 0 := f423
              generalize pSI P424 q198 i298 1 = P433 at L426 g427 f428 f429 f430 f431 f432 ⊢
              refine g_iinc (v := (nI (i298 + 1))) (lv' := [(1, .int (nI (i298 + 1))), (0, .ref a)]) C dX11_init_171 0 rfl (nI_1 _) (by decide) rfl ?_
              refine g_goto C 146 dX11_init_174 (by decide) ?_
              refine g_widen (cs2 := ((51 + 2 * 6) + (i298 + 1) * 2)) (sl2 := ((1601 + 2 * 114) + (i298 + 1) * 42)) (by omega) (by omega) ?_
              exact ih302 (i298 + 1) (by omega) _ L426 f428 f429 f430 f431 f432 g427
        exact lp301 4 0 rfl _ L290 f291 f292 f293 f294 f295 g296
      · have h297 : (nI 2).toInt < 2 := h297
        omega
    | succ n288 ih287 =>
      intro i283 hi284 P289 L290 f291 f292 f293 f294 f295 g296
      have ei285 : (nI i283).toInt = (i283 : Int) := ti_nI (by omega)
      refine g_iload_n C dX11_init_119 rfl 0 rfl ?_
      refine g_iconst (v := 2) C dX11_init_120 (by decide) ?_
      refine b_icmp_ge C 144 dX11_init_121 (by decide) (fun h434 => ?_) (fun h434 => ?_)
      · have h434 : 2 ≤ (nI i283).toInt := h434
        omega
      · have h434 : (nI i283).toInt < 2 := h434
        refine g_aload_n C dX11_init_124 rfl 1 rfl ?_
        refine g_getR C fi_X11_11 rfl ((by rw [(L290.1.2 a am anT).2.1]; exact e276)) (L290.1.1 a am).1 ((L290.1.1 a am).2.1.trans aK) dX11_init_125 ?_
        refine g_iload_n C dX11_init_128 rfl 0 rfl ?_
        refine g_new C ni_X11_9 (show (51 + i283 * 6) + 1 ≤ 119 by omega) (show (1601 + i283 * 114) + 7 ≤ 3017 by omega) dX11_init_129 (fun q435 h436 => ?_)
        refine g_dup C dX11_init_132 rfl ?_
        refine g_iload_n C dX11_init_133 rfl 0 rfl ?_
        refine g_callCV (ci := 0) (ret := none) (rest := [.ref q435, .int (nI i283), .ref q166]) C mi_X11_78 [.int (nI i283)] (c_X1_init (S := [q234, q225, q177, q171, q166]) in_new K_new (fun _ => by rw [R_new]) (L290.2.1.new h436) (L290.2.2.new h436) (by rw [ei285]; omega)) rfl rfl (by decide) (Nat.le_of_ble_eq_true rfl) (⟨show ((51 + i283 * 6) + 1) + 5 ≤ 119 by omega, show ((1601 + i283 * 114) + 7) + 107 ≤ 3017 by omega⟩) dX11_init_134 (fun Q438 h439 => ?_)
        obtain ⟨x440L, x440, x440m, x440k⟩ := L290.obj h436 h439
        have f441 := f291.more x440
        have f442 := f292.more x440
        have f443 := f293.more x440
        have f444 := f294.more x440
        have f445 := f295.more x440
        have g446 : ∀ j, j < 0 → pI Q438 q198 j = 1 := fun j hj => by rw [(x440.2 _ (L290.1.1 _ hq5.1).1 List.not_mem_nil).1]; exact g296 j hj
        refine g_astR (j := i283) C f441.1 f441.2.1 (by decide) (IX.inn f441.2.2.1 (by omega) (by decide)) x440m x440k (by decide) rfl rfl dX11_init_137 ?_
        have L447 := x440L.putR (a := q166) (k := i283) (v := some q435) (by simp) (by simp) (by rw [f441.2.1]; decide)
        have f448 := f441.put (b := q435) x440m x440k
        have f449 := f442.off (a := q166) (k := i283) (v := some q435) (fun h9 => by have h8 := inj 1 0 _ e277 (h9 ▸ e276); omega)
        have f450 := f443.off (a := q166) (k := i283) (v := some q435) (fun h9 => by have h8 := inj 2 0 _ e278 (h9 ▸ e276); omega)
        have f451 := f444.off (a := q166) (k := i283) (v := some q435) (fun h9 => by have h8 := inj 8 0 _ e280 (h9 ▸ e276); omega)
        have f452 := f445.off (a := q166) (k := i283) (v := some q435) (fun h9 => by have h8 := inj 9 0 _ e281 (h9 ▸ e276); omega)
        have g454 : ∀ j, j < 0 → pI (pSR Q438 q166 i283 (some q435)) q198 j = 1 := g446
        generalize pSR Q438 q166 i283 (some q435) = P453 at L447 f448 f449 f450 f451 f452 g454 ⊢
        refine g_iinc (v := (nI (i283 + 1))) (lv' := [(1, .int (nI (i283 + 1))), (0, .ref a)]) C dX11_init_138 0 rfl (nI_1 _) (by decide) rfl ?_
        refine g_goto C 119 dX11_init_141 (by decide) ?_
        refine g_widen (cs2 := (51 + (i283 + 1) * 6)) (sl2 := (1601 + (i283 + 1) * 114)) (by omega) (by omega) ?_
        exact ih287 (i283 + 1) (by omega) _ L447 f448 f449 f450 f451 f452 g454
  exact lp286 2 0 rfl _ L0 f00 f10 f20 f80 f90 g0
