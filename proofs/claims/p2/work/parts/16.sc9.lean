theorem dX2_find_136 : decode cX2_find 136 = .ok (.aload_n 0, 1) := by decide +kernel
theorem dX2_find_137 : decode cX2_find 137 = .ok (.getfield 45, 3) := by decide +kernel
theorem dX2_find_140 : decode cX2_find 140 = .ok (.bipush 11, 2) := by decide +kernel
theorem dX2_find_142 : decode cX2_find 142 = .ok (.if_icmp .gt 7, 3) := by decide +kernel
theorem dX2_find_145 : decode cX2_find 145 = .ok (.iconst 1, 1) := by decide +kernel
theorem dX2_find_146 : decode cX2_find 146 = .ok (.goto 4, 3) := by decide +kernel
theorem dX2_find_149 : decode cX2_find 149 = .ok (.iconst 0, 1) := by decide +kernel
theorem dX2_find_150 : decode cX2_find 150 = .ok (.ireturn, 1) := by decide +kernel
set_option maxHeartbeats 4000000 in
set_option maxRecDepth 100000 in
theorem s_X2_find {P : PP} {a0 : Nat} {a1 : Nat} {a2 : Nat} {a3 : Nat} (I : IV P) (ha0 : At P a0 2) (ha1 : At P a1 1) (ha2 : At P a2 5) (ha3 : At P a3 5) : CtrI yX2_find cX2_find 7 (some Jvm.ClassFile.FieldType.boolean) ({ frames := 14, cells := 0, slots := 0, locals := 896 } : Room) 0 0 P [.ref a0, .ref a1, .ref a2, .ref a3] (fun r P2 => IV P2 ∧ EK [0, 1, 2, 13] P P2 ∧ (0 ≤ r.toInt ∧ r.toInt ≤ 1)) := by
  refine enI (lv := [(0, .ref a0), (1, .ref a1), (2, .ref a2), (3, .ref a3)]) (by decide) (Nat.le_of_ble_eq_true rfl) rfl (fun E D cy C Ci0 ret => ?_)
  have J62 : ∀ (n62 : Nat) (P62 : PP) (v62_4 : Int32), (11 - v62_4.toInt).toNat < n62 → (IV P62) → (EK [0, 1, 2, 13] P P62) → (0 ≤ v62_4.toInt ∧ v62_4.toInt ≤ 11) → (12 ≤ (pI P62 a0 5).toInt ∧ (pI P62 a0 5).toInt ≤ 12) → (0 ≤ (pI P62 a0 6).toInt ∧ (pI P62 a0 6).toInt ≤ 0) → (∀ b, pR P62 a0 2 = some b → 1 ≤ (pI P62 b 3).toInt ∧ (pI P62 b 3).toInt ≤ 1) → (∀ b, pR P62 a0 3 = some b → 1 ≤ (pI P62 b 3).toInt ∧ (pI P62 b 3).toInt ≤ 1) → G E ({ frames := 14, cells := 0, slots := 0, locals := 896 } : Room) D cy 7 P62 0 0 62 [(0, .ref a0), (1, .ref a1), (4, .int v62_4)] [] := by
    intro n62
    induction n62 with
    | zero => intro P62 v62_4 hm62 I62 X62 hv62_4 hq62_0 hq62_1 hq62_2 hq62_3; omega
    | succ n62 ih62 =>
      intro P62 v62_4 hm62 I62 X62 hv62_4 hq62_0 hq62_1 hq62_2 hq62_3
      have h38080 := X62.at ha0
      have h38081 := X62.at ha1
      have h38082 := X62.at ha2
      have h38083 := X62.at ha3
      obtain ⟨b38084, e38085, h38086⟩ := I62.fld (h38080) 2 0 0 rfl
      have hq62_2 := hq62_2 b38084 e38085
      obtain ⟨b38087, e38088, h38089⟩ := I62.fld (h38080) 3 0 0 rfl
      have hq62_3 := hq62_3 b38087 e38088
      refine g_iload C dX2_find_62 2 rfl ?_
      refine g_bipush (v := 11) C dX2_find_64 (by decide) ?_
      refine b_icmp_ge C 128 dX2_find_66 (by decide) (fun h38090 => ?_) (fun h38090 => ?_)
      · have h38090 : 11 ≤ v62_4.toInt := h38090
        refine g_aload_n C dX2_find_128 rfl 0 rfl ?_
        refine g_bipush (v := 10) C dX2_find_129 (by decide) ?_
        refine g_iconst (v := 0) C dX2_find_131 (by decide) ?_
        refine g_iconst (v := 0) C dX2_find_132 (by decide) ?_
        refine g_callVV (rest := []) C mv_X2_58 [.int 10, .int 0, .int 0] (s_X2_seek_L11 I62 h38080 (by decide) (by decide)) (h38080).1 (h38080).2 rfl rfl (by decide) (Nat.le_of_ble_eq_true rfl) (by decide) dX2_find_133 (fun Y38092 h38093 => ?_)
        obtain ⟨Iy38094, Xy38095⟩ := h38093
        have Xz38096 : EK [0, 1, 2, 13] P Y38092 := X62.tr (Xy38095.mono (by decide))
        have h38097 := Xy38095.at h38080
        have h38098 := Xy38095.at h38081
        have h38099 := Xy38095.at h38082
        have h38100 := Xy38095.at h38083
        refine g_aload_n C dX2_find_136 rfl 0 rfl ?_
        refine g_getI C fi_X2_45 (by decide) (h38097).1 (h38097).2 dX2_find_137 ?_
        have h38101 := Iy38094.rg (h38097) 5 rfl
        refine g_bipush (v := 11) C dX2_find_140 (by decide) ?_
        refine b_icmp_gt C 149 dX2_find_142 (by decide) (fun h38102 => ?_) (fun h38102 => ?_)
        · have h38102 : 11 < (pI Y38092 a0 5).toInt := h38102
          refine g_iconst (v := 0) C dX2_find_149 (by decide) ?_
          exact ret _ _ _ _ _ _ dX2_find_150 rfl (by decide) (by decide) ⟨Iy38094, Xz38096, (by decide)⟩
        · have h38102 : (pI Y38092 a0 5).toInt ≤ 11 := h38102
          refine g_iconst (v := 1) C dX2_find_145 (by decide) ?_
          refine g_goto C 150 dX2_find_146 (by decide) ?_
          exact ret _ _ _ _ _ _ dX2_find_150 rfl (by decide) (by decide) ⟨Iy38094, Xz38096, (by decide)⟩
      · have h38090 : v62_4.toInt < 11 := h38090
        refine g_aload_n C dX2_find_69 rfl 1 rfl ?_
        refine g_iload C dX2_find_70 2 rfl ?_
        refine g_callVI (rest := []) C mv_X2_51 [.int v62_4] (s_X1_pagesOf I62 h38081) (h38081).1 (h38081).2 rfl rfl (by decide) (Nat.le_of_ble_eq_true rfl) (by decide) dX2_find_72 (fun r38103 Y38104 h38105 => ?_)
        obtain ⟨Iy38106, Xy38107, h38105⟩ := h38105
        have q38108 := Xy38107.keep h38080 (by decide) 5
        have q38109 := Xy38107.keep h38080 (by decide) 6
        have q38110 := Xy38107.keep (h38086.at) (by decide) 3
        have q38111 := Xy38107.keep (h38089.at) (by decide) 3
        have Xz38112 : EK [0, 1, 2, 13] P Y38104 := X62.tr (Xy38107.mono (by decide))
        have e38113 := Xy38107.ref h38080 (by decide) e38085
        have e38114 := Xy38107.ref h38080 (by decide) e38088
        have h38115 := Xy38107.at h38080
        have h38116 := Xy38107.at h38081
        have h38117 := Xy38107.at h38082
        have h38118 := Xy38107.at h38083
        have h38119 := Xy38107.ar h38086
        have h38120 := Xy38107.ar h38089
        have h38105 : True := h38105
        refine g_istore (lv' := [(5, .int r38103), (0, .ref a0), (1, .ref a1), (4, .int v62_4)]) C dX2_find_75 (by decide) rfl ?_
        refine g_aload_n C dX2_find_77 rfl 2 rfl ?_
        refine g_iload C dX2_find_78 0 rfl ?_
        refine g_callVI (rest := []) C mv_X2_55 [.int r38103] (s_X1_sumOf Iy38106 h38116) (h38116).1 (h38116).2 rfl rfl (by decide) (Nat.le_of_ble_eq_true rfl) (by decide) dX2_find_80 (fun r38121 Y38122 h38123 => ?_)
        obtain ⟨rfl, h38123⟩ := h38123
        have h38123 : True := h38123
        refine g_istore (lv' := [(6, .int r38121), (5, .int r38103), (0, .ref a0), (1, .ref a1), (4, .int v62_4)]) C dX2_find_83 (by decide) rfl ?_
        refine g_aload_n C dX2_find_85 rfl 2 rfl ?_
        obtain ⟨b38124, e38125, h38126⟩ := Iy38106.fld (h38115) 0 13 11 rfl
        refine g_getR C fi_X2_9 rfl e38125 (h38115).1 (h38115).2 dX2_find_86 ?_
        refine g_iload C dX2_find_89 4 rfl ?_
        refine g_iload C dX2_find_91 1 rfl ?_
        refine g_iload C dX2_find_93 0 rfl ?_
        refine g_sipush (v := 255) C dX2_find_95 (by decide) ?_
        refine s_iand C dX2_find_98 (by show 0 ≤ 255; omega) (fun z38127 h38128 => ?_)
        have h38128 : 0 ≤ z38127.toInt ∧ z38127.toInt ≤ 255 := h38128
        refine g_bipush (v := 20) C dX2_find_99 (by decide) ?_
        refine a_ishl C dX2_find_101 (fun z38129 => ?_)
        refine a_ior C dX2_find_102 (fun z38131 => ?_)
        refine g_iast (j := (v62_4.toInt.toNat)) C h38126.1 h38126.2.1 (ix_in h38126.2.2 (by omega)) dX2_find_103 ?_
        refine gp (ks := [13]) (Iy38106.setA h38126 (by decide)) (EK.setI h38126.2.1 (by decide)) (fun Y38133 Iy38134 Xy38135 => ?_)
        have q38136 := Xy38135.keep h38115 (by decide) 5
        have q38137 := Xy38135.keep h38115 (by decide) 6
        have q38138 := Xy38135.keep (h38119.at) (by decide) 3
        have q38139 := Xy38135.keep (h38120.at) (by decide) 3
        have Xz38140 : EK [0, 1, 2, 13] P Y38133 := Xz38112.tr (Xy38135.mono (by decide))
        have e38141 := Xy38135.ref h38115 (by decide) e38113
        have e38142 := Xy38135.ref h38115 (by decide) e38114
        have h38143 := Xy38135.at h38115
        have h38144 := Xy38135.at h38116
        have h38145 := Xy38135.at h38117
        have h38146 := Xy38135.at h38118
        have h38147 := Xy38135.ar h38119
        have h38148 := Xy38135.ar h38120
        refine g_aload_n C dX2_find_104 rfl 2 rfl ?_
        obtain ⟨b38149, e38150, h38151⟩ := Iy38134.fld (h38143) 1 13 11 rfl
        refine g_getR C fi_X2_15 rfl e38150 (h38143).1 (h38143).2 dX2_find_105 ?_
        refine g_iload C dX2_find_108 4 rfl ?_
        refine g_iload C dX2_find_110 1 rfl ?_
        refine g_iload C dX2_find_112 0 rfl ?_
        refine g_bipush (v := 8) C dX2_find_114 (by decide) ?_
        refine a_ishr C dX2_find_116 (fun z38152 => ?_)
        refine g_bipush (v := 20) C dX2_find_117 (by decide) ?_
        refine a_ishl C dX2_find_119 (fun z38154 => ?_)
        refine a_ior C dX2_find_120 (fun z38156 => ?_)
        refine g_iast (j := (v62_4.toInt.toNat)) C h38151.1 h38151.2.1 (ix_in h38151.2.2 (by omega)) dX2_find_121 ?_
        refine gp (ks := [13]) (Iy38134.setA h38151 (by decide)) (EK.setI h38151.2.1 (by decide)) (fun Y38158 Iy38159 Xy38160 => ?_)
        have q38161 := Xy38160.keep h38143 (by decide) 5
        have q38162 := Xy38160.keep h38143 (by decide) 6
        have q38163 := Xy38160.keep (h38147.at) (by decide) 3
        have q38164 := Xy38160.keep (h38148.at) (by decide) 3
        have Xz38165 : EK [0, 1, 2, 13] P Y38158 := Xz38140.tr (Xy38160.mono (by decide))
        have e38166 := Xy38160.ref h38143 (by decide) e38141
        have e38167 := Xy38160.ref h38143 (by decide) e38142
        have h38168 := Xy38160.at h38143
        have h38169 := Xy38160.at h38144
        have h38170 := Xy38160.at h38145
        have h38171 := Xy38160.at h38146
        have h38172 := Xy38160.ar h38147
        have h38173 := Xy38160.ar h38148
        refine s_iinc (lv0 := [(6, .int r38121), (5, .int r38103), (0, .ref a0), (1, .ref a1)]) (m := 1) C dX2_find_122 4 rfl (by decide) rfl (by decide) (by omega) (fun z38174 h38175 => ?_)
        have h38175 : z38174.toInt = v62_4.toInt + 1 := h38175
        refine g_goto C 62 dX2_find_125 (by decide) ?_
        refine g_lv (lv' := [(0, .ref a0), (1, .ref a1), (4, .int z38174)]) [3, 4, 0] rfl ?_
        exact ih62 Y38158 z38174 (by omega) Iy38159 Xz38165 (by omega) (by omega) (by omega) (fun b9 e9 => by rw [e38166] at e9; cases e9; omega) (fun b9 e9 => by rw [e38167] at e9; cases e9; omega)
  have J38 : ∀ (P38 : PP), (IV P38) → (EK [0, 1, 2, 13] P P38) → (∀ b, pR P38 a0 2 = some b → 0 ≤ (pI P38 b 3).toInt ∧ (pI P38 b 3).toInt ≤ 1) → G E ({ frames := 14, cells := 0, slots := 0, locals := 896 } : Room) D cy 7 P38 0 0 38 [] [] := by
    intro P38 I38 X38 hq38_0
    have h38176 := X38.at ha0
    have h38177 := X38.at ha1
    have h38178 := X38.at ha2
    have h38179 := X38.at ha3
    obtain ⟨b38180, e38181, h38182⟩ := I38.fld (h38176) 2 0 0 rfl
    have hq38_0 := hq38_0 b38180 e38181
    refine g_iconst (v := 0) C dX2_find_38 (by decide) ?_
    exact ret _ _ _ _ _ _ dX2_find_39 rfl (by decide) (by decide) ⟨I38, X38, (by decide)⟩
  refine g_aload_n C dX2_find_0 rfl 0 rfl ?_
  obtain ⟨b38183, e38184, h38185⟩ := I.fld (ha0) 2 0 0 rfl
  refine g_getR C fi_X2_21 rfl e38184 (ha0).1 (ha0).2 dX2_find_1 ?_
  refine g_aload_n C dX2_find_4 rfl 2 rfl ?_
  refine g_iconst (v := (-1)) C dX2_find_5 (by decide) ?_
  refine g_callVV (rest := []) C mv_X2_28 [.ref a2, .int (-1)] (s_X0_take I h38185.at ha2) (h38185.at).1 (h38185.at).2 rfl rfl (by decide) (Nat.le_of_ble_eq_true rfl) (by decide) dX2_find_6 (fun Y38187 h38188 => ?_)
  obtain ⟨Iy38189, Xy38190⟩ := h38188
  have Xz38191 : EK [0, 1, 2, 13] P Y38187 := Xy38190.mono (by decide)
  have h38192 := Xy38190.at ha0
  have h38193 := Xy38190.at ha1
  have h38194 := Xy38190.at ha2
  have h38195 := Xy38190.at ha3
  refine g_aload_n C dX2_find_9 rfl 0 rfl ?_
  obtain ⟨b38196, e38197, h38198⟩ := Iy38189.fld (h38192) 3 0 0 rfl
  refine g_getR C fi_X2_25 rfl e38197 (h38192).1 (h38192).2 dX2_find_10 ?_
  refine g_aload_n C dX2_find_13 rfl 3 rfl ?_
  refine g_iconst (v := (-1)) C dX2_find_14 (by decide) ?_
  refine g_callVV (rest := []) C mv_X2_28 [.ref a3, .int (-1)] (s_X0_take Iy38189 h38198.at h38195) (h38198.at).1 (h38198.at).2 rfl rfl (by decide) (Nat.le_of_ble_eq_true rfl) (by decide) dX2_find_15 (fun Y38200 h38201 => ?_)
  obtain ⟨Iy38202, Xy38203⟩ := h38201
  have Xz38204 : EK [0, 1, 2, 13] P Y38200 := Xz38191.tr (Xy38203.mono (by decide))
  have h38205 := Xy38203.at h38192
  have h38206 := Xy38203.at h38193
  have h38207 := Xy38203.at h38194
  have h38208 := Xy38203.at h38195
  refine g_aload_n C dX2_find_18 rfl 0 rfl ?_
  obtain ⟨b38209, e38210, h38211⟩ := Iy38202.fld (h38205) 2 0 0 rfl
  refine g_getR C fi_X2_21 rfl e38210 (h38205).1 (h38205).2 dX2_find_19 ?_
  refine g_getI C fi_X2_32 (by decide) (h38211.at).1 (h38211.at).2 dX2_find_22 ?_
  have h38212 := Iy38202.rg (h38211.at) 3 rfl
  refine b_if_eq C 38 dX2_find_25 (by decide) (fun h38213 => ?_) (fun h38213 => ?_)
  · have h38213 : (pI Y38200 b38209 3).toInt = 0 := congrArg Int32.toInt h38213
    refine g_lv (lv' := []) [] rfl ?_
    exact J38 Y38200 Iy38202 Xz38204 (fun b9 e9 => by rw [e38210] at e9; cases e9; omega)
  · have h38213 : (pI Y38200 b38209 3).toInt ≠ 0 := ti_ne h38213
    refine g_aload_n C dX2_find_28 rfl 0 rfl ?_
    obtain ⟨b38214, e38215, h38216⟩ := Iy38202.fld (h38205) 3 0 0 rfl
    refine g_getR C fi_X2_25 rfl e38215 (h38205).1 (h38205).2 dX2_find_29 ?_
    refine g_getI C fi_X2_32 (by decide) (h38216.at).1 (h38216.at).2 dX2_find_32 ?_
    have h38217 := Iy38202.rg (h38216.at) 3 rfl
    refine b_if_ne C 40 dX2_find_35 (by decide) (fun h38218 => ?_) (fun h38218 => ?_)
    · have h38218 : (pI Y38200 b38214 3).toInt ≠ 0 := ti_ne h38218
      refine g_aload_n C dX2_find_40 rfl 0 rfl ?_
      refine g_aload_n C dX2_find_41 rfl 1 rfl ?_
      refine g_callVI (rest := [.ref a0]) C mv_X2_36 [] (s_X1_all Iy38202 h38206) (h38206).1 (h38206).2 rfl rfl (by decide) (Nat.le_of_ble_eq_true rfl) (by decide) dX2_find_42 (fun r38219 Y38220 h38221 => ?_)
      obtain ⟨rfl, h38221⟩ := h38221
      have h38221 : 0 ≤ r38219.toInt ∧ r38219.toInt ≤ 20 := h38221
      refine g_putI C fi_X2_42 rfl (h38205).1 (h38205).2 dX2_find_45 ?_
      refine gpW (ks := [2]) (Iy38202.setI (h38205) (rgOk.of rfl (by omega))) (EK.setI (h38205).2 (by decide)) (fun Y38222 Iy38223 Xy38224 w38225 w38226 => ?_)
      have q38227 := Xy38224.keep (h38211.at) (by decide) 3
      have q38228 := Xy38224.keep (h38216.at) (by decide) 3
      have Xz38229 : EK [0, 1, 2, 13] P Y38222 := Xz38204.tr (Xy38224.mono (by decide))
      have e38230 := Xy38224.ref h38205 (by decide) e38210
      have e38231 := Xy38224.ref h38205 (by decide) e38215
      have h38232 := Xy38224.at h38205
      have h38233 := Xy38224.at h38206
      have h38234 := Xy38224.at h38207
      have h38235 := Xy38224.at h38208
      have h38236 := Xy38224.ar h38211
      have h38237 := Xy38224.ar h38216
      refine g_aload_n C dX2_find_48 rfl 0 rfl ?_
      refine g_bipush (v := 12) C dX2_find_49 (by decide) ?_
      refine g_putI C fi_X2_45 rfl (h38232).1 (h38232).2 dX2_find_51 ?_
      refine gpW (ks := [2]) (Iy38223.setI (h38232) (rgOk.of rfl (by decide))) (EK.setI (h38232).2 (by decide)) (fun Y38238 Iy38239 Xy38240 w38241 w38242 => ?_)
      have w38242 : (pI Y38238 a0 5).toInt = 12 := w38242
      have q38243 := Xy38240.keep (h38236.at) (by decide) 3
      have q38244 := Xy38240.keep (h38237.at) (by decide) 3
      have q38245 := w38241 4 (by decide)
      have Xz38246 : EK [0, 1, 2, 13] P Y38238 := Xz38229.tr (Xy38240.mono (by decide))
      have e38247 := Xy38240.ref h38232 (by decide) e38230
      have e38248 := Xy38240.ref h38232 (by decide) e38231
      have h38249 := Xy38240.at h38232
      have h38250 := Xy38240.at h38233
      have h38251 := Xy38240.at h38234
      have h38252 := Xy38240.at h38235
      have h38253 := Xy38240.ar h38236
      have h38254 := Xy38240.ar h38237
      refine g_aload_n C dX2_find_54 rfl 0 rfl ?_
      refine g_iconst (v := 0) C dX2_find_55 (by decide) ?_
      refine g_putI C fi_X2_48 rfl (h38249).1 (h38249).2 dX2_find_56 ?_
      refine gpW (ks := [2]) (Iy38239.setI (h38249) (rgOk.none rfl)) (EK.setI (h38249).2 (by decide)) (fun Y38255 Iy38256 Xy38257 w38258 w38259 => ?_)
      have w38259 : (pI Y38255 a0 6).toInt = 0 := w38259
      have q38260 := Xy38257.keep (h38253.at) (by decide) 3
      have q38261 := Xy38257.keep (h38254.at) (by decide) 3
      have q38262 := w38258 4 (by decide)
      have q38263 := w38258 5 (by decide)
      have Xz38264 : EK [0, 1, 2, 13] P Y38255 := Xz38246.tr (Xy38257.mono (by decide))
      have e38265 := Xy38257.ref h38249 (by decide) e38247
      have e38266 := Xy38257.ref h38249 (by decide) e38248
      have h38267 := Xy38257.at h38249
      have h38268 := Xy38257.at h38250
      have h38269 := Xy38257.at h38251
      have h38270 := Xy38257.at h38252
      have h38271 := Xy38257.ar h38253
      have h38272 := Xy38257.ar h38254
      refine g_iconst (v := 0) C dX2_find_59 (by decide) ?_
      refine g_istore (lv' := [(4, .int 0), (0, .ref a0), (1, .ref a1), (2, .ref a2), (3, .ref a3)]) C dX2_find_60 (by decide) rfl ?_
      refine g_lv (lv' := [(0, .ref a0), (1, .ref a1), (4, .int 0)]) [1, 2, 0] rfl ?_
      exact J62 _ Y38255 0 (Nat.lt_succ_self _) Iy38256 Xz38264 (by decide) (by omega) (by omega) (fun b9 e9 => by rw [e38265] at e9; cases e9; omega) (fun b9 e9 => by rw [e38266] at e9; cases e9; omega)
    · have h38218 : (pI Y38200 b38214 3).toInt = 0 := congrArg Int32.toInt h38218
      refine g_lv (lv' := []) [] rfl ?_
      exact J38 Y38200 Iy38202 Xz38204 (fun b9 e9 => by rw [e38210] at e9; cases e9; omega)
theorem dX11_tocome_24 : decode cX11_tocome 24 = .ok (.iconst (-1), 1) := by decide +kernel
theorem dX11_tocome_25 : decode cX11_tocome 25 = .ok (.ireturn, 1) := by decide +kernel
theorem dX11_tocome_61 : decode cX11_tocome 61 = .ok (.ifCond .ne 5, 3) := by decide +kernel
theorem dX11_tocome_64 : decode cX11_tocome 64 = .ok (.iconst (-1), 1) := by decide +kernel
theorem dX11_tocome_65 : decode cX11_tocome 65 = .ok (.ireturn, 1) := by decide +kernel
theorem dX11_tocome_66 : decode cX11_tocome 66 = .ok (.iload_n 3, 1) := by decide +kernel
theorem dX11_tocome_67 : decode cX11_tocome 67 = .ok (.ifCond .ne 13, 3) := by decide +kernel
theorem dX11_tocome_70 : decode cX11_tocome 70 = .ok (.aload_n 0, 1) := by decide +kernel
theorem dX11_tocome_71 : decode cX11_tocome 71 = .ok (.getfield 67, 3) := by decide +kernel
theorem dX11_tocome_74 : decode cX11_tocome 74 = .ok (.getfield 283, 3) := by decide +kernel
theorem dX11_tocome_77 : decode cX11_tocome 77 = .ok (.goto 10, 3) := by decide +kernel
theorem dX11_tocome_80 : decode cX11_tocome 80 = .ok (.aload_n 0, 1) := by decide +kernel
theorem dX11_tocome_81 : decode cX11_tocome 81 = .ok (.getfield 67, 3) := by decide +kernel
theorem dX11_tocome_84 : decode cX11_tocome 84 = .ok (.getfield 286, 3) := by decide +kernel
theorem dX11_tocome_87 : decode cX11_tocome 87 = .ok (.ireturn, 1) := by decide +kernel
set_option maxHeartbeats 4000000 in
set_option maxRecDepth 100000 in
theorem s_X11_tocome {P : PP} {a0 : Nat} {a1 : Int32} {a2 : Int32} {a3 : Int32} (I : IV P) (ha0 : At P a0 11) : CtrI yX11_tocome cX11_tocome 6 (some Jvm.ClassFile.FieldType.int) ({ frames := 15, cells := 0, slots := 0, locals := 960 } : Room) 0 0 P [.ref a0, .int a1, .int a2, .int a3] (fun r P2 => IV P2 ∧ EK [0, 1, 2, 5, 13] P P2 ∧ (True)) := by
  refine enI (lv := [(0, .ref a0), (1, .int a1), (2, .int a2), (3, .int a3)]) (by decide) (Nat.le_of_ble_eq_true rfl) rfl (fun E D cy C Ci0 ret => ?_)
  have J24 : G E ({ frames := 15, cells := 0, slots := 0, locals := 960 } : Room) D cy 6 P 0 0 24 [] [] := by
    refine g_iconst (v := (-1)) C dX11_tocome_24 (by decide) ?_
    exact ret _ _ _ _ _ _ dX11_tocome_25 rfl (by decide) (by decide) ⟨I, EK.rf, trivial⟩
  refine g_iload_n C dX11_tocome_0 rfl 1 rfl ?_
  refine g_callSI (b := 0) (ci := 0) (rest := []) C ms_X11_158 [.int a1] (s_X11_isQuarter I) rfl rfl (by decide) (Nat.le_of_ble_eq_true rfl) (by decide) dX11_tocome_1 (fun r38333 Y38334 h38335 => ?_)
  obtain ⟨rfl, h38335⟩ := h38335
  obtain ⟨h38335, hi38336⟩ := h38335
  have hi38336 : r38333.toInt = 0 ∨ (((0 : Int) ≤ a1.toInt ∧ a1.toInt ≤ (3 : Int))) := hi38336
  have h38335 : 0 ≤ r38333.toInt ∧ r38333.toInt ≤ 1 := h38335
  refine b_if_eq C 24 dX11_tocome_4 (by decide) (fun h38337 => ?_) (fun h38337 => ?_)
  · have h38337 : r38333.toInt = 0 := congrArg Int32.toInt h38337
    clear hi38336
    refine g_lv (lv' := []) [] rfl ?_
    exact J24 
  · have h38337 : r38333.toInt ≠ 0 := ti_ne h38337
    replace hi38336 := hi38336.resolve_left (by omega)
    refine g_aload_n C dX11_tocome_7 rfl 0 rfl ?_
    refine g_iload_n C dX11_tocome_8 rfl 2 rfl ?_
    refine g_callVI (rest := []) C mv_X11_97 [.int a2] (s_X11_isTold I ha0) (ha0).1 (ha0).2 rfl rfl (by decide) (Nat.le_of_ble_eq_true rfl) (by decide) dX11_tocome_9 (fun r38338 Y38339 h38340 => ?_)
    obtain ⟨rfl, h38340⟩ := h38340
    obtain ⟨h38340, hi38341⟩ := h38340
    have hi38341 : r38338.toInt = 0 ∨ (((0 : Int) ≤ a2.toInt ∧ a2.toInt ≤ (1 : Int))) := hi38341
    have h38340 : 0 ≤ r38338.toInt ∧ r38338.toInt ≤ 1 := h38340
    refine b_if_eq C 24 dX11_tocome_12 (by decide) (fun h38342 => ?_) (fun h38342 => ?_)
    · have h38342 : r38338.toInt = 0 := congrArg Int32.toInt h38342
      clear hi38341
      refine g_lv (lv' := []) [] rfl ?_
      exact J24 
    · have h38342 : r38338.toInt ≠ 0 := ti_ne h38342
      replace hi38341 := hi38341.resolve_left (by omega)
      refine g_iload_n C dX11_tocome_15 rfl 3 rfl ?_
      have u38344 := ti_rng a3
      refine b_if_lt C 24 dX11_tocome_16 (by decide) (fun h38343 => ?_) (fun h38343 => ?_)
      · have h38343 : a3.toInt < 0 := h38343
        refine g_lv (lv' := []) [] rfl ?_
        exact J24 
      · have h38343 : 0 ≤ a3.toInt := h38343
        refine g_iload_n C dX11_tocome_19 rfl 3 rfl ?_
        refine g_iconst (v := 1) C dX11_tocome_20 (by decide) ?_
        have u38346 := ti_rng a3
        refine b_icmp_le C 26 dX11_tocome_21 (by decide) (fun h38345 => ?_) (fun h38345 => ?_)
        · have h38345 : a3.toInt ≤ 1 := h38345
          refine g_aload_n C dX11_tocome_26 rfl 0 rfl ?_
          refine g_iload_n C dX11_tocome_27 rfl 1 rfl ?_
          refine g_iload_n C dX11_tocome_28 rfl 2 rfl ?_
          refine g_iconst (v := 0) C dX11_tocome_29 (by decide) ?_
          refine g_callVQ (rest := []) C mv_X11_216 [.int a1, .int a2, .int 0] (s_X11_gather I ha0 (by omega) (by omega) (by decide)) (ha0).1 (ha0).2 rfl rfl (by decide) (Nat.le_of_ble_eq_true rfl) (by decide) dX11_tocome_30 (fun r38347 Y38348 h38349 => ?_)
          obtain ⟨Iy38350, Xy38351, h38349⟩ := h38349
          have Xz38352 : EK [0, 1, 2, 5, 13] P Y38348 := Xy38351.mono (by decide)
          have h38353 := Xy38351.at ha0
          obtain ⟨b38355, rfl, h38349⟩ := h38349
          show G _ _ _ _ _ _ _ _ _ _ (.ref b38355 :: _)
          refine g_astore (lv' := [(4, .ref b38355), (0, .ref a0), (1, .int a1), (2, .int a2), (3, .int a3)]) C dX11_tocome_33 (by decide) rfl ?_
          refine g_aload_n C dX11_tocome_35 rfl 1 rfl ?_
          refine g_iload_n C dX11_tocome_36 rfl 2 rfl ?_
          refine g_iload_n C dX11_tocome_37 rfl 3 rfl ?_
          refine g_iconst (v := 1) C dX11_tocome_38 (by decide) ?_
          refine g_callVQ (rest := []) C mv_X11_216 [.int a1, .int a2, .int 1] (s_X11_gather Iy38350 h38353 (by omega) (by omega) (by decide)) (h38353).1 (h38353).2 rfl rfl (by decide) (Nat.le_of_ble_eq_true rfl) (by decide) dX11_tocome_39 (fun r38356 Y38357 h38358 => ?_)
          obtain ⟨Iy38359, Xy38360, h38358⟩ := h38358
          have Xz38361 : EK [0, 1, 2, 5, 13] P Y38357 := Xz38352.tr (Xy38360.mono (by decide))
          have h38362 := Xy38360.at h38353
          have h38363 := Xy38360.at h38349
          obtain ⟨b38365, rfl, h38358⟩ := h38358
          show G _ _ _ _ _ _ _ _ _ _ (.ref b38365 :: _)
          refine g_astore (lv' := [(5, .ref b38365), (4, .ref b38355), (0, .ref a0), (1, .int a1), (2, .int a2), (3, .int a3)]) C dX11_tocome_42 (by decide) rfl ?_
          refine g_aload_n C dX11_tocome_44 rfl 2 rfl ?_
          obtain ⟨b38366, e38367, h38368⟩ := Iy38359.fld (h38362) 11 2 0 rfl
          refine g_getR C fi_X11_67 rfl e38367 (h38362).1 (h38362).2 dX11_tocome_45 ?_
          refine g_aload_n C dX11_tocome_48 rfl 2 rfl ?_
          obtain ⟨b38369, e38370, h38371⟩ := Iy38359.fld (h38362) 0 17 2 rfl
          refine g_getR C fi_X11_11 rfl e38370 (h38362).1 (h38362).2 dX11_tocome_49 ?_
          refine g_iload_n C dX11_tocome_52 rfl 4 rfl ?_
          obtain ⟨b38372, e38373, h38374⟩ := Iy38359.elm h38371 (by decide) (a2.toInt.toNat) (by omega)
          refine g_aldR C h38371.1 h38371.2.1 (by decide) (ix_in h38371.2.2 (by omega)) e38373 dX11_tocome_53 ?_
          refine g_aload C dX11_tocome_54 1 rfl ?_
          refine g_aload C dX11_tocome_56 0 rfl ?_
          refine g_callVI (rest := []) C mv_X11_279 [.ref b38372, .ref b38355, .ref b38365] (s_X2_find Iy38359 h38368.at h38374 h38363 h38358) (h38368.at).1 (h38368.at).2 rfl rfl (by decide) (Nat.le_of_ble_eq_true rfl) (by decide) dX11_tocome_58 (fun r38375 Y38376 h38377 => ?_)
          obtain ⟨Iy38378, Xy38379, h38377⟩ := h38377
          have Xz38380 : EK [0, 1, 2, 5, 13] P Y38376 := Xz38361.tr (Xy38379.mono (by decide))
          have h38381 := Xy38379.at h38362
          have h38382 := Xy38379.at h38363
          have h38383 := Xy38379.at h38358
          have h38377 : 0 ≤ r38375.toInt ∧ r38375.toInt ≤ 1 := h38377
          refine b_if_ne C 66 dX11_tocome_61 (by decide) (fun h38384 => ?_) (fun h38384 => ?_)
          · have h38384 : r38375.toInt ≠ 0 := ti_ne h38384
            refine g_iload_n C dX11_tocome_66 rfl 5 rfl ?_
            refine b_if_ne C 80 dX11_tocome_67 (by decide) (fun h38385 => ?_) (fun h38385 => ?_)
            · have h38385 : a3.toInt ≠ 0 := ti_ne h38385
              refine g_aload_n C dX11_tocome_80 rfl 2 rfl ?_
              obtain ⟨b38386, e38387, h38388⟩ := Iy38378.fld (h38381) 11 2 0 rfl
              refine g_getR C fi_X11_67 rfl e38387 (h38381).1 (h38381).2 dX11_tocome_81 ?_
              refine g_getI C fi_X11_286 (by decide) (h38388.at).1 (h38388.at).2 dX11_tocome_84 ?_
              exact ret _ _ _ _ _ _ dX11_tocome_87 rfl (by decide) (by decide) ⟨Iy38378, Xz38380, trivial⟩
            · have h38385 : a3.toInt = 0 := congrArg Int32.toInt h38385
              refine g_aload_n C dX11_tocome_70 rfl 2 rfl ?_
              obtain ⟨b38389, e38390, h38391⟩ := Iy38378.fld (h38381) 11 2 0 rfl
              refine g_getR C fi_X11_67 rfl e38390 (h38381).1 (h38381).2 dX11_tocome_71 ?_
              refine g_getI C fi_X11_283 (by decide) (h38391.at).1 (h38391.at).2 dX11_tocome_74 ?_
              have h38392 := Iy38378.rg (h38391.at) 5 rfl
              refine g_goto C 87 dX11_tocome_77 (by decide) ?_
              exact ret _ _ _ _ _ _ dX11_tocome_87 rfl (by decide) (by decide) ⟨Iy38378, Xz38380, trivial⟩
          · have h38384 : r38375.toInt = 0 := congrArg Int32.toInt h38384
            refine g_iconst (v := (-1)) C dX11_tocome_64 (by decide) ?_
            exact ret _ _ _ _ _ _ dX11_tocome_65 rfl (by decide) (by decide) ⟨Iy38378, Xz38380, trivial⟩
        · have h38345 : 1 < a3.toInt := h38345
          refine g_lv (lv' := []) [] rfl ?_
          exact J24 
theorem dX11_told_0 : decode cX11_told 0 = .ok (.aload_n 0, 1) := by decide +kernel
theorem dX11_told_1 : decode cX11_told 1 = .ok (.iload_n 1, 1) := by decide +kernel
theorem dX11_told_2 : decode cX11_told 2 = .ok (.iload_n 2, 1) := by decide +kernel
theorem dX11_told_3 : decode cX11_told 3 = .ok (.invokevirtual 155, 3) := by decide +kernel
theorem dX11_told_6 : decode cX11_told 6 = .ok (.ifCond .ne 5, 3) := by decide +kernel
theorem dX11_told_9 : decode cX11_told 9 = .ok (.iconst (-1), 1) := by decide +kernel
theorem dX11_told_10 : decode cX11_told 10 = .ok (.ireturn, 1) := by decide +kernel
theorem dX11_told_11 : decode cX11_told 11 = .ok (.aload_n 0, 1) := by decide +kernel
theorem dX11_told_12 : decode cX11_told 12 = .ok (.getfield 11, 3) := by decide +kernel
theorem dX11_told_15 : decode cX11_told 15 = .ok (.iload_n 1, 1) := by decide +kernel
theorem dX11_told_16 : decode cX11_told 16 = .ok (.aaload, 1) := by decide +kernel
theorem dX11_told_17 : decode cX11_told 17 = .ok (.iconst 1, 1) := by decide +kernel
theorem dX11_told_18 : decode cX11_told 18 = .ok (.iload_n 2, 1) := by decide +kernel
theorem dX11_told_19 : decode cX11_told 19 = .ok (.ishl, 1) := by decide +kernel
theorem dX11_told_20 : decode cX11_told 20 = .ok (.invokevirtual 143, 3) := by decide +kernel
theorem dX11_told_23 : decode cX11_told 23 = .ok (.ireturn, 1) := by decide +kernel
set_option maxHeartbeats 4000000 in
set_option maxRecDepth 100000 in
theorem s_X11_told {P : PP} {a0 : Nat} {a1 : Int32} {a2 : Int32} (I : IV P) (ha0 : At P a0 11) : CtrI yX11_told cX11_told 3 (some Jvm.ClassFile.FieldType.int) ({ frames := 4, cells := 0, slots := 0, locals := 256 } : Room) 0 0 P [.ref a0, .int a1, .int a2] (fun r P2 => P = P2 ∧ (True)) := by
  refine enI (lv := [(0, .ref a0), (1, .int a1), (2, .int a2)]) (by decide) (Nat.le_of_ble_eq_true rfl) rfl (fun E D cy C Ci0 ret => ?_)
  refine g_aload_n C dX11_told_0 rfl 0 rfl ?_
  refine g_iload_n C dX11_told_1 rfl 1 rfl ?_
  refine g_iload_n C dX11_told_2 rfl 2 rfl ?_
  refine g_callVI (rest := []) C mv_X11_155 [.int a1, .int a2] (s_X11_isPageOf I ha0) (ha0).1 (ha0).2 rfl rfl (by decide) (Nat.le_of_ble_eq_true rfl) (by decide) dX11_told_3 (fun r38409 Y38410 h38411 => ?_)
  obtain ⟨rfl, h38411⟩ := h38411
  obtain ⟨h38411, hi38412⟩ := h38411
  have hi38412 : r38409.toInt = 0 ∨ (((0 : Int) ≤ a1.toInt ∧ a1.toInt ≤ (1 : Int)) ∧ ((0 : Int) ≤ a2.toInt ∧ a2.toInt ≤ (19 : Int))) := hi38412
  have h38411 : 0 ≤ r38409.toInt ∧ r38409.toInt ≤ 1 := h38411
  refine b_if_ne C 11 dX11_told_6 (by decide) (fun h38413 => ?_) (fun h38413 => ?_)
  · have h38413 : r38409.toInt ≠ 0 := ti_ne h38413
    replace hi38412 := hi38412.resolve_left (by omega)
    refine g_aload_n C dX11_told_11 rfl 0 rfl ?_
    obtain ⟨b38414, e38415, h38416⟩ := I.fld (ha0) 0 17 2 rfl
    refine g_getR C fi_X11_11 rfl e38415 (ha0).1 (ha0).2 dX11_told_12 ?_
    refine g_iload_n C dX11_told_15 rfl 1 rfl ?_
    obtain ⟨b38417, e38418, h38419⟩ := I.elm h38416 (by decide) (a1.toInt.toNat) (by omega)
    refine g_aldR C h38416.1 h38416.2.1 (by decide) (ix_in h38416.2.2 (by omega)) e38418 dX11_told_16 ?_
    refine g_iconst (v := 1) C dX11_told_17 (by decide) ?_
    refine g_iload_n C dX11_told_18 rfl 2 rfl ?_
    refine a_ishl C dX11_told_19 (fun z38420 => ?_)
    refine g_callVI (rest := []) C mv_X11_143 [.int z38420] (s_X1_sumOf I h38419) (h38419).1 (h38419).2 rfl rfl (by decide) (Nat.le_of_ble_eq_true rfl) (by decide) dX11_told_20 (fun r38422 Y38423 h38424 => ?_)
    obtain ⟨rfl, h38424⟩ := h38424
    have h38424 : True := h38424
    exact ret _ _ _ _ _ _ dX11_told_23 rfl (by decide) (by decide) ⟨rfl, trivial⟩
  · have h38413 : r38409.toInt = 0 := congrArg Int32.toInt h38413
    clear hi38412
    refine g_iconst (v := (-1)) C dX11_told_9 (by decide) ?_
    exact ret _ _ _ _ _ _ dX11_told_10 rfl (by decide) (by decide) ⟨rfl, trivial⟩
theorem dX11_town_0 : decode cX11_town 0 = .ok (.aload_n 0, 1) := by decide +kernel
theorem dX11_town_1 : decode cX11_town 1 = .ok (.iload_n 1, 1) := by decide +kernel
theorem dX11_town_2 : decode cX11_town 2 = .ok (.invokevirtual 97, 3) := by decide +kernel
theorem dX11_town_5 : decode cX11_town 5 = .ok (.ifCond .eq 13, 3) := by decide +kernel
theorem dX11_town_8 : decode cX11_town 8 = .ok (.iload_n 2, 1) := by decide +kernel
theorem dX11_town_9 : decode cX11_town 9 = .ok (.ifCond .lt 9, 3) := by decide +kernel
theorem dX11_town_12 : decode cX11_town 12 = .ok (.iload_n 2, 1) := by decide +kernel
theorem dX11_town_13 : decode cX11_town 13 = .ok (.bipush 100, 2) := by decide +kernel
theorem dX11_town_15 : decode cX11_town 15 = .ok (.if_icmp .le 5, 3) := by decide +kernel
theorem dX11_town_18 : decode cX11_town 18 = .ok (.iconst (-1), 1) := by decide +kernel
theorem dX11_town_19 : decode cX11_town 19 = .ok (.ireturn, 1) := by decide +kernel
theorem dX11_town_20 : decode cX11_town 20 = .ok (.iconst 0, 1) := by decide +kernel
theorem dX11_town_21 : decode cX11_town 21 = .ok (.istore_n 3, 1) := by decide +kernel
theorem dX11_town_22 : decode cX11_town 22 = .ok (.iload_n 3, 1) := by decide +kernel
theorem dX11_town_23 : decode cX11_town 23 = .ok (.iconst 4, 1) := by decide +kernel
theorem dX11_town_24 : decode cX11_town 24 = .ok (.if_icmp .ge 26, 3) := by decide +kernel
theorem dX11_town_27 : decode cX11_town 27 = .ok (.aload_n 0, 1) := by decide +kernel
theorem dX11_town_28 : decode cX11_town 28 = .ok (.getfield 35, 3) := by decide +kernel
theorem dX11_town_31 : decode cX11_town 31 = .ok (.iload_n 3, 1) := by decide +kernel
theorem dX11_town_32 : decode cX11_town 32 = .ok (.aload_n 0, 1) := by decide +kernel
theorem dX11_town_33 : decode cX11_town 33 = .ok (.iload_n 3, 1) := by decide +kernel
theorem dX11_town_34 : decode cX11_town 34 = .ok (.aload_n 0, 1) := by decide +kernel
theorem dX11_town_35 : decode cX11_town 35 = .ok (.getfield 11, 3) := by decide +kernel
theorem dX11_town_38 : decode cX11_town 38 = .ok (.iload_n 1, 1) := by decide +kernel
theorem dX11_town_39 : decode cX11_town 39 = .ok (.aaload, 1) := by decide +kernel
theorem dX11_town_40 : decode cX11_town 40 = .ok (.invokevirtual 326, 3) := by decide +kernel
theorem dX11_town_43 : decode cX11_town 43 = .ok (.iastore, 1) := by decide +kernel
theorem dX11_town_44 : decode cX11_town 44 = .ok (.iinc 3 1, 3) := by decide +kernel
theorem dX11_town_47 : decode cX11_town 47 = .ok (.goto (-25), 3) := by decide +kernel
theorem dX11_town_50 : decode cX11_town 50 = .ok (.iload_n 2, 1) := by decide +kernel
theorem dX11_town_51 : decode cX11_town 51 = .ok (.aload_n 0, 1) := by decide +kernel
theorem dX11_town_52 : decode cX11_town 52 = .ok (.invokevirtual 330, 3) := by decide +kernel
theorem dX11_town_55 : decode cX11_town 55 = .ok (.imul, 1) := by decide +kernel
theorem dX11_town_56 : decode cX11_town 56 = .ok (.istore_n 3, 1) := by decide +kernel
theorem dX11_town_57 : decode cX11_town 57 = .ok (.iconst 0, 1) := by decide +kernel
theorem dX11_town_58 : decode cX11_town 58 = .ok (.istore 4, 2) := by decide +kernel
theorem dX11_town_60 : decode cX11_town 60 = .ok (.iload 4, 2) := by decide +kernel
theorem dX11_town_62 : decode cX11_town 62 = .ok (.bipush 60, 2) := by decide +kernel
theorem dX11_town_64 : decode cX11_town 64 = .ok (.if_icmp .gt 25, 3) := by decide +kernel
theorem dX11_town_67 : decode cX11_town 67 = .ok (.bipush 100, 2) := by decide +kernel
theorem dX11_town_69 : decode cX11_town 69 = .ok (.aload_n 0, 1) := by decide +kernel
theorem dX11_town_70 : decode cX11_town 70 = .ok (.iload 4, 2) := by decide +kernel
theorem dX11_town_72 : decode cX11_town 72 = .ok (.invokevirtual 333, 3) := by decide +kernel
theorem dX11_town_75 : decode cX11_town 75 = .ok (.imul, 1) := by decide +kernel
theorem dX11_town_76 : decode cX11_town 76 = .ok (.iload_n 3, 1) := by decide +kernel
theorem dX11_town_77 : decode cX11_town 77 = .ok (.if_icmp .lt 6, 3) := by decide +kernel
theorem dX11_town_80 : decode cX11_town 80 = .ok (.iload 4, 2) := by decide +kernel
theorem dX11_town_82 : decode cX11_town 82 = .ok (.ireturn, 1) := by decide +kernel
theorem dX11_town_83 : decode cX11_town 83 = .ok (.iinc 4 1, 3) := by decide +kernel
theorem dX11_town_86 : decode cX11_town 86 = .ok (.goto (-26), 3) := by decide +kernel
theorem dX11_town_89 : decode cX11_town 89 = .ok (.iconst (-1), 1) := by decide +kernel
theorem dX11_town_90 : decode cX11_town 90 = .ok (.ireturn, 1) := by decide +kernel
set_option maxHeartbeats 4000000 in
set_option maxRecDepth 100000 in
theorem s_X11_town {P : PP} {a0 : Nat} {a1 : Int32} {a2 : Int32} (I : IV P) (ha0 : At P a0 11) : CtrI yX11_town cX11_town 5 (some Jvm.ClassFile.FieldType.int) ({ frames := 6, cells := 0, slots := 0, locals := 384 } : Room) 0 0 P [.ref a0, .int a1, .int a2] (fun r P2 => IV P2 ∧ EK [0, 1, 5, 13] P P2 ∧ (-1 ≤ r.toInt ∧ r.toInt ≤ 60)) := by
  refine enI (lv := [(0, .ref a0), (1, .int a1), (2, .int a2)]) (by decide) (Nat.le_of_ble_eq_true rfl) rfl (fun E D cy C Ci0 ret => ?_)
  have J60 : ∀ (n60 : Nat) (P60 : PP) (v60_3 : Int32) (v60_4 : Int32), (61 - v60_4.toInt).toNat < n60 → (IV P60) → (EK [0, 1, 5, 13] P P60) → (0 ≤ v60_4.toInt ∧ v60_4.toInt ≤ 61) → G E ({ frames := 6, cells := 0, slots := 0, locals := 384 } : Room) D cy 5 P60 0 0 60 [(0, .ref a0), (3, .int v60_3), (4, .int v60_4)] [] := by
    intro n60
    induction n60 with
    | zero => intro P60 v60_3 v60_4 hm60 I60 X60 hv60_4; omega
    | succ n60 ih60 =>
      intro P60 v60_3 v60_4 hm60 I60 X60 hv60_4
      have h38825 := X60.at ha0
      refine g_iload C dX11_town_60 2 rfl ?_
      refine g_bipush (v := 60) C dX11_town_62 (by decide) ?_
      refine b_icmp_gt C 89 dX11_town_64 (by decide) (fun h38826 => ?_) (fun h38826 => ?_)
      · have h38826 : 60 < v60_4.toInt := h38826
        refine g_iconst (v := (-1)) C dX11_town_89 (by decide) ?_
        exact ret _ _ _ _ _ _ dX11_town_90 rfl (by decide) (by decide) ⟨I60, X60, (by decide)⟩
      · have h38826 : v60_4.toInt ≤ 60 := h38826
        refine g_bipush (v := 100) C dX11_town_67 (by decide) ?_
        refine g_aload_n C dX11_town_69 rfl 0 rfl ?_
        refine g_iload C dX11_town_70 2 rfl ?_
        refine g_callVI (rest := [.int 100]) C mv_X11_333 [.int v60_4] (s_X11_housesServed I60 h38825) (h38825).1 (h38825).2 rfl rfl (by decide) (Nat.le_of_ble_eq_true rfl) (by decide) dX11_town_72 (fun r38827 Y38828 h38829 => ?_)
        obtain ⟨rfl, h38829⟩ := h38829
        have h38829 : True := h38829
        refine a_imul C dX11_town_75 (fun z38830 => ?_)
        refine g_iload_n C dX11_town_76 rfl 1 rfl ?_
        have u38833 := ti_rng z38830
        have u38834 := ti_rng v60_3
        refine b_icmp_lt C 83 dX11_town_77 (by decide) (fun h38832 => ?_) (fun h38832 => ?_)
        · have h38832 : z38830.toInt < v60_3.toInt := h38832
          refine s_iinc (lv0 := [(0, .ref a0), (3, .int v60_3)]) (m := 1) C dX11_town_83 2 rfl (by decide) rfl (by decide) (by omega) (fun z38835 h38836 => ?_)
          have h38836 : z38835.toInt = v60_4.toInt + 1 := h38836
          refine g_goto C 60 dX11_town_86 (by decide) ?_
          refine g_lv (lv' := [(0, .ref a0), (3, .int v60_3), (4, .int z38835)]) [1, 2, 0] rfl ?_
          exact ih60 P60 v60_3 z38835 (by omega) I60 X60 (by omega)
        · have h38832 : v60_3.toInt ≤ z38830.toInt := h38832
          refine g_iload C dX11_town_80 2 rfl ?_
          exact ret _ _ _ _ _ _ dX11_town_82 rfl (by decide) (by decide) ⟨I60, X60, (by omega)⟩
  have J22 : ∀ (n22 : Nat) (P22 : PP) (v22_3 : Int32), (4 - v22_3.toInt).toNat < n22 → (IV P22) → (EK [0, 1, 5, 13] P P22) → (0 ≤ a1.toInt ∧ a1.toInt ≤ 1) → (0 ≤ a2.toInt ∧ a2.toInt ≤ 100) → (0 ≤ v22_3.toInt ∧ v22_3.toInt ≤ 4) → G E ({ frames := 6, cells := 0, slots := 0, locals := 384 } : Room) D cy 5 P22 0 0 22 [(0, .ref a0), (1, .int a1), (2, .int a2), (3, .int v22_3)] [] := by
    intro n22
    induction n22 with
    | zero => intro P22 v22_3 hm22 I22 X22 hv22_1 hv22_2 hv22_3; omega
    | succ n22 ih22 =>
      intro P22 v22_3 hm22 I22 X22 hv22_1 hv22_2 hv22_3
      have h38837 := X22.at ha0
      refine g_iload_n C dX11_town_22 rfl 3 rfl ?_
      refine g_iconst (v := 4) C dX11_town_23 (by decide) ?_
      refine b_icmp_ge C 50 dX11_town_24 (by decide) (fun h38838 => ?_) (fun h38838 => ?_)
      · have h38838 : 4 ≤ v22_3.toInt := h38838
        refine g_iload_n C dX11_town_50 rfl 2 rfl ?_
        refine g_aload_n C dX11_town_51 rfl 0 rfl ?_
        refine g_callVI (rest := [.int a2]) C mv_X11_330 [] (s_X11_allHouses I22 h38837) (h38837).1 (h38837).2 rfl rfl (by decide) (Nat.le_of_ble_eq_true rfl) (by decide) dX11_town_52 (fun r38839 Y38840 h38841 => ?_)
        obtain ⟨rfl, h38841⟩ := h38841
        have h38841 : True := h38841
        refine a_imul C dX11_town_55 (fun z38842 => ?_)
        refine g_istore_n (lv' := [(3, .int z38842), (0, .ref a0), (1, .int a1), (2, .int a2)]) C dX11_town_56 rfl (by decide) rfl ?_
        refine g_iconst (v := 0) C dX11_town_57 (by decide) ?_
        refine g_istore (lv' := [(4, .int 0), (3, .int z38842), (0, .ref a0), (1, .int a1), (2, .int a2)]) C dX11_town_58 (by decide) rfl ?_
        refine g_lv (lv' := [(0, .ref a0), (3, .int z38842), (4, .int 0)]) [2, 1, 0] rfl ?_
        exact J60 _ P22 z38842 0 (Nat.lt_succ_self _) I22 X22 (by decide)
      · have h38838 : v22_3.toInt < 4 := h38838
        refine g_aload_n C dX11_town_27 rfl 0 rfl ?_
        obtain ⟨b38844, e38845, h38846⟩ := I22.fld (h38837) 6 13 4 rfl
        refine g_getR C fi_X11_35 rfl e38845 (h38837).1 (h38837).2 dX11_town_28 ?_
        refine g_iload_n C dX11_town_31 rfl 3 rfl ?_
        refine g_aload_n C dX11_town_32 rfl 0 rfl ?_
        refine g_iload_n C dX11_town_33 rfl 3 rfl ?_
        refine g_aload_n C dX11_town_34 rfl 0 rfl ?_
        obtain ⟨b38847, e38848, h38849⟩ := I22.fld (h38837) 0 17 2 rfl
        refine g_getR C fi_X11_11 rfl e38848 (h38837).1 (h38837).2 dX11_town_35 ?_
        refine g_iload_n C dX11_town_38 rfl 1 rfl ?_
        obtain ⟨b38850, e38851, h38852⟩ := I22.elm h38849 (by decide) (a1.toInt.toNat) (by omega)
        refine g_aldR C h38849.1 h38849.2.1 (by decide) (ix_in h38849.2.2 (by omega)) e38851 dX11_town_39 ?_
        refine g_callVI (rest := [.int v22_3, .ref b38844]) C mv_X11_326 [.int v22_3, .ref b38850] (s_X11_neededIn I22 h38837 (by omega) h38852) (h38837).1 (h38837).2 rfl rfl (by decide) (Nat.le_of_ble_eq_true rfl) (by decide) dX11_town_40 (fun r38853 Y38854 h38855 => ?_)
        obtain ⟨Iy38856, Xy38857, h38855⟩ := h38855
        have Xz38858 : EK [0, 1, 5, 13] P Y38854 := X22.tr (Xy38857.mono (by decide))
        have e38859 := Xy38857.ref h38837 (by decide) e38845
        have h38860 := Xy38857.at h38837
        have h38861 := Xy38857.ar h38846
        have h38855 : -1 ≤ r38853.toInt ∧ r38853.toInt ≤ 60 := h38855
        refine g_iast (j := (v22_3.toInt.toNat)) C h38861.1 h38861.2.1 (ix_in h38861.2.2 (by omega)) dX11_town_43 ?_
        refine gp (ks := [13]) (Iy38856.setA h38861 (by decide)) (EK.setI h38861.2.1 (by decide)) (fun Y38862 Iy38863 Xy38864 => ?_)
        have Xz38865 : EK [0, 1, 5, 13] P Y38862 := Xz38858.tr (Xy38864.mono (by decide))
        have h38866 := Xy38864.at h38860
        refine s_iinc (lv0 := [(0, .ref a0), (1, .int a1), (2, .int a2)]) (m := 1) C dX11_town_44 3 rfl (by decide) rfl (by decide) (by omega) (fun z38867 h38868 => ?_)
        have h38868 : z38867.toInt = v22_3.toInt + 1 := h38868
        refine g_goto C 22 dX11_town_47 (by decide) ?_
        refine g_lv (lv' := [(0, .ref a0), (1, .int a1), (2, .int a2), (3, .int z38867)]) [1, 2, 3, 0] rfl ?_
        exact ih22 Y38862 z38867 (by omega) Iy38863 Xz38865 (by omega) (by omega) (by omega)
  have J18 : G E ({ frames := 6, cells := 0, slots := 0, locals := 384 } : Room) D cy 5 P 0 0 18 [] [] := by
    refine g_iconst (v := (-1)) C dX11_town_18 (by decide) ?_
    exact ret _ _ _ _ _ _ dX11_town_19 rfl (by decide) (by decide) ⟨I, EK.rf, (by decide)⟩
  refine g_aload_n C dX11_town_0 rfl 0 rfl ?_
  refine g_iload_n C dX11_town_1 rfl 1 rfl ?_
  refine g_callVI (rest := []) C mv_X11_97 [.int a1] (s_X11_isTold I ha0) (ha0).1 (ha0).2 rfl rfl (by decide) (Nat.le_of_ble_eq_true rfl) (by decide) dX11_town_2 (fun r38869 Y38870 h38871 => ?_)
  obtain ⟨rfl, h38871⟩ := h38871
  obtain ⟨h38871, hi38872⟩ := h38871
  have hi38872 : r38869.toInt = 0 ∨ (((0 : Int) ≤ a1.toInt ∧ a1.toInt ≤ (1 : Int))) := hi38872
  have h38871 : 0 ≤ r38869.toInt ∧ r38869.toInt ≤ 1 := h38871
  refine b_if_eq C 18 dX11_town_5 (by decide) (fun h38873 => ?_) (fun h38873 => ?_)
  · have h38873 : r38869.toInt = 0 := congrArg Int32.toInt h38873
    clear hi38872
    refine g_lv (lv' := []) [] rfl ?_
    exact J18 
  · have h38873 : r38869.toInt ≠ 0 := ti_ne h38873
    replace hi38872 := hi38872.resolve_left (by omega)
    refine g_iload_n C dX11_town_8 rfl 2 rfl ?_
    have u38875 := ti_rng a2
    refine b_if_lt C 18 dX11_town_9 (by decide) (fun h38874 => ?_) (fun h38874 => ?_)
    · have h38874 : a2.toInt < 0 := h38874
      refine g_lv (lv' := []) [] rfl ?_
      exact J18 
    · have h38874 : 0 ≤ a2.toInt := h38874
      refine g_iload_n C dX11_town_12 rfl 2 rfl ?_
      refine g_bipush (v := 100) C dX11_town_13 (by decide) ?_
      have u38877 := ti_rng a2
      refine b_icmp_le C 20 dX11_town_15 (by decide) (fun h38876 => ?_) (fun h38876 => ?_)
      · have h38876 : a2.toInt ≤ 100 := h38876
        refine g_iconst (v := 0) C dX11_town_20 (by decide) ?_
        refine g_istore_n (lv' := [(3, .int 0), (0, .ref a0), (1, .int a1), (2, .int a2)]) C dX11_town_21 rfl (by decide) rfl ?_
        refine g_lv (lv' := [(0, .ref a0), (1, .int a1), (2, .int a2), (3, .int 0)]) [1, 2, 3, 0] rfl ?_
        exact J22 _ P 0 (Nat.lt_succ_self _) I EK.rf (by omega) (by omega) (by decide)
      · have h38876 : 100 < a2.toInt := h38876
        refine g_lv (lv' := []) [] rfl ?_
        exact J18 
theorem dX11_unknownPages_0 : decode cX11_unknownPages 0 = .ok (.ldc_w 364, 3) := by decide +kernel
theorem dX11_unknownPages_3 : decode cX11_unknownPages 3 = .ok (.istore_n 3, 1) := by decide +kernel
theorem dX11_unknownPages_4 : decode cX11_unknownPages 4 = .ok (.iconst 0, 1) := by decide +kernel
theorem dX11_unknownPages_5 : decode cX11_unknownPages 5 = .ok (.istore 4, 2) := by decide +kernel
theorem dX11_unknownPages_7 : decode cX11_unknownPages 7 = .ok (.iload 4, 2) := by decide +kernel
theorem dX11_unknownPages_9 : decode cX11_unknownPages 9 = .ok (.iconst 2, 1) := by decide +kernel
theorem dX11_unknownPages_10 : decode cX11_unknownPages 10 = .ok (.if_icmp .ge 35, 3) := by decide +kernel
theorem dX11_unknownPages_13 : decode cX11_unknownPages 13 = .ok (.aload_n 2, 1) := by decide +kernel
theorem dX11_unknownPages_14 : decode cX11_unknownPages 14 = .ok (.iload 4, 2) := by decide +kernel
theorem dX11_unknownPages_16 : decode cX11_unknownPages 16 = .ok (.invokevirtual 365, 3) := by decide +kernel
theorem dX11_unknownPages_19 : decode cX11_unknownPages 19 = .ok (.ifCond .eq 20, 3) := by decide +kernel
theorem dX11_unknownPages_22 : decode cX11_unknownPages 22 = .ok (.iload_n 3, 1) := by decide +kernel
theorem dX11_unknownPages_23 : decode cX11_unknownPages 23 = .ok (.aload_n 0, 1) := by decide +kernel
theorem dX11_unknownPages_24 : decode cX11_unknownPages 24 = .ok (.iload_n 1, 1) := by decide +kernel
theorem dX11_unknownPages_25 : decode cX11_unknownPages 25 = .ok (.aload_n 2, 1) := by decide +kernel
theorem dX11_unknownPages_26 : decode cX11_unknownPages 26 = .ok (.getfield 191, 3) := by decide +kernel
theorem dX11_unknownPages_29 : decode cX11_unknownPages 29 = .ok (.iload 4, 2) := by decide +kernel
theorem dX11_unknownPages_31 : decode cX11_unknownPages 31 = .ok (.invokevirtual 216, 3) := by decide +kernel
theorem dX11_unknownPages_34 : decode cX11_unknownPages 34 = .ok (.invokevirtual 220, 3) := by decide +kernel
theorem dX11_unknownPages_37 : decode cX11_unknownPages 37 = .ok (.iand, 1) := by decide +kernel
theorem dX11_unknownPages_38 : decode cX11_unknownPages 38 = .ok (.istore_n 3, 1) := by decide +kernel
theorem dX11_unknownPages_39 : decode cX11_unknownPages 39 = .ok (.iinc 4 1, 3) := by decide +kernel
theorem dX11_unknownPages_42 : decode cX11_unknownPages 42 = .ok (.goto (-35), 3) := by decide +kernel
theorem dX11_unknownPages_45 : decode cX11_unknownPages 45 = .ok (.aload_n 2, 1) := by decide +kernel
theorem dX11_unknownPages_46 : decode cX11_unknownPages 46 = .ok (.aload_n 2, 1) := by decide +kernel
theorem dX11_unknownPages_47 : decode cX11_unknownPages 47 = .ok (.getfield 191, 3) := by decide +kernel
theorem dX11_unknownPages_50 : decode cX11_unknownPages 50 = .ok (.invokevirtual 368, 3) := by decide +kernel
theorem dX11_unknownPages_53 : decode cX11_unknownPages 53 = .ok (.iload_n 3, 1) := by decide +kernel
theorem dX11_unknownPages_54 : decode cX11_unknownPages 54 = .ok (.iconst (-1), 1) := by decide +kernel
theorem dX11_unknownPages_55 : decode cX11_unknownPages 55 = .ok (.ixor, 1) := by decide +kernel
theorem dX11_unknownPages_56 : decode cX11_unknownPages 56 = .ok (.iand, 1) := by decide +kernel
theorem dX11_unknownPages_57 : decode cX11_unknownPages 57 = .ok (.invokestatic 150, 3) := by decide +kernel
theorem dX11_unknownPages_60 : decode cX11_unknownPages 60 = .ok (.ireturn, 1) := by decide +kernel
set_option maxHeartbeats 4000000 in
set_option maxRecDepth 100000 in
theorem s_X11_unknownPages {P : PP} {a0 : Nat} {a1 : Int32} {a2 : Nat} (I : IV P) (ha0 : At P a0 11) (ha1 : 0 ≤ a1.toInt ∧ a1.toInt ≤ 3) (ha2 : At P a2 7) (hp2_0 : 0 ≤ (pI P a2 0).toInt ∧ (pI P a2 0).toInt ≤ 1) : CtrI yX11_unknownPages cX11_unknownPages 5 (some Jvm.ClassFile.FieldType.int) ({ frames := 4, cells := 0, slots := 0, locals := 256 } : Room) 0 0 P [.ref a0, .int a1, .ref a2] (fun r P2 => IV P2 ∧ EK [5, 13] P P2 ∧ (0 ≤ r.toInt ∧ r.toInt ≤ 63)) := by
  refine enI (lv := [(0, .ref a0), (1, .int a1), (2, .ref a2)]) (by decide) (Nat.le_of_ble_eq_true rfl) rfl (fun E D cy C Ci0 ret => ?_)
  have J7 : ∀ (n7 : Nat) (P7 : PP) (v7_3 : Int32) (v7_4 : Int32), (2 - v7_4.toInt).toNat < n7 → (IV P7) → (EK [5, 13] P P7) → (0 ≤ v7_4.toInt ∧ v7_4.toInt ≤ 2) → (0 ≤ (pI P7 a2 0).toInt ∧ (pI P7 a2 0).toInt ≤ 1) → G E ({ frames := 4, cells := 0, slots := 0, locals := 256 } : Room) D cy 5 P7 0 0 7 [(0, .ref a0), (1, .int a1), (2, .ref a2), (3, .int v7_3), (4, .int v7_4)] [] := by
    intro n7
    induction n7 with
    | zero => intro P7 v7_3 v7_4 hm7 I7 X7 hv7_4 hq7_0; omega
    | succ n7 ih7 =>
      intro P7 v7_3 v7_4 hm7 I7 X7 hv7_4 hq7_0
      have h38981 := X7.at ha0
      have h38982 := X7.at ha2
      have J39 : ∀ (P39 : PP) (v39_3 : Int32), (IV P39) → (EK [5, 13] P P39) → (0 ≤ v7_4.toInt ∧ v7_4.toInt ≤ 1) → (0 ≤ (pI P39 a2 0).toInt ∧ (pI P39 a2 0).toInt ≤ 1) → G E ({ frames := 4, cells := 0, slots := 0, locals := 256 } : Room) D cy 5 P39 0 0 39 [(0, .ref a0), (1, .int a1), (2, .ref a2), (3, .int v39_3), (4, .int v7_4)] [] := by
        intro P39 v39_3 I39 X39 hv39_4 hq39_0
        have h38983 := X39.at ha0
        have h38984 := X39.at ha2
        refine s_iinc (lv0 := [(0, .ref a0), (1, .int a1), (2, .ref a2), (3, .int v39_3)]) (m := 1) C dX11_unknownPages_39 4 rfl (by decide) rfl (by decide) (by omega) (fun z38985 h38986 => ?_)
        have h38986 : z38985.toInt = v7_4.toInt + 1 := h38986
        refine g_goto C 7 dX11_unknownPages_42 (by decide) ?_
        refine g_lv (lv' := [(0, .ref a0), (1, .int a1), (2, .ref a2), (3, .int v39_3), (4, .int z38985)]) [1, 2, 3, 4, 0] rfl ?_
        exact ih7 P39 v39_3 z38985 (by omega) I39 X39 (by omega) (by omega)
      refine g_iload C dX11_unknownPages_7 4 rfl ?_
      refine g_iconst (v := 2) C dX11_unknownPages_9 (by decide) ?_
      refine b_icmp_ge C 45 dX11_unknownPages_10 (by decide) (fun h38987 => ?_) (fun h38987 => ?_)
      · have h38987 : 2 ≤ v7_4.toInt := h38987
        refine g_aload_n C dX11_unknownPages_45 rfl 2 rfl ?_
        refine g_aload_n C dX11_unknownPages_46 rfl 2 rfl ?_
        refine g_getI C fi_X11_191 (by decide) (h38982).1 (h38982).2 dX11_unknownPages_47 ?_
        refine g_callVI (rest := []) C mv_X11_368 [.int (pI P7 a2 0)] (s_X7_pagesBy I7 h38982) (h38982).1 (h38982).2 rfl rfl (by decide) (Nat.le_of_ble_eq_true rfl) (by decide) dX11_unknownPages_50 (fun r38988 Y38989 h38990 => ?_)
        obtain ⟨rfl, h38990⟩ := h38990
        have h38990 : True := h38990
        refine g_iload_n C dX11_unknownPages_53 rfl 3 rfl ?_
        refine g_iconst (v := (-1)) C dX11_unknownPages_54 (by decide) ?_
        refine a_ixor C dX11_unknownPages_55 (fun z38991 => ?_)
        refine a_iand C dX11_unknownPages_56 (fun z38993 => ?_)
        refine g_callSI (b := 0) (ci := 0) (rest := []) C ms_X11_150 [.int z38993] (s_J6_bitCount_0f7a4 I7) rfl rfl (by decide) (Nat.le_of_ble_eq_true rfl) (by decide) dX11_unknownPages_57 (fun r38995 Y38996 h38997 => ?_)
        obtain ⟨rfl, h38997⟩ := h38997
        have h38997 : 0 ≤ r38995.toInt ∧ r38995.toInt ≤ 63 := h38997
        exact ret _ _ _ _ _ _ dX11_unknownPages_60 rfl (by decide) (by decide) ⟨I7, X7, (by omega)⟩
      · have h38987 : v7_4.toInt < 2 := h38987
        refine g_aload_n C dX11_unknownPages_13 rfl 2 rfl ?_
        refine g_iload C dX11_unknownPages_14 4 rfl ?_
        refine g_callVI (rest := []) C mv_X11_365 [.int v7_4] (s_X7_hasOctet I7 h38982) (h38982).1 (h38982).2 rfl rfl (by decide) (Nat.le_of_ble_eq_true rfl) (by decide) dX11_unknownPages_16 (fun r38998 Y38999 h39000 => ?_)
        obtain ⟨rfl, h39000⟩ := h39000
        have h39000 : 0 ≤ r38998.toInt ∧ r38998.toInt ≤ 1 := h39000
        refine b_if_eq C 39 dX11_unknownPages_19 (by decide) (fun h39001 => ?_) (fun h39001 => ?_)
        · have h39001 : r38998.toInt = 0 := congrArg Int32.toInt h39001
          exact J39 P7 v7_3 I7 X7 (by omega) (by omega)
        · have h39001 : r38998.toInt ≠ 0 := ti_ne h39001
          refine g_iload_n C dX11_unknownPages_22 rfl 3 rfl ?_
          refine g_aload_n C dX11_unknownPages_23 rfl 0 rfl ?_
          refine g_iload_n C dX11_unknownPages_24 rfl 1 rfl ?_
          refine g_aload_n C dX11_unknownPages_25 rfl 2 rfl ?_
          refine g_getI C fi_X11_191 (by decide) (h38982).1 (h38982).2 dX11_unknownPages_26 ?_
          refine g_iload C dX11_unknownPages_29 4 rfl ?_
          refine g_callVQ (rest := [.int v7_3]) C mv_X11_216 [.int a1, .int (pI P7 a2 0), .int v7_4] (s_X11_gather I7 h38981 (by omega) (by omega) (by omega)) (h38981).1 (h38981).2 rfl rfl (by decide) (Nat.le_of_ble_eq_true rfl) (by decide) dX11_unknownPages_31 (fun r39002 Y39003 h39004 => ?_)
          obtain ⟨Iy39005, Xy39006, h39004⟩ := h39004
          have q39007 := Xy39006.keep h38982 (by decide) 0
          have Xz39008 : EK [5, 13] P Y39003 := X7.tr (Xy39006.mono (by decide))
          have h39009 := Xy39006.at h38981
          have h39010 := Xy39006.at h38982
          obtain ⟨b39012, rfl, h39004⟩ := h39004
          show G _ _ _ _ _ _ _ _ _ _ (.ref b39012 :: _)
          refine g_callVI (rest := [.int v7_3]) C mv_X11_220 [] (s_X5_peel Iy39005 h39004) (h39004).1 (h39004).2 rfl rfl (by decide) (Nat.le_of_ble_eq_true rfl) (by decide) dX11_unknownPages_34 (fun r39013 Y39014 h39015 => ?_)
          obtain ⟨Iy39016, Xy39017, h39015⟩ := h39015
          have q39018 := Xy39017.keep h39010 (by decide) 0
          have Xz39019 : EK [5, 13] P Y39014 := Xz39008.tr (Xy39017.mono (by decide))
          have h39020 := Xy39017.at h39009
          have h39021 := Xy39017.at h39010
          have h39015 : True := h39015
          refine a_iand C dX11_unknownPages_37 (fun z39022 => ?_)
          refine g_istore_n (lv' := [(3, .int z39022), (0, .ref a0), (1, .int a1), (2, .ref a2), (4, .int v7_4)]) C dX11_unknownPages_38 rfl (by decide) rfl ?_
          refine g_lv (lv' := [(0, .ref a0), (1, .int a1), (2, .ref a2), (3, .int z39022), (4, .int v7_4)]) [1, 2, 3, 0, 4] rfl ?_
          exact J39 Y39014 z39022 Iy39016 Xz39019 (by omega) (by omega)
  refine g_ldcw (v := 1048575) C kc_X11_364 dX11_unknownPages_0 ?_
  refine g_istore_n (lv' := [(3, .int 1048575), (0, .ref a0), (1, .int a1), (2, .ref a2)]) C dX11_unknownPages_3 rfl (by decide) rfl ?_
  refine g_iconst (v := 0) C dX11_unknownPages_4 (by decide) ?_
  refine g_istore (lv' := [(4, .int 0), (3, .int 1048575), (0, .ref a0), (1, .int a1), (2, .ref a2)]) C dX11_unknownPages_5 (by decide) rfl ?_
  refine g_lv (lv' := [(0, .ref a0), (1, .int a1), (2, .ref a2), (3, .int 1048575), (4, .int 0)]) [2, 3, 4, 1, 0] rfl ?_
  exact J7 _ P 1048575 0 (Nat.lt_succ_self _) I EK.rf (by decide) (by omega)
theorem dX1_changeDraw_0 : decode cX1_changeDraw 0 = .ok (.aload_n 0, 1) := by decide +kernel
theorem dX1_changeDraw_1 : decode cX1_changeDraw 1 = .ok (.getfield 18, 3) := by decide +kernel
theorem dX1_changeDraw_4 : decode cX1_changeDraw 4 = .ok (.aload_n 1, 1) := by decide +kernel
theorem dX1_changeDraw_5 : decode cX1_changeDraw 5 = .ok (.invokevirtual 42, 3) := by decide +kernel
theorem dX3_copy_0 : decode cX3_copy 0 = .ok (.aload_n 1, 1) := by decide +kernel
theorem dX3_copy_1 : decode cX3_copy 1 = .ok (.getfield 9, 3) := by decide +kernel
theorem dX3_copy_4 : decode cX3_copy 4 = .ok (.iconst 0, 1) := by decide +kernel
theorem dX3_copy_5 : decode cX3_copy 5 = .ok (.aload_n 0, 1) := by decide +kernel
theorem dX3_copy_6 : decode cX3_copy 6 = .ok (.getfield 9, 3) := by decide +kernel
theorem dX3_copy_9 : decode cX3_copy 9 = .ok (.iconst 0, 1) := by decide +kernel
theorem dX3_copy_10 : decode cX3_copy 10 = .ok (.bipush 21, 2) := by decide +kernel
theorem dX3_copy_12 : decode cX3_copy 12 = .ok (.invokestatic 34, 3) := by decide +kernel
theorem dX1_init_0 : decode cX1_init 0 = .ok (.aload_n 0, 1) := by decide +kernel
theorem dX1_init_1 : decode cX1_init 1 = .ok (.invokespecial 3, 3) := by decide +kernel
theorem dX1_init_4 : decode cX1_init 4 = .ok (.aload_n 0, 1) := by decide +kernel
theorem dX1_init_5 : decode cX1_init 5 = .ok (.bipush 16, 2) := by decide +kernel
theorem dX1_init_7 : decode cX1_init 7 = .ok (.newarray .int, 2) := by decide +kernel
theorem dX2_init_0 : decode cX2_init 0 = .ok (.aload_n 0, 1) := by decide +kernel
theorem dX2_init_1 : decode cX2_init 1 = .ok (.invokespecial 3, 3) := by decide +kernel
theorem dX2_init_4 : decode cX2_init 4 = .ok (.aload_n 0, 1) := by decide +kernel
theorem dX2_init_5 : decode cX2_init 5 = .ok (.bipush 11, 2) := by decide +kernel
theorem dX2_init_7 : decode cX2_init 7 = .ok (.newarray .int, 2) := by decide +kernel
theorem dX3_init_0 : decode cX3_init 0 = .ok (.aload_n 0, 1) := by decide +kernel
theorem dX3_init_1 : decode cX3_init 1 = .ok (.invokespecial 3, 3) := by decide +kernel
theorem dX3_init_4 : decode cX3_init 4 = .ok (.aload_n 0, 1) := by decide +kernel
theorem dX3_init_5 : decode cX3_init 5 = .ok (.bipush 21, 2) := by decide +kernel
theorem dX3_init_7 : decode cX3_init 7 = .ok (.newarray .int, 2) := by decide +kernel
theorem dX4_endFault_0 : decode cX4_endFault 0 = .ok (.aload_n 0, 1) := by decide +kernel
theorem dX4_endFault_1 : decode cX4_endFault 1 = .ok (.getfield 12, 3) := by decide +kernel
theorem dX4_endFault_4 : decode cX4_endFault 4 = .ok (.invokevirtual 31, 3) := by decide +kernel
theorem dX4_endFault_7 : decode cX4_endFault 7 = .ok (.aload_n 0, 1) := by decide +kernel
theorem dX4_endFault_8 : decode cX4_endFault 8 = .ok (.getfield 12, 3) := by decide +kernel
theorem dX4_endFault_11 : decode cX4_endFault 11 = .ok (.getfield 34, 3) := by decide +kernel
theorem dX4_endFault_14 : decode cX4_endFault 14 = .ok (.iconst 3, 1) := by decide +kernel
theorem dX4_endFault_15 : decode cX4_endFault 15 = .ok (.if_icmp .ne 7, 3) := by decide +kernel
theorem dX4_endFault_22 : decode cX4_endFault 22 = .ok (.aload_n 0, 1) := by decide +kernel
theorem dX4_endFault_23 : decode cX4_endFault 23 = .ok (.iconst 1, 1) := by decide +kernel
theorem dX4_endFault_24 : decode cX4_endFault 24 = .ok (.invokevirtual 57, 3) := by decide +kernel
theorem dX4_wrong_0 : decode cX4_wrong 0 = .ok (.iload_n 1, 1) := by decide +kernel
theorem dX4_wrong_1 : decode cX4_wrong 1 = .ok (.bipush 16, 2) := by decide +kernel
theorem dX4_wrong_3 : decode cX4_wrong 3 = .ok (.aload_n 0, 1) := by decide +kernel
theorem dX4_wrong_4 : decode cX4_wrong 4 = .ok (.getfield 12, 3) := by decide +kernel
theorem dX4_wrong_7 : decode cX4_wrong 7 = .ok (.getfield 96, 3) := by decide +kernel
theorem dX4_wrong_10 : decode cX4_wrong 10 = .ok (.imul, 1) := by decide +kernel
theorem dX4_wrong_11 : decode cX4_wrong 11 = .ok (.iadd, 1) := by decide +kernel
theorem dX4_wrong_12 : decode cX4_wrong 12 = .ok (.ireturn, 1) := by decide +kernel
set_option maxHeartbeats 4000000 in
set_option maxRecDepth 100000 in
theorem s_X4_wrong {P : PP} {a0 : Nat} {a1 : Int32} (I : IV P) (ha0 : At P a0 4) (ha1 : 1 ≤ a1.toInt ∧ a1.toInt ≤ 5) : CtrI yX4_wrong cX4_wrong 2 (some Jvm.ClassFile.FieldType.int) ({ frames := 1, cells := 0, slots := 0, locals := 64 } : Room) 0 0 P [.ref a0, .int a1] (fun r P2 => P = P2 ∧ (1 ≤ r.toInt ∧ r.toInt ≤ 16005)) := by
  refine enI (lv := [(0, .ref a0), (1, .int a1)]) (by decide) (Nat.le_of_ble_eq_true rfl) rfl (fun E D cy C Ci0 ret => ?_)
  refine g_iload_n C dX4_wrong_0 rfl 1 rfl ?_
  refine g_bipush (v := 16) C dX4_wrong_1 (by decide) ?_
  refine g_aload_n C dX4_wrong_3 rfl 0 rfl ?_
  obtain ⟨b39056, e39057, h39058⟩ := I.fld (ha0) 0 9 0 rfl
  refine g_getR C fi_X4_12 rfl e39057 (ha0).1 (ha0).2 dX4_wrong_4 ?_
  refine g_getI C fi_X4_96 (by decide) (h39058.at).1 (h39058.at).2 dX4_wrong_7 ?_
  have h39059 := I.rg (h39058.at) 3 rfl
  refine s_imul C dX4_wrong_10 (by show -2147483648 ≤ 16 * (pI P b39056 3).toInt ∧ 16 * (pI P b39056 3).toInt ≤ 2147483647; omega) (fun z39060 h39061 => ?_)
  have h39061 : z39060.toInt = 16 * (pI P b39056 3).toInt := h39061
  refine s_iadd C dX4_wrong_11 (by show -2147483648 ≤ a1.toInt + z39060.toInt ∧ a1.toInt + z39060.toInt ≤ 2147483647; omega) (fun z39062 h39063 => ?_)
  have h39063 : z39062.toInt = a1.toInt + z39060.toInt := h39063
  exact ret _ _ _ _ _ _ dX4_wrong_12 rfl (by decide) (by decide) ⟨rfl, (by omega)⟩
theorem dX4_endFault_18 : decode cX4_endFault 18 = .ok (.iconst 0, 1) := by decide +kernel
theorem dX4_endFault_19 : decode cX4_endFault 19 = .ok (.goto 8, 3) := by decide +kernel
theorem dX4_endFault_27 : decode cX4_endFault 27 = .ok (.ireturn, 1) := by decide +kernel
set_option maxHeartbeats 4000000 in
set_option maxRecDepth 100000 in
theorem s_X4_endFault {P : PP} {a0 : Nat} (I : IV P) (ha0 : At P a0 4) : CtrI yX4_endFault cX4_endFault 1 (some Jvm.ClassFile.FieldType.int) ({ frames := 3, cells := 0, slots := 0, locals := 192 } : Room) 0 0 P [.ref a0] (fun r P2 => IV P2 ∧ EK [9] P P2 ∧ (0 ≤ r.toInt ∧ r.toInt ≤ 16005)) := by
  refine enI (lv := [(0, .ref a0)]) (by decide) (Nat.le_of_ble_eq_true rfl) rfl (fun E D cy C Ci0 ret => ?_)
  refine g_aload_n C dX4_endFault_0 rfl 0 rfl ?_
  obtain ⟨b39082, e39083, h39084⟩ := I.fld (ha0) 0 9 0 rfl
  refine g_getR C fi_X4_12 rfl e39083 (ha0).1 (ha0).2 dX4_endFault_1 ?_
  refine g_callVV (rest := []) C mv_X4_31 [] (s_X9_next I h39084.at) (h39084.at).1 (h39084.at).2 rfl rfl (by decide) (Nat.le_of_ble_eq_true rfl) (by decide) dX4_endFault_4 (fun Y39086 h39087 => ?_)
  obtain ⟨Iy39088, Xy39089⟩ := h39087
  have Xz39090 : EK [9] P Y39086 := Xy39089.mono (by decide)
  have h39091 := Xy39089.at ha0
  refine g_aload_n C dX4_endFault_7 rfl 0 rfl ?_
  obtain ⟨b39092, e39093, h39094⟩ := Iy39088.fld (h39091) 0 9 0 rfl
  refine g_getR C fi_X4_12 rfl e39093 (h39091).1 (h39091).2 dX4_endFault_8 ?_
  refine g_getI C fi_X4_34 (by decide) (h39094.at).1 (h39094.at).2 dX4_endFault_11 ?_
  refine g_iconst (v := 3) C dX4_endFault_14 (by decide) ?_
  have u39096 := ti_rng (pI Y39086 b39092 2)
  refine b_icmp_ne C 22 dX4_endFault_15 (by decide) (fun h39095 => ?_) (fun h39095 => ?_)
  · have h39095 : (pI Y39086 b39092 2).toInt ≠ 3 := ti_ne h39095
    refine g_aload_n C dX4_endFault_22 rfl 0 rfl ?_
    refine g_iconst (v := 1) C dX4_endFault_23 (by decide) ?_
    refine g_callVI (rest := []) C mv_X4_57 [.int 1] (s_X4_wrong Iy39088 h39091 (by decide)) (h39091).1 (h39091).2 rfl rfl (by decide) (Nat.le_of_ble_eq_true rfl) (by decide) dX4_endFault_24 (fun r39097 Y39098 h39099 => ?_)
    obtain ⟨rfl, h39099⟩ := h39099
    have h39099 : 1 ≤ r39097.toInt ∧ r39097.toInt ≤ 16005 := h39099
    exact ret _ _ _ _ _ _ dX4_endFault_27 rfl (by decide) (by decide) ⟨Iy39088, Xz39090, (by omega)⟩
  · have h39095 : (pI Y39086 b39092 2).toInt = 3 := congrArg Int32.toInt h39095
    refine g_iconst (v := 0) C dX4_endFault_18 (by decide) ?_
    refine g_goto C 27 dX4_endFault_19 (by decide) ?_
    exact ret _ _ _ _ _ _ dX4_endFault_27 rfl (by decide) (by decide) ⟨Iy39088, Xz39090, (by decide)⟩
theorem dX4_firstFault_0 : decode cX4_firstFault 0 = .ok (.aload_n 0, 1) := by decide +kernel
theorem dX4_firstFault_1 : decode cX4_firstFault 1 = .ok (.iconst 1, 1) := by decide +kernel
theorem dX4_firstFault_2 : decode cX4_firstFault 2 = .ok (.bipush 16, 2) := by decide +kernel
theorem dX4_firstFault_4 : decode cX4_firstFault 4 = .ok (.invokevirtual 78, 3) := by decide +kernel
theorem dX4_numberFault_0 : decode cX4_numberFault 0 = .ok (.aload_n 0, 1) := by decide +kernel
theorem dX4_numberFault_1 : decode cX4_numberFault 1 = .ok (.getfield 12, 3) := by decide +kernel
theorem dX4_numberFault_4 : decode cX4_numberFault 4 = .ok (.invokevirtual 31, 3) := by decide +kernel
theorem dX4_numberFault_7 : decode cX4_numberFault 7 = .ok (.aload_n 0, 1) := by decide +kernel
theorem dX4_numberFault_8 : decode cX4_numberFault 8 = .ok (.getfield 12, 3) := by decide +kernel
theorem dX4_numberFault_11 : decode cX4_numberFault 11 = .ok (.getfield 34, 3) := by decide +kernel
theorem dX4_numberFault_14 : decode cX4_numberFault 14 = .ok (.iconst 2, 1) := by decide +kernel
theorem dX4_numberFault_15 : decode cX4_numberFault 15 = .ok (.if_icmp .eq 9, 3) := by decide +kernel
theorem dX4_numberFault_18 : decode cX4_numberFault 18 = .ok (.aload_n 0, 1) := by decide +kernel
theorem dX4_numberFault_19 : decode cX4_numberFault 19 = .ok (.iconst 1, 1) := by decide +kernel
theorem dX4_numberFault_20 : decode cX4_numberFault 20 = .ok (.invokevirtual 57, 3) := by decide +kernel
theorem dX4_numberFault_23 : decode cX4_numberFault 23 = .ok (.ireturn, 1) := by decide +kernel
theorem dX4_numberFault_24 : decode cX4_numberFault 24 = .ok (.aload_n 0, 1) := by decide +kernel
theorem dX4_numberFault_25 : decode cX4_numberFault 25 = .ok (.getfield 12, 3) := by decide +kernel
theorem dX4_numberFault_28 : decode cX4_numberFault 28 = .ok (.getfield 82, 3) := by decide +kernel
theorem dX4_numberFault_31 : decode cX4_numberFault 31 = .ok (.iload_n 1, 1) := by decide +kernel
theorem dX4_numberFault_32 : decode cX4_numberFault 32 = .ok (.if_icmp .lt 14, 3) := by decide +kernel
theorem dX4_numberFault_35 : decode cX4_numberFault 35 = .ok (.aload_n 0, 1) := by decide +kernel
theorem dX4_numberFault_36 : decode cX4_numberFault 36 = .ok (.getfield 12, 3) := by decide +kernel
theorem dX4_numberFault_39 : decode cX4_numberFault 39 = .ok (.getfield 82, 3) := by decide +kernel
theorem dX4_numberFault_42 : decode cX4_numberFault 42 = .ok (.iload_n 2, 1) := by decide +kernel
theorem dX4_numberFault_43 : decode cX4_numberFault 43 = .ok (.if_icmp .le 11, 3) := by decide +kernel
theorem dX4_numberFault_46 : decode cX4_numberFault 46 = .ok (.aload_n 0, 1) := by decide +kernel
theorem dX4_numberFault_47 : decode cX4_numberFault 47 = .ok (.iconst 4, 1) := by decide +kernel
theorem dX4_numberFault_48 : decode cX4_numberFault 48 = .ok (.invokevirtual 57, 3) := by decide +kernel
theorem dX4_numberFault_51 : decode cX4_numberFault 51 = .ok (.goto 4, 3) := by decide +kernel
theorem dX4_numberFault_54 : decode cX4_numberFault 54 = .ok (.iconst 0, 1) := by decide +kernel
theorem dX4_numberFault_55 : decode cX4_numberFault 55 = .ok (.ireturn, 1) := by decide +kernel
set_option maxHeartbeats 4000000 in
set_option maxRecDepth 100000 in
theorem s_X4_numberFault {P : PP} {a0 : Nat} {a1 : Int32} {a2 : Int32} (I : IV P) (ha0 : At P a0 4) : CtrI yX4_numberFault cX4_numberFault 3 (some Jvm.ClassFile.FieldType.int) ({ frames := 3, cells := 0, slots := 0, locals := 192 } : Room) 0 0 P [.ref a0, .int a1, .int a2] (fun r P2 => IV P2 ∧ EK [9] P P2 ∧ (0 ≤ r.toInt ∧ r.toInt ≤ 16005) ∧ (r.toInt ≠ 0 ∨ ∀ b, pR P2 a0 0 = some b → (a1.toInt ≤ (pI P2 b 5).toInt ∧ (pI P2 b 5).toInt ≤ a2.toInt))) := by
  refine enI (lv := [(0, .ref a0), (1, .int a1), (2, .int a2)]) (by decide) (Nat.le_of_ble_eq_true rfl) rfl (fun E D cy C Ci0 ret => ?_)
  have J46 : ∀ (P46 : PP), (IV P46) → (EK [9] P P46) → (∀ b, pR P46 a0 0 = some b → 2 ≤ (pI P46 b 2).toInt ∧ (pI P46 b 2).toInt ≤ 2) → (∀ b, pR P46 a0 0 = some b → (pI P46 b 5).toInt ≤ 2147483647) → G E ({ frames := 3, cells := 0, slots := 0, locals := 192 } : Room) D cy 3 P46 0 0 46 [(0, .ref a0)] [] := by
    intro P46 I46 X46 hq46_0 hq46_1
    have h39131 := X46.at ha0
    obtain ⟨b39132, e39133, h39134⟩ := I46.fld (h39131) 0 9 0 rfl
    have hq46_0 := hq46_0 b39132 e39133
    have hq46_1 := hq46_1 b39132 e39133
    refine g_aload_n C dX4_numberFault_46 rfl 0 rfl ?_
    refine g_iconst (v := 4) C dX4_numberFault_47 (by decide) ?_
    refine g_callVI (rest := []) C mv_X4_57 [.int 4] (s_X4_wrong I46 h39131 (by decide)) (h39131).1 (h39131).2 rfl rfl (by decide) (Nat.le_of_ble_eq_true rfl) (by decide) dX4_numberFault_48 (fun r39135 Y39136 h39137 => ?_)
    obtain ⟨rfl, h39137⟩ := h39137
    have h39137 : 1 ≤ r39135.toInt ∧ r39135.toInt ≤ 16005 := h39137
    refine g_goto C 55 dX4_numberFault_51 (by decide) ?_
    exact ret _ _ _ _ _ _ dX4_numberFault_55 rfl (by decide) (by decide) ⟨I46, X46, (by omega), Or.inl (by omega)⟩
  refine g_aload_n C dX4_numberFault_0 rfl 0 rfl ?_
  obtain ⟨b39138, e39139, h39140⟩ := I.fld (ha0) 0 9 0 rfl
  refine g_getR C fi_X4_12 rfl e39139 (ha0).1 (ha0).2 dX4_numberFault_1 ?_
  refine g_callVV (rest := []) C mv_X4_31 [] (s_X9_next I h39140.at) (h39140.at).1 (h39140.at).2 rfl rfl (by decide) (Nat.le_of_ble_eq_true rfl) (by decide) dX4_numberFault_4 (fun Y39142 h39143 => ?_)
  obtain ⟨Iy39144, Xy39145⟩ := h39143
  have Xz39146 : EK [9] P Y39142 := Xy39145.mono (by decide)
  have h39147 := Xy39145.at ha0
  refine g_aload_n C dX4_numberFault_7 rfl 0 rfl ?_
  obtain ⟨b39148, e39149, h39150⟩ := Iy39144.fld (h39147) 0 9 0 rfl
  refine g_getR C fi_X4_12 rfl e39149 (h39147).1 (h39147).2 dX4_numberFault_8 ?_
  refine g_getI C fi_X4_34 (by decide) (h39150.at).1 (h39150.at).2 dX4_numberFault_11 ?_
  refine g_iconst (v := 2) C dX4_numberFault_14 (by decide) ?_
  have u39152 := ti_rng (pI Y39142 b39148 2)
  refine b_icmp_eq C 24 dX4_numberFault_15 (by decide) (fun h39151 => ?_) (fun h39151 => ?_)
  · have h39151 : (pI Y39142 b39148 2).toInt = 2 := congrArg Int32.toInt h39151
    refine g_aload_n C dX4_numberFault_24 rfl 0 rfl ?_
    refine g_getR C fi_X4_12 rfl e39149 (h39147).1 (h39147).2 dX4_numberFault_25 ?_
    refine g_getI C fi_X4_82 (by decide) (h39150.at).1 (h39150.at).2 dX4_numberFault_28 ?_
    refine g_iload_n C dX4_numberFault_31 rfl 1 rfl ?_
    have u39154 := ti_rng (pI Y39142 b39148 5)
    have u39155 := ti_rng a1
    refine b_icmp_lt C 46 dX4_numberFault_32 (by decide) (fun h39153 => ?_) (fun h39153 => ?_)
    · have h39153 : (pI Y39142 b39148 5).toInt < a1.toInt := h39153
      refine g_lv (lv' := [(0, .ref a0)]) [0] rfl ?_
      exact J46 Y39142 Iy39144 Xz39146 (fun b9 e9 => by rw [e39149] at e9; cases e9; omega) (fun b9 e9 => by rw [e39149] at e9; cases e9; omega)
    · have h39153 : a1.toInt ≤ (pI Y39142 b39148 5).toInt := h39153
      refine g_aload_n C dX4_numberFault_35 rfl 0 rfl ?_
      refine g_getR C fi_X4_12 rfl e39149 (h39147).1 (h39147).2 dX4_numberFault_36 ?_
      refine g_getI C fi_X4_82 (by decide) (h39150.at).1 (h39150.at).2 dX4_numberFault_39 ?_
      refine g_iload_n C dX4_numberFault_42 rfl 2 rfl ?_
      have u39157 := ti_rng (pI Y39142 b39148 5)
      have u39158 := ti_rng a2
      refine b_icmp_le C 54 dX4_numberFault_43 (by decide) (fun h39156 => ?_) (fun h39156 => ?_)
      · have h39156 : (pI Y39142 b39148 5).toInt ≤ a2.toInt := h39156
        refine g_iconst (v := 0) C dX4_numberFault_54 (by decide) ?_
        exact ret _ _ _ _ _ _ dX4_numberFault_55 rfl (by decide) (by decide) ⟨Iy39144, Xz39146, (by decide), Or.inr (fun b9 e9 => by rw [e39149] at e9; cases e9; omega)⟩
      · have h39156 : a2.toInt < (pI Y39142 b39148 5).toInt := h39156
        refine g_lv (lv' := [(0, .ref a0)]) [0] rfl ?_
        exact J46 Y39142 Iy39144 Xz39146 (fun b9 e9 => by rw [e39149] at e9; cases e9; omega) (fun b9 e9 => by rw [e39149] at e9; cases e9; omega)
  · have h39151 : (pI Y39142 b39148 2).toInt ≠ 2 := ti_ne h39151
    refine g_aload_n C dX4_numberFault_18 rfl 0 rfl ?_
    refine g_iconst (v := 1) C dX4_numberFault_19 (by decide) ?_
    refine g_callVI (rest := []) C mv_X4_57 [.int 1] (s_X4_wrong Iy39144 h39147 (by decide)) (h39147).1 (h39147).2 rfl rfl (by decide) (Nat.le_of_ble_eq_true rfl) (by decide) dX4_numberFault_20 (fun r39159 Y39160 h39161 => ?_)
    obtain ⟨rfl, h39161⟩ := h39161
    have h39161 : 1 ≤ r39159.toInt ∧ r39159.toInt ≤ 16005 := h39161
    exact ret _ _ _ _ _ _ dX4_numberFault_23 rfl (by decide) (by decide) ⟨Iy39144, Xz39146, (by omega), Or.inl (by omega)⟩
theorem dX4_firstFault_7 : decode cX4_firstFault 7 = .ok (.istore_n 1, 1) := by decide +kernel
theorem dX4_firstFault_8 : decode cX4_firstFault 8 = .ok (.iload_n 1, 1) := by decide +kernel
theorem dX4_firstFault_9 : decode cX4_firstFault 9 = .ok (.ifCond .eq 5, 3) := by decide +kernel
theorem dX4_firstFault_12 : decode cX4_firstFault 12 = .ok (.iload_n 1, 1) := by decide +kernel
theorem dX4_firstFault_13 : decode cX4_firstFault 13 = .ok (.ireturn, 1) := by decide +kernel
theorem dX4_firstFault_14 : decode cX4_firstFault 14 = .ok (.aload_n 0, 1) := by decide +kernel
theorem dX4_firstFault_15 : decode cX4_firstFault 15 = .ok (.getfield 21, 3) := by decide +kernel
theorem dX4_firstFault_18 : decode cX4_firstFault 18 = .ok (.aload_n 0, 1) := by decide +kernel
theorem dX4_firstFault_19 : decode cX4_firstFault 19 = .ok (.getfield 12, 3) := by decide +kernel
theorem dX4_firstFault_22 : decode cX4_firstFault 22 = .ok (.getfield 82, 3) := by decide +kernel
theorem dX4_firstFault_25 : decode cX4_firstFault 25 = .ok (.putfield 54, 3) := by decide +kernel
theorem dX4_firstFault_28 : decode cX4_firstFault 28 = .ok (.aload_n 0, 1) := by decide +kernel
theorem dX4_firstFault_29 : decode cX4_firstFault 29 = .ok (.iconst 2, 1) := by decide +kernel
theorem dX4_firstFault_30 : decode cX4_firstFault 30 = .ok (.bipush 9, 2) := by decide +kernel
theorem dX4_firstFault_32 : decode cX4_firstFault 32 = .ok (.invokevirtual 78, 3) := by decide +kernel
theorem dX4_firstFault_35 : decode cX4_firstFault 35 = .ok (.istore_n 1, 1) := by decide +kernel
theorem dX4_firstFault_36 : decode cX4_firstFault 36 = .ok (.iload_n 1, 1) := by decide +kernel
theorem dX4_firstFault_37 : decode cX4_firstFault 37 = .ok (.ifCond .eq 5, 3) := by decide +kernel
theorem dX4_firstFault_40 : decode cX4_firstFault 40 = .ok (.iload_n 1, 1) := by decide +kernel
theorem dX4_firstFault_41 : decode cX4_firstFault 41 = .ok (.ireturn, 1) := by decide +kernel
theorem dX4_firstFault_42 : decode cX4_firstFault 42 = .ok (.aload_n 0, 1) := by decide +kernel
theorem dX4_firstFault_43 : decode cX4_firstFault 43 = .ok (.getfield 21, 3) := by decide +kernel
theorem dX4_firstFault_46 : decode cX4_firstFault 46 = .ok (.aload_n 0, 1) := by decide +kernel
theorem dX4_firstFault_47 : decode cX4_firstFault 47 = .ok (.getfield 12, 3) := by decide +kernel
theorem dX4_firstFault_50 : decode cX4_firstFault 50 = .ok (.getfield 82, 3) := by decide +kernel
theorem dX4_firstFault_53 : decode cX4_firstFault 53 = .ok (.putfield 91, 3) := by decide +kernel
theorem dX4_firstFault_56 : decode cX4_firstFault 56 = .ok (.aload_n 0, 1) := by decide +kernel
theorem dX4_firstFault_57 : decode cX4_firstFault 57 = .ok (.invokevirtual 88, 3) := by decide +kernel
theorem dX4_firstFault_60 : decode cX4_firstFault 60 = .ok (.ireturn, 1) := by decide +kernel
set_option maxHeartbeats 4000000 in
set_option maxRecDepth 100000 in
theorem s_X4_firstFault {P : PP} {a0 : Nat} (I : IV P) (ha0 : At P a0 4) : CtrI yX4_firstFault cX4_firstFault 2 (some Jvm.ClassFile.FieldType.int) ({ frames := 4, cells := 0, slots := 0, locals := 256 } : Room) 0 0 P [.ref a0] (fun r P2 => IV P2 ∧ EK [3, 9] P P2 ∧ (0 ≤ r.toInt ∧ r.toInt ≤ 16005)) := by
  refine enI (lv := [(0, .ref a0)]) (by decide) (Nat.le_of_ble_eq_true rfl) rfl (fun E D cy C Ci0 ret => ?_)
  refine g_aload_n C dX4_firstFault_0 rfl 0 rfl ?_
  refine g_iconst (v := 1) C dX4_firstFault_1 (by decide) ?_
  refine g_bipush (v := 16) C dX4_firstFault_2 (by decide) ?_
  refine g_callVI (rest := []) C mv_X4_78 [.int 1, .int 16] (s_X4_numberFault I ha0) (ha0).1 (ha0).2 rfl rfl (by decide) (Nat.le_of_ble_eq_true rfl) (by decide) dX4_firstFault_4 (fun r39228 Y39229 h39230 => ?_)
  obtain ⟨Iy39231, Xy39232, h39230⟩ := h39230
  have Xz39233 : EK [3, 9] P Y39229 := Xy39232.mono (by decide)
  have h39234 := Xy39232.at ha0
  obtain ⟨h39230, hi39235⟩ := h39230
  have h39230 : 0 ≤ r39228.toInt ∧ r39228.toInt ≤ 16005 := h39230
  refine g_istore_n (lv' := [(1, .int r39228), (0, .ref a0)]) C dX4_firstFault_7 rfl (by decide) rfl ?_
  refine g_iload_n C dX4_firstFault_8 rfl 0 rfl ?_
  refine b_if_eq C 14 dX4_firstFault_9 (by decide) (fun h39236 => ?_) (fun h39236 => ?_)
  · have h39236 : r39228.toInt = 0 := congrArg Int32.toInt h39236
    obtain ⟨b39237, e39238, h39239⟩ := Iy39231.fld (h39234) 0 9 0 rfl
    have hi39235 := (hi39235.resolve_left (fun z => z h39236)) b39237 e39238
    have hi39235 : 1 ≤ (pI Y39229 b39237 5).toInt ∧ (pI Y39229 b39237 5).toInt ≤ 16 := hi39235
    refine g_aload_n C dX4_firstFault_14 rfl 1 rfl ?_
    obtain ⟨b39240, e39241, h39242⟩ := Iy39231.fld (h39234) 1 3 0 rfl
    refine g_getR C fi_X4_21 rfl e39241 (h39234).1 (h39234).2 dX4_firstFault_15 ?_
    refine g_aload_n C dX4_firstFault_18 rfl 1 rfl ?_
    refine g_getR C fi_X4_12 rfl e39238 (h39234).1 (h39234).2 dX4_firstFault_19 ?_
    refine g_getI C fi_X4_82 (by decide) (h39239.at).1 (h39239.at).2 dX4_firstFault_22 ?_
    refine g_putI C fi_X4_54 rfl (h39242.at).1 (h39242.at).2 dX4_firstFault_25 ?_
    refine gpW (ks := [3]) (Iy39231.setI (h39242.at) (rgOk.none rfl)) (EK.setI (h39242.at).2 (by decide)) (fun Y39243 Iy39244 Xy39245 w39246 w39247 => ?_)
    have q39248 := Xy39245.keep (h39239.at) (by decide) 5
    have Xz39249 : EK [3, 9] P Y39243 := Xz39233.tr (Xy39245.mono (by decide))
    have e39250 := Xy39245.ref h39234 (by decide) e39238
    have e39251 := Xy39245.ref h39234 (by decide) e39241
    have h39252 := Xy39245.at h39234
    have h39253 := Xy39245.ar h39239
    have h39254 := Xy39245.ar h39242
    refine g_aload_n C dX4_firstFault_28 rfl 1 rfl ?_
    refine g_iconst (v := 2) C dX4_firstFault_29 (by decide) ?_
    refine g_bipush (v := 9) C dX4_firstFault_30 (by decide) ?_
    refine g_callVI (rest := []) C mv_X4_78 [.int 2, .int 9] (s_X4_numberFault Iy39244 h39252) (h39252).1 (h39252).2 rfl rfl (by decide) (Nat.le_of_ble_eq_true rfl) (by decide) dX4_firstFault_32 (fun r39255 Y39256 h39257 => ?_)
    obtain ⟨Iy39258, Xy39259, h39257⟩ := h39257
    have q39260 := Xy39259.keep (h39254.at) (by decide) 3
    have Xz39261 : EK [3, 9] P Y39256 := Xz39249.tr (Xy39259.mono (by decide))
    have e39262 := Xy39259.ref h39252 (by decide) e39251
    have h39263 := Xy39259.at h39252
    have h39264 := Xy39259.ar h39254
    obtain ⟨h39257, hi39265⟩ := h39257
    have h39257 : 0 ≤ r39255.toInt ∧ r39255.toInt ≤ 16005 := h39257
    refine g_istore_n (lv' := [(1, .int r39255), (0, .ref a0)]) C dX4_firstFault_35 rfl (by decide) rfl ?_
    refine g_iload_n C dX4_firstFault_36 rfl 0 rfl ?_
    refine b_if_eq C 42 dX4_firstFault_37 (by decide) (fun h39266 => ?_) (fun h39266 => ?_)
    · have h39266 : r39255.toInt = 0 := congrArg Int32.toInt h39266
      obtain ⟨b39267, e39268, h39269⟩ := Iy39258.fld (h39263) 0 9 0 rfl
      have hi39265 := (hi39265.resolve_left (fun z => z h39266)) b39267 e39268
      have hi39265 : 2 ≤ (pI Y39256 b39267 5).toInt ∧ (pI Y39256 b39267 5).toInt ≤ 9 := hi39265
      refine g_aload_n C dX4_firstFault_42 rfl 1 rfl ?_
      refine g_getR C fi_X4_21 rfl e39262 (h39263).1 (h39263).2 dX4_firstFault_43 ?_
      refine g_aload_n C dX4_firstFault_46 rfl 1 rfl ?_
      refine g_getR C fi_X4_12 rfl e39268 (h39263).1 (h39263).2 dX4_firstFault_47 ?_
      refine g_getI C fi_X4_82 (by decide) (h39269.at).1 (h39269.at).2 dX4_firstFault_50 ?_
      refine g_putI C fi_X4_91 rfl (h39264.at).1 (h39264.at).2 dX4_firstFault_53 ?_
      refine gpW (ks := [3]) (Iy39258.setI (h39264.at) (rgOk.none rfl)) (EK.setI (h39264.at).2 (by decide)) (fun Y39270 Iy39271 Xy39272 w39273 w39274 => ?_)
      have q39275 := w39273 3 (by decide)
      have q39276 := Xy39272.keep (h39269.at) (by decide) 5
      have Xz39277 : EK [3, 9] P Y39270 := Xz39261.tr (Xy39272.mono (by decide))
      have e39278 := Xy39272.ref h39263 (by decide) e39262
      have e39279 := Xy39272.ref h39263 (by decide) e39268
      have h39280 := Xy39272.at h39263
      have h39281 := Xy39272.ar h39264
      have h39282 := Xy39272.ar h39269
      refine g_aload_n C dX4_firstFault_56 rfl 1 rfl ?_
      refine g_callVI (rest := []) C mv_X4_88 [] (s_X4_endFault Iy39271 h39280) (h39280).1 (h39280).2 rfl rfl (by decide) (Nat.le_of_ble_eq_true rfl) (by decide) dX4_firstFault_57 (fun r39283 Y39284 h39285 => ?_)
      obtain ⟨Iy39286, Xy39287, h39285⟩ := h39285
      have q39288 := Xy39287.keep (h39281.at) (by decide) 3
      have q39289 := Xy39287.keep (h39281.at) (by decide) 4
      have Xz39290 : EK [3, 9] P Y39284 := Xz39277.tr (Xy39287.mono (by decide))
      have e39291 := Xy39287.ref h39280 (by decide) e39278
      have h39292 := Xy39287.at h39280
      have h39293 := Xy39287.ar h39281
      have h39285 : 0 ≤ r39283.toInt ∧ r39283.toInt ≤ 16005 := h39285
      exact ret _ _ _ _ _ _ dX4_firstFault_60 rfl (by decide) (by decide) ⟨Iy39286, Xz39290, (by omega)⟩
    · have h39266 : r39255.toInt ≠ 0 := ti_ne h39266
      refine g_iload_n C dX4_firstFault_40 rfl 0 rfl ?_
      exact ret _ _ _ _ _ _ dX4_firstFault_41 rfl (by decide) (by decide) ⟨Iy39258, Xz39261, (by omega)⟩
  · have h39236 : r39228.toInt ≠ 0 := ti_ne h39236
    refine g_iload_n C dX4_firstFault_12 rfl 0 rfl ?_
    exact ret _ _ _ _ _ _ dX4_firstFault_13 rfl (by decide) (by decide) ⟨Iy39231, Xz39233, (by omega)⟩
theorem dX4_init_0 : decode cX4_init 0 = .ok (.aload_n 0, 1) := by decide +kernel
theorem dX4_init_1 : decode cX4_init 1 = .ok (.invokespecial 3, 3) := by decide +kernel
theorem dX4_init_4 : decode cX4_init 4 = .ok (.aload_n 0, 1) := by decide +kernel
theorem dX4_init_5 : decode cX4_init 5 = .ok (.new 9, 3) := by decide +kernel
theorem dX4_oddsFault_0 : decode cX4_oddsFault 0 = .ok (.aload_n 0, 1) := by decide +kernel
theorem dX4_oddsFault_1 : decode cX4_oddsFault 1 = .ok (.iconst 1, 1) := by decide +kernel
theorem dX4_oddsFault_2 : decode cX4_oddsFault 2 = .ok (.bipush 20, 2) := by decide +kernel
theorem dX4_oddsFault_4 : decode cX4_oddsFault 4 = .ok (.invokevirtual 78, 3) := by decide +kernel
theorem dX4_oddsFault_7 : decode cX4_oddsFault 7 = .ok (.istore_n 1, 1) := by decide +kernel
theorem dX4_oddsFault_8 : decode cX4_oddsFault 8 = .ok (.iload_n 1, 1) := by decide +kernel
theorem dX4_oddsFault_9 : decode cX4_oddsFault 9 = .ok (.ifCond .eq 5, 3) := by decide +kernel
theorem dX4_oddsFault_12 : decode cX4_oddsFault 12 = .ok (.iload_n 1, 1) := by decide +kernel
theorem dX4_oddsFault_13 : decode cX4_oddsFault 13 = .ok (.ireturn, 1) := by decide +kernel
theorem dX4_oddsFault_14 : decode cX4_oddsFault 14 = .ok (.aload_n 0, 1) := by decide +kernel
theorem dX4_oddsFault_15 : decode cX4_oddsFault 15 = .ok (.getfield 12, 3) := by decide +kernel
theorem dX4_oddsFault_18 : decode cX4_oddsFault 18 = .ok (.getfield 82, 3) := by decide +kernel
theorem dX4_oddsFault_21 : decode cX4_oddsFault 21 = .ok (.istore_n 2, 1) := by decide +kernel
theorem dX4_oddsFault_22 : decode cX4_oddsFault 22 = .ok (.aload_n 0, 1) := by decide +kernel
theorem dX4_oddsFault_23 : decode cX4_oddsFault 23 = .ok (.getfield 21, 3) := by decide +kernel
theorem dX4_oddsFault_26 : decode cX4_oddsFault 26 = .ok (.getfield 85, 3) := by decide +kernel
theorem dX4_oddsFault_29 : decode cX4_oddsFault 29 = .ok (.iload_n 2, 1) := by decide +kernel
theorem dX4_oddsFault_30 : decode cX4_oddsFault 30 = .ok (.iaload, 1) := by decide +kernel
theorem dX4_oddsFault_31 : decode cX4_oddsFault 31 = .ok (.iconst (-1), 1) := by decide +kernel
theorem dX4_oddsFault_32 : decode cX4_oddsFault 32 = .ok (.if_icmp .eq 9, 3) := by decide +kernel
theorem dX4_oddsFault_35 : decode cX4_oddsFault 35 = .ok (.aload_n 0, 1) := by decide +kernel
theorem dX4_oddsFault_36 : decode cX4_oddsFault 36 = .ok (.iconst 3, 1) := by decide +kernel
theorem dX4_oddsFault_37 : decode cX4_oddsFault 37 = .ok (.invokevirtual 57, 3) := by decide +kernel
theorem dX4_oddsFault_40 : decode cX4_oddsFault 40 = .ok (.ireturn, 1) := by decide +kernel
theorem dX4_oddsFault_41 : decode cX4_oddsFault 41 = .ok (.aload_n 0, 1) := by decide +kernel
theorem dX4_oddsFault_42 : decode cX4_oddsFault 42 = .ok (.iconst 0, 1) := by decide +kernel
theorem dX4_oddsFault_43 : decode cX4_oddsFault 43 = .ok (.sipush 999, 3) := by decide +kernel
theorem dX4_oddsFault_46 : decode cX4_oddsFault 46 = .ok (.invokevirtual 78, 3) := by decide +kernel
theorem dX4_oddsFault_49 : decode cX4_oddsFault 49 = .ok (.istore_n 1, 1) := by decide +kernel
theorem dX4_oddsFault_50 : decode cX4_oddsFault 50 = .ok (.iload_n 1, 1) := by decide +kernel
theorem dX4_oddsFault_51 : decode cX4_oddsFault 51 = .ok (.ifCond .eq 5, 3) := by decide +kernel
theorem dX4_oddsFault_54 : decode cX4_oddsFault 54 = .ok (.iload_n 1, 1) := by decide +kernel
theorem dX4_oddsFault_55 : decode cX4_oddsFault 55 = .ok (.ireturn, 1) := by decide +kernel
theorem dX4_oddsFault_56 : decode cX4_oddsFault 56 = .ok (.aload_n 0, 1) := by decide +kernel
theorem dX4_oddsFault_57 : decode cX4_oddsFault 57 = .ok (.getfield 21, 3) := by decide +kernel
theorem dX4_oddsFault_60 : decode cX4_oddsFault 60 = .ok (.getfield 85, 3) := by decide +kernel
theorem dX4_oddsFault_63 : decode cX4_oddsFault 63 = .ok (.iload_n 2, 1) := by decide +kernel
theorem dX4_oddsFault_64 : decode cX4_oddsFault 64 = .ok (.aload_n 0, 1) := by decide +kernel
theorem dX4_oddsFault_65 : decode cX4_oddsFault 65 = .ok (.getfield 12, 3) := by decide +kernel
theorem dX4_oddsFault_68 : decode cX4_oddsFault 68 = .ok (.getfield 82, 3) := by decide +kernel
theorem dX4_oddsFault_71 : decode cX4_oddsFault 71 = .ok (.iastore, 1) := by decide +kernel
theorem dX4_oddsFault_72 : decode cX4_oddsFault 72 = .ok (.aload_n 0, 1) := by decide +kernel
theorem dX4_oddsFault_73 : decode cX4_oddsFault 73 = .ok (.invokevirtual 88, 3) := by decide +kernel
theorem dX4_oddsFault_76 : decode cX4_oddsFault 76 = .ok (.ireturn, 1) := by decide +kernel
set_option maxHeartbeats 4000000 in
set_option maxRecDepth 100000 in
theorem s_X4_oddsFault {P : PP} {a0 : Nat} (I : IV P) (ha0 : At P a0 4) : CtrI yX4_oddsFault cX4_oddsFault 3 (some Jvm.ClassFile.FieldType.int) ({ frames := 4, cells := 0, slots := 0, locals := 256 } : Room) 0 0 P [.ref a0] (fun r P2 => IV P2 ∧ EK [9, 13] P P2 ∧ (0 ≤ r.toInt ∧ r.toInt ≤ 16005)) := by
  refine enI (lv := [(0, .ref a0)]) (by decide) (Nat.le_of_ble_eq_true rfl) rfl (fun E D cy C Ci0 ret => ?_)
  refine g_aload_n C dX4_oddsFault_0 rfl 0 rfl ?_
  refine g_iconst (v := 1) C dX4_oddsFault_1 (by decide) ?_
  refine g_bipush (v := 20) C dX4_oddsFault_2 (by decide) ?_
  refine g_callVI (rest := []) C mv_X4_78 [.int 1, .int 20] (s_X4_numberFault I ha0) (ha0).1 (ha0).2 rfl rfl (by decide) (Nat.le_of_ble_eq_true rfl) (by decide) dX4_oddsFault_4 (fun r39353 Y39354 h39355 => ?_)
  obtain ⟨Iy39356, Xy39357, h39355⟩ := h39355
  have Xz39358 : EK [9, 13] P Y39354 := Xy39357.mono (by decide)
  have h39359 := Xy39357.at ha0
  obtain ⟨h39355, hi39360⟩ := h39355
  have h39355 : 0 ≤ r39353.toInt ∧ r39353.toInt ≤ 16005 := h39355
  refine g_istore_n (lv' := [(1, .int r39353), (0, .ref a0)]) C dX4_oddsFault_7 rfl (by decide) rfl ?_
  refine g_iload_n C dX4_oddsFault_8 rfl 0 rfl ?_
  refine b_if_eq C 14 dX4_oddsFault_9 (by decide) (fun h39361 => ?_) (fun h39361 => ?_)
  · have h39361 : r39353.toInt = 0 := congrArg Int32.toInt h39361
    obtain ⟨b39362, e39363, h39364⟩ := Iy39356.fld (h39359) 0 9 0 rfl
    have hi39360 := (hi39360.resolve_left (fun z => z h39361)) b39362 e39363
    have hi39360 : 1 ≤ (pI Y39354 b39362 5).toInt ∧ (pI Y39354 b39362 5).toInt ≤ 20 := hi39360
    refine g_aload_n C dX4_oddsFault_14 rfl 1 rfl ?_
    refine g_getR C fi_X4_12 rfl e39363 (h39359).1 (h39359).2 dX4_oddsFault_15 ?_
    refine g_getI C fi_X4_82 (by decide) (h39364.at).1 (h39364.at).2 dX4_oddsFault_18 ?_
    refine g_topi (fun z39365 h39366 => ?_)
    have h39366 : z39365.toInt = (pI Y39354 b39362 5).toInt := congrArg Int32.toInt h39366
    refine g_istore_n (lv' := [(2, .int z39365), (1, .int r39353), (0, .ref a0)]) C dX4_oddsFault_21 rfl (by decide) rfl ?_
    refine g_aload_n C dX4_oddsFault_22 rfl 2 rfl ?_
    obtain ⟨b39367, e39368, h39369⟩ := Iy39356.fld (h39359) 1 3 0 rfl
    refine g_getR C fi_X4_21 rfl e39368 (h39359).1 (h39359).2 dX4_oddsFault_23 ?_
    obtain ⟨b39370, e39371, h39372⟩ := Iy39356.fld (h39369.at) 0 13 21 rfl
    refine g_getR C fi_X4_85 rfl e39371 (h39369.at).1 (h39369.at).2 dX4_oddsFault_26 ?_
    refine g_iload_n C dX4_oddsFault_29 rfl 0 rfl ?_
    refine g_iald (j := (z39365.toInt.toNat)) C h39372.1 h39372.2.1 (ix_in h39372.2.2 (by omega)) dX4_oddsFault_30 ?_
    refine g_topi (fun z39373 _ => ?_)
    refine g_iconst (v := (-1)) C dX4_oddsFault_31 (by decide) ?_
    have u39375 := ti_rng z39373
    refine b_icmp_eq C 41 dX4_oddsFault_32 (by decide) (fun h39374 => ?_) (fun h39374 => ?_)
    · have h39374 : z39373.toInt = (-1) := congrArg Int32.toInt h39374
      refine g_aload_n C dX4_oddsFault_41 rfl 2 rfl ?_
      refine g_iconst (v := 0) C dX4_oddsFault_42 (by decide) ?_
      refine g_sipush (v := 999) C dX4_oddsFault_43 (by decide) ?_
      refine g_callVI (rest := []) C mv_X4_78 [.int 0, .int 999] (s_X4_numberFault Iy39356 h39359) (h39359).1 (h39359).2 rfl rfl (by decide) (Nat.le_of_ble_eq_true rfl) (by decide) dX4_oddsFault_46 (fun r39376 Y39377 h39378 => ?_)
      obtain ⟨Iy39379, Xy39380, h39378⟩ := h39378
      have Xz39381 : EK [9, 13] P Y39377 := Xz39358.tr (Xy39380.mono (by decide))
      have h39382 := Xy39380.at h39359
      obtain ⟨h39378, hi39383⟩ := h39378
      have h39378 : 0 ≤ r39376.toInt ∧ r39376.toInt ≤ 16005 := h39378
      refine g_istore_n (lv' := [(1, .int r39376), (2, .int z39365), (0, .ref a0)]) C dX4_oddsFault_49 rfl (by decide) rfl ?_
      refine g_iload_n C dX4_oddsFault_50 rfl 0 rfl ?_
      refine b_if_eq C 56 dX4_oddsFault_51 (by decide) (fun h39384 => ?_) (fun h39384 => ?_)
      · have h39384 : r39376.toInt = 0 := congrArg Int32.toInt h39384
        obtain ⟨b39385, e39386, h39387⟩ := Iy39379.fld (h39382) 0 9 0 rfl
        have hi39383 := (hi39383.resolve_left (fun z => z h39384)) b39385 e39386
        have hi39383 : 0 ≤ (pI Y39377 b39385 5).toInt ∧ (pI Y39377 b39385 5).toInt ≤ 999 := hi39383
        refine g_aload_n C dX4_oddsFault_56 rfl 2 rfl ?_
        obtain ⟨b39388, e39389, h39390⟩ := Iy39379.fld (h39382) 1 3 0 rfl
        refine g_getR C fi_X4_21 rfl e39389 (h39382).1 (h39382).2 dX4_oddsFault_57 ?_
        obtain ⟨b39391, e39392, h39393⟩ := Iy39379.fld (h39390.at) 0 13 21 rfl
        refine g_getR C fi_X4_85 rfl e39392 (h39390.at).1 (h39390.at).2 dX4_oddsFault_60 ?_
        refine g_iload_n C dX4_oddsFault_63 rfl 1 rfl ?_
        refine g_aload_n C dX4_oddsFault_64 rfl 2 rfl ?_
        refine g_getR C fi_X4_12 rfl e39386 (h39382).1 (h39382).2 dX4_oddsFault_65 ?_
        refine g_getI C fi_X4_82 (by decide) (h39387.at).1 (h39387.at).2 dX4_oddsFault_68 ?_
        refine g_iast (j := (z39365.toInt.toNat)) C h39393.1 h39393.2.1 (ix_in h39393.2.2 (by omega)) dX4_oddsFault_71 ?_
        refine gp (ks := [13]) (Iy39379.setA h39393 (by decide)) (EK.setI h39393.2.1 (by decide)) (fun Y39394 Iy39395 Xy39396 => ?_)
        have q39397 := Xy39396.keep (h39387.at) (by decide) 5
        have Xz39398 : EK [9, 13] P Y39394 := Xz39381.tr (Xy39396.mono (by decide))
        have e39399 := Xy39396.ref h39382 (by decide) e39386
        have h39400 := Xy39396.at h39382
        have h39401 := Xy39396.ar h39387
        refine g_aload_n C dX4_oddsFault_72 rfl 2 rfl ?_
        refine g_callVI (rest := []) C mv_X4_88 [] (s_X4_endFault Iy39395 h39400) (h39400).1 (h39400).2 rfl rfl (by decide) (Nat.le_of_ble_eq_true rfl) (by decide) dX4_oddsFault_73 (fun r39402 Y39403 h39404 => ?_)
        obtain ⟨Iy39405, Xy39406, h39404⟩ := h39404
        have Xz39407 : EK [9, 13] P Y39403 := Xz39398.tr (Xy39406.mono (by decide))
        have h39408 := Xy39406.at h39400
        have h39404 : 0 ≤ r39402.toInt ∧ r39402.toInt ≤ 16005 := h39404
        exact ret _ _ _ _ _ _ dX4_oddsFault_76 rfl (by decide) (by decide) ⟨Iy39405, Xz39407, (by omega)⟩
      · have h39384 : r39376.toInt ≠ 0 := ti_ne h39384
        refine g_iload_n C dX4_oddsFault_54 rfl 0 rfl ?_
        exact ret _ _ _ _ _ _ dX4_oddsFault_55 rfl (by decide) (by decide) ⟨Iy39379, Xz39381, (by omega)⟩
    · have h39374 : z39373.toInt ≠ (-1) := ti_ne h39374
      refine g_aload_n C dX4_oddsFault_35 rfl 2 rfl ?_
      refine g_iconst (v := 3) C dX4_oddsFault_36 (by decide) ?_
      refine g_callVI (rest := []) C mv_X4_57 [.int 3] (s_X4_wrong Iy39356 h39359 (by decide)) (h39359).1 (h39359).2 rfl rfl (by decide) (Nat.le_of_ble_eq_true rfl) (by decide) dX4_oddsFault_37 (fun r39409 Y39410 h39411 => ?_)
      obtain ⟨rfl, h39411⟩ := h39411
      have h39411 : 1 ≤ r39409.toInt ∧ r39409.toInt ≤ 16005 := h39411
      exact ret _ _ _ _ _ _ dX4_oddsFault_40 rfl (by decide) (by decide) ⟨Iy39356, Xz39358, (by omega)⟩
  · have h39361 : r39353.toInt ≠ 0 := ti_ne h39361
    refine g_iload_n C dX4_oddsFault_12 rfl 0 rfl ?_
    exact ret _ _ _ _ _ _ dX4_oddsFault_13 rfl (by decide) (by decide) ⟨Iy39356, Xz39358, (by omega)⟩
theorem dX4_sealFault_0 : decode cX4_sealFault 0 = .ok (.aload_n 0, 1) := by decide +kernel
theorem dX4_sealFault_1 : decode cX4_sealFault 1 = .ok (.iconst 1, 1) := by decide +kernel
theorem dX4_sealFault_2 : decode cX4_sealFault 2 = .ok (.sipush 996, 3) := by decide +kernel
theorem dX4_sealFault_5 : decode cX4_sealFault 5 = .ok (.invokevirtual 78, 3) := by decide +kernel
theorem dX4_sealFault_8 : decode cX4_sealFault 8 = .ok (.istore_n 1, 1) := by decide +kernel
theorem dX4_sealFault_9 : decode cX4_sealFault 9 = .ok (.iload_n 1, 1) := by decide +kernel
theorem dX4_sealFault_10 : decode cX4_sealFault 10 = .ok (.ifCond .eq 5, 3) := by decide +kernel
theorem dX4_sealFault_13 : decode cX4_sealFault 13 = .ok (.iload_n 1, 1) := by decide +kernel
theorem dX4_sealFault_14 : decode cX4_sealFault 14 = .ok (.ireturn, 1) := by decide +kernel
theorem dX4_sealFault_15 : decode cX4_sealFault 15 = .ok (.aload_n 0, 1) := by decide +kernel
theorem dX4_sealFault_16 : decode cX4_sealFault 16 = .ok (.getfield 21, 3) := by decide +kernel
theorem dX4_sealFault_19 : decode cX4_sealFault 19 = .ok (.aload_n 0, 1) := by decide +kernel
theorem dX4_sealFault_20 : decode cX4_sealFault 20 = .ok (.getfield 12, 3) := by decide +kernel
theorem dX4_sealFault_23 : decode cX4_sealFault 23 = .ok (.getfield 82, 3) := by decide +kernel
theorem dX4_sealFault_26 : decode cX4_sealFault 26 = .ok (.putfield 73, 3) := by decide +kernel
theorem dX4_sealFault_29 : decode cX4_sealFault 29 = .ok (.aload_n 0, 1) := by decide +kernel
theorem dX4_sealFault_30 : decode cX4_sealFault 30 = .ok (.invokevirtual 88, 3) := by decide +kernel
theorem dX4_sealFault_33 : decode cX4_sealFault 33 = .ok (.ireturn, 1) := by decide +kernel
set_option maxHeartbeats 4000000 in
set_option maxRecDepth 100000 in
theorem s_X4_sealFault {P : PP} {a0 : Nat} (I : IV P) (ha0 : At P a0 4) : CtrI yX4_sealFault cX4_sealFault 2 (some Jvm.ClassFile.FieldType.int) ({ frames := 4, cells := 0, slots := 0, locals := 256 } : Room) 0 0 P [.ref a0] (fun r P2 => IV P2 ∧ EK [3, 9] P P2 ∧ (0 ≤ r.toInt ∧ r.toInt ≤ 16005)) := by
  refine enI (lv := [(0, .ref a0)]) (by decide) (Nat.le_of_ble_eq_true rfl) rfl (fun E D cy C Ci0 ret => ?_)
  refine g_aload_n C dX4_sealFault_0 rfl 0 rfl ?_
  refine g_iconst (v := 1) C dX4_sealFault_1 (by decide) ?_
  refine g_sipush (v := 996) C dX4_sealFault_2 (by decide) ?_
  refine g_callVI (rest := []) C mv_X4_78 [.int 1, .int 996] (s_X4_numberFault I ha0) (ha0).1 (ha0).2 rfl rfl (by decide) (Nat.le_of_ble_eq_true rfl) (by decide) dX4_sealFault_5 (fun r39449 Y39450 h39451 => ?_)
  obtain ⟨Iy39452, Xy39453, h39451⟩ := h39451
  have Xz39454 : EK [3, 9] P Y39450 := Xy39453.mono (by decide)
  have h39455 := Xy39453.at ha0
  obtain ⟨h39451, hi39456⟩ := h39451
  have h39451 : 0 ≤ r39449.toInt ∧ r39449.toInt ≤ 16005 := h39451
  refine g_istore_n (lv' := [(1, .int r39449), (0, .ref a0)]) C dX4_sealFault_8 rfl (by decide) rfl ?_
  refine g_iload_n C dX4_sealFault_9 rfl 0 rfl ?_
  refine b_if_eq C 15 dX4_sealFault_10 (by decide) (fun h39457 => ?_) (fun h39457 => ?_)
  · have h39457 : r39449.toInt = 0 := congrArg Int32.toInt h39457
    obtain ⟨b39458, e39459, h39460⟩ := Iy39452.fld (h39455) 0 9 0 rfl
    have hi39456 := (hi39456.resolve_left (fun z => z h39457)) b39458 e39459
    have hi39456 : 1 ≤ (pI Y39450 b39458 5).toInt ∧ (pI Y39450 b39458 5).toInt ≤ 996 := hi39456
    refine g_aload_n C dX4_sealFault_15 rfl 1 rfl ?_
    obtain ⟨b39461, e39462, h39463⟩ := Iy39452.fld (h39455) 1 3 0 rfl
    refine g_getR C fi_X4_21 rfl e39462 (h39455).1 (h39455).2 dX4_sealFault_16 ?_
    refine g_aload_n C dX4_sealFault_19 rfl 1 rfl ?_
    refine g_getR C fi_X4_12 rfl e39459 (h39455).1 (h39455).2 dX4_sealFault_20 ?_
    refine g_getI C fi_X4_82 (by decide) (h39460.at).1 (h39460.at).2 dX4_sealFault_23 ?_
    refine g_putI C fi_X4_73 rfl (h39463.at).1 (h39463.at).2 dX4_sealFault_26 ?_
    refine gpW (ks := [3]) (Iy39452.setI (h39463.at) (rgOk.none rfl)) (EK.setI (h39463.at).2 (by decide)) (fun Y39464 Iy39465 Xy39466 w39467 w39468 => ?_)
    have q39469 := Xy39466.keep (h39460.at) (by decide) 5
    have Xz39470 : EK [3, 9] P Y39464 := Xz39454.tr (Xy39466.mono (by decide))
    have e39471 := Xy39466.ref h39455 (by decide) e39459
    have e39472 := Xy39466.ref h39455 (by decide) e39462
    have h39473 := Xy39466.at h39455
    have h39474 := Xy39466.ar h39460
    have h39475 := Xy39466.ar h39463
    refine g_aload_n C dX4_sealFault_29 rfl 1 rfl ?_
    refine g_callVI (rest := []) C mv_X4_88 [] (s_X4_endFault Iy39465 h39473) (h39473).1 (h39473).2 rfl rfl (by decide) (Nat.le_of_ble_eq_true rfl) (by decide) dX4_sealFault_30 (fun r39476 Y39477 h39478 => ?_)
    obtain ⟨Iy39479, Xy39480, h39478⟩ := h39478
    have q39481 := Xy39480.keep (h39475.at) (by decide) 5
    have Xz39482 : EK [3, 9] P Y39477 := Xz39470.tr (Xy39480.mono (by decide))
    have e39483 := Xy39480.ref h39473 (by decide) e39472
    have h39484 := Xy39480.at h39473
    have h39485 := Xy39480.ar h39475
    have h39478 : 0 ≤ r39476.toInt ∧ r39476.toInt ≤ 16005 := h39478
    exact ret _ _ _ _ _ _ dX4_sealFault_33 rfl (by decide) (by decide) ⟨Iy39479, Xz39482, (by omega)⟩
  · have h39457 : r39449.toInt ≠ 0 := ti_ne h39457
    refine g_iload_n C dX4_sealFault_13 rfl 0 rfl ?_
    exact ret _ _ _ _ _ _ dX4_sealFault_14 rfl (by decide) (by decide) ⟨Iy39452, Xz39454, (by omega)⟩
theorem dX4_sumFault_0 : decode cX4_sumFault 0 = .ok (.iconst 0, 1) := by decide +kernel
theorem dX4_sumFault_1 : decode cX4_sumFault 1 = .ok (.istore_n 2, 1) := by decide +kernel
theorem dX4_sumFault_2 : decode cX4_sumFault 2 = .ok (.iconst 0, 1) := by decide +kernel
theorem dX4_sumFault_3 : decode cX4_sumFault 3 = .ok (.istore_n 3, 1) := by decide +kernel
theorem dX4_sumFault_4 : decode cX4_sumFault 4 = .ok (.iload_n 3, 1) := by decide +kernel
theorem dX4_sumFault_5 : decode cX4_sumFault 5 = .ok (.bipush 16, 2) := by decide +kernel
theorem dX4_sumFault_7 : decode cX4_sumFault 7 = .ok (.if_icmp .gt 129, 3) := by decide +kernel
theorem dX4_sumFault_10 : decode cX4_sumFault 10 = .ok (.aload_n 0, 1) := by decide +kernel
theorem dX4_sumFault_11 : decode cX4_sumFault 11 = .ok (.getfield 12, 3) := by decide +kernel
theorem dX4_sumFault_14 : decode cX4_sumFault 14 = .ok (.invokevirtual 31, 3) := by decide +kernel
theorem dX4_sumFault_17 : decode cX4_sumFault 17 = .ok (.aload_n 0, 1) := by decide +kernel
theorem dX4_sumFault_18 : decode cX4_sumFault 18 = .ok (.getfield 12, 3) := by decide +kernel
theorem dX4_sumFault_21 : decode cX4_sumFault 21 = .ok (.getfield 34, 3) := by decide +kernel
theorem dX4_sumFault_24 : decode cX4_sumFault 24 = .ok (.iconst 3, 1) := by decide +kernel
theorem dX4_sumFault_25 : decode cX4_sumFault 25 = .ok (.if_icmp .ne 39, 3) := by decide +kernel
theorem dX4_sumFault_28 : decode cX4_sumFault 28 = .ok (.iload_n 3, 1) := by decide +kernel
theorem dX4_sumFault_29 : decode cX4_sumFault 29 = .ok (.iconst 2, 1) := by decide +kernel
theorem dX4_sumFault_30 : decode cX4_sumFault 30 = .ok (.if_icmp .lt 34, 3) := by decide +kernel
theorem dX4_sumFault_33 : decode cX4_sumFault 33 = .ok (.aload_n 0, 1) := by decide +kernel
theorem dX4_sumFault_34 : decode cX4_sumFault 34 = .ok (.getfield 21, 3) := by decide +kernel
theorem dX4_sumFault_37 : decode cX4_sumFault 37 = .ok (.getfield 94, 3) := by decide +kernel
theorem dX4_sumFault_40 : decode cX4_sumFault 40 = .ok (.aload_n 0, 1) := by decide +kernel
theorem dX4_sumFault_41 : decode cX4_sumFault 41 = .ok (.getfield 21, 3) := by decide +kernel
theorem dX4_sumFault_44 : decode cX4_sumFault 44 = .ok (.getfield 65, 3) := by decide +kernel
theorem dX4_sumFault_47 : decode cX4_sumFault 47 = .ok (.iload_n 2, 1) := by decide +kernel
theorem dX4_sumFault_48 : decode cX4_sumFault 48 = .ok (.iastore, 1) := by decide +kernel
theorem dX4_sumFault_49 : decode cX4_sumFault 49 = .ok (.aload_n 0, 1) := by decide +kernel
theorem dX4_sumFault_50 : decode cX4_sumFault 50 = .ok (.getfield 21, 3) := by decide +kernel
theorem dX4_sumFault_53 : decode cX4_sumFault 53 = .ok (.dup, 1) := by decide +kernel
theorem dX4_sumFault_54 : decode cX4_sumFault 54 = .ok (.getfield 65, 3) := by decide +kernel
theorem dX4_sumFault_57 : decode cX4_sumFault 57 = .ok (.iconst 1, 1) := by decide +kernel
theorem dX4_sumFault_58 : decode cX4_sumFault 58 = .ok (.iadd, 1) := by decide +kernel
theorem dX4_sumFault_59 : decode cX4_sumFault 59 = .ok (.putfield 65, 3) := by decide +kernel
theorem dX4_sumFault_62 : decode cX4_sumFault 62 = .ok (.iconst 0, 1) := by decide +kernel
theorem dX4_sumFault_63 : decode cX4_sumFault 63 = .ok (.ireturn, 1) := by decide +kernel
theorem dX4_sumFault_64 : decode cX4_sumFault 64 = .ok (.aload_n 0, 1) := by decide +kernel
theorem dX4_sumFault_65 : decode cX4_sumFault 65 = .ok (.getfield 12, 3) := by decide +kernel
theorem dX4_sumFault_68 : decode cX4_sumFault 68 = .ok (.getfield 34, 3) := by decide +kernel
theorem dX4_sumFault_71 : decode cX4_sumFault 71 = .ok (.iconst 2, 1) := by decide +kernel
theorem dX4_sumFault_72 : decode cX4_sumFault 72 = .ok (.if_icmp .eq 9, 3) := by decide +kernel
theorem dX4_sumFault_75 : decode cX4_sumFault 75 = .ok (.aload_n 0, 1) := by decide +kernel
theorem dX4_sumFault_76 : decode cX4_sumFault 76 = .ok (.iconst 1, 1) := by decide +kernel
theorem dX4_sumFault_77 : decode cX4_sumFault 77 = .ok (.invokevirtual 57, 3) := by decide +kernel
theorem dX4_sumFault_80 : decode cX4_sumFault 80 = .ok (.ireturn, 1) := by decide +kernel
theorem dX4_sumFault_81 : decode cX4_sumFault 81 = .ok (.aload_n 0, 1) := by decide +kernel
theorem dX4_sumFault_82 : decode cX4_sumFault 82 = .ok (.getfield 12, 3) := by decide +kernel
theorem dX4_sumFault_85 : decode cX4_sumFault 85 = .ok (.getfield 82, 3) := by decide +kernel
theorem dX4_sumFault_88 : decode cX4_sumFault 88 = .ok (.iload_n 1, 1) := by decide +kernel
theorem dX4_sumFault_89 : decode cX4_sumFault 89 = .ok (.if_icmp .lt 9, 3) := by decide +kernel
theorem dX4_sumFault_92 : decode cX4_sumFault 92 = .ok (.aload_n 0, 1) := by decide +kernel
theorem dX4_sumFault_93 : decode cX4_sumFault 93 = .ok (.iconst 4, 1) := by decide +kernel
theorem dX4_sumFault_94 : decode cX4_sumFault 94 = .ok (.invokevirtual 57, 3) := by decide +kernel
theorem dX4_sumFault_97 : decode cX4_sumFault 97 = .ok (.ireturn, 1) := by decide +kernel
theorem dX4_sumFault_98 : decode cX4_sumFault 98 = .ok (.iload_n 2, 1) := by decide +kernel
theorem dX4_sumFault_99 : decode cX4_sumFault 99 = .ok (.aload_n 0, 1) := by decide +kernel
theorem dX4_sumFault_100 : decode cX4_sumFault 100 = .ok (.getfield 12, 3) := by decide +kernel
theorem dX4_sumFault_103 : decode cX4_sumFault 103 = .ok (.getfield 82, 3) := by decide +kernel
theorem dX4_sumFault_106 : decode cX4_sumFault 106 = .ok (.ishr, 1) := by decide +kernel
theorem dX4_sumFault_107 : decode cX4_sumFault 107 = .ok (.iconst 1, 1) := by decide +kernel
theorem dX4_sumFault_108 : decode cX4_sumFault 108 = .ok (.iand, 1) := by decide +kernel
theorem dX4_sumFault_109 : decode cX4_sumFault 109 = .ok (.ifCond .eq 9, 3) := by decide +kernel
theorem dX4_sumFault_112 : decode cX4_sumFault 112 = .ok (.aload_n 0, 1) := by decide +kernel
theorem dX4_sumFault_113 : decode cX4_sumFault 113 = .ok (.iconst 3, 1) := by decide +kernel
theorem dX4_sumFault_114 : decode cX4_sumFault 114 = .ok (.invokevirtual 57, 3) := by decide +kernel
theorem dX4_sumFault_117 : decode cX4_sumFault 117 = .ok (.ireturn, 1) := by decide +kernel
theorem dX4_sumFault_118 : decode cX4_sumFault 118 = .ok (.iload_n 2, 1) := by decide +kernel
theorem dX4_sumFault_119 : decode cX4_sumFault 119 = .ok (.iconst 1, 1) := by decide +kernel
theorem dX4_sumFault_120 : decode cX4_sumFault 120 = .ok (.aload_n 0, 1) := by decide +kernel
theorem dX4_sumFault_121 : decode cX4_sumFault 121 = .ok (.getfield 12, 3) := by decide +kernel
theorem dX4_sumFault_124 : decode cX4_sumFault 124 = .ok (.getfield 82, 3) := by decide +kernel
theorem dX4_sumFault_127 : decode cX4_sumFault 127 = .ok (.ishl, 1) := by decide +kernel
theorem dX4_sumFault_128 : decode cX4_sumFault 128 = .ok (.ior, 1) := by decide +kernel
theorem dX4_sumFault_129 : decode cX4_sumFault 129 = .ok (.istore_n 2, 1) := by decide +kernel
theorem dX4_sumFault_130 : decode cX4_sumFault 130 = .ok (.iinc 3 1, 3) := by decide +kernel
theorem dX4_sumFault_133 : decode cX4_sumFault 133 = .ok (.goto (-129), 3) := by decide +kernel
theorem dX4_sumFault_136 : decode cX4_sumFault 136 = .ok (.aload_n 0, 1) := by decide +kernel
theorem dX4_sumFault_137 : decode cX4_sumFault 137 = .ok (.iconst 1, 1) := by decide +kernel
theorem dX4_sumFault_138 : decode cX4_sumFault 138 = .ok (.invokevirtual 57, 3) := by decide +kernel
theorem dX4_sumFault_141 : decode cX4_sumFault 141 = .ok (.ireturn, 1) := by decide +kernel
set_option maxHeartbeats 4000000 in
set_option maxRecDepth 100000 in
theorem s_X4_sumFault {P : PP} {a0 : Nat} {a1 : Int32} (I : IV P) (ha0 : At P a0 4) (hf0 : ∀ b, pR P a0 1 = some b → 0 ≤ (pI P b 2).toInt ∧ (pI P b 2).toInt ≤ 3) : CtrI yX4_sumFault cX4_sumFault 4 (some Jvm.ClassFile.FieldType.int) ({ frames := 3, cells := 0, slots := 0, locals := 192 } : Room) 0 0 P [.ref a0, .int a1] (fun r P2 => IV P2 ∧ EK [3, 9, 13] P P2 ∧ (0 ≤ r.toInt ∧ r.toInt ≤ 16005)) := by
  refine enI (lv := [(0, .ref a0), (1, .int a1)]) (by decide) (Nat.le_of_ble_eq_true rfl) rfl (fun E D cy C Ci0 ret => ?_)
  have J4 : ∀ (n4 : Nat) (P4 : PP) (v4_2 : Int32) (v4_3 : Int32), (17 - v4_3.toInt).toNat < n4 → (IV P4) → (EK [3, 9, 13] P P4) → (0 ≤ v4_3.toInt ∧ v4_3.toInt ≤ 17) → (∀ b, pR P4 a0 1 = some b → 0 ≤ (pI P4 b 2).toInt ∧ (pI P4 b 2).toInt ≤ 3) → G E ({ frames := 3, cells := 0, slots := 0, locals := 192 } : Room) D cy 4 P4 0 0 4 [(0, .ref a0), (1, .int a1), (2, .int v4_2), (3, .int v4_3)] [] := by
    intro n4
    induction n4 with
    | zero => intro P4 v4_2 v4_3 hm4 I4 X4 hv4_3 hq4_0; omega
    | succ n4 ih4 =>
      intro P4 v4_2 v4_3 hm4 I4 X4 hv4_3 hq4_0
      have h40411 := X4.at ha0
      obtain ⟨b40412, e40413, h40414⟩ := I4.fld (h40411) 1 3 0 rfl
      have hq4_0 := hq4_0 b40412 e40413
      have J64 : ∀ (P64 : PP), (IV P64) → (EK [3, 9, 13] P P64) → (0 ≤ v4_3.toInt ∧ v4_3.toInt ≤ 16) → (∀ b, pR P64 a0 1 = some b → 0 ≤ (pI P64 b 2).toInt ∧ (pI P64 b 2).toInt ≤ 3) → G E ({ frames := 3, cells := 0, slots := 0, locals := 192 } : Room) D cy 4 P64 0 0 64 [(0, .ref a0), (1, .int a1), (2, .int v4_2), (3, .int v4_3)] [] := by
        intro P64 I64 X64 hv64_3 hq64_0
        have h40415 := X64.at ha0
        obtain ⟨b40416, e40417, h40418⟩ := I64.fld (h40415) 1 3 0 rfl
        have hq64_0 := hq64_0 b40416 e40417
        refine g_aload_n C dX4_sumFault_64 rfl 0 rfl ?_
        obtain ⟨b40419, e40420, h40421⟩ := I64.fld (h40415) 0 9 0 rfl
        refine g_getR C fi_X4_12 rfl e40420 (h40415).1 (h40415).2 dX4_sumFault_65 ?_
        refine g_getI C fi_X4_34 (by decide) (h40421.at).1 (h40421.at).2 dX4_sumFault_68 ?_
        refine g_iconst (v := 2) C dX4_sumFault_71 (by decide) ?_
        have u40423 := ti_rng (pI P64 b40419 2)
        refine b_icmp_eq C 81 dX4_sumFault_72 (by decide) (fun h40422 => ?_) (fun h40422 => ?_)
        · have h40422 : (pI P64 b40419 2).toInt = 2 := congrArg Int32.toInt h40422
          refine g_aload_n C dX4_sumFault_81 rfl 0 rfl ?_
          refine g_getR C fi_X4_12 rfl e40420 (h40415).1 (h40415).2 dX4_sumFault_82 ?_
          refine g_getI C fi_X4_82 (by decide) (h40421.at).1 (h40421.at).2 dX4_sumFault_85 ?_
          refine g_iload_n C dX4_sumFault_88 rfl 1 rfl ?_
          have u40425 := ti_rng (pI P64 b40419 5)
          have u40426 := ti_rng a1
          refine b_icmp_lt C 98 dX4_sumFault_89 (by decide) (fun h40424 => ?_) (fun h40424 => ?_)
          · have h40424 : (pI P64 b40419 5).toInt < a1.toInt := h40424
            refine g_iload_n C dX4_sumFault_98 rfl 2 rfl ?_
            refine g_aload_n C dX4_sumFault_99 rfl 0 rfl ?_
            refine g_getR C fi_X4_12 rfl e40420 (h40415).1 (h40415).2 dX4_sumFault_100 ?_
            refine g_getI C fi_X4_82 (by decide) (h40421.at).1 (h40421.at).2 dX4_sumFault_103 ?_
            refine a_ishr C dX4_sumFault_106 (fun z40427 => ?_)
            refine g_iconst (v := 1) C dX4_sumFault_107 (by decide) ?_
            refine s_iand C dX4_sumFault_108 (by show 0 ≤ 1; omega) (fun z40429 h40430 => ?_)
            have h40430 : 0 ≤ z40429.toInt ∧ z40429.toInt ≤ 1 := h40430
            refine b_if_eq C 118 dX4_sumFault_109 (by decide) (fun h40431 => ?_) (fun h40431 => ?_)
            · have h40431 : z40429.toInt = 0 := congrArg Int32.toInt h40431
              refine g_iload_n C dX4_sumFault_118 rfl 2 rfl ?_
              refine g_iconst (v := 1) C dX4_sumFault_119 (by decide) ?_
              refine g_aload_n C dX4_sumFault_120 rfl 0 rfl ?_
              refine g_getR C fi_X4_12 rfl e40420 (h40415).1 (h40415).2 dX4_sumFault_121 ?_
              refine g_getI C fi_X4_82 (by decide) (h40421.at).1 (h40421.at).2 dX4_sumFault_124 ?_
              refine a_ishl C dX4_sumFault_127 (fun z40432 => ?_)
              refine a_ior C dX4_sumFault_128 (fun z40434 => ?_)
              refine g_istore_n (lv' := [(2, .int z40434), (0, .ref a0), (1, .int a1), (3, .int v4_3)]) C dX4_sumFault_129 rfl (by decide) rfl ?_
              refine s_iinc (lv0 := [(2, .int z40434), (0, .ref a0), (1, .int a1)]) (m := 1) C dX4_sumFault_130 3 rfl (by decide) rfl (by decide) (by omega) (fun z40436 h40437 => ?_)
              have h40437 : z40436.toInt = v4_3.toInt + 1 := h40437
              refine g_goto C 4 dX4_sumFault_133 (by decide) ?_
              refine g_lv (lv' := [(0, .ref a0), (1, .int a1), (2, .int z40434), (3, .int z40436)]) [2, 3, 1, 0] rfl ?_
              exact ih4 P64 z40434 z40436 (by omega) I64 X64 (by omega) (fun b9 e9 => by rw [e40417] at e9; cases e9; omega)
            · have h40431 : z40429.toInt ≠ 0 := ti_ne h40431
              refine g_aload_n C dX4_sumFault_112 rfl 0 rfl ?_
              refine g_iconst (v := 3) C dX4_sumFault_113 (by decide) ?_
              refine g_callVI (rest := []) C mv_X4_57 [.int 3] (s_X4_wrong I64 h40415 (by decide)) (h40415).1 (h40415).2 rfl rfl (by decide) (Nat.le_of_ble_eq_true rfl) (by decide) dX4_sumFault_114 (fun r40438 Y40439 h40440 => ?_)
              obtain ⟨rfl, h40440⟩ := h40440
              have h40440 : 1 ≤ r40438.toInt ∧ r40438.toInt ≤ 16005 := h40440
              exact ret _ _ _ _ _ _ dX4_sumFault_117 rfl (by decide) (by decide) ⟨I64, X64, (by omega)⟩
          · have h40424 : a1.toInt ≤ (pI P64 b40419 5).toInt := h40424
            refine g_aload_n C dX4_sumFault_92 rfl 0 rfl ?_
            refine g_iconst (v := 4) C dX4_sumFault_93 (by decide) ?_
            refine g_callVI (rest := []) C mv_X4_57 [.int 4] (s_X4_wrong I64 h40415 (by decide)) (h40415).1 (h40415).2 rfl rfl (by decide) (Nat.le_of_ble_eq_true rfl) (by decide) dX4_sumFault_94 (fun r40441 Y40442 h40443 => ?_)
            obtain ⟨rfl, h40443⟩ := h40443
            have h40443 : 1 ≤ r40441.toInt ∧ r40441.toInt ≤ 16005 := h40443
            exact ret _ _ _ _ _ _ dX4_sumFault_97 rfl (by decide) (by decide) ⟨I64, X64, (by omega)⟩
        · have h40422 : (pI P64 b40419 2).toInt ≠ 2 := ti_ne h40422
          refine g_aload_n C dX4_sumFault_75 rfl 0 rfl ?_
          refine g_iconst (v := 1) C dX4_sumFault_76 (by decide) ?_
          refine g_callVI (rest := []) C mv_X4_57 [.int 1] (s_X4_wrong I64 h40415 (by decide)) (h40415).1 (h40415).2 rfl rfl (by decide) (Nat.le_of_ble_eq_true rfl) (by decide) dX4_sumFault_77 (fun r40444 Y40445 h40446 => ?_)
          obtain ⟨rfl, h40446⟩ := h40446
          have h40446 : 1 ≤ r40444.toInt ∧ r40444.toInt ≤ 16005 := h40446
          exact ret _ _ _ _ _ _ dX4_sumFault_80 rfl (by decide) (by decide) ⟨I64, X64, (by omega)⟩
      refine g_iload_n C dX4_sumFault_4 rfl 3 rfl ?_
      refine g_bipush (v := 16) C dX4_sumFault_5 (by decide) ?_
      refine b_icmp_gt C 136 dX4_sumFault_7 (by decide) (fun h40447 => ?_) (fun h40447 => ?_)
      · have h40447 : 16 < v4_3.toInt := h40447
        refine g_aload_n C dX4_sumFault_136 rfl 0 rfl ?_
        refine g_iconst (v := 1) C dX4_sumFault_137 (by decide) ?_
        refine g_callVI (rest := []) C mv_X4_57 [.int 1] (s_X4_wrong I4 h40411 (by decide)) (h40411).1 (h40411).2 rfl rfl (by decide) (Nat.le_of_ble_eq_true rfl) (by decide) dX4_sumFault_138 (fun r40448 Y40449 h40450 => ?_)
        obtain ⟨rfl, h40450⟩ := h40450
        have h40450 : 1 ≤ r40448.toInt ∧ r40448.toInt ≤ 16005 := h40450
        exact ret _ _ _ _ _ _ dX4_sumFault_141 rfl (by decide) (by decide) ⟨I4, X4, (by omega)⟩
      · have h40447 : v4_3.toInt ≤ 16 := h40447
        refine g_aload_n C dX4_sumFault_10 rfl 0 rfl ?_
        obtain ⟨b40451, e40452, h40453⟩ := I4.fld (h40411) 0 9 0 rfl
        refine g_getR C fi_X4_12 rfl e40452 (h40411).1 (h40411).2 dX4_sumFault_11 ?_
        refine g_callVV (rest := []) C mv_X4_31 [] (s_X9_next I4 h40453.at) (h40453.at).1 (h40453.at).2 rfl rfl (by decide) (Nat.le_of_ble_eq_true rfl) (by decide) dX4_sumFault_14 (fun Y40455 h40456 => ?_)
        obtain ⟨Iy40457, Xy40458⟩ := h40456
        have q40459 := Xy40458.keep (h40414.at) (by decide) 2
        have Xz40460 : EK [3, 9, 13] P Y40455 := X4.tr (Xy40458.mono (by decide))
        have e40461 := Xy40458.ref h40411 (by decide) e40413
        have h40462 := Xy40458.at h40411
        have h40463 := Xy40458.ar h40414
        refine g_aload_n C dX4_sumFault_17 rfl 0 rfl ?_
        obtain ⟨b40464, e40465, h40466⟩ := Iy40457.fld (h40462) 0 9 0 rfl
        refine g_getR C fi_X4_12 rfl e40465 (h40462).1 (h40462).2 dX4_sumFault_18 ?_
        refine g_getI C fi_X4_34 (by decide) (h40466.at).1 (h40466.at).2 dX4_sumFault_21 ?_
        refine g_iconst (v := 3) C dX4_sumFault_24 (by decide) ?_
        have u40468 := ti_rng (pI Y40455 b40464 2)
        refine b_icmp_ne C 64 dX4_sumFault_25 (by decide) (fun h40467 => ?_) (fun h40467 => ?_)
        · have h40467 : (pI Y40455 b40464 2).toInt ≠ 3 := ti_ne h40467
          exact J64 Y40455 Iy40457 Xz40460 (by omega) (fun b9 e9 => by rw [e40461] at e9; cases e9; omega)
        · have h40467 : (pI Y40455 b40464 2).toInt = 3 := congrArg Int32.toInt h40467
          refine g_iload_n C dX4_sumFault_28 rfl 3 rfl ?_
          refine g_iconst (v := 2) C dX4_sumFault_29 (by decide) ?_
          refine b_icmp_lt C 64 dX4_sumFault_30 (by decide) (fun h40469 => ?_) (fun h40469 => ?_)
          · have h40469 : v4_3.toInt < 2 := h40469
            exact J64 Y40455 Iy40457 Xz40460 (by omega) (fun b9 e9 => by rw [e40461] at e9; cases e9; omega)
          · have h40469 : 2 ≤ v4_3.toInt := h40469
            refine g_aload_n C dX4_sumFault_33 rfl 0 rfl ?_
            refine g_getR C fi_X4_21 rfl e40461 (h40462).1 (h40462).2 dX4_sumFault_34 ?_
            obtain ⟨b40470, e40471, h40472⟩ := Iy40457.fld (h40463.at) 1 13 4 rfl
            refine g_getR C fi_X4_94 rfl e40471 (h40463.at).1 (h40463.at).2 dX4_sumFault_37 ?_
            refine g_aload_n C dX4_sumFault_40 rfl 0 rfl ?_
            refine g_getR C fi_X4_21 rfl e40461 (h40462).1 (h40462).2 dX4_sumFault_41 ?_
            refine g_getI C fi_X4_65 (by decide) (h40463.at).1 (h40463.at).2 dX4_sumFault_44 ?_
            refine g_iload_n C dX4_sumFault_47 rfl 2 rfl ?_
            refine g_iast (j := ((pI Y40455 b40412 2).toInt.toNat)) C h40472.1 h40472.2.1 (ix_in h40472.2.2 (by omega)) dX4_sumFault_48 ?_
            refine gp (ks := [13]) (Iy40457.setA h40472 (by decide)) (EK.setI h40472.2.1 (by decide)) (fun Y40473 Iy40474 Xy40475 => ?_)
            have q40476 := Xy40475.keep (h40463.at) (by decide) 2
            have q40477 := Xy40475.keep (h40466.at) (by decide) 2
            have Xz40478 : EK [3, 9, 13] P Y40473 := Xz40460.tr (Xy40475.mono (by decide))
            have e40479 := Xy40475.ref h40462 (by decide) e40461
            have e40480 := Xy40475.ref h40462 (by decide) e40465
            have h40481 := Xy40475.at h40462
            have h40482 := Xy40475.ar h40463
            have h40483 := Xy40475.ar h40466
            refine g_aload_n C dX4_sumFault_49 rfl 0 rfl ?_
            refine g_getR C fi_X4_21 rfl e40479 (h40481).1 (h40481).2 dX4_sumFault_50 ?_
            refine g_dup C dX4_sumFault_53 rfl ?_
            refine g_getI C fi_X4_65 (by decide) (h40482.at).1 (h40482.at).2 dX4_sumFault_54 ?_
            refine g_iconst (v := 1) C dX4_sumFault_57 (by decide) ?_
            refine s_iadd C dX4_sumFault_58 (by show -2147483648 ≤ (pI Y40473 b40412 2).toInt + 1 ∧ (pI Y40473 b40412 2).toInt + 1 ≤ 2147483647; omega) (fun z40484 h40485 => ?_)
            have h40485 : z40484.toInt = (pI Y40473 b40412 2).toInt + 1 := h40485
            refine g_putI C fi_X4_65 rfl (h40482.at).1 (h40482.at).2 dX4_sumFault_59 ?_
            refine gpW (ks := [3]) (Iy40474.setI (h40482.at) (rgOk.of rfl (by omega))) (EK.setI (h40482.at).2 (by decide)) (fun Y40486 Iy40487 Xy40488 w40489 w40490 => ?_)
            have q40491 := Xy40488.keep (h40483.at) (by decide) 2
            have Xz40492 : EK [3, 9, 13] P Y40486 := Xz40478.tr (Xy40488.mono (by decide))
            have e40493 := Xy40488.ref h40481 (by decide) e40479
            have e40494 := Xy40488.ref h40481 (by decide) e40480
            have h40495 := Xy40488.at h40481
            have h40496 := Xy40488.ar h40482
            have h40497 := Xy40488.ar h40483
            refine g_iconst (v := 0) C dX4_sumFault_62 (by decide) ?_
            exact ret _ _ _ _ _ _ dX4_sumFault_63 rfl (by decide) (by decide) ⟨Iy40487, Xz40492, (by decide)⟩
  obtain ⟨b40498, e40499, h40500⟩ := I.fld (ha0) 1 3 0 rfl
  have hf0 := hf0 b40498 e40499
  refine g_iconst (v := 0) C dX4_sumFault_0 (by decide) ?_
  refine g_istore_n (lv' := [(2, .int 0), (0, .ref a0), (1, .int a1)]) C dX4_sumFault_1 rfl (by decide) rfl ?_
  refine g_iconst (v := 0) C dX4_sumFault_2 (by decide) ?_
  refine g_istore_n (lv' := [(3, .int 0), (2, .int 0), (0, .ref a0), (1, .int a1)]) C dX4_sumFault_3 rfl (by decide) rfl ?_
  refine g_lv (lv' := [(0, .ref a0), (1, .int a1), (2, .int 0), (3, .int 0)]) [2, 3, 1, 0] rfl ?_
  exact J4 _ P 0 0 (Nat.lt_succ_self _) I EK.rf (by decide) (fun b9 e9 => by rw [e40499] at e9; cases e9; omega)
