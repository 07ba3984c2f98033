theorem dX2_find_136 : decode cX2_find 136 = .ok (.aload_n 0, 1) := by decide +kernel
theorem dX2_find_137 : decode cX2_find 137 = .ok (.getfield 45, 3) := by decide +kernel
theorem dX2_find_140 : decode cX2_find 140 = .ok (.bipush 11, 2) := by decide +kernel
theorem dX2_find_142 : decode cX2_find 142 = .ok (.if_icmp .gt 7, 3) := by decide +kernel
theorem dX2_find_145 : decode cX2_find 145 = .ok (.iconst 1, 1) := by decide +kernel
theorem dX2_find_146 : decode cX2_find 146 = .ok (.goto 4, 3) := by decide +kernel
theorem dX2_find_149 : decode cX2_find 149 = .ok (.iconst 0, 1) := by decide +kernel
theorem dX2_find_150 : decode cX2_find 150 = .ok (.ireturn, 1) := by decide +kernel
set_option maxHeartbeats 4000000 in
set_option maxRecDepth 100000 in
theorem s_X2_find {P : PP} {a0 : Nat} {a1 : Nat} {a2 : Nat} {a3 : Nat} (I : IV P) (ha0 : At P a0 2) (ha1 : At P a1 1) (ha2 : At P a2 5) (ha3 : At P a3 5) : CtrI yX2_find cX2_find 7 (some Jvm.ClassFile.FieldType.boolean) ({ frames := 14, cells := 0, slots := 0, locals := 896 } : Room) 0 0 P [.ref a0, .ref a1, .ref a2, .ref a3] (fun r P2 => IV P2 ∧ EK [0, 1, 2, 13] P P2 ∧ (0 ≤ r.toInt ∧ r.toInt ≤ 1)) := by
  refine enI (lv := [(0, .ref a0), (1, .ref a1), (2, .ref a2), (3, .ref a3)]) (by decide) (Nat.le_of_ble_eq_true rfl) rfl (fun E D cy C Ci0 ret => ?_)
  have J62 : ∀ (n62 : Nat) (P62 : PP) (v62_4 : Int32), (11 - v62_4.toInt).toNat < n62 → (IV P62) → (EK [0, 1, 2, 13] P P62) → (0 ≤ v62_4.toInt ∧ v62_4.toInt ≤ 11) → (12 ≤ (pI P62 a0 5).toInt ∧ (pI P62 a0 5).toInt ≤ 12) → (0 ≤ (pI P62 a0 6).toInt ∧ (pI P62 a0 6).toInt ≤ 0) → (∀ b, pR P62 a0 2 = some b → 1 ≤ (pI P62 b 3).toInt ∧ (pI P62 b 3).toInt ≤ 1) → (∀ b, pR P62 a0 3 = some b → 1 ≤ (pI P62 b 3).toInt ∧ (pI P62 b 3).toInt ≤ 1) → G E ({ frames := 14, cells := 0, slots := 0, locals := 896 } : Room) D cy 7 P62 0 0 62 [(0, .ref a0), (1, .ref a1), (4, .int v62_4)] [] := by
    intro n62
    induction n62 with
    | zero => intro P62 v62_4 hm62 I62 X62 hv62_4 hq62_0 hq62_1 hq62_2 hq62_3; omega
    | succ n62 ih62 =>
      intro P62 v62_4 hm62 I62 X62 hv62_4 hq62_0 hq62_1 hq62_2 hq62_3
      have h37934 := X62.at ha0
      have h37935 := X62.at ha1
      have h37936 := X62.at ha2
      have h37937 := X62.at ha3
      obtain ⟨b37938, e37939, h37940⟩ := I62.fld (h37934) 2 0 0 rfl
      have hq62_2 := hq62_2 b37938 e37939
      obtain ⟨b37941, e37942, h37943⟩ := I62.fld (h37934) 3 0 0 rfl
      have hq62_3 := hq62_3 b37941 e37942
      refine g_iload C dX2_find_62 2 rfl ?_
      refine g_bipush (v := 11) C dX2_find_64 (by decide) ?_
      refine b_icmp_ge C 128 dX2_find_66 (by decide) (fun h37944 => ?_) (fun h37944 => ?_)
      · have h37944 : 11 ≤ v62_4.toInt := h37944
        refine g_aload_n C dX2_find_128 rfl 0 rfl ?_
        refine g_bipush (v := 10) C dX2_find_129 (by decide) ?_
        refine g_iconst (v := 0) C dX2_find_131 (by decide) ?_
        refine g_iconst (v := 0) C dX2_find_132 (by decide) ?_
        refine g_callVV (rest := []) C mv_X2_58 [.int 10, .int 0, .int 0] (s_X2_seek_L11 I62 h37934 (by decide) (by decide)) (h37934).1 (h37934).2 rfl rfl (by decide) (Nat.le_of_ble_eq_true rfl) (by decide) dX2_find_133 (fun Y37946 h37947 => ?_)
        obtain ⟨Iy37948, Xy37949⟩ := h37947
        have Xz37950 : EK [0, 1, 2, 13] P Y37946 := X62.tr (Xy37949.mono (by decide))
        have h37951 := Xy37949.at h37934
        have h37952 := Xy37949.at h37935
        have h37953 := Xy37949.at h37936
        have h37954 := Xy37949.at h37937
        refine g_aload_n C dX2_find_136 rfl 0 rfl ?_
        refine g_getI C fi_X2_45 (by decide) (h37951).1 (h37951).2 dX2_find_137 ?_
        have h37955 := Iy37948.rg (h37951) 5 rfl
        refine g_bipush (v := 11) C dX2_find_140 (by decide) ?_
        refine b_icmp_gt C 149 dX2_find_142 (by decide) (fun h37956 => ?_) (fun h37956 => ?_)
        · have h37956 : 11 < (pI Y37946 a0 5).toInt := h37956
          refine g_iconst (v := 0) C dX2_find_149 (by decide) ?_
          exact ret _ _ _ _ _ _ dX2_find_150 rfl (by decide) (by decide) ⟨Iy37948, Xz37950, (by decide)⟩
        · have h37956 : (pI Y37946 a0 5).toInt ≤ 11 := h37956
          refine g_iconst (v := 1) C dX2_find_145 (by decide) ?_
          refine g_goto C 150 dX2_find_146 (by decide) ?_
          exact ret _ _ _ _ _ _ dX2_find_150 rfl (by decide) (by decide) ⟨Iy37948, Xz37950, (by decide)⟩
      · have h37944 : v62_4.toInt < 11 := h37944
        refine g_aload_n C dX2_find_69 rfl 1 rfl ?_
        refine g_iload C dX2_find_70 2 rfl ?_
        refine g_callVI (rest := []) C mv_X2_51 [.int v62_4] (s_X1_pagesOf I62 h37935) (h37935).1 (h37935).2 rfl rfl (by decide) (Nat.le_of_ble_eq_true rfl) (by decide) dX2_find_72 (fun r37957 Y37958 h37959 => ?_)
        obtain ⟨Iy37960, Xy37961, h37959⟩ := h37959
        have q37962 := Xy37961.keep h37934 (by decide) 5
        have q37963 := Xy37961.keep h37934 (by decide) 6
        have q37964 := Xy37961.keep (h37940.at) (by decide) 3
        have q37965 := Xy37961.keep (h37943.at) (by decide) 3
        have Xz37966 : EK [0, 1, 2, 13] P Y37958 := X62.tr (Xy37961.mono (by decide))
        have e37967 := Xy37961.ref h37934 (by decide) e37939
        have e37968 := Xy37961.ref h37934 (by decide) e37942
        have h37969 := Xy37961.at h37934
        have h37970 := Xy37961.at h37935
        have h37971 := Xy37961.at h37936
        have h37972 := Xy37961.at h37937
        have h37973 := Xy37961.ar h37940
        have h37974 := Xy37961.ar h37943
        have h37959 : True := h37959
        refine g_istore (lv' := [(5, .int r37957), (0, .ref a0), (1, .ref a1), (4, .int v62_4)]) C dX2_find_75 (by decide) rfl ?_
        refine g_aload_n C dX2_find_77 rfl 2 rfl ?_
        refine g_iload C dX2_find_78 0 rfl ?_
        refine g_callVI (rest := []) C mv_X2_55 [.int r37957] (s_X1_sumOf Iy37960 h37970) (h37970).1 (h37970).2 rfl rfl (by decide) (Nat.le_of_ble_eq_true rfl) (by decide) dX2_find_80 (fun r37975 Y37976 h37977 => ?_)
        obtain ⟨rfl, h37977⟩ := h37977
        have h37977 : True := h37977
        refine g_istore (lv' := [(6, .int r37975), (5, .int r37957), (0, .ref a0), (1, .ref a1), (4, .int v62_4)]) C dX2_find_83 (by decide) rfl ?_
        refine g_aload_n C dX2_find_85 rfl 2 rfl ?_
        obtain ⟨b37978, e37979, h37980⟩ := Iy37960.fld (h37969) 0 13 11 rfl
        refine g_getR C fi_X2_9 rfl e37979 (h37969).1 (h37969).2 dX2_find_86 ?_
        refine g_iload C dX2_find_89 4 rfl ?_
        refine g_iload C dX2_find_91 1 rfl ?_
        refine g_iload C dX2_find_93 0 rfl ?_
        refine g_sipush (v := 255) C dX2_find_95 (by decide) ?_
        refine s_iand C dX2_find_98 (by show 0 ≤ 255; omega) (fun z37981 h37982 => ?_)
        have h37982 : 0 ≤ z37981.toInt ∧ z37981.toInt ≤ 255 := h37982
        refine g_bipush (v := 20) C dX2_find_99 (by decide) ?_
        refine a_ishl C dX2_find_101 (fun z37983 => ?_)
        refine a_ior C dX2_find_102 (fun z37985 => ?_)
        refine g_iast (j := (v62_4.toInt.toNat)) C h37980.1 h37980.2.1 (ix_in h37980.2.2 (by omega)) dX2_find_103 ?_
        refine gp (ks := [13]) (Iy37960.setA h37980 (by decide)) (EK.setI h37980.2.1 (by decide)) (fun Y37987 Iy37988 Xy37989 => ?_)
        have q37990 := Xy37989.keep h37969 (by decide) 5
        have q37991 := Xy37989.keep h37969 (by decide) 6
        have q37992 := Xy37989.keep (h37973.at) (by decide) 3
        have q37993 := Xy37989.keep (h37974.at) (by decide) 3
        have Xz37994 : EK [0, 1, 2, 13] P Y37987 := Xz37966.tr (Xy37989.mono (by decide))
        have e37995 := Xy37989.ref h37969 (by decide) e37967
        have e37996 := Xy37989.ref h37969 (by decide) e37968
        have h37997 := Xy37989.at h37969
        have h37998 := Xy37989.at h37970
        have h37999 := Xy37989.at h37971
        have h38000 := Xy37989.at h37972
        have h38001 := Xy37989.ar h37973
        have h38002 := Xy37989.ar h37974
        refine g_aload_n C dX2_find_104 rfl 2 rfl ?_
        obtain ⟨b38003, e38004, h38005⟩ := Iy37988.fld (h37997) 1 13 11 rfl
        refine g_getR C fi_X2_15 rfl e38004 (h37997).1 (h37997).2 dX2_find_105 ?_
        refine g_iload C dX2_find_108 4 rfl ?_
        refine g_iload C dX2_find_110 1 rfl ?_
        refine g_iload C dX2_find_112 0 rfl ?_
        refine g_bipush (v := 8) C dX2_find_114 (by decide) ?_
        refine a_ishr C dX2_find_116 (fun z38006 => ?_)
        refine g_bipush (v := 20) C dX2_find_117 (by decide) ?_
        refine a_ishl C dX2_find_119 (fun z38008 => ?_)
        refine a_ior C dX2_find_120 (fun z38010 => ?_)
        refine g_iast (j := (v62_4.toInt.toNat)) C h38005.1 h38005.2.1 (ix_in h38005.2.2 (by omega)) dX2_find_121 ?_
        refine gp (ks := [13]) (Iy37988.setA h38005 (by decide)) (EK.setI h38005.2.1 (by decide)) (fun Y38012 Iy38013 Xy38014 => ?_)
        have q38015 := Xy38014.keep h37997 (by decide) 5
        have q38016 := Xy38014.keep h37997 (by decide) 6
        have q38017 := Xy38014.keep (h38001.at) (by decide) 3
        have q38018 := Xy38014.keep (h38002.at) (by decide) 3
        have Xz38019 : EK [0, 1, 2, 13] P Y38012 := Xz37994.tr (Xy38014.mono (by decide))
        have e38020 := Xy38014.ref h37997 (by decide) e37995
        have e38021 := Xy38014.ref h37997 (by decide) e37996
        have h38022 := Xy38014.at h37997
        have h38023 := Xy38014.at h37998
        have h38024 := Xy38014.at h37999
        have h38025 := Xy38014.at h38000
        have h38026 := Xy38014.ar h38001
        have h38027 := Xy38014.ar h38002
        refine s_iinc (lv0 := [(6, .int r37975), (5, .int r37957), (0, .ref a0), (1, .ref a1)]) (m := 1) C dX2_find_122 4 rfl (by decide) rfl (by decide) (by omega) (fun z38028 h38029 => ?_)
        have h38029 : z38028.toInt = v62_4.toInt + 1 := h38029
        refine g_goto C 62 dX2_find_125 (by decide) ?_
        refine g_lv (lv' := [(0, .ref a0), (1, .ref a1), (4, .int z38028)]) [3, 4, 0] rfl ?_
        exact ih62 Y38012 z38028 (by omega) Iy38013 Xz38019 (by omega) (by omega) (by omega) (fun b9 e9 => by rw [e38020] at e9; cases e9; omega) (fun b9 e9 => by rw [e38021] at e9; cases e9; omega)
  have J38 : ∀ (P38 : PP), (IV P38) → (EK [0, 1, 2, 13] P P38) → (∀ b, pR P38 a0 2 = some b → 0 ≤ (pI P38 b 3).toInt ∧ (pI P38 b 3).toInt ≤ 1) → G E ({ frames := 14, cells := 0, slots := 0, locals := 896 } : Room) D cy 7 P38 0 0 38 [] [] := by
    intro P38 I38 X38 hq38_0
    have h38030 := X38.at ha0
    have h38031 := X38.at ha1
    have h38032 := X38.at ha2
    have h38033 := X38.at ha3
    obtain ⟨b38034, e38035, h38036⟩ := I38.fld (h38030) 2 0 0 rfl
    have hq38_0 := hq38_0 b38034 e38035
    refine g_iconst (v := 0) C dX2_find_38 (by decide) ?_
    exact ret _ _ _ _ _ _ dX2_find_39 rfl (by decide) (by decide) ⟨I38, X38, (by decide)⟩
  refine g_aload_n C dX2_find_0 rfl 0 rfl ?_
  obtain ⟨b38037, e38038, h38039⟩ := I.fld (ha0) 2 0 0 rfl
  refine g_getR C fi_X2_21 rfl e38038 (ha0).1 (ha0).2 dX2_find_1 ?_
  refine g_aload_n C dX2_find_4 rfl 2 rfl ?_
  refine g_iconst (v := (-1)) C dX2_find_5 (by decide) ?_
  refine g_callVV (rest := []) C mv_X2_28 [.ref a2, .int (-1)] (s_X0_take I h38039.at ha2) (h38039.at).1 (h38039.at).2 rfl rfl (by decide) (Nat.le_of_ble_eq_true rfl) (by decide) dX2_find_6 (fun Y38041 h38042 => ?_)
  obtain ⟨Iy38043, Xy38044⟩ := h38042
  have Xz38045 : EK [0, 1, 2, 13] P Y38041 := Xy38044.mono (by decide)
  have h38046 := Xy38044.at ha0
  have h38047 := Xy38044.at ha1
  have h38048 := Xy38044.at ha2
  have h38049 := Xy38044.at ha3
  refine g_aload_n C dX2_find_9 rfl 0 rfl ?_
  obtain ⟨b38050, e38051, h38052⟩ := Iy38043.fld (h38046) 3 0 0 rfl
  refine g_getR C fi_X2_25 rfl e38051 (h38046).1 (h38046).2 dX2_find_10 ?_
  refine g_aload_n C dX2_find_13 rfl 3 rfl ?_
  refine g_iconst (v := (-1)) C dX2_find_14 (by decide) ?_
  refine g_callVV (rest := []) C mv_X2_28 [.ref a3, .int (-1)] (s_X0_take Iy38043 h38052.at h38049) (h38052.at).1 (h38052.at).2 rfl rfl (by decide) (Nat.le_of_ble_eq_true rfl) (by decide) dX2_find_15 (fun Y38054 h38055 => ?_)
  obtain ⟨Iy38056, Xy38057⟩ := h38055
  have Xz38058 : EK [0, 1, 2, 13] P Y38054 := Xz38045.tr (Xy38057.mono (by decide))
  have h38059 := Xy38057.at h38046
  have h38060 := Xy38057.at h38047
  have h38061 := Xy38057.at h38048
  have h38062 := Xy38057.at h38049
  refine g_aload_n C dX2_find_18 rfl 0 rfl ?_
  obtain ⟨b38063, e38064, h38065⟩ := Iy38056.fld (h38059) 2 0 0 rfl
  refine g_getR C fi_X2_21 rfl e38064 (h38059).1 (h38059).2 dX2_find_19 ?_
  refine g_getI C fi_X2_32 (by decide) (h38065.at).1 (h38065.at).2 dX2_find_22 ?_
  have h38066 := Iy38056.rg (h38065.at) 3 rfl
  refine b_if_eq C 38 dX2_find_25 (by decide) (fun h38067 => ?_) (fun h38067 => ?_)
  · have h38067 : (pI Y38054 b38063 3).toInt = 0 := congrArg Int32.toInt h38067
    refine g_lv (lv' := []) [] rfl ?_
    exact J38 Y38054 Iy38056 Xz38058 (fun b9 e9 => by rw [e38064] at e9; cases e9; omega)
  · have h38067 : (pI Y38054 b38063 3).toInt ≠ 0 := ti_ne h38067
    refine g_aload_n C dX2_find_28 rfl 0 rfl ?_
    obtain ⟨b38068, e38069, h38070⟩ := Iy38056.fld (h38059) 3 0 0 rfl
    refine g_getR C fi_X2_25 rfl e38069 (h38059).1 (h38059).2 dX2_find_29 ?_
    refine g_getI C fi_X2_32 (by decide) (h38070.at).1 (h38070.at).2 dX2_find_32 ?_
    have h38071 := Iy38056.rg (h38070.at) 3 rfl
    refine b_if_ne C 40 dX2_find_35 (by decide) (fun h38072 => ?_) (fun h38072 => ?_)
    · have h38072 : (pI Y38054 b38068 3).toInt ≠ 0 := ti_ne h38072
      refine g_aload_n C dX2_find_40 rfl 0 rfl ?_
      refine g_aload_n C dX2_find_41 rfl 1 rfl ?_
      refine g_callVI (rest := [.ref a0]) C mv_X2_36 [] (s_X1_all Iy38056 h38060) (h38060).1 (h38060).2 rfl rfl (by decide) (Nat.le_of_ble_eq_true rfl) (by decide) dX2_find_42 (fun r38073 Y38074 h38075 => ?_)
      obtain ⟨rfl, h38075⟩ := h38075
      have h38075 : 0 ≤ r38073.toInt ∧ r38073.toInt ≤ 20 := h38075
      refine g_putI C fi_X2_42 rfl (h38059).1 (h38059).2 dX2_find_45 ?_
      refine gpW (ks := [2]) (Iy38056.setI (h38059) (rgOk.of rfl (by omega))) (EK.setI (h38059).2 (by decide)) (fun Y38076 Iy38077 Xy38078 w38079 w38080 => ?_)
      have q38081 := Xy38078.keep (h38065.at) (by decide) 3
      have q38082 := Xy38078.keep (h38070.at) (by decide) 3
      have Xz38083 : EK [0, 1, 2, 13] P Y38076 := Xz38058.tr (Xy38078.mono (by decide))
      have e38084 := Xy38078.ref h38059 (by decide) e38064
      have e38085 := Xy38078.ref h38059 (by decide) e38069
      have h38086 := Xy38078.at h38059
      have h38087 := Xy38078.at h38060
      have h38088 := Xy38078.at h38061
      have h38089 := Xy38078.at h38062
      have h38090 := Xy38078.ar h38065
      have h38091 := Xy38078.ar h38070
      refine g_aload_n C dX2_find_48 rfl 0 rfl ?_
      refine g_bipush (v := 12) C dX2_find_49 (by decide) ?_
      refine g_putI C fi_X2_45 rfl (h38086).1 (h38086).2 dX2_find_51 ?_
      refine gpW (ks := [2]) (Iy38077.setI (h38086) (rgOk.of rfl (by decide))) (EK.setI (h38086).2 (by decide)) (fun Y38092 Iy38093 Xy38094 w38095 w38096 => ?_)
      have w38096 : (pI Y38092 a0 5).toInt = 12 := w38096
      have q38097 := Xy38094.keep (h38090.at) (by decide) 3
      have q38098 := Xy38094.keep (h38091.at) (by decide) 3
      have q38099 := w38095 4 (by decide)
      have Xz38100 : EK [0, 1, 2, 13] P Y38092 := Xz38083.tr (Xy38094.mono (by decide))
      have e38101 := Xy38094.ref h38086 (by decide) e38084
      have e38102 := Xy38094.ref h38086 (by decide) e38085
      have h38103 := Xy38094.at h38086
      have h38104 := Xy38094.at h38087
      have h38105 := Xy38094.at h38088
      have h38106 := Xy38094.at h38089
      have h38107 := Xy38094.ar h38090
      have h38108 := Xy38094.ar h38091
      refine g_aload_n C dX2_find_54 rfl 0 rfl ?_
      refine g_iconst (v := 0) C dX2_find_55 (by decide) ?_
      refine g_putI C fi_X2_48 rfl (h38103).1 (h38103).2 dX2_find_56 ?_
      refine gpW (ks := [2]) (Iy38093.setI (h38103) (rgOk.none rfl)) (EK.setI (h38103).2 (by decide)) (fun Y38109 Iy38110 Xy38111 w38112 w38113 => ?_)
      have w38113 : (pI Y38109 a0 6).toInt = 0 := w38113
      have q38114 := Xy38111.keep (h38107.at) (by decide) 3
      have q38115 := Xy38111.keep (h38108.at) (by decide) 3
      have q38116 := w38112 4 (by decide)
      have q38117 := w38112 5 (by decide)
      have Xz38118 : EK [0, 1, 2, 13] P Y38109 := Xz38100.tr (Xy38111.mono (by decide))
      have e38119 := Xy38111.ref h38103 (by decide) e38101
      have e38120 := Xy38111.ref h38103 (by decide) e38102
      have h38121 := Xy38111.at h38103
      have h38122 := Xy38111.at h38104
      have h38123 := Xy38111.at h38105
      have h38124 := Xy38111.at h38106
      have h38125 := Xy38111.ar h38107
      have h38126 := Xy38111.ar h38108
      refine g_iconst (v := 0) C dX2_find_59 (by decide) ?_
      refine g_istore (lv' := [(4, .int 0), (0, .ref a0), (1, .ref a1), (2, .ref a2), (3, .ref a3)]) C dX2_find_60 (by decide) rfl ?_
      refine g_lv (lv' := [(0, .ref a0), (1, .ref a1), (4, .int 0)]) [1, 2, 0] rfl ?_
      exact J62 _ Y38109 0 (Nat.lt_succ_self _) Iy38110 Xz38118 (by decide) (by omega) (by omega) (fun b9 e9 => by rw [e38119] at e9; cases e9; omega) (fun b9 e9 => by rw [e38120] at e9; cases e9; omega)
    · have h38072 : (pI Y38054 b38068 3).toInt = 0 := congrArg Int32.toInt h38072
      refine g_lv (lv' := []) [] rfl ?_
      exact J38 Y38054 Iy38056 Xz38058 (fun b9 e9 => by rw [e38064] at e9; cases e9; omega)
theorem dX11_tocome_24 : decode cX11_tocome 24 = .ok (.iconst (-1), 1) := by decide +kernel
theorem dX11_tocome_25 : decode cX11_tocome 25 = .ok (.ireturn, 1) := by decide +kernel
theorem dX11_tocome_61 : decode cX11_tocome 61 = .ok (.ifCond .ne 5, 3) := by decide +kernel
theorem dX11_tocome_64 : decode cX11_tocome 64 = .ok (.iconst (-1), 1) := by decide +kernel
theorem dX11_tocome_65 : decode cX11_tocome 65 = .ok (.ireturn, 1) := by decide +kernel
theorem dX11_tocome_66 : decode cX11_tocome 66 = .ok (.iload_n 3, 1) := by decide +kernel
theorem dX11_tocome_67 : decode cX11_tocome 67 = .ok (.ifCond .ne 13, 3) := by decide +kernel
theorem dX11_tocome_70 : decode cX11_tocome 70 = .ok (.aload_n 0, 1) := by decide +kernel
theorem dX11_tocome_71 : decode cX11_tocome 71 = .ok (.getfield 67, 3) := by decide +kernel
theorem dX11_tocome_74 : decode cX11_tocome 74 = .ok (.getfield 283, 3) := by decide +kernel
theorem dX11_tocome_77 : decode cX11_tocome 77 = .ok (.goto 10, 3) := by decide +kernel
theorem dX11_tocome_80 : decode cX11_tocome 80 = .ok (.aload_n 0, 1) := by decide +kernel
theorem dX11_tocome_81 : decode cX11_tocome 81 = .ok (.getfield 67, 3) := by decide +kernel
theorem dX11_tocome_84 : decode cX11_tocome 84 = .ok (.getfield 286, 3) := by decide +kernel
theorem dX11_tocome_87 : decode cX11_tocome 87 = .ok (.ireturn, 1) := by decide +kernel
set_option maxHeartbeats 4000000 in
set_option maxRecDepth 100000 in
theorem s_X11_tocome {P : PP} {a0 : Nat} {a1 : Int32} {a2 : Int32} {a3 : Int32} (I : IV P) (ha0 : At P a0 11) : CtrI yX11_tocome cX11_tocome 6 (some Jvm.ClassFile.FieldType.int) ({ frames := 15, cells := 0, slots := 0, locals := 960 } : Room) 0 0 P [.ref a0, .int a1, .int a2, .int a3] (fun r P2 => IV P2 ∧ EK [0, 1, 2, 5, 13] P P2 ∧ (True)) := by
  refine enI (lv := [(0, .ref a0), (1, .int a1), (2, .int a2), (3, .int a3)]) (by decide) (Nat.le_of_ble_eq_true rfl) rfl (fun E D cy C Ci0 ret => ?_)
  have J24 : G E ({ frames := 15, cells := 0, slots := 0, locals := 960 } : Room) D cy 6 P 0 0 24 [] [] := by
    refine g_iconst (v := (-1)) C dX11_tocome_24 (by decide) ?_
    exact ret _ _ _ _ _ _ dX11_tocome_25 rfl (by decide) (by decide) ⟨I, EK.rf, trivial⟩
  refine g_iload_n C dX11_tocome_0 rfl 1 rfl ?_
  refine g_callSI (b := 0) (ci := 0) (rest := []) C ms_X11_158 [.int a1] (s_X11_isQuarter I) rfl rfl (by decide) (Nat.le_of_ble_eq_true rfl) (by decide) dX11_tocome_1 (fun r38187 Y38188 h38189 => ?_)
  obtain ⟨rfl, h38189⟩ := h38189
  obtain ⟨h38189, hi38190⟩ := h38189
  have hi38190 : r38187.toInt = 0 ∨ (((0 : Int) ≤ a1.toInt ∧ a1.toInt ≤ (3 : Int))) := hi38190
  have h38189 : 0 ≤ r38187.toInt ∧ r38187.toInt ≤ 1 := h38189
  refine b_if_eq C 24 dX11_tocome_4 (by decide) (fun h38191 => ?_) (fun h38191 => ?_)
  · have h38191 : r38187.toInt = 0 := congrArg Int32.toInt h38191
    clear hi38190
    refine g_lv (lv' := []) [] rfl ?_
    exact J24 
  · have h38191 : r38187.toInt ≠ 0 := ti_ne h38191
    replace hi38190 := hi38190.resolve_left (by omega)
    refine g_aload_n C dX11_tocome_7 rfl 0 rfl ?_
    refine g_iload_n C dX11_tocome_8 rfl 2 rfl ?_
    refine g_callVI (rest := []) C mv_X11_97 [.int a2] (s_X11_isTold I ha0) (ha0).1 (ha0).2 rfl rfl (by decide) (Nat.le_of_ble_eq_true rfl) (by decide) dX11_tocome_9 (fun r38192 Y38193 h38194 => ?_)
    obtain ⟨rfl, h38194⟩ := h38194
    obtain ⟨h38194, hi38195⟩ := h38194
    have hi38195 : r38192.toInt = 0 ∨ (((0 : Int) ≤ a2.toInt ∧ a2.toInt ≤ (1 : Int))) := hi38195
    have h38194 : 0 ≤ r38192.toInt ∧ r38192.toInt ≤ 1 := h38194
    refine b_if_eq C 24 dX11_tocome_12 (by decide) (fun h38196 => ?_) (fun h38196 => ?_)
    · have h38196 : r38192.toInt = 0 := congrArg Int32.toInt h38196
      clear hi38195
      refine g_lv (lv' := []) [] rfl ?_
      exact J24 
    · have h38196 : r38192.toInt ≠ 0 := ti_ne h38196
      replace hi38195 := hi38195.resolve_left (by omega)
      refine g_iload_n C dX11_tocome_15 rfl 3 rfl ?_
      have u38198 := ti_rng a3
      refine b_if_lt C 24 dX11_tocome_16 (by decide) (fun h38197 => ?_) (fun h38197 => ?_)
      · have h38197 : a3.toInt < 0 := h38197
        refine g_lv (lv' := []) [] rfl ?_
        exact J24 
      · have h38197 : 0 ≤ a3.toInt := h38197
        refine g_iload_n C dX11_tocome_19 rfl 3 rfl ?_
        refine g_iconst (v := 1) C dX11_tocome_20 (by decide) ?_
        have u38200 := ti_rng a3
        refine b_icmp_le C 26 dX11_tocome_21 (by decide) (fun h38199 => ?_) (fun h38199 => ?_)
        · have h38199 : a3.toInt ≤ 1 := h38199
          refine g_aload_n C dX11_tocome_26 rfl 0 rfl ?_
          refine g_iload_n C dX11_tocome_27 rfl 1 rfl ?_
          refine g_iload_n C dX11_tocome_28 rfl 2 rfl ?_
          refine g_iconst (v := 0) C dX11_tocome_29 (by decide) ?_
          refine g_callVQ (rest := []) C mv_X11_216 [.int a1, .int a2, .int 0] (s_X11_gather I ha0 (by omega) (by omega) (by decide)) (ha0).1 (ha0).2 rfl rfl (by decide) (Nat.le_of_ble_eq_true rfl) (by decide) dX11_tocome_30 (fun r38201 Y38202 h38203 => ?_)
          obtain ⟨Iy38204, Xy38205, h38203⟩ := h38203
          have Xz38206 : EK [0, 1, 2, 5, 13] P Y38202 := Xy38205.mono (by decide)
          have h38207 := Xy38205.at ha0
          obtain ⟨b38209, rfl, h38203⟩ := h38203
          show G _ _ _ _ _ _ _ _ _ _ (.ref b38209 :: _)
          refine g_astore (lv' := [(4, .ref b38209), (0, .ref a0), (1, .int a1), (2, .int a2), (3, .int a3)]) C dX11_tocome_33 (by decide) rfl ?_
          refine g_aload_n C dX11_tocome_35 rfl 1 rfl ?_
          refine g_iload_n C dX11_tocome_36 rfl 2 rfl ?_
          refine g_iload_n C dX11_tocome_37 rfl 3 rfl ?_
          refine g_iconst (v := 1) C dX11_tocome_38 (by decide) ?_
          refine g_callVQ (rest := []) C mv_X11_216 [.int a1, .int a2, .int 1] (s_X11_gather Iy38204 h38207 (by omega) (by omega) (by decide)) (h38207).1 (h38207).2 rfl rfl (by decide) (Nat.le_of_ble_eq_true rfl) (by decide) dX11_tocome_39 (fun r38210 Y38211 h38212 => ?_)
          obtain ⟨Iy38213, Xy38214, h38212⟩ := h38212
          have Xz38215 : EK [0, 1, 2, 5, 13] P Y38211 := Xz38206.tr (Xy38214.mono (by decide))
          have h38216 := Xy38214.at h38207
          have h38217 := Xy38214.at h38203
          obtain ⟨b38219, rfl, h38212⟩ := h38212
          show G _ _ _ _ _ _ _ _ _ _ (.ref b38219 :: _)
          refine g_astore (lv' := [(5, .ref b38219), (4, .ref b38209), (0, .ref a0), (1, .int a1), (2, .int a2), (3, .int a3)]) C dX11_tocome_42 (by decide) rfl ?_
          refine g_aload_n C dX11_tocome_44 rfl 2 rfl ?_
          obtain ⟨b38220, e38221, h38222⟩ := Iy38213.fld (h38216) 11 2 0 rfl
          refine g_getR C fi_X11_67 rfl e38221 (h38216).1 (h38216).2 dX11_tocome_45 ?_
          refine g_aload_n C dX11_tocome_48 rfl 2 rfl ?_
          obtain ⟨b38223, e38224, h38225⟩ := Iy38213.fld (h38216) 0 17 2 rfl
          refine g_getR C fi_X11_11 rfl e38224 (h38216).1 (h38216).2 dX11_tocome_49 ?_
          refine g_iload_n C dX11_tocome_52 rfl 4 rfl ?_
          obtain ⟨b38226, e38227, h38228⟩ := Iy38213.elm h38225 (by decide) (a2.toInt.toNat) (by omega)
          refine g_aldR C h38225.1 h38225.2.1 (by decide) (ix_in h38225.2.2 (by omega)) e38227 dX11_tocome_53 ?_
          refine g_aload C dX11_tocome_54 1 rfl ?_
          refine g_aload C dX11_tocome_56 0 rfl ?_
          refine g_callVI (rest := []) C mv_X11_279 [.ref b38226, .ref b38209, .ref b38219] (s_X2_find Iy38213 h38222.at h38228 h38217 h38212) (h38222.at).1 (h38222.at).2 rfl rfl (by decide) (Nat.le_of_ble_eq_true rfl) (by decide) dX11_tocome_58 (fun r38229 Y38230 h38231 => ?_)
          obtain ⟨Iy38232, Xy38233, h38231⟩ := h38231
          have Xz38234 : EK [0, 1, 2, 5, 13] P Y38230 := Xz38215.tr (Xy38233.mono (by decide))
          have h38235 := Xy38233.at h38216
          have h38236 := Xy38233.at h38217
          have h38237 := Xy38233.at h38212
          have h38231 : 0 ≤ r38229.toInt ∧ r38229.toInt ≤ 1 := h38231
          refine b_if_ne C 66 dX11_tocome_61 (by decide) (fun h38238 => ?_) (fun h38238 => ?_)
          · have h38238 : r38229.toInt ≠ 0 := ti_ne h38238
            refine g_iload_n C dX11_tocome_66 rfl 5 rfl ?_
            refine b_if_ne C 80 dX11_tocome_67 (by decide) (fun h38239 => ?_) (fun h38239 => ?_)
            · have h38239 : a3.toInt ≠ 0 := ti_ne h38239
              refine g_aload_n C dX11_tocome_80 rfl 2 rfl ?_
              obtain ⟨b38240, e38241, h38242⟩ := Iy38232.fld (h38235) 11 2 0 rfl
              refine g_getR C fi_X11_67 rfl e38241 (h38235).1 (h38235).2 dX11_tocome_81 ?_
              refine g_getI C fi_X11_286 (by decide) (h38242.at).1 (h38242.at).2 dX11_tocome_84 ?_
              exact ret _ _ _ _ _ _ dX11_tocome_87 rfl (by decide) (by decide) ⟨Iy38232, Xz38234, trivial⟩
            · have h38239 : a3.toInt = 0 := congrArg Int32.toInt h38239
              refine g_aload_n C dX11_tocome_70 rfl 2 rfl ?_
              obtain ⟨b38243, e38244, h38245⟩ := Iy38232.fld (h38235) 11 2 0 rfl
              refine g_getR C fi_X11_67 rfl e38244 (h38235).1 (h38235).2 dX11_tocome_71 ?_
              refine g_getI C fi_X11_283 (by decide) (h38245.at).1 (h38245.at).2 dX11_tocome_74 ?_
              have h38246 := Iy38232.rg (h38245.at) 5 rfl
              refine g_goto C 87 dX11_tocome_77 (by decide) ?_
              exact ret _ _ _ _ _ _ dX11_tocome_87 rfl (by decide) (by decide) ⟨Iy38232, Xz38234, trivial⟩
          · have h38238 : r38229.toInt = 0 := congrArg Int32.toInt h38238
            refine g_iconst (v := (-1)) C dX11_tocome_64 (by decide) ?_
            exact ret _ _ _ _ _ _ dX11_tocome_65 rfl (by decide) (by decide) ⟨Iy38232, Xz38234, trivial⟩
        · have h38199 : 1 < a3.toInt := h38199
          refine g_lv (lv' := []) [] rfl ?_
          exact J24 
theorem dX11_told_0 : decode cX11_told 0 = .ok (.aload_n 0, 1) := by decide +kernel
theorem dX11_told_1 : decode cX11_told 1 = .ok (.iload_n 1, 1) := by decide +kernel
theorem dX11_told_2 : decode cX11_told 2 = .ok (.iload_n 2, 1) := by decide +kernel
theorem dX11_told_3 : decode cX11_told 3 = .ok (.invokevirtual 155, 3) := by decide +kernel
theorem dX11_told_6 : decode cX11_told 6 = .ok (.ifCond .ne 5, 3) := by decide +kernel
theorem dX11_told_9 : decode cX11_told 9 = .ok (.iconst (-1), 1) := by decide +kernel
theorem dX11_told_10 : decode cX11_told 10 = .ok (.ireturn, 1) := by decide +kernel
theorem dX11_told_11 : decode cX11_told 11 = .ok (.aload_n 0, 1) := by decide +kernel
theorem dX11_told_12 : decode cX11_told 12 = .ok (.getfield 11, 3) := by decide +kernel
theorem dX11_told_15 : decode cX11_told 15 = .ok (.iload_n 1, 1) := by decide +kernel
theorem dX11_told_16 : decode cX11_told 16 = .ok (.aaload, 1) := by decide +kernel
theorem dX11_told_17 : decode cX11_told 17 = .ok (.iconst 1, 1) := by decide +kernel
theorem dX11_told_18 : decode cX11_told 18 = .ok (.iload_n 2, 1) := by decide +kernel
theorem dX11_told_19 : decode cX11_told 19 = .ok (.ishl, 1) := by decide +kernel
theorem dX11_told_20 : decode cX11_told 20 = .ok (.invokevirtual 143, 3) := by decide +kernel
theorem dX11_told_23 : decode cX11_told 23 = .ok (.ireturn, 1) := by decide +kernel
set_option maxHeartbeats 4000000 in
set_option maxRecDepth 100000 in
theorem s_X11_told {P : PP} {a0 : Nat} {a1 : Int32} {a2 : Int32} (I : IV P) (ha0 : At P a0 11) : CtrI yX11_told cX11_told 3 (some Jvm.ClassFile.FieldType.int) ({ frames := 4, cells := 0, slots := 0, locals := 256 } : Room) 0 0 P [.ref a0, .int a1, .int a2] (fun r P2 => P = P2 ∧ (True)) := by
  refine enI (lv := [(0, .ref a0), (1, .int a1), (2, .int a2)]) (by decide) (Nat.le_of_ble_eq_true rfl) rfl (fun E D cy C Ci0 ret => ?_)
  refine g_aload_n C dX11_told_0 rfl 0 rfl ?_
  refine g_iload_n C dX11_told_1 rfl 1 rfl ?_
  refine g_iload_n C dX11_told_2 rfl 2 rfl ?_
  refine g_callVI (rest := []) C mv_X11_155 [.int a1, .int a2] (s_X11_isPageOf I ha0) (ha0).1 (ha0).2 rfl rfl (by decide) (Nat.le_of_ble_eq_true rfl) (by decide) dX11_told_3 (fun r38263 Y38264 h38265 => ?_)
  obtain ⟨rfl, h38265⟩ := h38265
  obtain ⟨h38265, hi38266⟩ := h38265
  have hi38266 : r38263.toInt = 0 ∨ (((0 : Int) ≤ a1.toInt ∧ a1.toInt ≤ (1 : Int)) ∧ ((0 : Int) ≤ a2.toInt ∧ a2.toInt ≤ (19 : Int))) := hi38266
  have h38265 : 0 ≤ r38263.toInt ∧ r38263.toInt ≤ 1 := h38265
  refine b_if_ne C 11 dX11_told_6 (by decide) (fun h38267 => ?_) (fun h38267 => ?_)
  · have h38267 : r38263.toInt ≠ 0 := ti_ne h38267
    replace hi38266 := hi38266.resolve_left (by omega)
    refine g_aload_n C dX11_told_11 rfl 0 rfl ?_
    obtain ⟨b38268, e38269, h38270⟩ := I.fld (ha0) 0 17 2 rfl
    refine g_getR C fi_X11_11 rfl e38269 (ha0).1 (ha0).2 dX11_told_12 ?_
    refine g_iload_n C dX11_told_15 rfl 1 rfl ?_
    obtain ⟨b38271, e38272, h38273⟩ := I.elm h38270 (by decide) (a1.toInt.toNat) (by omega)
    refine g_aldR C h38270.1 h38270.2.1 (by decide) (ix_in h38270.2.2 (by omega)) e38272 dX11_told_16 ?_
    refine g_iconst (v := 1) C dX11_told_17 (by decide) ?_
    refine g_iload_n C dX11_told_18 rfl 2 rfl ?_
    refine a_ishl C dX11_told_19 (fun z38274 => ?_)
    refine g_callVI (rest := []) C mv_X11_143 [.int z38274] (s_X1_sumOf I h38273) (h38273).1 (h38273).2 rfl rfl (by decide) (Nat.le_of_ble_eq_true rfl) (by decide) dX11_told_20 (fun r38276 Y38277 h38278 => ?_)
    obtain ⟨rfl, h38278⟩ := h38278
    have h38278 : True := h38278
    exact ret _ _ _ _ _ _ dX11_told_23 rfl (by decide) (by decide) ⟨rfl, trivial⟩
  · have h38267 : r38263.toInt = 0 := congrArg Int32.toInt h38267
    clear hi38266
    refine g_iconst (v := (-1)) C dX11_told_9 (by decide) ?_
    exact ret _ _ _ _ _ _ dX11_told_10 rfl (by decide) (by decide) ⟨rfl, trivial⟩
theorem dX11_town_0 : decode cX11_town 0 = .ok (.aload_n 0, 1) := by decide +kernel
theorem dX11_town_1 : decode cX11_town 1 = .ok (.iload_n 1, 1) := by decide +kernel
theorem dX11_town_2 : decode cX11_town 2 = .ok (.invokevirtual 97, 3) := by decide +kernel
theorem dX11_town_5 : decode cX11_town 5 = .ok (.ifCond .eq 13, 3) := by decide +kernel
theorem dX11_town_8 : decode cX11_town 8 = .ok (.iload_n 2, 1) := by decide +kernel
theorem dX11_town_9 : decode cX11_town 9 = .ok (.ifCond .lt 9, 3) := by decide +kernel
theorem dX11_town_12 : decode cX11_town 12 = .ok (.iload_n 2, 1) := by decide +kernel
theorem dX11_town_13 : decode cX11_town 13 = .ok (.bipush 100, 2) := by decide +kernel
theorem dX11_town_15 : decode cX11_town 15 = .ok (.if_icmp .le 5, 3) := by decide +kernel
theorem dX11_town_18 : decode cX11_town 18 = .ok (.iconst (-1), 1) := by decide +kernel
theorem dX11_town_19 : decode cX11_town 19 = .ok (.ireturn, 1) := by decide +kernel
theorem dX11_town_20 : decode cX11_town 20 = .ok (.iconst 0, 1) := by decide +kernel
theorem dX11_town_21 : decode cX11_town 21 = .ok (.istore_n 3, 1) := by decide +kernel
theorem dX11_town_22 : decode cX11_town 22 = .ok (.iload_n 3, 1) := by decide +kernel
theorem dX11_town_23 : decode cX11_town 23 = .ok (.iconst 4, 1) := by decide +kernel
theorem dX11_town_24 : decode cX11_town 24 = .ok (.if_icmp .ge 26, 3) := by decide +kernel
theorem dX11_town_27 : decode cX11_town 27 = .ok (.aload_n 0, 1) := by decide +kernel
theorem dX11_town_28 : decode cX11_town 28 = .ok (.getfield 35, 3) := by decide +kernel
theorem dX11_town_31 : decode cX11_town 31 = .ok (.iload_n 3, 1) := by decide +kernel
theorem dX11_town_32 : decode cX11_town 32 = .ok (.aload_n 0, 1) := by decide +kernel
theorem dX11_town_33 : decode cX11_town 33 = .ok (.iload_n 3, 1) := by decide +kernel
theorem dX11_town_34 : decode cX11_town 34 = .ok (.aload_n 0, 1) := by decide +kernel
theorem dX11_town_35 : decode cX11_town 35 = .ok (.getfield 11, 3) := by decide +kernel
theorem dX11_town_38 : decode cX11_town 38 = .ok (.iload_n 1, 1) := by decide +kernel
theorem dX11_town_39 : decode cX11_town 39 = .ok (.aaload, 1) := by decide +kernel
theorem dX11_town_40 : decode cX11_town 40 = .ok (.invokevirtual 326, 3) := by decide +kernel
theorem dX11_town_43 : decode cX11_town 43 = .ok (.iastore, 1) := by decide +kernel
theorem dX11_town_44 : decode cX11_town 44 = .ok (.iinc 3 1, 3) := by decide +kernel
theorem dX11_town_47 : decode cX11_town 47 = .ok (.goto (-25), 3) := by decide +kernel
theorem dX11_town_50 : decode cX11_town 50 = .ok (.iload_n 2, 1) := by decide +kernel
theorem dX11_town_51 : decode cX11_town 51 = .ok (.aload_n 0, 1) := by decide +kernel
theorem dX11_town_52 : decode cX11_town 52 = .ok (.invokevirtual 330, 3) := by decide +kernel
theorem dX11_town_55 : decode cX11_town 55 = .ok (.imul, 1) := by decide +kernel
theorem dX11_town_56 : decode cX11_town 56 = .ok (.istore_n 3, 1) := by decide +kernel
theorem dX11_town_57 : decode cX11_town 57 = .ok (.iconst 0, 1) := by decide +kernel
theorem dX11_town_58 : decode cX11_town 58 = .ok (.istore 4, 2) := by decide +kernel
theorem dX11_town_60 : decode cX11_town 60 = .ok (.iload 4, 2) := by decide +kernel
theorem dX11_town_62 : decode cX11_town 62 = .ok (.bipush 60, 2) := by decide +kernel
theorem dX11_town_64 : decode cX11_town 64 = .ok (.if_icmp .gt 25, 3) := by decide +kernel
theorem dX11_town_67 : decode cX11_town 67 = .ok (.bipush 100, 2) := by decide +kernel
theorem dX11_town_69 : decode cX11_town 69 = .ok (.aload_n 0, 1) := by decide +kernel
theorem dX11_town_70 : decode cX11_town 70 = .ok (.iload 4, 2) := by decide +kernel
theorem dX11_town_72 : decode cX11_town 72 = .ok (.invokevirtual 333, 3) := by decide +kernel
theorem dX11_town_75 : decode cX11_town 75 = .ok (.imul, 1) := by decide +kernel
theorem dX11_town_76 : decode cX11_town 76 = .ok (.iload_n 3, 1) := by decide +kernel
theorem dX11_town_77 : decode cX11_town 77 = .ok (.if_icmp .lt 6, 3) := by decide +kernel
theorem dX11_town_80 : decode cX11_town 80 = .ok (.iload 4, 2) := by decide +kernel
theorem dX11_town_82 : decode cX11_town 82 = .ok (.ireturn, 1) := by decide +kernel
theorem dX11_town_83 : decode cX11_town 83 = .ok (.iinc 4 1, 3) := by decide +kernel
theorem dX11_town_86 : decode cX11_town 86 = .ok (.goto (-26), 3) := by decide +kernel
theorem dX11_town_89 : decode cX11_town 89 = .ok (.iconst (-1), 1) := by decide +kernel
theorem dX11_town_90 : decode cX11_town 90 = .ok (.ireturn, 1) := by decide +kernel
set_option maxHeartbeats 4000000 in
set_option maxRecDepth 100000 in
theorem s_X11_town {P : PP} {a0 : Nat} {a1 : Int32} {a2 : Int32} (I : IV P) (ha0 : At P a0 11) : CtrI yX11_town cX11_town 5 (some Jvm.ClassFile.FieldType.int) ({ frames := 6, cells := 0, slots := 0, locals := 384 } : Room) 0 0 P [.ref a0, .int a1, .int a2] (fun r P2 => IV P2 ∧ EK [0, 1, 5, 13] P P2 ∧ (-1 ≤ r.toInt ∧ r.toInt ≤ 60)) := by
  refine enI (lv := [(0, .ref a0), (1, .int a1), (2, .int a2)]) (by decide) (Nat.le_of_ble_eq_true rfl) rfl (fun E D cy C Ci0 ret => ?_)
  have J60 : ∀ (n60 : Nat) (P60 : PP) (v60_3 : Int32) (v60_4 : Int32), (61 - v60_4.toInt).toNat < n60 → (IV P60) → (EK [0, 1, 5, 13] P P60) → (0 ≤ v60_4.toInt ∧ v60_4.toInt ≤ 61) → G E ({ frames := 6, cells := 0, slots := 0, locals := 384 } : Room) D cy 5 P60 0 0 60 [(0, .ref a0), (3, .int v60_3), (4, .int v60_4)] [] := by
    intro n60
    induction n60 with
    | zero => intro P60 v60_3 v60_4 hm60 I60 X60 hv60_4; omega
    | succ n60 ih60 =>
      intro P60 v60_3 v60_4 hm60 I60 X60 hv60_4
      have h38679 := X60.at ha0
      refine g_iload C dX11_town_60 2 rfl ?_
      refine g_bipush (v := 60) C dX11_town_62 (by decide) ?_
      refine b_icmp_gt C 89 dX11_town_64 (by decide) (fun h38680 => ?_) (fun h38680 => ?_)
      · have h38680 : 60 < v60_4.toInt := h38680
        refine g_iconst (v := (-1)) C dX11_town_89 (by decide) ?_
        exact ret _ _ _ _ _ _ dX11_town_90 rfl (by decide) (by decide) ⟨I60, X60, (by decide)⟩
      · have h38680 : v60_4.toInt ≤ 60 := h38680
        refine g_bipush (v := 100) C dX11_town_67 (by decide) ?_
        refine g_aload_n C dX11_town_69 rfl 0 rfl ?_
        refine g_iload C dX11_town_70 2 rfl ?_
        refine g_callVI (rest := [.int 100]) C mv_X11_333 [.int v60_4] (s_X11_housesServed I60 h38679) (h38679).1 (h38679).2 rfl rfl (by decide) (Nat.le_of_ble_eq_true rfl) (by decide) dX11_town_72 (fun r38681 Y38682 h38683 => ?_)
        obtain ⟨rfl, h38683⟩ := h38683
        have h38683 : True := h38683
        refine a_imul C dX11_town_75 (fun z38684 => ?_)
        refine g_iload_n C dX11_town_76 rfl 1 rfl ?_
        have u38687 := ti_rng z38684
        have u38688 := ti_rng v60_3
        refine b_icmp_lt C 83 dX11_town_77 (by decide) (fun h38686 => ?_) (fun h38686 => ?_)
        · have h38686 : z38684.toInt < v60_3.toInt := h38686
          refine s_iinc (lv0 := [(0, .ref a0), (3, .int v60_3)]) (m := 1) C dX11_town_83 2 rfl (by decide) rfl (by decide) (by omega) (fun z38689 h38690 => ?_)
          have h38690 : z38689.toInt = v60_4.toInt + 1 := h38690
          refine g_goto C 60 dX11_town_86 (by decide) ?_
          refine g_lv (lv' := [(0, .ref a0), (3, .int v60_3), (4, .int z38689)]) [1, 2, 0] rfl ?_
          exact ih60 P60 v60_3 z38689 (by omega) I60 X60 (by omega)
        · have h38686 : v60_3.toInt ≤ z38684.toInt := h38686
          refine g_iload C dX11_town_80 2 rfl ?_
          exact ret _ _ _ _ _ _ dX11_town_82 rfl (by decide) (by decide) ⟨I60, X60, (by omega)⟩
  have J22 : ∀ (n22 : Nat) (P22 : PP) (v22_3 : Int32), (4 - v22_3.toInt).toNat < n22 → (IV P22) → (EK [0, 1, 5, 13] P P22) → (0 ≤ a1.toInt ∧ a1.toInt ≤ 1) → (0 ≤ a2.toInt ∧ a2.toInt ≤ 100) → (0 ≤ v22_3.toInt ∧ v22_3.toInt ≤ 4) → G E ({ frames := 6, cells := 0, slots := 0, locals := 384 } : Room) D cy 5 P22 0 0 22 [(0, .ref a0), (1, .int a1), (2, .int a2), (3, .int v22_3)] [] := by
    intro n22
    induction n22 with
    | zero => intro P22 v22_3 hm22 I22 X22 hv22_1 hv22_2 hv22_3; omega
    | succ n22 ih22 =>
      intro P22 v22_3 hm22 I22 X22 hv22_1 hv22_2 hv22_3
      have h38691 := X22.at ha0
      refine g_iload_n C dX11_town_22 rfl 3 rfl ?_
      refine g_iconst (v := 4) C dX11_town_23 (by decide) ?_
      refine b_icmp_ge C 50 dX11_town_24 (by decide) (fun h38692 => ?_) (fun h38692 => ?_)
      · have h38692 : 4 ≤ v22_3.toInt := h38692
        refine g_iload_n C dX11_town_50 rfl 2 rfl ?_
        refine g_aload_n C dX11_town_51 rfl 0 rfl ?_
        refine g_callVI (rest := [.int a2]) C mv_X11_330 [] (s_X11_allHouses I22 h38691) (h38691).1 (h38691).2 rfl rfl (by decide) (Nat.le_of_ble_eq_true rfl) (by decide) dX11_town_52 (fun r38693 Y38694 h38695 => ?_)
        obtain ⟨rfl, h38695⟩ := h38695
        have h38695 : True := h38695
        refine a_imul C dX11_town_55 (fun z38696 => ?_)
        refine g_istore_n (lv' := [(3, .int z38696), (0, .ref a0), (1, .int a1), (2, .int a2)]) C dX11_town_56 rfl (by decide) rfl ?_
        refine g_iconst (v := 0) C dX11_town_57 (by decide) ?_
        refine g_istore (lv' := [(4, .int 0), (3, .int z38696), (0, .ref a0), (1, .int a1), (2, .int a2)]) C dX11_town_58 (by decide) rfl ?_
        refine g_lv (lv' := [(0, .ref a0), (3, .int z38696), (4, .int 0)]) [2, 1, 0] rfl ?_
        exact J60 _ P22 z38696 0 (Nat.lt_succ_self _) I22 X22 (by decide)
      · have h38692 : v22_3.toInt < 4 := h38692
        refine g_aload_n C dX11_town_27 rfl 0 rfl ?_
        obtain ⟨b38698, e38699, h38700⟩ := I22.fld (h38691) 6 13 4 rfl
        refine g_getR C fi_X11_35 rfl e38699 (h38691).1 (h38691).2 dX11_town_28 ?_
        refine g_iload_n C dX11_town_31 rfl 3 rfl ?_
        refine g_aload_n C dX11_town_32 rfl 0 rfl ?_
        refine g_iload_n C dX11_town_33 rfl 3 rfl ?_
        refine g_aload_n C dX11_town_34 rfl 0 rfl ?_
        obtain ⟨b38701, e38702, h38703⟩ := I22.fld (h38691) 0 17 2 rfl
        refine g_getR C fi_X11_11 rfl e38702 (h38691).1 (h38691).2 dX11_town_35 ?_
        refine g_iload_n C dX11_town_38 rfl 1 rfl ?_
        obtain ⟨b38704, e38705, h38706⟩ := I22.elm h38703 (by decide) (a1.toInt.toNat) (by omega)
        refine g_aldR C h38703.1 h38703.2.1 (by decide) (ix_in h38703.2.2 (by omega)) e38705 dX11_town_39 ?_
        refine g_callVI (rest := [.int v22_3, .ref b38698]) C mv_X11_326 [.int v22_3, .ref b38704] (s_X11_neededIn I22 h38691 (by omega) h38706) (h38691).1 (h38691).2 rfl rfl (by decide) (Nat.le_of_ble_eq_true rfl) (by decide) dX11_town_40 (fun r38707 Y38708 h38709 => ?_)
        obtain ⟨Iy38710, Xy38711, h38709⟩ := h38709
        have Xz38712 : EK [0, 1, 5, 13] P Y38708 := X22.tr (Xy38711.mono (by decide))
        have e38713 := Xy38711.ref h38691 (by decide) e38699
        have h38714 := Xy38711.at h38691
        have h38715 := Xy38711.ar h38700
        have h38709 : -1 ≤ r38707.toInt ∧ r38707.toInt ≤ 60 := h38709
        refine g_iast (j := (v22_3.toInt.toNat)) C h38715.1 h38715.2.1 (ix_in h38715.2.2 (by omega)) dX11_town_43 ?_
        refine gp (ks := [13]) (Iy38710.setA h38715 (by decide)) (EK.setI h38715.2.1 (by decide)) (fun Y38716 Iy38717 Xy38718 => ?_)
        have Xz38719 : EK [0, 1, 5, 13] P Y38716 := Xz38712.tr (Xy38718.mono (by decide))
        have h38720 := Xy38718.at h38714
        refine s_iinc (lv0 := [(0, .ref a0), (1, .int a1), (2, .int a2)]) (m := 1) C dX11_town_44 3 rfl (by decide) rfl (by decide) (by omega) (fun z38721 h38722 => ?_)
        have h38722 : z38721.toInt = v22_3.toInt + 1 := h38722
        refine g_goto C 22 dX11_town_47 (by decide) ?_
        refine g_lv (lv' := [(0, .ref a0), (1, .int a1), (2, .int a2), (3, .int z38721)]) [1, 2, 3, 0] rfl ?_
        exact ih22 Y38716 z38721 (by omega) Iy38717 Xz38719 (by omega) (by omega) (by omega)
  have J18 : G E ({ frames := 6, cells := 0, slots := 0, locals := 384 } : Room) D cy 5 P 0 0 18 [] [] := by
    refine g_iconst (v := (-1)) C dX11_town_18 (by decide) ?_
    exact ret _ _ _ _ _ _ dX11_town_19 rfl (by decide) (by decide) ⟨I, EK.rf, (by decide)⟩
  refine g_aload_n C dX11_town_0 rfl 0 rfl ?_
  refine g_iload_n C dX11_town_1 rfl 1 rfl ?_
  refine g_callVI (rest := []) C mv_X11_97 [.int a1] (s_X11_isTold I ha0) (ha0).1 (ha0).2 rfl rfl (by decide) (Nat.le_of_ble_eq_true rfl) (by decide) dX11_town_2 (fun r38723 Y38724 h38725 => ?_)
  obtain ⟨rfl, h38725⟩ := h38725
  obtain ⟨h38725, hi38726⟩ := h38725
  have hi38726 : r38723.toInt = 0 ∨ (((0 : Int) ≤ a1.toInt ∧ a1.toInt ≤ (1 : Int))) := hi38726
  have h38725 : 0 ≤ r38723.toInt ∧ r38723.toInt ≤ 1 := h38725
  refine b_if_eq C 18 dX11_town_5 (by decide) (fun h38727 => ?_) (fun h38727 => ?_)
  · have h38727 : r38723.toInt = 0 := congrArg Int32.toInt h38727
    clear hi38726
    refine g_lv (lv' := []) [] rfl ?_
    exact J18 
  · have h38727 : r38723.toInt ≠ 0 := ti_ne h38727
    replace hi38726 := hi38726.resolve_left (by omega)
    refine g_iload_n C dX11_town_8 rfl 2 rfl ?_
    have u38729 := ti_rng a2
    refine b_if_lt C 18 dX11_town_9 (by decide) (fun h38728 => ?_) (fun h38728 => ?_)
    · have h38728 : a2.toInt < 0 := h38728
      refine g_lv (lv' := []) [] rfl ?_
      exact J18 
    · have h38728 : 0 ≤ a2.toInt := h38728
      refine g_iload_n C dX11_town_12 rfl 2 rfl ?_
      refine g_bipush (v := 100) C dX11_town_13 (by decide) ?_
      have u38731 := ti_rng a2
      refine b_icmp_le C 20 dX11_town_15 (by decide) (fun h38730 => ?_) (fun h38730 => ?_)
      · have h38730 : a2.toInt ≤ 100 := h38730
        refine g_iconst (v := 0) C dX11_town_20 (by decide) ?_
        refine g_istore_n (lv' := [(3, .int 0), (0, .ref a0), (1, .int a1), (2, .int a2)]) C dX11_town_21 rfl (by decide) rfl ?_
        refine g_lv (lv' := [(0, .ref a0), (1, .int a1), (2, .int a2), (3, .int 0)]) [1, 2, 3, 0] rfl ?_
        exact J22 _ P 0 (Nat.lt_succ_self _) I EK.rf (by omega) (by omega) (by decide)
      · have h38730 : 100 < a2.toInt := h38730
        refine g_lv (lv' := []) [] rfl ?_
        exact J18 
theorem dX11_unknownPages_0 : decode cX11_unknownPages 0 = .ok (.ldc_w 364, 3) := by decide +kernel
theorem dX11_unknownPages_3 : decode cX11_unknownPages 3 = .ok (.istore_n 3, 1) := by decide +kernel
theorem dX11_unknownPages_4 : decode cX11_unknownPages 4 = .ok (.iconst 0, 1) := by decide +kernel
theorem dX11_unknownPages_5 : decode cX11_unknownPages 5 = .ok (.istore 4, 2) := by decide +kernel
theorem dX11_unknownPages_7 : decode cX11_unknownPages 7 = .ok (.iload 4, 2) := by decide +kernel
theorem dX11_unknownPages_9 : decode cX11_unknownPages 9 = .ok (.iconst 2, 1) := by decide +kernel
theorem dX11_unknownPages_10 : decode cX11_unknownPages 10 = .ok (.if_icmp .ge 35, 3) := by decide +kernel
theorem dX11_unknownPages_13 : decode cX11_unknownPages 13 = .ok (.aload_n 2, 1) := by decide +kernel
theorem dX11_unknownPages_14 : decode cX11_unknownPages 14 = .ok (.iload 4, 2) := by decide +kernel
theorem dX11_unknownPages_16 : decode cX11_unknownPages 16 = .ok (.invokevirtual 365, 3) := by decide +kernel
theorem dX11_unknownPages_19 : decode cX11_unknownPages 19 = .ok (.ifCond .eq 20, 3) := by decide +kernel
theorem dX11_unknownPages_22 : decode cX11_unknownPages 22 = .ok (.iload_n 3, 1) := by decide +kernel
theorem dX11_unknownPages_23 : decode cX11_unknownPages 23 = .ok (.aload_n 0, 1) := by decide +kernel
theorem dX11_unknownPages_24 : decode cX11_unknownPages 24 = .ok (.iload_n 1, 1) := by decide +kernel
theorem dX11_unknownPages_25 : decode cX11_unknownPages 25 = .ok (.aload_n 2, 1) := by decide +kernel
theorem dX11_unknownPages_26 : decode cX11_unknownPages 26 = .ok (.getfield 191, 3) := by decide +kernel
theorem dX11_unknownPages_29 : decode cX11_unknownPages 29 = .ok (.iload 4, 2) := by decide +kernel
theorem dX11_unknownPages_31 : decode cX11_unknownPages 31 = .ok (.invokevirtual 216, 3) := by decide +kernel
theorem dX11_unknownPages_34 : decode cX11_unknownPages 34 = .ok (.invokevirtual 220, 3) := by decide +kernel
theorem dX11_unknownPages_37 : decode cX11_unknownPages 37 = .ok (.iand, 1) := by decide +kernel
theorem dX11_unknownPages_38 : decode cX11_unknownPages 38 = .ok (.istore_n 3, 1) := by decide +kernel
theorem dX11_unknownPages_39 : decode cX11_unknownPages 39 = .ok (.iinc 4 1, 3) := by decide +kernel
theorem dX11_unknownPages_42 : decode cX11_unknownPages 42 = .ok (.goto (-35), 3) := by decide +kernel
theorem dX11_unknownPages_45 : decode cX11_unknownPages 45 = .ok (.aload_n 2, 1) := by decide +kernel
theorem dX11_unknownPages_46 : decode cX11_unknownPages 46 = .ok (.aload_n 2, 1) := by decide +kernel
theorem dX11_unknownPages_47 : decode cX11_unknownPages 47 = .ok (.getfield 191, 3) := by decide +kernel
theorem dX11_unknownPages_50 : decode cX11_unknownPages 50 = .ok (.invokevirtual 368, 3) := by decide +kernel
theorem dX11_unknownPages_53 : decode cX11_unknownPages 53 = .ok (.iload_n 3, 1) := by decide +kernel
theorem dX11_unknownPages_54 : decode cX11_unknownPages 54 = .ok (.iconst (-1), 1) := by decide +kernel
theorem dX11_unknownPages_55 : decode cX11_unknownPages 55 = .ok (.ixor, 1) := by decide +kernel
theorem dX11_unknownPages_56 : decode cX11_unknownPages 56 = .ok (.iand, 1) := by decide +kernel
theorem dX11_unknownPages_57 : decode cX11_unknownPages 57 = .ok (.invokestatic 150, 3) := by decide +kernel
theorem dX11_unknownPages_60 : decode cX11_unknownPages 60 = .ok (.ireturn, 1) := by decide +kernel
set_option maxHeartbeats 4000000 in
set_option maxRecDepth 100000 in
theorem s_X11_unknownPages {P : PP} {a0 : Nat} {a1 : Int32} {a2 : Nat} (I : IV P) (ha0 : At P a0 11) (ha1 : 0 ≤ a1.toInt ∧ a1.toInt ≤ 3) (ha2 : At P a2 7) (hp2_0 : 0 ≤ (pI P a2 0).toInt ∧ (pI P a2 0).toInt ≤ 1) : CtrI yX11_unknownPages cX11_unknownPages 5 (some Jvm.ClassFile.FieldType.int) ({ frames := 4, cells := 0, slots := 0, locals := 256 } : Room) 0 0 P [.ref a0, .int a1, .ref a2] (fun r P2 => IV P2 ∧ EK [5, 13] P P2 ∧ (0 ≤ r.toInt ∧ r.toInt ≤ 63)) := by
  refine enI (lv := [(0, .ref a0), (1, .int a1), (2, .ref a2)]) (by decide) (Nat.le_of_ble_eq_true rfl) rfl (fun E D cy C Ci0 ret => ?_)
  have J7 : ∀ (n7 : Nat) (P7 : PP) (v7_3 : Int32) (v7_4 : Int32), (2 - v7_4.toInt).toNat < n7 → (IV P7) → (EK [5, 13] P P7) → (0 ≤ v7_4.toInt ∧ v7_4.toInt ≤ 2) → (0 ≤ (pI P7 a2 0).toInt ∧ (pI P7 a2 0).toInt ≤ 1) → G E ({ frames := 4, cells := 0, slots := 0, locals := 256 } : Room) D cy 5 P7 0 0 7 [(0, .ref a0), (1, .int a1), (2, .ref a2), (3, .int v7_3), (4, .int v7_4)] [] := by
    intro n7
    induction n7 with
    | zero => intro P7 v7_3 v7_4 hm7 I7 X7 hv7_4 hq7_0; omega
    | succ n7 ih7 =>
      intro P7 v7_3 v7_4 hm7 I7 X7 hv7_4 hq7_0
      have h38835 := X7.at ha0
      have h38836 := X7.at ha2
      have J39 : ∀ (P39 : PP) (v39_3 : Int32), (IV P39) → (EK [5, 13] P P39) → (0 ≤ v7_4.toInt ∧ v7_4.toInt ≤ 1) → (0 ≤ (pI P39 a2 0).toInt ∧ (pI P39 a2 0).toInt ≤ 1) → G E ({ frames := 4, cells := 0, slots := 0, locals := 256 } : Room) D cy 5 P39 0 0 39 [(0, .ref a0), (1, .int a1), (2, .ref a2), (3, .int v39_3), (4, .int v7_4)] [] := by
        intro P39 v39_3 I39 X39 hv39_4 hq39_0
        have h38837 := X39.at ha0
        have h38838 := X39.at ha2
        refine s_iinc (lv0 := [(0, .ref a0), (1, .int a1), (2, .ref a2), (3, .int v39_3)]) (m := 1) C dX11_unknownPages_39 4 rfl (by decide) rfl (by decide) (by omega) (fun z38839 h38840 => ?_)
        have h38840 : z38839.toInt = v7_4.toInt + 1 := h38840
        refine g_goto C 7 dX11_unknownPages_42 (by decide) ?_
        refine g_lv (lv' := [(0, .ref a0), (1, .int a1), (2, .ref a2), (3, .int v39_3), (4, .int z38839)]) [1, 2, 3, 4, 0] rfl ?_
        exact ih7 P39 v39_3 z38839 (by omega) I39 X39 (by omega) (by omega)
      refine g_iload C dX11_unknownPages_7 4 rfl ?_
      refine g_iconst (v := 2) C dX11_unknownPages_9 (by decide) ?_
      refine b_icmp_ge C 45 dX11_unknownPages_10 (by decide) (fun h38841 => ?_) (fun h38841 => ?_)
      · have h38841 : 2 ≤ v7_4.toInt := h38841
        refine g_aload_n C dX11_unknownPages_45 rfl 2 rfl ?_
        refine g_aload_n C dX11_unknownPages_46 rfl 2 rfl ?_
        refine g_getI C fi_X11_191 (by decide) (h38836).1 (h38836).2 dX11_unknownPages_47 ?_
        refine g_callVI (rest := []) C mv_X11_368 [.int (pI P7 a2 0)] (s_X7_pagesBy I7 h38836) (h38836).1 (h38836).2 rfl rfl (by decide) (Nat.le_of_ble_eq_true rfl) (by decide) dX11_unknownPages_50 (fun r38842 Y38843 h38844 => ?_)
        obtain ⟨rfl, h38844⟩ := h38844
        have h38844 : True := h38844
        refine g_iload_n C dX11_unknownPages_53 rfl 3 rfl ?_
        refine g_iconst (v := (-1)) C dX11_unknownPages_54 (by decide) ?_
        refine a_ixor C dX11_unknownPages_55 (fun z38845 => ?_)
        refine a_iand C dX11_unknownPages_56 (fun z38847 => ?_)
        refine g_callSI (b := 0) (ci := 0) (rest := []) C ms_X11_150 [.int z38847] (s_J6_bitCount_0f7a4 I7) rfl rfl (by decide) (Nat.le_of_ble_eq_true rfl) (by decide) dX11_unknownPages_57 (fun r38849 Y38850 h38851 => ?_)
        obtain ⟨rfl, h38851⟩ := h38851
        have h38851 : 0 ≤ r38849.toInt ∧ r38849.toInt ≤ 63 := h38851
        exact ret _ _ _ _ _ _ dX11_unknownPages_60 rfl (by decide) (by decide) ⟨I7, X7, (by omega)⟩
      · have h38841 : v7_4.toInt < 2 := h38841
        refine g_aload_n C dX11_unknownPages_13 rfl 2 rfl ?_
        refine g_iload C dX11_unknownPages_14 4 rfl ?_
        refine g_callVI (rest := []) C mv_X11_365 [.int v7_4] (s_X7_hasOctet I7 h38836) (h38836).1 (h38836).2 rfl rfl (by decide) (Nat.le_of_ble_eq_true rfl) (by decide) dX11_unknownPages_16 (fun r38852 Y38853 h38854 => ?_)
        obtain ⟨rfl, h38854⟩ := h38854
        have h38854 : 0 ≤ r38852.toInt ∧ r38852.toInt ≤ 1 := h38854
        refine b_if_eq C 39 dX11_unknownPages_19 (by decide) (fun h38855 => ?_) (fun h38855 => ?_)
        · have h38855 : r38852.toInt = 0 := congrArg Int32.toInt h38855
          exact J39 P7 v7_3 I7 X7 (by omega) (by omega)
        · have h38855 : r38852.toInt ≠ 0 := ti_ne h38855
          refine g_iload_n C dX11_unknownPages_22 rfl 3 rfl ?_
          refine g_aload_n C dX11_unknownPages_23 rfl 0 rfl ?_
          refine g_iload_n C dX11_unknownPages_24 rfl 1 rfl ?_
          refine g_aload_n C dX11_unknownPages_25 rfl 2 rfl ?_
          refine g_getI C fi_X11_191 (by decide) (h38836).1 (h38836).2 dX11_unknownPages_26 ?_
          refine g_iload C dX11_unknownPages_29 4 rfl ?_
          refine g_callVQ (rest := [.int v7_3]) C mv_X11_216 [.int a1, .int (pI P7 a2 0), .int v7_4] (s_X11_gather I7 h38835 (by omega) (by omega) (by omega)) (h38835).1 (h38835).2 rfl rfl (by decide) (Nat.le_of_ble_eq_true rfl) (by decide) dX11_unknownPages_31 (fun r38856 Y38857 h38858 => ?_)
          obtain ⟨Iy38859, Xy38860, h38858⟩ := h38858
          have q38861 := Xy38860.keep h38836 (by decide) 0
          have Xz38862 : EK [5, 13] P Y38857 := X7.tr (Xy38860.mono (by decide))
          have h38863 := Xy38860.at h38835
          have h38864 := Xy38860.at h38836
          obtain ⟨b38866, rfl, h38858⟩ := h38858
          show G _ _ _ _ _ _ _ _ _ _ (.ref b38866 :: _)
          refine g_callVI (rest := [.int v7_3]) C mv_X11_220 [] (s_X5_peel Iy38859 h38858) (h38858).1 (h38858).2 rfl rfl (by decide) (Nat.le_of_ble_eq_true rfl) (by decide) dX11_unknownPages_34 (fun r38867 Y38868 h38869 => ?_)
          obtain ⟨Iy38870, Xy38871, h38869⟩ := h38869
          have q38872 := Xy38871.keep h38864 (by decide) 0
          have Xz38873 : EK [5, 13] P Y38868 := Xz38862.tr (Xy38871.mono (by decide))
          have h38874 := Xy38871.at h38863
          have h38875 := Xy38871.at h38864
          have h38869 : True := h38869
          refine a_iand C dX11_unknownPages_37 (fun z38876 => ?_)
          refine g_istore_n (lv' := [(3, .int z38876), (0, .ref a0), (1, .int a1), (2, .ref a2), (4, .int v7_4)]) C dX11_unknownPages_38 rfl (by decide) rfl ?_
          refine g_lv (lv' := [(0, .ref a0), (1, .int a1), (2, .ref a2), (3, .int z38876), (4, .int v7_4)]) [1, 2, 3, 0, 4] rfl ?_
          exact J39 Y38868 z38876 Iy38870 Xz38873 (by omega) (by omega)
  refine g_ldcw (v := 1048575) C kc_X11_364 dX11_unknownPages_0 ?_
  refine g_istore_n (lv' := [(3, .int 1048575), (0, .ref a0), (1, .int a1), (2, .ref a2)]) C dX11_unknownPages_3 rfl (by decide) rfl ?_
  refine g_iconst (v := 0) C dX11_unknownPages_4 (by decide) ?_
  refine g_istore (lv' := [(4, .int 0), (3, .int 1048575), (0, .ref a0), (1, .int a1), (2, .ref a2)]) C dX11_unknownPages_5 (by decide) rfl ?_
  refine g_lv (lv' := [(0, .ref a0), (1, .int a1), (2, .ref a2), (3, .int 1048575), (4, .int 0)]) [2, 3, 4, 1, 0] rfl ?_
  exact J7 _ P 1048575 0 (Nat.lt_succ_self _) I EK.rf (by decide) (by omega)
theorem dX1_changeDraw_0 : decode cX1_changeDraw 0 = .ok (.aload_n 0, 1) := by decide +kernel
theorem dX1_changeDraw_1 : decode cX1_changeDraw 1 = .ok (.getfield 18, 3) := by decide +kernel
theorem dX1_changeDraw_4 : decode cX1_changeDraw 4 = .ok (.aload_n 1, 1) := by decide +kernel
theorem dX1_changeDraw_5 : decode cX1_changeDraw 5 = .ok (.invokevirtual 42, 3) := by decide +kernel
theorem dX3_copy_0 : decode cX3_copy 0 = .ok (.aload_n 1, 1) := by decide +kernel
theorem dX3_copy_1 : decode cX3_copy 1 = .ok (.getfield 9, 3) := by decide +kernel
theorem dX3_copy_4 : decode cX3_copy 4 = .ok (.iconst 0, 1) := by decide +kernel
theorem dX3_copy_5 : decode cX3_copy 5 = .ok (.aload_n 0, 1) := by decide +kernel
theorem dX3_copy_6 : decode cX3_copy 6 = .ok (.getfield 9, 3) := by decide +kernel
theorem dX3_copy_9 : decode cX3_copy 9 = .ok (.iconst 0, 1) := by decide +kernel
theorem dX3_copy_10 : decode cX3_copy 10 = .ok (.bipush 21, 2) := by decide +kernel
theorem dX3_copy_12 : decode cX3_copy 12 = .ok (.invokestatic 34, 3) := by decide +kernel
theorem dX1_init_0 : decode cX1_init 0 = .ok (.aload_n 0, 1) := by decide +kernel
theorem dX1_init_1 : decode cX1_init 1 = .ok (.invokespecial 3, 3) := by decide +kernel
theorem dX1_init_4 : decode cX1_init 4 = .ok (.aload_n 0, 1) := by decide +kernel
theorem dX1_init_5 : decode cX1_init 5 = .ok (.bipush 16, 2) := by decide +kernel
theorem dX1_init_7 : decode cX1_init 7 = .ok (.newarray .int, 2) := by decide +kernel
theorem dX2_init_0 : decode cX2_init 0 = .ok (.aload_n 0, 1) := by decide +kernel
theorem dX2_init_1 : decode cX2_init 1 = .ok (.invokespecial 3, 3) := by decide +kernel
theorem dX2_init_4 : decode cX2_init 4 = .ok (.aload_n 0, 1) := by decide +kernel
theorem dX2_init_5 : decode cX2_init 5 = .ok (.bipush 11, 2) := by decide +kernel
theorem dX2_init_7 : decode cX2_init 7 = .ok (.newarray .int, 2) := by decide +kernel
theorem dX3_init_0 : decode cX3_init 0 = .ok (.aload_n 0, 1) := by decide +kernel
theorem dX3_init_1 : decode cX3_init 1 = .ok (.invokespecial 3, 3) := by decide +kernel
theorem dX3_init_4 : decode cX3_init 4 = .ok (.aload_n 0, 1) := by decide +kernel
theorem dX3_init_5 : decode cX3_init 5 = .ok (.bipush 21, 2) := by decide +kernel
theorem dX3_init_7 : decode cX3_init 7 = .ok (.newarray .int, 2) := by decide +kernel
theorem dX4_endFault_0 : decode cX4_endFault 0 = .ok (.aload_n 0, 1) := by decide +kernel
theorem dX4_endFault_1 : decode cX4_endFault 1 = .ok (.getfield 12, 3) := by decide +kernel
theorem dX4_endFault_4 : decode cX4_endFault 4 = .ok (.invokevirtual 31, 3) := by decide +kernel
theorem dX4_endFault_7 : decode cX4_endFault 7 = .ok (.aload_n 0, 1) := by decide +kernel
theorem dX4_endFault_8 : decode cX4_endFault 8 = .ok (.getfield 12, 3) := by decide +kernel
theorem dX4_endFault_11 : decode cX4_endFault 11 = .ok (.getfield 34, 3) := by decide +kernel
theorem dX4_endFault_14 : decode cX4_endFault 14 = .ok (.iconst 3, 1) := by decide +kernel
theorem dX4_endFault_15 : decode cX4_endFault 15 = .ok (.if_icmp .ne 7, 3) := by decide +kernel
theorem dX4_endFault_22 : decode cX4_endFault 22 = .ok (.aload_n 0, 1) := by decide +kernel
theorem dX4_endFault_23 : decode cX4_endFault 23 = .ok (.iconst 1, 1) := by decide +kernel
theorem dX4_endFault_24 : decode cX4_endFault 24 = .ok (.invokevirtual 57, 3) := by decide +kernel
theorem dX4_wrong_0 : decode cX4_wrong 0 = .ok (.iload_n 1, 1) := by decide +kernel
theorem dX4_wrong_1 : decode cX4_wrong 1 = .ok (.bipush 16, 2) := by decide +kernel
theorem dX4_wrong_3 : decode cX4_wrong 3 = .ok (.aload_n 0, 1) := by decide +kernel
theorem dX4_wrong_4 : decode cX4_wrong 4 = .ok (.getfield 12, 3) := by decide +kernel
theorem dX4_wrong_7 : decode cX4_wrong 7 = .ok (.getfield 96, 3) := by decide +kernel
theorem dX4_wrong_10 : decode cX4_wrong 10 = .ok (.imul, 1) := by decide +kernel
theorem dX4_wrong_11 : decode cX4_wrong 11 = .ok (.iadd, 1) := by decide +kernel
theorem dX4_wrong_12 : decode cX4_wrong 12 = .ok (.ireturn, 1) := by decide +kernel
set_option maxHeartbeats 4000000 in
set_option maxRecDepth 100000 in
theorem s_X4_wrong {P : PP} {a0 : Nat} {a1 : Int32} (I : IV P) (ha0 : At P a0 4) (ha1 : 1 ≤ a1.toInt ∧ a1.toInt ≤ 5) : CtrI yX4_wrong cX4_wrong 2 (some Jvm.ClassFile.FieldType.int) ({ frames := 1, cells := 0, slots := 0, locals := 64 } : Room) 0 0 P [.ref a0, .int a1] (fun r P2 => P = P2 ∧ (1 ≤ r.toInt ∧ r.toInt ≤ 16005)) := by
  refine enI (lv := [(0, .ref a0), (1, .int a1)]) (by decide) (Nat.le_of_ble_eq_true rfl) rfl (fun E D cy C Ci0 ret => ?_)
  refine g_iload_n C dX4_wrong_0 rfl 1 rfl ?_
  refine g_bipush (v := 16) C dX4_wrong_1 (by decide) ?_
  refine g_aload_n C dX4_wrong_3 rfl 0 rfl ?_
  obtain ⟨b38910, e38911, h38912⟩ := I.fld (ha0) 0 9 0 rfl
  refine g_getR C fi_X4_12 rfl e38911 (ha0).1 (ha0).2 dX4_wrong_4 ?_
  refine g_getI C fi_X4_96 (by decide) (h38912.at).1 (h38912.at).2 dX4_wrong_7 ?_
  have h38913 := I.rg (h38912.at) 3 rfl
  refine s_imul C dX4_wrong_10 (by show -2147483648 ≤ 16 * (pI P b38910 3).toInt ∧ 16 * (pI P b38910 3).toInt ≤ 2147483647; omega) (fun z38914 h38915 => ?_)
  have h38915 : z38914.toInt = 16 * (pI P b38910 3).toInt := h38915
  refine s_iadd C dX4_wrong_11 (by show -2147483648 ≤ a1.toInt + z38914.toInt ∧ a1.toInt + z38914.toInt ≤ 2147483647; omega) (fun z38916 h38917 => ?_)
  have h38917 : z38916.toInt = a1.toInt + z38914.toInt := h38917
  exact ret _ _ _ _ _ _ dX4_wrong_12 rfl (by decide) (by decide) ⟨rfl, (by omega)⟩
theorem dX4_endFault_18 : decode cX4_endFault 18 = .ok (.iconst 0, 1) := by decide +kernel
theorem dX4_endFault_19 : decode cX4_endFault 19 = .ok (.goto 8, 3) := by decide +kernel
theorem dX4_endFault_27 : decode cX4_endFault 27 = .ok (.ireturn, 1) := by decide +kernel
set_option maxHeartbeats 4000000 in
set_option maxRecDepth 100000 in
theorem s_X4_endFault {P : PP} {a0 : Nat} (I : IV P) (ha0 : At P a0 4) : CtrI yX4_endFault cX4_endFault 1 (some Jvm.ClassFile.FieldType.int) ({ frames := 3, cells := 0, slots := 0, locals := 192 } : Room) 0 0 P [.ref a0] (fun r P2 => IV P2 ∧ EK [9] P P2 ∧ (0 ≤ r.toInt ∧ r.toInt ≤ 16005)) := by
  refine enI (lv := [(0, .ref a0)]) (by decide) (Nat.le_of_ble_eq_true rfl) rfl (fun E D cy C Ci0 ret => ?_)
  refine g_aload_n C dX4_endFault_0 rfl 0 rfl ?_
  obtain ⟨b38936, e38937, h38938⟩ := I.fld (ha0) 0 9 0 rfl
  refine g_getR C fi_X4_12 rfl e38937 (ha0).1 (ha0).2 dX4_endFault_1 ?_
  refine g_callVV (rest := []) C mv_X4_31 [] (s_X9_next I h38938.at) (h38938.at).1 (h38938.at).2 rfl rfl (by decide) (Nat.le_of_ble_eq_true rfl) (by decide) dX4_endFault_4 (fun Y38940 h38941 => ?_)
  obtain ⟨Iy38942, Xy38943⟩ := h38941
  have Xz38944 : EK [9] P Y38940 := Xy38943.mono (by decide)
  have h38945 := Xy38943.at ha0
  refine g_aload_n C dX4_endFault_7 rfl 0 rfl ?_
  obtain ⟨b38946, e38947, h38948⟩ := Iy38942.fld (h38945) 0 9 0 rfl
  refine g_getR C fi_X4_12 rfl e38947 (h38945).1 (h38945).2 dX4_endFault_8 ?_
  refine g_getI C fi_X4_34 (by decide) (h38948.at).1 (h38948.at).2 dX4_endFault_11 ?_
  refine g_iconst (v := 3) C dX4_endFault_14 (by decide) ?_
  have u38950 := ti_rng (pI Y38940 b38946 2)
  refine b_icmp_ne C 22 dX4_endFault_15 (by decide) (fun h38949 => ?_) (fun h38949 => ?_)
  · have h38949 : (pI Y38940 b38946 2).toInt ≠ 3 := ti_ne h38949
    refine g_aload_n C dX4_endFault_22 rfl 0 rfl ?_
    refine g_iconst (v := 1) C dX4_endFault_23 (by decide) ?_
    refine g_callVI (rest := []) C mv_X4_57 [.int 1] (s_X4_wrong Iy38942 h38945 (by decide)) (h38945).1 (h38945).2 rfl rfl (by decide) (Nat.le_of_ble_eq_true rfl) (by decide) dX4_endFault_24 (fun r38951 Y38952 h38953 => ?_)
    obtain ⟨rfl, h38953⟩ := h38953
    have h38953 : 1 ≤ r38951.toInt ∧ r38951.toInt ≤ 16005 := h38953
    exact ret _ _ _ _ _ _ dX4_endFault_27 rfl (by decide) (by decide) ⟨Iy38942, Xz38944, (by omega)⟩
  · have h38949 : (pI Y38940 b38946 2).toInt = 3 := congrArg Int32.toInt h38949
    refine g_iconst (v := 0) C dX4_endFault_18 (by decide) ?_
    refine g_goto C 27 dX4_endFault_19 (by decide) ?_
    exact ret _ _ _ _ _ _ dX4_endFault_27 rfl (by decide) (by decide) ⟨Iy38942, Xz38944, (by decide)⟩
theorem dX4_firstFault_0 : decode cX4_firstFault 0 = .ok (.aload_n 0, 1) := by decide +kernel
theorem dX4_firstFault_1 : decode cX4_firstFault 1 = .ok (.iconst 1, 1) := by decide +kernel
theorem dX4_firstFault_2 : decode cX4_firstFault 2 = .ok (.bipush 16, 2) := by decide +kernel
theorem dX4_firstFault_4 : decode cX4_firstFault 4 = .ok (.invokevirtual 78, 3) := by decide +kernel
theorem dX4_numberFault_0 : decode cX4_numberFault 0 = .ok (.aload_n 0, 1) := by decide +kernel
theorem dX4_numberFault_1 : decode cX4_numberFault 1 = .ok (.getfield 12, 3) := by decide +kernel
theorem dX4_numberFault_4 : decode cX4_numberFault 4 = .ok (.invokevirtual 31, 3) := by decide +kernel
theorem dX4_numberFault_7 : decode cX4_numberFault 7 = .ok (.aload_n 0, 1) := by decide +kernel
theorem dX4_numberFault_8 : decode cX4_numberFault 8 = .ok (.getfield 12, 3) := by decide +kernel
theorem dX4_numberFault_11 : decode cX4_numberFault 11 = .ok (.getfield 34, 3) := by decide +kernel
theorem dX4_numberFault_14 : decode cX4_numberFault 14 = .ok (.iconst 2, 1) := by decide +kernel
theorem dX4_numberFault_15 : decode cX4_numberFault 15 = .ok (.if_icmp .eq 9, 3) := by decide +kernel
theorem dX4_numberFault_18 : decode cX4_numberFault 18 = .ok (.aload_n 0, 1) := by decide +kernel
theorem dX4_numberFault_19 : decode cX4_numberFault 19 = .ok (.iconst 1, 1) := by decide +kernel
theorem dX4_numberFault_20 : decode cX4_numberFault 20 = .ok (.invokevirtual 57, 3) := by decide +kernel
theorem dX4_numberFault_23 : decode cX4_numberFault 23 = .ok (.ireturn, 1) := by decide +kernel
theorem dX4_numberFault_24 : decode cX4_numberFault 24 = .ok (.aload_n 0, 1) := by decide +kernel
theorem dX4_numberFault_25 : decode cX4_numberFault 25 = .ok (.getfield 12, 3) := by decide +kernel
theorem dX4_numberFault_28 : decode cX4_numberFault 28 = .ok (.getfield 82, 3) := by decide +kernel
theorem dX4_numberFault_31 : decode cX4_numberFault 31 = .ok (.iload_n 1, 1) := by decide +kernel
theorem dX4_numberFault_32 : decode cX4_numberFault 32 = .ok (.if_icmp .lt 14, 3) := by decide +kernel
theorem dX4_numberFault_35 : decode cX4_numberFault 35 = .ok (.aload_n 0, 1) := by decide +kernel
theorem dX4_numberFault_36 : decode cX4_numberFault 36 = .ok (.getfield 12, 3) := by decide +kernel
theorem dX4_numberFault_39 : decode cX4_numberFault 39 = .ok (.getfield 82, 3) := by decide +kernel
theorem dX4_numberFault_42 : decode cX4_numberFault 42 = .ok (.iload_n 2, 1) := by decide +kernel
theorem dX4_numberFault_43 : decode cX4_numberFault 43 = .ok (.if_icmp .le 11, 3) := by decide +kernel
theorem dX4_numberFault_46 : decode cX4_numberFault 46 = .ok (.aload_n 0, 1) := by decide +kernel
theorem dX4_numberFault_47 : decode cX4_numberFault 47 = .ok (.iconst 4, 1) := by decide +kernel
theorem dX4_numberFault_48 : decode cX4_numberFault 48 = .ok (.invokevirtual 57, 3) := by decide +kernel
theorem dX4_numberFault_51 : decode cX4_numberFault 51 = .ok (.goto 4, 3) := by decide +kernel
theorem dX4_numberFault_54 : decode cX4_numberFault 54 = .ok (.iconst 0, 1) := by decide +kernel
theorem dX4_numberFault_55 : decode cX4_numberFault 55 = .ok (.ireturn, 1) := by decide +kernel
set_option maxHeartbeats 4000000 in
set_option maxRecDepth 100000 in
theorem s_X4_numberFault {P : PP} {a0 : Nat} {a1 : Int32} {a2 : Int32} (I : IV P) (ha0 : At P a0 4) : CtrI yX4_numberFault cX4_numberFault 3 (some Jvm.ClassFile.FieldType.int) ({ frames := 3, cells := 0, slots := 0, locals := 192 } : Room) 0 0 P [.ref a0, .int a1, .int a2] (fun r P2 => IV P2 ∧ EK [9] P P2 ∧ (0 ≤ r.toInt ∧ r.toInt ≤ 16005) ∧ (r.toInt ≠ 0 ∨ ∀ b, pR P2 a0 0 = some b → (a1.toInt ≤ (pI P2 b 5).toInt ∧ (pI P2 b 5).toInt ≤ a2.toInt))) := by
  refine enI (lv := [(0, .ref a0), (1, .int a1), (2, .int a2)]) (by decide) (Nat.le_of_ble_eq_true rfl) rfl (fun E D cy C Ci0 ret => ?_)
  have J46 : ∀ (P46 : PP), (IV P46) → (EK [9] P P46) → (∀ b, pR P46 a0 0 = some b → 2 ≤ (pI P46 b 2).toInt ∧ (pI P46 b 2).toInt ≤ 2) → (∀ b, pR P46 a0 0 = some b → (pI P46 b 5).toInt ≤ 2147483647) → G E ({ frames := 3, cells := 0, slots := 0, locals := 192 } : Room) D cy 3 P46 0 0 46 [(0, .ref a0)] [] := by
    intro P46 I46 X46 hq46_0 hq46_1
    have h38985 := X46.at ha0
    obtain ⟨b38986, e38987, h38988⟩ := I46.fld (h38985) 0 9 0 rfl
    have hq46_0 := hq46_0 b38986 e38987
    have hq46_1 := hq46_1 b38986 e38987
    refine g_aload_n C dX4_numberFault_46 rfl 0 rfl ?_
    refine g_iconst (v := 4) C dX4_numberFault_47 (by decide) ?_
    refine g_callVI (rest := []) C mv_X4_57 [.int 4] (s_X4_wrong I46 h38985 (by decide)) (h38985).1 (h38985).2 rfl rfl (by decide) (Nat.le_of_ble_eq_true rfl) (by decide) dX4_numberFault_48 (fun r38989 Y38990 h38991 => ?_)
    obtain ⟨rfl, h38991⟩ := h38991
    have h38991 : 1 ≤ r38989.toInt ∧ r38989.toInt ≤ 16005 := h38991
    refine g_goto C 55 dX4_numberFault_51 (by decide) ?_
    exact ret _ _ _ _ _ _ dX4_numberFault_55 rfl (by decide) (by decide) ⟨I46, X46, (by omega), Or.inl (by omega)⟩
  refine g_aload_n C dX4_numberFault_0 rfl 0 rfl ?_
  obtain ⟨b38992, e38993, h38994⟩ := I.fld (ha0) 0 9 0 rfl
  refine g_getR C fi_X4_12 rfl e38993 (ha0).1 (ha0).2 dX4_numberFault_1 ?_
  refine g_callVV (rest := []) C mv_X4_31 [] (s_X9_next I h38994.at) (h38994.at).1 (h38994.at).2 rfl rfl (by decide) (Nat.le_of_ble_eq_true rfl) (by decide) dX4_numberFault_4 (fun Y38996 h38997 => ?_)
  obtain ⟨Iy38998, Xy38999⟩ := h38997
  have Xz39000 : EK [9] P Y38996 := Xy38999.mono (by decide)
  have h39001 := Xy38999.at ha0
  refine g_aload_n C dX4_numberFault_7 rfl 0 rfl ?_
  obtain ⟨b39002, e39003, h39004⟩ := Iy38998.fld (h39001) 0 9 0 rfl
  refine g_getR C fi_X4_12 rfl e39003 (h39001).1 (h39001).2 dX4_numberFault_8 ?_
  refine g_getI C fi_X4_34 (by decide) (h39004.at).1 (h39004.at).2 dX4_numberFault_11 ?_
  refine g_iconst (v := 2) C dX4_numberFault_14 (by decide) ?_
  have u39006 := ti_rng (pI Y38996 b39002 2)
  refine b_icmp_eq C 24 dX4_numberFault_15 (by decide) (fun h39005 => ?_) (fun h39005 => ?_)
  · have h39005 : (pI Y38996 b39002 2).toInt = 2 := congrArg Int32.toInt h39005
    refine g_aload_n C dX4_numberFault_24 rfl 0 rfl ?_
    refine g_getR C fi_X4_12 rfl e39003 (h39001).1 (h39001).2 dX4_numberFault_25 ?_
    refine g_getI C fi_X4_82 (by decide) (h39004.at).1 (h39004.at).2 dX4_numberFault_28 ?_
    refine g_iload_n C dX4_numberFault_31 rfl 1 rfl ?_
    have u39008 := ti_rng (pI Y38996 b39002 5)
    have u39009 := ti_rng a1
    refine b_icmp_lt C 46 dX4_numberFault_32 (by decide) (fun h39007 => ?_) (fun h39007 => ?_)
    · have h39007 : (pI Y38996 b39002 5).toInt < a1.toInt := h39007
      refine g_lv (lv' := [(0, .ref a0)]) [0] rfl ?_
      exact J46 Y38996 Iy38998 Xz39000 (fun b9 e9 => by rw [e39003] at e9; cases e9; omega) (fun b9 e9 => by rw [e39003] at e9; cases e9; omega)
    · have h39007 : a1.toInt ≤ (pI Y38996 b39002 5).toInt := h39007
      refine g_aload_n C dX4_numberFault_35 rfl 0 rfl ?_
      refine g_getR C fi_X4_12 rfl e39003 (h39001).1 (h39001).2 dX4_numberFault_36 ?_
      refine g_getI C fi_X4_82 (by decide) (h39004.at).1 (h39004.at).2 dX4_numberFault_39 ?_
      refine g_iload_n C dX4_numberFault_42 rfl 2 rfl ?_
      have u39011 := ti_rng (pI Y38996 b39002 5)
      have u39012 := ti_rng a2
      refine b_icmp_le C 54 dX4_numberFault_43 (by decide) (fun h39010 => ?_) (fun h39010 => ?_)
      · have h39010 : (pI Y38996 b39002 5).toInt ≤ a2.toInt := h39010
        refine g_iconst (v := 0) C dX4_numberFault_54 (by decide) ?_
        exact ret _ _ _ _ _ _ dX4_numberFault_55 rfl (by decide) (by decide) ⟨Iy38998, Xz39000, (by decide), Or.inr (fun b9 e9 => by rw [e39003] at e9; cases e9; omega)⟩
      · have h39010 : a2.toInt < (pI Y38996 b39002 5).toInt := h39010
        refine g_lv (lv' := [(0, .ref a0)]) [0] rfl ?_
        exact J46 Y38996 Iy38998 Xz39000 (fun b9 e9 => by rw [e39003] at e9; cases e9; omega) (fun b9 e9 => by rw [e39003] at e9; cases e9; omega)
  · have h39005 : (pI Y38996 b39002 2).toInt ≠ 2 := ti_ne h39005
    refine g_aload_n C dX4_numberFault_18 rfl 0 rfl ?_
    refine g_iconst (v := 1) C dX4_numberFault_19 (by decide) ?_
    refine g_callVI (rest := []) C mv_X4_57 [.int 1] (s_X4_wrong Iy38998 h39001 (by decide)) (h39001).1 (h39001).2 rfl rfl (by decide) (Nat.le_of_ble_eq_true rfl) (by decide) dX4_numberFault_20 (fun r39013 Y39014 h39015 => ?_)
    obtain ⟨rfl, h39015⟩ := h39015
    have h39015 : 1 ≤ r39013.toInt ∧ r39013.toInt ≤ 16005 := h39015
    exact ret _ _ _ _ _ _ dX4_numberFault_23 rfl (by decide) (by decide) ⟨Iy38998, Xz39000, (by omega), Or.inl (by omega)⟩
theorem dX4_firstFault_7 : decode cX4_firstFault 7 = .ok (.istore_n 1, 1) := by decide +kernel
theorem dX4_firstFault_8 : decode cX4_firstFault 8 = .ok (.iload_n 1, 1) := by decide +kernel
theorem dX4_firstFault_9 : decode cX4_firstFault 9 = .ok (.ifCond .eq 5, 3) := by decide +kernel
theorem dX4_firstFault_12 : decode cX4_firstFault 12 = .ok (.iload_n 1, 1) := by decide +kernel
theorem dX4_firstFault_13 : decode cX4_firstFault 13 = .ok (.ireturn, 1) := by decide +kernel
theorem dX4_firstFault_14 : decode cX4_firstFault 14 = .ok (.aload_n 0, 1) := by decide +kernel
theorem dX4_firstFault_15 : decode cX4_firstFault 15 = .ok (.getfield 21, 3) := by decide +kernel
theorem dX4_firstFault_18 : decode cX4_firstFault 18 = .ok (.aload_n 0, 1) := by decide +kernel
theorem dX4_firstFault_19 : decode cX4_firstFault 19 = .ok (.getfield 12, 3) := by decide +kernel
theorem dX4_firstFault_22 : decode cX4_firstFault 22 = .ok (.getfield 82, 3) := by decide +kernel
theorem dX4_firstFault_25 : decode cX4_firstFault 25 = .ok (.putfield 54, 3) := by decide +kernel
theorem dX4_firstFault_28 : decode cX4_firstFault 28 = .ok (.aload_n 0, 1) := by decide +kernel
theorem dX4_firstFault_29 : decode cX4_firstFault 29 = .ok (.iconst 2, 1) := by decide +kernel
theorem dX4_firstFault_30 : decode cX4_firstFault 30 = .ok (.bipush 9, 2) := by decide +kernel
theorem dX4_firstFault_32 : decode cX4_firstFault 32 = .ok (.invokevirtual 78, 3) := by decide +kernel
theorem dX4_firstFault_35 : decode cX4_firstFault 35 = .ok (.istore_n 1, 1) := by decide +kernel
theorem dX4_firstFault_36 : decode cX4_firstFault 36 = .ok (.iload_n 1, 1) := by decide +kernel
theorem dX4_firstFault_37 : decode cX4_firstFault 37 = .ok (.ifCond .eq 5, 3) := by decide +kernel
theorem dX4_firstFault_40 : decode cX4_firstFault 40 = .ok (.iload_n 1, 1) := by decide +kernel
theorem dX4_firstFault_41 : decode cX4_firstFault 41 = .ok (.ireturn, 1) := by decide +kernel
theorem dX4_firstFault_42 : decode cX4_firstFault 42 = .ok (.aload_n 0, 1) := by decide +kernel
theorem dX4_firstFault_43 : decode cX4_firstFault 43 = .ok (.getfield 21, 3) := by decide +kernel
theorem dX4_firstFault_46 : decode cX4_firstFault 46 = .ok (.aload_n 0, 1) := by decide +kernel
theorem dX4_firstFault_47 : decode cX4_firstFault 47 = .ok (.getfield 12, 3) := by decide +kernel
theorem dX4_firstFault_50 : decode cX4_firstFault 50 = .ok (.getfield 82, 3) := by decide +kernel
theorem dX4_firstFault_53 : decode cX4_firstFault 53 = .ok (.putfield 91, 3) := by decide +kernel
theorem dX4_firstFault_56 : decode cX4_firstFault 56 = .ok (.aload_n 0, 1) := by decide +kernel
theorem dX4_firstFault_57 : decode cX4_firstFault 57 = .ok (.invokevirtual 88, 3) := by decide +kernel
theorem dX4_firstFault_60 : decode cX4_firstFault 60 = .ok (.ireturn, 1) := by decide +kernel
set_option maxHeartbeats 4000000 in
set_option maxRecDepth 100000 in
theorem s_X4_firstFault {P : PP} {a0 : Nat} (I : IV P) (ha0 : At P a0 4) : CtrI yX4_firstFault cX4_firstFault 2 (some Jvm.ClassFile.FieldType.int) ({ frames := 4, cells := 0, slots := 0, locals := 256 } : Room) 0 0 P [.ref a0] (fun r P2 => IV P2 ∧ EK [3, 9] P P2 ∧ (0 ≤ r.toInt ∧ r.toInt ≤ 16005)) := by
  refine enI (lv := [(0, .ref a0)]) (by decide) (Nat.le_of_ble_eq_true rfl) rfl (fun E D cy C Ci0 ret => ?_)
  refine g_aload_n C dX4_firstFault_0 rfl 0 rfl ?_
  refine g_iconst (v := 1) C dX4_firstFault_1 (by decide) ?_
  refine g_bipush (v := 16) C dX4_firstFault_2 (by decide) ?_
  refine g_callVI (rest := []) C mv_X4_78 [.int 1, .int 16] (s_X4_numberFault I ha0) (ha0).1 (ha0).2 rfl rfl (by decide) (Nat.le_of_ble_eq_true rfl) (by decide) dX4_firstFault_4 (fun r39082 Y39083 h39084 => ?_)
  obtain ⟨Iy39085, Xy39086, h39084⟩ := h39084
  have Xz39087 : EK [3, 9] P Y39083 := Xy39086.mono (by decide)
  have h39088 := Xy39086.at ha0
  obtain ⟨h39084, hx39089⟩ := h39084
  have h39084 : 0 ≤ r39082.toInt ∧ r39082.toInt ≤ 16005 := h39084
  refine g_istore_n (lv' := [(1, .int r39082), (0, .ref a0)]) C dX4_firstFault_7 rfl (by decide) rfl ?_
  refine g_iload_n C dX4_firstFault_8 rfl 0 rfl ?_
  refine b_if_eq C 14 dX4_firstFault_9 (by decide) (fun h39090 => ?_) (fun h39090 => ?_)
  · have h39090 : r39082.toInt = 0 := congrArg Int32.toInt h39090
    obtain ⟨b39091, e39092, h39093⟩ := Iy39085.fld (h39088) 0 9 0 rfl
    have hx39089 := (hx39089.resolve_left (fun z => z h39090)) b39091 e39092
    have hx39089 : 1 ≤ (pI Y39083 b39091 5).toInt ∧ (pI Y39083 b39091 5).toInt ≤ 16 := hx39089
    refine g_aload_n C dX4_firstFault_14 rfl 1 rfl ?_
    obtain ⟨b39094, e39095, h39096⟩ := Iy39085.fld (h39088) 1 3 0 rfl
    refine g_getR C fi_X4_21 rfl e39095 (h39088).1 (h39088).2 dX4_firstFault_15 ?_
    refine g_aload_n C dX4_firstFault_18 rfl 1 rfl ?_
    refine g_getR C fi_X4_12 rfl e39092 (h39088).1 (h39088).2 dX4_firstFault_19 ?_
    refine g_getI C fi_X4_82 (by decide) (h39093.at).1 (h39093.at).2 dX4_firstFault_22 ?_
    refine g_putI C fi_X4_54 rfl (h39096.at).1 (h39096.at).2 dX4_firstFault_25 ?_
    refine gpW (ks := [3]) (Iy39085.setI (h39096.at) (rgOk.none rfl)) (EK.setI (h39096.at).2 (by decide)) (fun Y39097 Iy39098 Xy39099 w39100 w39101 => ?_)
    have q39102 := Xy39099.keep (h39093.at) (by decide) 5
    have Xz39103 : EK [3, 9] P Y39097 := Xz39087.tr (Xy39099.mono (by decide))
    have e39104 := Xy39099.ref h39088 (by decide) e39092
    have e39105 := Xy39099.ref h39088 (by decide) e39095
    have h39106 := Xy39099.at h39088
    have h39107 := Xy39099.ar h39093
    have h39108 := Xy39099.ar h39096
    refine g_aload_n C dX4_firstFault_28 rfl 1 rfl ?_
    refine g_iconst (v := 2) C dX4_firstFault_29 (by decide) ?_
    refine g_bipush (v := 9) C dX4_firstFault_30 (by decide) ?_
    refine g_callVI (rest := []) C mv_X4_78 [.int 2, .int 9] (s_X4_numberFault Iy39098 h39106) (h39106).1 (h39106).2 rfl rfl (by decide) (Nat.le_of_ble_eq_true rfl) (by decide) dX4_firstFault_32 (fun r39109 Y39110 h39111 => ?_)
    obtain ⟨Iy39112, Xy39113, h39111⟩ := h39111
    have q39114 := Xy39113.keep (h39108.at) (by decide) 3
    have Xz39115 : EK [3, 9] P Y39110 := Xz39103.tr (Xy39113.mono (by decide))
    have e39116 := Xy39113.ref h39106 (by decide) e39105
    have h39117 := Xy39113.at h39106
    have h39118 := Xy39113.ar h39108
    obtain ⟨h39111, hx39119⟩ := h39111
    have h39111 : 0 ≤ r39109.toInt ∧ r39109.toInt ≤ 16005 := h39111
    refine g_istore_n (lv' := [(1, .int r39109), (0, .ref a0)]) C dX4_firstFault_35 rfl (by decide) rfl ?_
    refine g_iload_n C dX4_firstFault_36 rfl 0 rfl ?_
    refine b_if_eq C 42 dX4_firstFault_37 (by decide) (fun h39120 => ?_) (fun h39120 => ?_)
    · have h39120 : r39109.toInt = 0 := congrArg Int32.toInt h39120
      obtain ⟨b39121, e39122, h39123⟩ := Iy39112.fld (h39117) 0 9 0 rfl
      have hx39119 := (hx39119.resolve_left (fun z => z h39120)) b39121 e39122
      have hx39119 : 2 ≤ (pI Y39110 b39121 5).toInt ∧ (pI Y39110 b39121 5).toInt ≤ 9 := hx39119
      refine g_aload_n C dX4_firstFault_42 rfl 1 rfl ?_
      refine g_getR C fi_X4_21 rfl e39116 (h39117).1 (h39117).2 dX4_firstFault_43 ?_
      refine g_aload_n C dX4_firstFault_46 rfl 1 rfl ?_
      refine g_getR C fi_X4_12 rfl e39122 (h39117).1 (h39117).2 dX4_firstFault_47 ?_
      refine g_getI C fi_X4_82 (by decide) (h39123.at).1 (h39123.at).2 dX4_firstFault_50 ?_
      refine g_putI C fi_X4_91 rfl (h39118.at).1 (h39118.at).2 dX4_firstFault_53 ?_
      refine gpW (ks := [3]) (Iy39112.setI (h39118.at) (rgOk.none rfl)) (EK.setI (h39118.at).2 (by decide)) (fun Y39124 Iy39125 Xy39126 w39127 w39128 => ?_)
      have q39129 := w39127 3 (by decide)
      have q39130 := Xy39126.keep (h39123.at) (by decide) 5
      have Xz39131 : EK [3, 9] P Y39124 := Xz39115.tr (Xy39126.mono (by decide))
      have e39132 := Xy39126.ref h39117 (by decide) e39116
      have e39133 := Xy39126.ref h39117 (by decide) e39122
      have h39134 := Xy39126.at h39117
      have h39135 := Xy39126.ar h39118
      have h39136 := Xy39126.ar h39123
      refine g_aload_n C dX4_firstFault_56 rfl 1 rfl ?_
      refine g_callVI (rest := []) C mv_X4_88 [] (s_X4_endFault Iy39125 h39134) (h39134).1 (h39134).2 rfl rfl (by decide) (Nat.le_of_ble_eq_true rfl) (by decide) dX4_firstFault_57 (fun r39137 Y39138 h39139 => ?_)
      obtain ⟨Iy39140, Xy39141, h39139⟩ := h39139
      have q39142 := Xy39141.keep (h39135.at) (by decide) 3
      have q39143 := Xy39141.keep (h39135.at) (by decide) 4
      have Xz39144 : EK [3, 9] P Y39138 := Xz39131.tr (Xy39141.mono (by decide))
      have e39145 := Xy39141.ref h39134 (by decide) e39132
      have h39146 := Xy39141.at h39134
      have h39147 := Xy39141.ar h39135
      have h39139 : 0 ≤ r39137.toInt ∧ r39137.toInt ≤ 16005 := h39139
      exact ret _ _ _ _ _ _ dX4_firstFault_60 rfl (by decide) (by decide) ⟨Iy39140, Xz39144, (by omega)⟩
    · have h39120 : r39109.toInt ≠ 0 := ti_ne h39120
      refine g_iload_n C dX4_firstFault_40 rfl 0 rfl ?_
      exact ret _ _ _ _ _ _ dX4_firstFault_41 rfl (by decide) (by decide) ⟨Iy39112, Xz39115, (by omega)⟩
  · have h39090 : r39082.toInt ≠ 0 := ti_ne h39090
    refine g_iload_n C dX4_firstFault_12 rfl 0 rfl ?_
    exact ret _ _ _ _ _ _ dX4_firstFault_13 rfl (by decide) (by decide) ⟨Iy39085, Xz39087, (by omega)⟩
theorem dX4_init_0 : decode cX4_init 0 = .ok (.aload_n 0, 1) := by decide +kernel
theorem dX4_init_1 : decode cX4_init 1 = .ok (.invokespecial 3, 3) := by decide +kernel
theorem dX4_init_4 : decode cX4_init 4 = .ok (.aload_n 0, 1) := by decide +kernel
theorem dX4_init_5 : decode cX4_init 5 = .ok (.new 9, 3) := by decide +kernel
theorem dX4_oddsFault_0 : decode cX4_oddsFault 0 = .ok (.aload_n 0, 1) := by decide +kernel
theorem dX4_oddsFault_1 : decode cX4_oddsFault 1 = .ok (.iconst 1, 1) := by decide +kernel
theorem dX4_oddsFault_2 : decode cX4_oddsFault 2 = .ok (.bipush 20, 2) := by decide +kernel
theorem dX4_oddsFault_4 : decode cX4_oddsFault 4 = .ok (.invokevirtual 78, 3) := by decide +kernel
theorem dX4_oddsFault_7 : decode cX4_oddsFault 7 = .ok (.istore_n 1, 1) := by decide +kernel
theorem dX4_oddsFault_8 : decode cX4_oddsFault 8 = .ok (.iload_n 1, 1) := by decide +kernel
theorem dX4_oddsFault_9 : decode cX4_oddsFault 9 = .ok (.ifCond .eq 5, 3) := by decide +kernel
theorem dX4_oddsFault_12 : decode cX4_oddsFault 12 = .ok (.iload_n 1, 1) := by decide +kernel
theorem dX4_oddsFault_13 : decode cX4_oddsFault 13 = .ok (.ireturn, 1) := by decide +kernel
theorem dX4_oddsFault_14 : decode cX4_oddsFault 14 = .ok (.aload_n 0, 1) := by decide +kernel
theorem dX4_oddsFault_15 : decode cX4_oddsFault 15 = .ok (.getfield 12, 3) := by decide +kernel
theorem dX4_oddsFault_18 : decode cX4_oddsFault 18 = .ok (.getfield 82, 3) := by decide +kernel
theorem dX4_oddsFault_21 : decode cX4_oddsFault 21 = .ok (.istore_n 2, 1) := by decide +kernel
theorem dX4_oddsFault_22 : decode cX4_oddsFault 22 = .ok (.aload_n 0, 1) := by decide +kernel
theorem dX4_oddsFault_23 : decode cX4_oddsFault 23 = .ok (.getfield 21, 3) := by decide +kernel
theorem dX4_oddsFault_26 : decode cX4_oddsFault 26 = .ok (.getfield 85, 3) := by decide +kernel
theorem dX4_oddsFault_29 : decode cX4_oddsFault 29 = .ok (.iload_n 2, 1) := by decide +kernel
theorem dX4_oddsFault_30 : decode cX4_oddsFault 30 = .ok (.iaload, 1) := by decide +kernel
theorem dX4_oddsFault_31 : decode cX4_oddsFault 31 = .ok (.iconst (-1), 1) := by decide +kernel
theorem dX4_oddsFault_32 : decode cX4_oddsFault 32 = .ok (.if_icmp .eq 9, 3) := by decide +kernel
theorem dX4_oddsFault_35 : decode cX4_oddsFault 35 = .ok (.aload_n 0, 1) := by decide +kernel
theorem dX4_oddsFault_36 : decode cX4_oddsFault 36 = .ok (.iconst 3, 1) := by decide +kernel
theorem dX4_oddsFault_37 : decode cX4_oddsFault 37 = .ok (.invokevirtual 57, 3) := by decide +kernel
theorem dX4_oddsFault_40 : decode cX4_oddsFault 40 = .ok (.ireturn, 1) := by decide +kernel
theorem dX4_oddsFault_41 : decode cX4_oddsFault 41 = .ok (.aload_n 0, 1) := by decide +kernel
theorem dX4_oddsFault_42 : decode cX4_oddsFault 42 = .ok (.iconst 0, 1) := by decide +kernel
theorem dX4_oddsFault_43 : decode cX4_oddsFault 43 = .ok (.sipush 999, 3) := by decide +kernel
theorem dX4_oddsFault_46 : decode cX4_oddsFault 46 = .ok (.invokevirtual 78, 3) := by decide +kernel
theorem dX4_oddsFault_49 : decode cX4_oddsFault 49 = .ok (.istore_n 1, 1) := by decide +kernel
theorem dX4_oddsFault_50 : decode cX4_oddsFault 50 = .ok (.iload_n 1, 1) := by decide +kernel
theorem dX4_oddsFault_51 : decode cX4_oddsFault 51 = .ok (.ifCond .eq 5, 3) := by decide +kernel
theorem dX4_oddsFault_54 : decode cX4_oddsFault 54 = .ok (.iload_n 1, 1) := by decide +kernel
theorem dX4_oddsFault_55 : decode cX4_oddsFault 55 = .ok (.ireturn, 1) := by decide +kernel
theorem dX4_oddsFault_56 : decode cX4_oddsFault 56 = .ok (.aload_n 0, 1) := by decide +kernel
theorem dX4_oddsFault_57 : decode cX4_oddsFault 57 = .ok (.getfield 21, 3) := by decide +kernel
theorem dX4_oddsFault_60 : decode cX4_oddsFault 60 = .ok (.getfield 85, 3) := by decide +kernel
theorem dX4_oddsFault_63 : decode cX4_oddsFault 63 = .ok (.iload_n 2, 1) := by decide +kernel
theorem dX4_oddsFault_64 : decode cX4_oddsFault 64 = .ok (.aload_n 0, 1) := by decide +kernel
theorem dX4_oddsFault_65 : decode cX4_oddsFault 65 = .ok (.getfield 12, 3) := by decide +kernel
theorem dX4_oddsFault_68 : decode cX4_oddsFault 68 = .ok (.getfield 82, 3) := by decide +kernel
theorem dX4_oddsFault_71 : decode cX4_oddsFault 71 = .ok (.iastore, 1) := by decide +kernel
theorem dX4_oddsFault_72 : decode cX4_oddsFault 72 = .ok (.aload_n 0, 1) := by decide +kernel
theorem dX4_oddsFault_73 : decode cX4_oddsFault 73 = .ok (.invokevirtual 88, 3) := by decide +kernel
theorem dX4_oddsFault_76 : decode cX4_oddsFault 76 = .ok (.ireturn, 1) := by decide +kernel
set_option maxHeartbeats 4000000 in
set_option maxRecDepth 100000 in
theorem s_X4_oddsFault {P : PP} {a0 : Nat} (I : IV P) (ha0 : At P a0 4) : CtrI yX4_oddsFault cX4_oddsFault 3 (some Jvm.ClassFile.FieldType.int) ({ frames := 4, cells := 0, slots := 0, locals := 256 } : Room) 0 0 P [.ref a0] (fun r P2 => IV P2 ∧ EK [9, 13] P P2 ∧ (0 ≤ r.toInt ∧ r.toInt ≤ 16005)) := by
  refine enI (lv := [(0, .ref a0)]) (by decide) (Nat.le_of_ble_eq_true rfl) rfl (fun E D cy C Ci0 ret => ?_)
  refine g_aload_n C dX4_oddsFault_0 rfl 0 rfl ?_
  refine g_iconst (v := 1) C dX4_oddsFault_1 (by decide) ?_
  refine g_bipush (v := 20) C dX4_oddsFault_2 (by decide) ?_
  refine g_callVI (rest := []) C mv_X4_78 [.int 1, .int 20] (s_X4_numberFault I ha0) (ha0).1 (ha0).2 rfl rfl (by decide) (Nat.le_of_ble_eq_true rfl) (by decide) dX4_oddsFault_4 (fun r39207 Y39208 h39209 => ?_)
  obtain ⟨Iy39210, Xy39211, h39209⟩ := h39209
  have Xz39212 : EK [9, 13] P Y39208 := Xy39211.mono (by decide)
  have h39213 := Xy39211.at ha0
  obtain ⟨h39209, hx39214⟩ := h39209
  have h39209 : 0 ≤ r39207.toInt ∧ r39207.toInt ≤ 16005 := h39209
  refine g_istore_n (lv' := [(1, .int r39207), (0, .ref a0)]) C dX4_oddsFault_7 rfl (by decide) rfl ?_
  refine g_iload_n C dX4_oddsFault_8 rfl 0 rfl ?_
  refine b_if_eq C 14 dX4_oddsFault_9 (by decide) (fun h39215 => ?_) (fun h39215 => ?_)
  · have h39215 : r39207.toInt = 0 := congrArg Int32.toInt h39215
    obtain ⟨b39216, e39217, h39218⟩ := Iy39210.fld (h39213) 0 9 0 rfl
    have hx39214 := (hx39214.resolve_left (fun z => z h39215)) b39216 e39217
    have hx39214 : 1 ≤ (pI Y39208 b39216 5).toInt ∧ (pI Y39208 b39216 5).toInt ≤ 20 := hx39214
    refine g_aload_n C dX4_oddsFault_14 rfl 1 rfl ?_
    refine g_getR C fi_X4_12 rfl e39217 (h39213).1 (h39213).2 dX4_oddsFault_15 ?_
    refine g_getI C fi_X4_82 (by decide) (h39218.at).1 (h39218.at).2 dX4_oddsFault_18 ?_
    refine g_topi (fun z39219 h39220 => ?_)
    have h39220 : z39219.toInt = (pI Y39208 b39216 5).toInt := congrArg Int32.toInt h39220
    refine g_istore_n (lv' := [(2, .int z39219), (1, .int r39207), (0, .ref a0)]) C dX4_oddsFault_21 rfl (by decide) rfl ?_
    refine g_aload_n C dX4_oddsFault_22 rfl 2 rfl ?_
    obtain ⟨b39221, e39222, h39223⟩ := Iy39210.fld (h39213) 1 3 0 rfl
    refine g_getR C fi_X4_21 rfl e39222 (h39213).1 (h39213).2 dX4_oddsFault_23 ?_
    obtain ⟨b39224, e39225, h39226⟩ := Iy39210.fld (h39223.at) 0 13 21 rfl
    refine g_getR C fi_X4_85 rfl e39225 (h39223.at).1 (h39223.at).2 dX4_oddsFault_26 ?_
    refine g_iload_n C dX4_oddsFault_29 rfl 0 rfl ?_
    refine g_iald (j := (z39219.toInt.toNat)) C h39226.1 h39226.2.1 (ix_in h39226.2.2 (by omega)) dX4_oddsFault_30 ?_
    refine g_topi (fun z39227 _ => ?_)
    refine g_iconst (v := (-1)) C dX4_oddsFault_31 (by decide) ?_
    have u39229 := ti_rng z39227
    refine b_icmp_eq C 41 dX4_oddsFault_32 (by decide) (fun h39228 => ?_) (fun h39228 => ?_)
    · have h39228 : z39227.toInt = (-1) := congrArg Int32.toInt h39228
      refine g_aload_n C dX4_oddsFault_41 rfl 2 rfl ?_
      refine g_iconst (v := 0) C dX4_oddsFault_42 (by decide) ?_
      refine g_sipush (v := 999) C dX4_oddsFault_43 (by decide) ?_
      refine g_callVI (rest := []) C mv_X4_78 [.int 0, .int 999] (s_X4_numberFault Iy39210 h39213) (h39213).1 (h39213).2 rfl rfl (by decide) (Nat.le_of_ble_eq_true rfl) (by decide) dX4_oddsFault_46 (fun r39230 Y39231 h39232 => ?_)
      obtain ⟨Iy39233, Xy39234, h39232⟩ := h39232
      have Xz39235 : EK [9, 13] P Y39231 := Xz39212.tr (Xy39234.mono (by decide))
      have h39236 := Xy39234.at h39213
      obtain ⟨h39232, hx39237⟩ := h39232
      have h39232 : 0 ≤ r39230.toInt ∧ r39230.toInt ≤ 16005 := h39232
      refine g_istore_n (lv' := [(1, .int r39230), (2, .int z39219), (0, .ref a0)]) C dX4_oddsFault_49 rfl (by decide) rfl ?_
      refine g_iload_n C dX4_oddsFault_50 rfl 0 rfl ?_
      refine b_if_eq C 56 dX4_oddsFault_51 (by decide) (fun h39238 => ?_) (fun h39238 => ?_)
      · have h39238 : r39230.toInt = 0 := congrArg Int32.toInt h39238
        obtain ⟨b39239, e39240, h39241⟩ := Iy39233.fld (h39236) 0 9 0 rfl
        have hx39237 := (hx39237.resolve_left (fun z => z h39238)) b39239 e39240
        have hx39237 : 0 ≤ (pI Y39231 b39239 5).toInt ∧ (pI Y39231 b39239 5).toInt ≤ 999 := hx39237
        refine g_aload_n C dX4_oddsFault_56 rfl 2 rfl ?_
        obtain ⟨b39242, e39243, h39244⟩ := Iy39233.fld (h39236) 1 3 0 rfl
        refine g_getR C fi_X4_21 rfl e39243 (h39236).1 (h39236).2 dX4_oddsFault_57 ?_
        obtain ⟨b39245, e39246, h39247⟩ := Iy39233.fld (h39244.at) 0 13 21 rfl
        refine g_getR C fi_X4_85 rfl e39246 (h39244.at).1 (h39244.at).2 dX4_oddsFault_60 ?_
        refine g_iload_n C dX4_oddsFault_63 rfl 1 rfl ?_
        refine g_aload_n C dX4_oddsFault_64 rfl 2 rfl ?_
        refine g_getR C fi_X4_12 rfl e39240 (h39236).1 (h39236).2 dX4_oddsFault_65 ?_
        refine g_getI C fi_X4_82 (by decide) (h39241.at).1 (h39241.at).2 dX4_oddsFault_68 ?_
        refine g_iast (j := (z39219.toInt.toNat)) C h39247.1 h39247.2.1 (ix_in h39247.2.2 (by omega)) dX4_oddsFault_71 ?_
        refine gp (ks := [13]) (Iy39233.setA h39247 (by decide)) (EK.setI h39247.2.1 (by decide)) (fun Y39248 Iy39249 Xy39250 => ?_)
        have q39251 := Xy39250.keep (h39241.at) (by decide) 5
        have Xz39252 : EK [9, 13] P Y39248 := Xz39235.tr (Xy39250.mono (by decide))
        have e39253 := Xy39250.ref h39236 (by decide) e39240
        have h39254 := Xy39250.at h39236
        have h39255 := Xy39250.ar h39241
        refine g_aload_n C dX4_oddsFault_72 rfl 2 rfl ?_
        refine g_callVI (rest := []) C mv_X4_88 [] (s_X4_endFault Iy39249 h39254) (h39254).1 (h39254).2 rfl rfl (by decide) (Nat.le_of_ble_eq_true rfl) (by decide) dX4_oddsFault_73 (fun r39256 Y39257 h39258 => ?_)
        obtain ⟨Iy39259, Xy39260, h39258⟩ := h39258
        have Xz39261 : EK [9, 13] P Y39257 := Xz39252.tr (Xy39260.mono (by decide))
        have h39262 := Xy39260.at h39254
        have h39258 : 0 ≤ r39256.toInt ∧ r39256.toInt ≤ 16005 := h39258
        exact ret _ _ _ _ _ _ dX4_oddsFault_76 rfl (by decide) (by decide) ⟨Iy39259, Xz39261, (by omega)⟩
      · have h39238 : r39230.toInt ≠ 0 := ti_ne h39238
        refine g_iload_n C dX4_oddsFault_54 rfl 0 rfl ?_
        exact ret _ _ _ _ _ _ dX4_oddsFault_55 rfl (by decide) (by decide) ⟨Iy39233, Xz39235, (by omega)⟩
    · have h39228 : z39227.toInt ≠ (-1) := ti_ne h39228
      refine g_aload_n C dX4_oddsFault_35 rfl 2 rfl ?_
      refine g_iconst (v := 3) C dX4_oddsFault_36 (by decide) ?_
      refine g_callVI (rest := []) C mv_X4_57 [.int 3] (s_X4_wrong Iy39210 h39213 (by decide)) (h39213).1 (h39213).2 rfl rfl (by decide) (Nat.le_of_ble_eq_true rfl) (by decide) dX4_oddsFault_37 (fun r39263 Y39264 h39265 => ?_)
      obtain ⟨rfl, h39265⟩ := h39265
      have h39265 : 1 ≤ r39263.toInt ∧ r39263.toInt ≤ 16005 := h39265
      exact ret _ _ _ _ _ _ dX4_oddsFault_40 rfl (by decide) (by decide) ⟨Iy39210, Xz39212, (by omega)⟩
  · have h39215 : r39207.toInt ≠ 0 := ti_ne h39215
    refine g_iload_n C dX4_oddsFault_12 rfl 0 rfl ?_
    exact ret _ _ _ _ _ _ dX4_oddsFault_13 rfl (by decide) (by decide) ⟨Iy39210, Xz39212, (by omega)⟩
theorem dX4_sealFault_0 : decode cX4_sealFault 0 = .ok (.aload_n 0, 1) := by decide +kernel
theorem dX4_sealFault_1 : decode cX4_sealFault 1 = .ok (.iconst 1, 1) := by decide +kernel
theorem dX4_sealFault_2 : decode cX4_sealFault 2 = .ok (.sipush 996, 3) := by decide +kernel
theorem dX4_sealFault_5 : decode cX4_sealFault 5 = .ok (.invokevirtual 78, 3) := by decide +kernel
theorem dX4_sealFault_8 : decode cX4_sealFault 8 = .ok (.istore_n 1, 1) := by decide +kernel
theorem dX4_sealFault_9 : decode cX4_sealFault 9 = .ok (.iload_n 1, 1) := by decide +kernel
theorem dX4_sealFault_10 : decode cX4_sealFault 10 = .ok (.ifCond .eq 5, 3) := by decide +kernel
theorem dX4_sealFault_13 : decode cX4_sealFault 13 = .ok (.iload_n 1, 1) := by decide +kernel
theorem dX4_sealFault_14 : decode cX4_sealFault 14 = .ok (.ireturn, 1) := by decide +kernel
theorem dX4_sealFault_15 : decode cX4_sealFault 15 = .ok (.aload_n 0, 1) := by decide +kernel
theorem dX4_sealFault_16 : decode cX4_sealFault 16 = .ok (.getfield 21, 3) := by decide +kernel
theorem dX4_sealFault_19 : decode cX4_sealFault 19 = .ok (.aload_n 0, 1) := by decide +kernel
theorem dX4_sealFault_20 : decode cX4_sealFault 20 = .ok (.getfield 12, 3) := by decide +kernel
theorem dX4_sealFault_23 : decode cX4_sealFault 23 = .ok (.getfield 82, 3) := by decide +kernel
theorem dX4_sealFault_26 : decode cX4_sealFault 26 = .ok (.putfield 73, 3) := by decide +kernel
theorem dX4_sealFault_29 : decode cX4_sealFault 29 = .ok (.aload_n 0, 1) := by decide +kernel
theorem dX4_sealFault_30 : decode cX4_sealFault 30 = .ok (.invokevirtual 88, 3) := by decide +kernel
theorem dX4_sealFault_33 : decode cX4_sealFault 33 = .ok (.ireturn, 1) := by decide +kernel
set_option maxHeartbeats 4000000 in
set_option maxRecDepth 100000 in
theorem s_X4_sealFault {P : PP} {a0 : Nat} (I : IV P) (ha0 : At P a0 4) : CtrI yX4_sealFault cX4_sealFault 2 (some Jvm.ClassFile.FieldType.int) ({ frames := 4, cells := 0, slots := 0, locals := 256 } : Room) 0 0 P [.ref a0] (fun r P2 => IV P2 ∧ EK [3, 9] P P2 ∧ (0 ≤ r.toInt ∧ r.toInt ≤ 16005)) := by
  refine enI (lv := [(0, .ref a0)]) (by decide) (Nat.le_of_ble_eq_true rfl) rfl (fun E D cy C Ci0 ret => ?_)
  refine g_aload_n C dX4_sealFault_0 rfl 0 rfl ?_
  refine g_iconst (v := 1) C dX4_sealFault_1 (by decide) ?_
  refine g_sipush (v := 996) C dX4_sealFault_2 (by decide) ?_
  refine g_callVI (rest := []) C mv_X4_78 [.int 1, .int 996] (s_X4_numberFault I ha0) (ha0).1 (ha0).2 rfl rfl (by decide) (Nat.le_of_ble_eq_true rfl) (by decide) dX4_sealFault_5 (fun r39303 Y39304 h39305 => ?_)
  obtain ⟨Iy39306, Xy39307, h39305⟩ := h39305
  have Xz39308 : EK [3, 9] P Y39304 := Xy39307.mono (by decide)
  have h39309 := Xy39307.at ha0
  obtain ⟨h39305, hx39310⟩ := h39305
  have h39305 : 0 ≤ r39303.toInt ∧ r39303.toInt ≤ 16005 := h39305
  refine g_istore_n (lv' := [(1, .int r39303), (0, .ref a0)]) C dX4_sealFault_8 rfl (by decide) rfl ?_
  refine g_iload_n C dX4_sealFault_9 rfl 0 rfl ?_
  refine b_if_eq C 15 dX4_sealFault_10 (by decide) (fun h39311 => ?_) (fun h39311 => ?_)
  · have h39311 : r39303.toInt = 0 := congrArg Int32.toInt h39311
    obtain ⟨b39312, e39313, h39314⟩ := Iy39306.fld (h39309) 0 9 0 rfl
    have hx39310 := (hx39310.resolve_left (fun z => z h39311)) b39312 e39313
    have hx39310 : 1 ≤ (pI Y39304 b39312 5).toInt ∧ (pI Y39304 b39312 5).toInt ≤ 996 := hx39310
    refine g_aload_n C dX4_sealFault_15 rfl 1 rfl ?_
    obtain ⟨b39315, e39316, h39317⟩ := Iy39306.fld (h39309) 1 3 0 rfl
    refine g_getR C fi_X4_21 rfl e39316 (h39309).1 (h39309).2 dX4_sealFault_16 ?_
    refine g_aload_n C dX4_sealFault_19 rfl 1 rfl ?_
    refine g_getR C fi_X4_12 rfl e39313 (h39309).1 (h39309).2 dX4_sealFault_20 ?_
    refine g_getI C fi_X4_82 (by decide) (h39314.at).1 (h39314.at).2 dX4_sealFault_23 ?_
    refine g_putI C fi_X4_73 rfl (h39317.at).1 (h39317.at).2 dX4_sealFault_26 ?_
    refine gpW (ks := [3]) (Iy39306.setI (h39317.at) (rgOk.none rfl)) (EK.setI (h39317.at).2 (by decide)) (fun Y39318 Iy39319 Xy39320 w39321 w39322 => ?_)
    have q39323 := Xy39320.keep (h39314.at) (by decide) 5
    have Xz39324 : EK [3, 9] P Y39318 := Xz39308.tr (Xy39320.mono (by decide))
    have e39325 := Xy39320.ref h39309 (by decide) e39313
    have e39326 := Xy39320.ref h39309 (by decide) e39316
    have h39327 := Xy39320.at h39309
    have h39328 := Xy39320.ar h39314
    have h39329 := Xy39320.ar h39317
    refine g_aload_n C dX4_sealFault_29 rfl 1 rfl ?_
    refine g_callVI (rest := []) C mv_X4_88 [] (s_X4_endFault Iy39319 h39327) (h39327).1 (h39327).2 rfl rfl (by decide) (Nat.le_of_ble_eq_true rfl) (by decide) dX4_sealFault_30 (fun r39330 Y39331 h39332 => ?_)
    obtain ⟨Iy39333, Xy39334, h39332⟩ := h39332
    have q39335 := Xy39334.keep (h39329.at) (by decide) 5
    have Xz39336 : EK [3, 9] P Y39331 := Xz39324.tr (Xy39334.mono (by decide))
    have e39337 := Xy39334.ref h39327 (by decide) e39326
    have h39338 := Xy39334.at h39327
    have h39339 := Xy39334.ar h39329
    have h39332 : 0 ≤ r39330.toInt ∧ r39330.toInt ≤ 16005 := h39332
    exact ret _ _ _ _ _ _ dX4_sealFault_33 rfl (by decide) (by decide) ⟨Iy39333, Xz39336, (by omega)⟩
  · have h39311 : r39303.toInt ≠ 0 := ti_ne h39311
    refine g_iload_n C dX4_sealFault_13 rfl 0 rfl ?_
    exact ret _ _ _ _ _ _ dX4_sealFault_14 rfl (by decide) (by decide) ⟨Iy39306, Xz39308, (by omega)⟩
theorem dX4_sumFault_0 : decode cX4_sumFault 0 = .ok (.iconst 0, 1) := by decide +kernel
theorem dX4_sumFault_1 : decode cX4_sumFault 1 = .ok (.istore_n 2, 1) := by decide +kernel
theorem dX4_sumFault_2 : decode cX4_sumFault 2 = .ok (.iconst 0, 1) := by decide +kernel
theorem dX4_sumFault_3 : decode cX4_sumFault 3 = .ok (.istore_n 3, 1) := by decide +kernel
theorem dX4_sumFault_4 : decode cX4_sumFault 4 = .ok (.iload_n 3, 1) := by decide +kernel
theorem dX4_sumFault_5 : decode cX4_sumFault 5 = .ok (.bipush 16, 2) := by decide +kernel
theorem dX4_sumFault_7 : decode cX4_sumFault 7 = .ok (.if_icmp .gt 129, 3) := by decide +kernel
theorem dX4_sumFault_10 : decode cX4_sumFault 10 = .ok (.aload_n 0, 1) := by decide +kernel
theorem dX4_sumFault_11 : decode cX4_sumFault 11 = .ok (.getfield 12, 3) := by decide +kernel
theorem dX4_sumFault_14 : decode cX4_sumFault 14 = .ok (.invokevirtual 31, 3) := by decide +kernel
theorem dX4_sumFault_17 : decode cX4_sumFault 17 = .ok (.aload_n 0, 1) := by decide +kernel
theorem dX4_sumFault_18 : decode cX4_sumFault 18 = .ok (.getfield 12, 3) := by decide +kernel
theorem dX4_sumFault_21 : decode cX4_sumFault 21 = .ok (.getfield 34, 3) := by decide +kernel
theorem dX4_sumFault_24 : decode cX4_sumFault 24 = .ok (.iconst 3, 1) := by decide +kernel
theorem dX4_sumFault_25 : decode cX4_sumFault 25 = .ok (.if_icmp .ne 39, 3) := by decide +kernel
theorem dX4_sumFault_28 : decode cX4_sumFault 28 = .ok (.iload_n 3, 1) := by decide +kernel
theorem dX4_sumFault_29 : decode cX4_sumFault 29 = .ok (.iconst 2, 1) := by decide +kernel
theorem dX4_sumFault_30 : decode cX4_sumFault 30 = .ok (.if_icmp .lt 34, 3) := by decide +kernel
theorem dX4_sumFault_33 : decode cX4_sumFault 33 = .ok (.aload_n 0, 1) := by decide +kernel
theorem dX4_sumFault_34 : decode cX4_sumFault 34 = .ok (.getfield 21, 3) := by decide +kernel
theorem dX4_sumFault_37 : decode cX4_sumFault 37 = .ok (.getfield 94, 3) := by decide +kernel
theorem dX4_sumFault_40 : decode cX4_sumFault 40 = .ok (.aload_n 0, 1) := by decide +kernel
theorem dX4_sumFault_41 : decode cX4_sumFault 41 = .ok (.getfield 21, 3) := by decide +kernel
theorem dX4_sumFault_44 : decode cX4_sumFault 44 = .ok (.getfield 65, 3) := by decide +kernel
theorem dX4_sumFault_47 : decode cX4_sumFault 47 = .ok (.iload_n 2, 1) := by decide +kernel
theorem dX4_sumFault_48 : decode cX4_sumFault 48 = .ok (.iastore, 1) := by decide +kernel
theorem dX4_sumFault_49 : decode cX4_sumFault 49 = .ok (.aload_n 0, 1) := by decide +kernel
theorem dX4_sumFault_50 : decode cX4_sumFault 50 = .ok (.getfield 21, 3) := by decide +kernel
theorem dX4_sumFault_53 : decode cX4_sumFault 53 = .ok (.dup, 1) := by decide +kernel
theorem dX4_sumFault_54 : decode cX4_sumFault 54 = .ok (.getfield 65, 3) := by decide +kernel
theorem dX4_sumFault_57 : decode cX4_sumFault 57 = .ok (.iconst 1, 1) := by decide +kernel
theorem dX4_sumFault_58 : decode cX4_sumFault 58 = .ok (.iadd, 1) := by decide +kernel
theorem dX4_sumFault_59 : decode cX4_sumFault 59 = .ok (.putfield 65, 3) := by decide +kernel
theorem dX4_sumFault_62 : decode cX4_sumFault 62 = .ok (.iconst 0, 1) := by decide +kernel
theorem dX4_sumFault_63 : decode cX4_sumFault 63 = .ok (.ireturn, 1) := by decide +kernel
theorem dX4_sumFault_64 : decode cX4_sumFault 64 = .ok (.aload_n 0, 1) := by decide +kernel
theorem dX4_sumFault_65 : decode cX4_sumFault 65 = .ok (.getfield 12, 3) := by decide +kernel
theorem dX4_sumFault_68 : decode cX4_sumFault 68 = .ok (.getfield 34, 3) := by decide +kernel
theorem dX4_sumFault_71 : decode cX4_sumFault 71 = .ok (.iconst 2, 1) := by decide +kernel
theorem dX4_sumFault_72 : decode cX4_sumFault 72 = .ok (.if_icmp .eq 9, 3) := by decide +kernel
theorem dX4_sumFault_75 : decode cX4_sumFault 75 = .ok (.aload_n 0, 1) := by decide +kernel
theorem dX4_sumFault_76 : decode cX4_sumFault 76 = .ok (.iconst 1, 1) := by decide +kernel
theorem dX4_sumFault_77 : decode cX4_sumFault 77 = .ok (.invokevirtual 57, 3) := by decide +kernel
theorem dX4_sumFault_80 : decode cX4_sumFault 80 = .ok (.ireturn, 1) := by decide +kernel
theorem dX4_sumFault_81 : decode cX4_sumFault 81 = .ok (.aload_n 0, 1) := by decide +kernel
theorem dX4_sumFault_82 : decode cX4_sumFault 82 = .ok (.getfield 12, 3) := by decide +kernel
theorem dX4_sumFault_85 : decode cX4_sumFault 85 = .ok (.getfield 82, 3) := by decide +kernel
theorem dX4_sumFault_88 : decode cX4_sumFault 88 = .ok (.iload_n 1, 1) := by decide +kernel
theorem dX4_sumFault_89 : decode cX4_sumFault 89 = .ok (.if_icmp .lt 9, 3) := by decide +kernel
theorem dX4_sumFault_92 : decode cX4_sumFault 92 = .ok (.aload_n 0, 1) := by decide +kernel
theorem dX4_sumFault_93 : decode cX4_sumFault 93 = .ok (.iconst 4, 1) := by decide +kernel
theorem dX4_sumFault_94 : decode cX4_sumFault 94 = .ok (.invokevirtual 57, 3) := by decide +kernel
theorem dX4_sumFault_97 : decode cX4_sumFault 97 = .ok (.ireturn, 1) := by decide +kernel
theorem dX4_sumFault_98 : decode cX4_sumFault 98 = .ok (.iload_n 2, 1) := by decide +kernel
theorem dX4_sumFault_99 : decode cX4_sumFault 99 = .ok (.aload_n 0, 1) := by decide +kernel
theorem dX4_sumFault_100 : decode cX4_sumFault 100 = .ok (.getfield 12, 3) := by decide +kernel
theorem dX4_sumFault_103 : decode cX4_sumFault 103 = .ok (.getfield 82, 3) := by decide +kernel
theorem dX4_sumFault_106 : decode cX4_sumFault 106 = .ok (.ishr, 1) := by decide +kernel
theorem dX4_sumFault_107 : decode cX4_sumFault 107 = .ok (.iconst 1, 1) := by decide +kernel
theorem dX4_sumFault_108 : decode cX4_sumFault 108 = .ok (.iand, 1) := by decide +kernel
theorem dX4_sumFault_109 : decode cX4_sumFault 109 = .ok (.ifCond .eq 9, 3) := by decide +kernel
theorem dX4_sumFault_112 : decode cX4_sumFault 112 = .ok (.aload_n 0, 1) := by decide +kernel
theorem dX4_sumFault_113 : decode cX4_sumFault 113 = .ok (.iconst 3, 1) := by decide +kernel
theorem dX4_sumFault_114 : decode cX4_sumFault 114 = .ok (.invokevirtual 57, 3) := by decide +kernel
theorem dX4_sumFault_117 : decode cX4_sumFault 117 = .ok (.ireturn, 1) := by decide +kernel
theorem dX4_sumFault_118 : decode cX4_sumFault 118 = .ok (.iload_n 2, 1) := by decide +kernel
theorem dX4_sumFault_119 : decode cX4_sumFault 119 = .ok (.iconst 1, 1) := by decide +kernel
theorem dX4_sumFault_120 : decode cX4_sumFault 120 = .ok (.aload_n 0, 1) := by decide +kernel
theorem dX4_sumFault_121 : decode cX4_sumFault 121 = .ok (.getfield 12, 3) := by decide +kernel
theorem dX4_sumFault_124 : decode cX4_sumFault 124 = .ok (.getfield 82, 3) := by decide +kernel
theorem dX4_sumFault_127 : decode cX4_sumFault 127 = .ok (.ishl, 1) := by decide +kernel
theorem dX4_sumFault_128 : decode cX4_sumFault 128 = .ok (.ior, 1) := by decide +kernel
theorem dX4_sumFault_129 : decode cX4_sumFault 129 = .ok (.istore_n 2, 1) := by decide +kernel
theorem dX4_sumFault_130 : decode cX4_sumFault 130 = .ok (.iinc 3 1, 3) := by decide +kernel
theorem dX4_sumFault_133 : decode cX4_sumFault 133 = .ok (.goto (-129), 3) := by decide +kernel
theorem dX4_sumFault_136 : decode cX4_sumFault 136 = .ok (.aload_n 0, 1) := by decide +kernel
theorem dX4_sumFault_137 : decode cX4_sumFault 137 = .ok (.iconst 1, 1) := by decide +kernel
theorem dX4_sumFault_138 : decode cX4_sumFault 138 = .ok (.invokevirtual 57, 3) := by decide +kernel
theorem dX4_sumFault_141 : decode cX4_sumFault 141 = .ok (.ireturn, 1) := by decide +kernel
set_option maxHeartbeats 4000000 in
set_option maxRecDepth 100000 in
theorem s_X4_sumFault {P : PP} {a0 : Nat} {a1 : Int32} (I : IV P) (ha0 : At P a0 4) (hf0 : ∀ b, pR P a0 1 = some b → 0 ≤ (pI P b 2).toInt ∧ (pI P b 2).toInt ≤ 3) : CtrI yX4_sumFault cX4_sumFault 4 (some Jvm.ClassFile.FieldType.int) ({ frames := 3, cells := 0, slots := 0, locals := 192 } : Room) 0 0 P [.ref a0, .int a1] (fun r P2 => IV P2 ∧ EK [3, 9, 13] P P2 ∧ (0 ≤ r.toInt ∧ r.toInt ≤ 16005)) := by
  refine enI (lv := [(0, .ref a0), (1, .int a1)]) (by decide) (Nat.le_of_ble_eq_true rfl) rfl (fun E D cy C Ci0 ret => ?_)
  have J4 : ∀ (n4 : Nat) (P4 : PP) (v4_2 : Int32) (v4_3 : Int32), (17 - v4_3.toInt).toNat < n4 → (IV P4) → (EK [3, 9, 13] P P4) → (0 ≤ v4_3.toInt ∧ v4_3.toInt ≤ 17) → (∀ b, pR P4 a0 1 = some b → 0 ≤ (pI P4 b 2).toInt ∧ (pI P4 b 2).toInt ≤ 3) → G E ({ frames := 3, cells := 0, slots := 0, locals := 192 } : Room) D cy 4 P4 0 0 4 [(0, .ref a0), (1, .int a1), (2, .int v4_2), (3, .int v4_3)] [] := by
    intro n4
    induction n4 with
    | zero => intro P4 v4_2 v4_3 hm4 I4 X4 hv4_3 hq4_0; omega
    | succ n4 ih4 =>
      intro P4 v4_2 v4_3 hm4 I4 X4 hv4_3 hq4_0
      have h40265 := X4.at ha0
      obtain ⟨b40266, e40267, h40268⟩ := I4.fld (h40265) 1 3 0 rfl
      have hq4_0 := hq4_0 b40266 e40267
      have J64 : ∀ (P64 : PP), (IV P64) → (EK [3, 9, 13] P P64) → (0 ≤ v4_3.toInt ∧ v4_3.toInt ≤ 16) → (∀ b, pR P64 a0 1 = some b → 0 ≤ (pI P64 b 2).toInt ∧ (pI P64 b 2).toInt ≤ 3) → G E ({ frames := 3, cells := 0, slots := 0, locals := 192 } : Room) D cy 4 P64 0 0 64 [(0, .ref a0), (1, .int a1), (2, .int v4_2), (3, .int v4_3)] [] := by
        intro P64 I64 X64 hv64_3 hq64_0
        have h40269 := X64.at ha0
        obtain ⟨b40270, e40271, h40272⟩ := I64.fld (h40269) 1 3 0 rfl
        have hq64_0 := hq64_0 b40270 e40271
        refine g_aload_n C dX4_sumFault_64 rfl 0 rfl ?_
        obtain ⟨b40273, e40274, h40275⟩ := I64.fld (h40269) 0 9 0 rfl
        refine g_getR C fi_X4_12 rfl e40274 (h40269).1 (h40269).2 dX4_sumFault_65 ?_
        refine g_getI C fi_X4_34 (by decide) (h40275.at).1 (h40275.at).2 dX4_sumFault_68 ?_
        refine g_iconst (v := 2) C dX4_sumFault_71 (by decide) ?_
        have u40277 := ti_rng (pI P64 b40273 2)
        refine b_icmp_eq C 81 dX4_sumFault_72 (by decide) (fun h40276 => ?_) (fun h40276 => ?_)
        · have h40276 : (pI P64 b40273 2).toInt = 2 := congrArg Int32.toInt h40276
          refine g_aload_n C dX4_sumFault_81 rfl 0 rfl ?_
          refine g_getR C fi_X4_12 rfl e40274 (h40269).1 (h40269).2 dX4_sumFault_82 ?_
          refine g_getI C fi_X4_82 (by decide) (h40275.at).1 (h40275.at).2 dX4_sumFault_85 ?_
          refine g_iload_n C dX4_sumFault_88 rfl 1 rfl ?_
          have u40279 := ti_rng (pI P64 b40273 5)
          have u40280 := ti_rng a1
          refine b_icmp_lt C 98 dX4_sumFault_89 (by decide) (fun h40278 => ?_) (fun h40278 => ?_)
          · have h40278 : (pI P64 b40273 5).toInt < a1.toInt := h40278
            refine g_iload_n C dX4_sumFault_98 rfl 2 rfl ?_
            refine g_aload_n C dX4_sumFault_99 rfl 0 rfl ?_
            refine g_getR C fi_X4_12 rfl e40274 (h40269).1 (h40269).2 dX4_sumFault_100 ?_
            refine g_getI C fi_X4_82 (by decide) (h40275.at).1 (h40275.at).2 dX4_sumFault_103 ?_
            refine a_ishr C dX4_sumFault_106 (fun z40281 => ?_)
            refine g_iconst (v := 1) C dX4_sumFault_107 (by decide) ?_
            refine s_iand C dX4_sumFault_108 (by show 0 ≤ 1; omega) (fun z40283 h40284 => ?_)
            have h40284 : 0 ≤ z40283.toInt ∧ z40283.toInt ≤ 1 := h40284
            refine b_if_eq C 118 dX4_sumFault_109 (by decide) (fun h40285 => ?_) (fun h40285 => ?_)
            · have h40285 : z40283.toInt = 0 := congrArg Int32.toInt h40285
              refine g_iload_n C dX4_sumFault_118 rfl 2 rfl ?_
              refine g_iconst (v := 1) C dX4_sumFault_119 (by decide) ?_
              refine g_aload_n C dX4_sumFault_120 rfl 0 rfl ?_
              refine g_getR C fi_X4_12 rfl e40274 (h40269).1 (h40269).2 dX4_sumFault_121 ?_
              refine g_getI C fi_X4_82 (by decide) (h40275.at).1 (h40275.at).2 dX4_sumFault_124 ?_
              refine a_ishl C dX4_sumFault_127 (fun z40286 => ?_)
              refine a_ior C dX4_sumFault_128 (fun z40288 => ?_)
              refine g_istore_n (lv' := [(2, .int z40288), (0, .ref a0), (1, .int a1), (3, .int v4_3)]) C dX4_sumFault_129 rfl (by decide) rfl ?_
              refine s_iinc (lv0 := [(2, .int z40288), (0, .ref a0), (1, .int a1)]) (m := 1) C dX4_sumFault_130 3 rfl (by decide) rfl (by decide) (by omega) (fun z40290 h40291 => ?_)
              have h40291 : z40290.toInt = v4_3.toInt + 1 := h40291
              refine g_goto C 4 dX4_sumFault_133 (by decide) ?_
              refine g_lv (lv' := [(0, .ref a0), (1, .int a1), (2, .int z40288), (3, .int z40290)]) [2, 3, 1, 0] rfl ?_
              exact ih4 P64 z40288 z40290 (by omega) I64 X64 (by omega) (fun b9 e9 => by rw [e40271] at e9; cases e9; omega)
            · have h40285 : z40283.toInt ≠ 0 := ti_ne h40285
              refine g_aload_n C dX4_sumFault_112 rfl 0 rfl ?_
              refine g_iconst (v := 3) C dX4_sumFault_113 (by decide) ?_
              refine g_callVI (rest := []) C mv_X4_57 [.int 3] (s_X4_wrong I64 h40269 (by decide)) (h40269).1 (h40269).2 rfl rfl (by decide) (Nat.le_of_ble_eq_true rfl) (by decide) dX4_sumFault_114 (fun r40292 Y40293 h40294 => ?_)
              obtain ⟨rfl, h40294⟩ := h40294
              have h40294 : 1 ≤ r40292.toInt ∧ r40292.toInt ≤ 16005 := h40294
              exact ret _ _ _ _ _ _ dX4_sumFault_117 rfl (by decide) (by decide) ⟨I64, X64, (by omega)⟩
          · have h40278 : a1.toInt ≤ (pI P64 b40273 5).toInt := h40278
            refine g_aload_n C dX4_sumFault_92 rfl 0 rfl ?_
            refine g_iconst (v := 4) C dX4_sumFault_93 (by decide) ?_
            refine g_callVI (rest := []) C mv_X4_57 [.int 4] (s_X4_wrong I64 h40269 (by decide)) (h40269).1 (h40269).2 rfl rfl (by decide) (Nat.le_of_ble_eq_true rfl) (by decide) dX4_sumFault_94 (fun r40295 Y40296 h40297 => ?_)
            obtain ⟨rfl, h40297⟩ := h40297
            have h40297 : 1 ≤ r40295.toInt ∧ r40295.toInt ≤ 16005 := h40297
            exact ret _ _ _ _ _ _ dX4_sumFault_97 rfl (by decide) (by decide) ⟨I64, X64, (by omega)⟩
        · have h40276 : (pI P64 b40273 2).toInt ≠ 2 := ti_ne h40276
          refine g_aload_n C dX4_sumFault_75 rfl 0 rfl ?_
          refine g_iconst (v := 1) C dX4_sumFault_76 (by decide) ?_
          refine g_callVI (rest := []) C mv_X4_57 [.int 1] (s_X4_wrong I64 h40269 (by decide)) (h40269).1 (h40269).2 rfl rfl (by decide) (Nat.le_of_ble_eq_true rfl) (by decide) dX4_sumFault_77 (fun r40298 Y40299 h40300 => ?_)
          obtain ⟨rfl, h40300⟩ := h40300
          have h40300 : 1 ≤ r40298.toInt ∧ r40298.toInt ≤ 16005 := h40300
          exact ret _ _ _ _ _ _ dX4_sumFault_80 rfl (by decide) (by decide) ⟨I64, X64, (by omega)⟩
      refine g_iload_n C dX4_sumFault_4 rfl 3 rfl ?_
      refine g_bipush (v := 16) C dX4_sumFault_5 (by decide) ?_
      refine b_icmp_gt C 136 dX4_sumFault_7 (by decide) (fun h40301 => ?_) (fun h40301 => ?_)
      · have h40301 : 16 < v4_3.toInt := h40301
        refine g_aload_n C dX4_sumFault_136 rfl 0 rfl ?_
        refine g_iconst (v := 1) C dX4_sumFault_137 (by decide) ?_
        refine g_callVI (rest := []) C mv_X4_57 [.int 1] (s_X4_wrong I4 h40265 (by decide)) (h40265).1 (h40265).2 rfl rfl (by decide) (Nat.le_of_ble_eq_true rfl) (by decide) dX4_sumFault_138 (fun r40302 Y40303 h40304 => ?_)
        obtain ⟨rfl, h40304⟩ := h40304
        have h40304 : 1 ≤ r40302.toInt ∧ r40302.toInt ≤ 16005 := h40304
        exact ret _ _ _ _ _ _ dX4_sumFault_141 rfl (by decide) (by decide) ⟨I4, X4, (by omega)⟩
      · have h40301 : v4_3.toInt ≤ 16 := h40301
        refine g_aload_n C dX4_sumFault_10 rfl 0 rfl ?_
        obtain ⟨b40305, e40306, h40307⟩ := I4.fld (h40265) 0 9 0 rfl
        refine g_getR C fi_X4_12 rfl e40306 (h40265).1 (h40265).2 dX4_sumFault_11 ?_
        refine g_callVV (rest := []) C mv_X4_31 [] (s_X9_next I4 h40307.at) (h40307.at).1 (h40307.at).2 rfl rfl (by decide) (Nat.le_of_ble_eq_true rfl) (by decide) dX4_sumFault_14 (fun Y40309 h40310 => ?_)
        obtain ⟨Iy40311, Xy40312⟩ := h40310
        have q40313 := Xy40312.keep (h40268.at) (by decide) 2
        have Xz40314 : EK [3, 9, 13] P Y40309 := X4.tr (Xy40312.mono (by decide))
        have e40315 := Xy40312.ref h40265 (by decide) e40267
        have h40316 := Xy40312.at h40265
        have h40317 := Xy40312.ar h40268
        refine g_aload_n C dX4_sumFault_17 rfl 0 rfl ?_
        obtain ⟨b40318, e40319, h40320⟩ := Iy40311.fld (h40316) 0 9 0 rfl
        refine g_getR C fi_X4_12 rfl e40319 (h40316).1 (h40316).2 dX4_sumFault_18 ?_
        refine g_getI C fi_X4_34 (by decide) (h40320.at).1 (h40320.at).2 dX4_sumFault_21 ?_
        refine g_iconst (v := 3) C dX4_sumFault_24 (by decide) ?_
        have u40322 := ti_rng (pI Y40309 b40318 2)
        refine b_icmp_ne C 64 dX4_sumFault_25 (by decide) (fun h40321 => ?_) (fun h40321 => ?_)
        · have h40321 : (pI Y40309 b40318 2).toInt ≠ 3 := ti_ne h40321
          exact J64 Y40309 Iy40311 Xz40314 (by omega) (fun b9 e9 => by rw [e40315] at e9; cases e9; omega)
        · have h40321 : (pI Y40309 b40318 2).toInt = 3 := congrArg Int32.toInt h40321
          refine g_iload_n C dX4_sumFault_28 rfl 3 rfl ?_
          refine g_iconst (v := 2) C dX4_sumFault_29 (by decide) ?_
          refine b_icmp_lt C 64 dX4_sumFault_30 (by decide) (fun h40323 => ?_) (fun h40323 => ?_)
          · have h40323 : v4_3.toInt < 2 := h40323
            exact J64 Y40309 Iy40311 Xz40314 (by omega) (fun b9 e9 => by rw [e40315] at e9; cases e9; omega)
          · have h40323 : 2 ≤ v4_3.toInt := h40323
            refine g_aload_n C dX4_sumFault_33 rfl 0 rfl ?_
            refine g_getR C fi_X4_21 rfl e40315 (h40316).1 (h40316).2 dX4_sumFault_34 ?_
            obtain ⟨b40324, e40325, h40326⟩ := Iy40311.fld (h40317.at) 1 13 4 rfl
            refine g_getR C fi_X4_94 rfl e40325 (h40317.at).1 (h40317.at).2 dX4_sumFault_37 ?_
            refine g_aload_n C dX4_sumFault_40 rfl 0 rfl ?_
            refine g_getR C fi_X4_21 rfl e40315 (h40316).1 (h40316).2 dX4_sumFault_41 ?_
            refine g_getI C fi_X4_65 (by decide) (h40317.at).1 (h40317.at).2 dX4_sumFault_44 ?_
            refine g_iload_n C dX4_sumFault_47 rfl 2 rfl ?_
            refine g_iast (j := ((pI Y40309 b40266 2).toInt.toNat)) C h40326.1 h40326.2.1 (ix_in h40326.2.2 (by omega)) dX4_sumFault_48 ?_
            refine gp (ks := [13]) (Iy40311.setA h40326 (by decide)) (EK.setI h40326.2.1 (by decide)) (fun Y40327 Iy40328 Xy40329 => ?_)
            have q40330 := Xy40329.keep (h40317.at) (by decide) 2
            have q40331 := Xy40329.keep (h40320.at) (by decide) 2
            have Xz40332 : EK [3, 9, 13] P Y40327 := Xz40314.tr (Xy40329.mono (by decide))
            have e40333 := Xy40329.ref h40316 (by decide) e40315
            have e40334 := Xy40329.ref h40316 (by decide) e40319
            have h40335 := Xy40329.at h40316
            have h40336 := Xy40329.ar h40317
            have h40337 := Xy40329.ar h40320
            refine g_aload_n C dX4_sumFault_49 rfl 0 rfl ?_
            refine g_getR C fi_X4_21 rfl e40333 (h40335).1 (h40335).2 dX4_sumFault_50 ?_
            refine g_dup C dX4_sumFault_53 rfl ?_
            refine g_getI C fi_X4_65 (by decide) (h40336.at).1 (h40336.at).2 dX4_sumFault_54 ?_
            refine g_iconst (v := 1) C dX4_sumFault_57 (by decide) ?_
            refine s_iadd C dX4_sumFault_58 (by show -2147483648 ≤ (pI Y40327 b40266 2).toInt + 1 ∧ (pI Y40327 b40266 2).toInt + 1 ≤ 2147483647; omega) (fun z40338 h40339 => ?_)
            have h40339 : z40338.toInt = (pI Y40327 b40266 2).toInt + 1 := h40339
            refine g_putI C fi_X4_65 rfl (h40336.at).1 (h40336.at).2 dX4_sumFault_59 ?_
            refine gpW (ks := [3]) (Iy40328.setI (h40336.at) (rgOk.of rfl (by omega))) (EK.setI (h40336.at).2 (by decide)) (fun Y40340 Iy40341 Xy40342 w40343 w40344 => ?_)
            have q40345 := Xy40342.keep (h40337.at) (by decide) 2
            have Xz40346 : EK [3, 9, 13] P Y40340 := Xz40332.tr (Xy40342.mono (by decide))
            have e40347 := Xy40342.ref h40335 (by decide) e40333
            have e40348 := Xy40342.ref h40335 (by decide) e40334
            have h40349 := Xy40342.at h40335
            have h40350 := Xy40342.ar h40336
            have h40351 := Xy40342.ar h40337
            refine g_iconst (v := 0) C dX4_sumFault_62 (by decide) ?_
            exact ret _ _ _ _ _ _ dX4_sumFault_63 rfl (by decide) (by decide) ⟨Iy40341, Xz40346, (by decide)⟩
  obtain ⟨b40352, e40353, h40354⟩ := I.fld (ha0) 1 3 0 rfl
  have hf0 := hf0 b40352 e40353
  refine g_iconst (v := 0) C dX4_sumFault_0 (by decide) ?_
  refine g_istore_n (lv' := [(2, .int 0), (0, .ref a0), (1, .int a1)]) C dX4_sumFault_1 rfl (by decide) rfl ?_
  refine g_iconst (v := 0) C dX4_sumFault_2 (by decide) ?_
  refine g_istore_n (lv' := [(3, .int 0), (2, .int 0), (0, .ref a0), (1, .int a1)]) C dX4_sumFault_3 rfl (by decide) rfl ?_
  refine g_lv (lv' := [(0, .ref a0), (1, .int a1), (2, .int 0), (3, .int 0)]) [2, 3, 1, 0] rfl ?_
  exact J4 _ P 0 0 (Nat.lt_succ_self _) I EK.rf (by decide) (fun b9 e9 => by rw [e40353] at e9; cases e9; omega)
