theorem dX12_guard_97 : decode cX12_guard 97 = .ok (.ifCond .eq 8, 3) := by decide +kernel
theorem dX12_guard_100 : decode cX12_guard 100 = .ok (.iload 5, 2) := by decide +kernel
theorem dX12_guard_102 : decode cX12_guard 102 = .ok (.goto 4, 3) := by decide +kernel
theorem dX12_guard_105 : decode cX12_guard 105 = .ok (.iconst 1, 1) := by decide +kernel
theorem dX12_guard_106 : decode cX12_guard 106 = .ok (.istore 5, 2) := by decide +kernel
theorem dX12_guard_108 : decode cX12_guard 108 = .ok (.iinc 6 1, 3) := by decide +kernel
theorem dX12_guard_111 : decode cX12_guard 111 = .ok (.goto (-41), 3) := by decide +kernel
theorem dX12_guard_114 : decode cX12_guard 114 = .ok (.aload_n 0, 1) := by decide +kernel
theorem dX12_guard_115 : decode cX12_guard 115 = .ok (.getfield 60, 3) := by decide +kernel
theorem dX12_guard_118 : decode cX12_guard 118 = .ok (.iload_n 2, 1) := by decide +kernel
theorem dX12_guard_119 : decode cX12_guard 119 = .ok (.iaload, 1) := by decide +kernel
theorem dX12_guard_120 : decode cX12_guard 120 = .ok (.istore 6, 2) := by decide +kernel
theorem dX12_guard_122 : decode cX12_guard 122 = .ok (.iload 6, 2) := by decide +kernel
theorem dX12_guard_124 : decode cX12_guard 124 = .ok (.aload_n 0, 1) := by decide +kernel
theorem dX12_guard_125 : decode cX12_guard 125 = .ok (.getfield 305, 3) := by decide +kernel
theorem dX12_guard_128 : decode cX12_guard 128 = .ok (.if_icmp .ge 65, 3) := by decide +kernel
theorem dX12_guard_131 : decode cX12_guard 131 = .ok (.iload 5, 2) := by decide +kernel
theorem dX12_guard_133 : decode cX12_guard 133 = .ok (.iconst 2, 1) := by decide +kernel
theorem dX12_guard_134 : decode cX12_guard 134 = .ok (.if_icmp .le 59, 3) := by decide +kernel
theorem dX12_guard_137 : decode cX12_guard 137 = .ok (.iload 6, 2) := by decide +kernel
theorem dX12_guard_139 : decode cX12_guard 139 = .ok (.iconst 1, 1) := by decide +kernel
theorem dX12_guard_140 : decode cX12_guard 140 = .ok (.iadd, 1) := by decide +kernel
theorem dX12_guard_141 : decode cX12_guard 141 = .ok (.istore 7, 2) := by decide +kernel
theorem dX12_guard_143 : decode cX12_guard 143 = .ok (.iload 7, 2) := by decide +kernel
theorem dX12_guard_145 : decode cX12_guard 145 = .ok (.aload_n 0, 1) := by decide +kernel
theorem dX12_guard_146 : decode cX12_guard 146 = .ok (.getfield 305, 3) := by decide +kernel
theorem dX12_guard_149 : decode cX12_guard 149 = .ok (.if_icmp .ge 38, 3) := by decide +kernel
theorem dX12_guard_152 : decode cX12_guard 152 = .ok (.iload 5, 2) := by decide +kernel
theorem dX12_guard_154 : decode cX12_guard 154 = .ok (.iconst 2, 1) := by decide +kernel
theorem dX12_guard_155 : decode cX12_guard 155 = .ok (.if_icmp .le 32, 3) := by decide +kernel
theorem dX12_guard_158 : decode cX12_guard 158 = .ok (.aload_n 0, 1) := by decide +kernel
theorem dX12_guard_159 : decode cX12_guard 159 = .ok (.iload 4, 2) := by decide +kernel
theorem dX12_guard_161 : decode cX12_guard 161 = .ok (.iload 6, 2) := by decide +kernel
theorem dX12_guard_163 : decode cX12_guard 163 = .ok (.iload 7, 2) := by decide +kernel
theorem dX12_guard_165 : decode cX12_guard 165 = .ok (.iload 7, 2) := by decide +kernel
theorem dX12_guard_167 : decode cX12_guard 167 = .ok (.invokevirtual 367, 3) := by decide +kernel
theorem dX12_guard_170 : decode cX12_guard 170 = .ok (.ifCond .eq 8, 3) := by decide +kernel
theorem dX12_guard_173 : decode cX12_guard 173 = .ok (.iload 5, 2) := by decide +kernel
theorem dX12_guard_175 : decode cX12_guard 175 = .ok (.goto 4, 3) := by decide +kernel
theorem dX12_guard_178 : decode cX12_guard 178 = .ok (.iconst 2, 1) := by decide +kernel
theorem dX12_guard_179 : decode cX12_guard 179 = .ok (.istore 5, 2) := by decide +kernel
theorem dX12_guard_181 : decode cX12_guard 181 = .ok (.iinc 7 1, 3) := by decide +kernel
theorem dX12_guard_184 : decode cX12_guard 184 = .ok (.goto (-41), 3) := by decide +kernel
theorem dX12_guard_187 : decode cX12_guard 187 = .ok (.iinc 6 1, 3) := by decide +kernel
theorem dX12_guard_190 : decode cX12_guard 190 = .ok (.goto (-68), 3) := by decide +kernel
theorem dX12_guard_193 : decode cX12_guard 193 = .ok (.aload_n 0, 1) := by decide +kernel
theorem dX12_guard_194 : decode cX12_guard 194 = .ok (.getfield 60, 3) := by decide +kernel
theorem dX12_guard_197 : decode cX12_guard 197 = .ok (.iload_n 2, 1) := by decide +kernel
theorem dX12_guard_198 : decode cX12_guard 198 = .ok (.iaload, 1) := by decide +kernel
theorem dX12_guard_199 : decode cX12_guard 199 = .ok (.istore 6, 2) := by decide +kernel
theorem dX12_guard_201 : decode cX12_guard 201 = .ok (.iload 6, 2) := by decide +kernel
theorem dX12_guard_203 : decode cX12_guard 203 = .ok (.aload_n 0, 1) := by decide +kernel
theorem dX12_guard_204 : decode cX12_guard 204 = .ok (.getfield 305, 3) := by decide +kernel
theorem dX12_guard_207 : decode cX12_guard 207 = .ok (.if_icmp .ge 92, 3) := by decide +kernel
theorem dX12_guard_210 : decode cX12_guard 210 = .ok (.iload 5, 2) := by decide +kernel
theorem dX12_guard_212 : decode cX12_guard 212 = .ok (.iconst 3, 1) := by decide +kernel
theorem dX12_guard_213 : decode cX12_guard 213 = .ok (.if_icmp .le 86, 3) := by decide +kernel
theorem dX12_guard_216 : decode cX12_guard 216 = .ok (.iload 6, 2) := by decide +kernel
theorem dX12_guard_218 : decode cX12_guard 218 = .ok (.iconst 1, 1) := by decide +kernel
theorem dX12_guard_219 : decode cX12_guard 219 = .ok (.iadd, 1) := by decide +kernel
theorem dX12_guard_220 : decode cX12_guard 220 = .ok (.istore 7, 2) := by decide +kernel
theorem dX12_guard_222 : decode cX12_guard 222 = .ok (.iload 7, 2) := by decide +kernel
theorem dX12_guard_224 : decode cX12_guard 224 = .ok (.aload_n 0, 1) := by decide +kernel
theorem dX12_guard_225 : decode cX12_guard 225 = .ok (.getfield 305, 3) := by decide +kernel
theorem dX12_guard_228 : decode cX12_guard 228 = .ok (.if_icmp .ge 65, 3) := by decide +kernel
theorem dX12_guard_231 : decode cX12_guard 231 = .ok (.iload 5, 2) := by decide +kernel
theorem dX12_guard_233 : decode cX12_guard 233 = .ok (.iconst 3, 1) := by decide +kernel
theorem dX12_guard_234 : decode cX12_guard 234 = .ok (.if_icmp .le 59, 3) := by decide +kernel
theorem dX12_guard_237 : decode cX12_guard 237 = .ok (.iload 7, 2) := by decide +kernel
theorem dX12_guard_239 : decode cX12_guard 239 = .ok (.iconst 1, 1) := by decide +kernel
theorem dX12_guard_240 : decode cX12_guard 240 = .ok (.iadd, 1) := by decide +kernel
theorem dX12_guard_241 : decode cX12_guard 241 = .ok (.istore 8, 2) := by decide +kernel
theorem dX12_guard_243 : decode cX12_guard 243 = .ok (.iload 8, 2) := by decide +kernel
theorem dX12_guard_245 : decode cX12_guard 245 = .ok (.aload_n 0, 1) := by decide +kernel
theorem dX12_guard_246 : decode cX12_guard 246 = .ok (.getfield 305, 3) := by decide +kernel
theorem dX12_guard_249 : decode cX12_guard 249 = .ok (.if_icmp .ge 38, 3) := by decide +kernel
theorem dX12_guard_252 : decode cX12_guard 252 = .ok (.iload 5, 2) := by decide +kernel
theorem dX12_guard_254 : decode cX12_guard 254 = .ok (.iconst 3, 1) := by decide +kernel
theorem dX12_guard_255 : decode cX12_guard 255 = .ok (.if_icmp .le 32, 3) := by decide +kernel
theorem dX12_guard_258 : decode cX12_guard 258 = .ok (.aload_n 0, 1) := by decide +kernel
theorem dX12_guard_259 : decode cX12_guard 259 = .ok (.iload 4, 2) := by decide +kernel
theorem dX12_guard_261 : decode cX12_guard 261 = .ok (.iload 6, 2) := by decide +kernel
theorem dX12_guard_263 : decode cX12_guard 263 = .ok (.iload 7, 2) := by decide +kernel
theorem dX12_guard_265 : decode cX12_guard 265 = .ok (.iload 8, 2) := by decide +kernel
theorem dX12_guard_267 : decode cX12_guard 267 = .ok (.invokevirtual 367, 3) := by decide +kernel
theorem dX12_guard_270 : decode cX12_guard 270 = .ok (.ifCond .eq 8, 3) := by decide +kernel
theorem dX12_guard_273 : decode cX12_guard 273 = .ok (.iload 5, 2) := by decide +kernel
theorem dX12_guard_275 : decode cX12_guard 275 = .ok (.goto 4, 3) := by decide +kernel
theorem dX12_guard_278 : decode cX12_guard 278 = .ok (.iconst 3, 1) := by decide +kernel
theorem dX12_guard_279 : decode cX12_guard 279 = .ok (.istore 5, 2) := by decide +kernel
theorem dX12_guard_281 : decode cX12_guard 281 = .ok (.iinc 8 1, 3) := by decide +kernel
theorem dX12_guard_284 : decode cX12_guard 284 = .ok (.goto (-41), 3) := by decide +kernel
theorem dX12_guard_287 : decode cX12_guard 287 = .ok (.iinc 7 1, 3) := by decide +kernel
theorem dX12_guard_290 : decode cX12_guard 290 = .ok (.goto (-68), 3) := by decide +kernel
theorem dX12_guard_293 : decode cX12_guard 293 = .ok (.iinc 6 1, 3) := by decide +kernel
theorem dX12_guard_296 : decode cX12_guard 296 = .ok (.goto (-95), 3) := by decide +kernel
theorem dX12_guard_299 : decode cX12_guard 299 = .ok (.iload 5, 2) := by decide +kernel
theorem dX12_guard_301 : decode cX12_guard 301 = .ok (.iconst 3, 1) := by decide +kernel
theorem dX12_guard_302 : decode cX12_guard 302 = .ok (.if_icmp .le 7, 3) := by decide +kernel
theorem dX12_guard_305 : decode cX12_guard 305 = .ok (.iconst (-1), 1) := by decide +kernel
theorem dX12_guard_306 : decode cX12_guard 306 = .ok (.goto 5, 3) := by decide +kernel
theorem dX12_guard_309 : decode cX12_guard 309 = .ok (.iload 5, 2) := by decide +kernel
theorem dX12_guard_311 : decode cX12_guard 311 = .ok (.ireturn, 1) := by decide +kernel
set_option maxHeartbeats 4000000 in
set_option maxRecDepth 100000 in
theorem s_X12_guard {P : PP} {a0 : Nat} {a1 : Int32} {a2 : Int32} {a3 : Int32} {a4 : Int32} (I : IM P a0) (hW : MW P a0) : CtrI yX12_guard cX12_guard 9 (some Jvm.ClassFile.FieldType.int) ({ frames := 5, cells := 0, slots := 0, locals := 320 } : Room) 0 0 P [.ref a0, .int a1, .int a2, .int a3, .int a4] (fun r P2 => IM P2 a0 ∧ EM [0, 28, 29, 30, 31, 32, 35, 36, 37, 38, 41, 42] a0 P P2 ∧ MW P2 a0 ∧ (-1 ≤ r.toInt ∧ r.toInt ≤ 3)) := by
  refine enI (lv := [(0, .ref a0), (1, .int a1), (2, .int a2), (3, .int a3), (4, .int a4)]) (by decide) (Nat.le_of_ble_eq_true rfl) rfl (fun E D cy C Ci0 ret => ?_)
  have ha0 := I.2.1
  have J299 : ∀ (P299 : PP) (v299_5 : Int32), (IM P299 a0) → (EM [0, 28, 29, 30, 31, 32, 35, 36, 37, 38, 41, 42] a0 P P299) → (MW P299 a0) → (1 ≤ v299_5.toInt ∧ v299_5.toInt ≤ 4) → (0 ≤ (pI P299 a0 0).toInt ∧ (pI P299 a0 0).toInt ≤ 0) → (∀ b, pR P299 a0 10 = some b → 1 ≤ (pI P299 b (a2.toInt.toNat)).toInt ∧ (pI P299 b (a2.toInt.toNat)).toInt ≤ 16) → G E ({ frames := 5, cells := 0, slots := 0, locals := 320 } : Room) D cy 9 P299 0 0 299 [(5, .int v299_5)] [] := by
    intro P299 v299_5 I299 X299 W299 hv299_5 hq299_0 hq299_1
    have h68898 := X299.at ha0
    obtain ⟨b68899, e68900, h68901⟩ := I299.fld (h68898) 10 13 2 rfl
    have hq299_1 := hq299_1 b68899 e68900
    refine g_iload C dX12_guard_299 0 rfl ?_
    refine g_iconst (v := 3) C dX12_guard_301 (by decide) ?_
    refine b_icmp_le C 309 dX12_guard_302 (by decide) (fun h68902 => ?_) (fun h68902 => ?_)
    · have h68902 : v299_5.toInt ≤ 3 := h68902
      refine g_iload C dX12_guard_309 0 rfl ?_
      exact ret _ _ _ _ _ _ dX12_guard_311 rfl (by decide) (by decide) ⟨I299, X299, W299, (by omega)⟩
    · have h68902 : 3 < v299_5.toInt := h68902
      refine g_iconst (v := (-1)) C dX12_guard_305 (by decide) ?_
      refine g_goto C 311 dX12_guard_306 (by decide) ?_
      exact ret _ _ _ _ _ _ dX12_guard_311 rfl (by decide) (by decide) ⟨I299, X299, W299, (by decide)⟩
  have J201 : ∀ (n201 : Nat) (P201 : PP) (v201_5 : Int32) (v201_6 : Int32), (64 - v201_6.toInt).toNat < n201 → (IM P201 a0) → (EM [0, 28, 29, 30, 31, 32, 35, 36, 37, 38, 41, 42] a0 P P201) → (MW P201 a0) → (0 ≤ a4.toInt ∧ a4.toInt ≤ 19) → (1 ≤ v201_5.toInt ∧ v201_5.toInt ≤ 4) → (0 ≤ v201_6.toInt ∧ v201_6.toInt ≤ 64) → (0 ≤ (pI P201 a0 0).toInt ∧ (pI P201 a0 0).toInt ≤ 0) → (∀ b, pR P201 a0 10 = some b → 1 ≤ (pI P201 b (a2.toInt.toNat)).toInt ∧ (pI P201 b (a2.toInt.toNat)).toInt ≤ 16) → G E ({ frames := 5, cells := 0, slots := 0, locals := 320 } : Room) D cy 9 P201 0 0 201 [(0, .ref a0), (4, .int a4), (5, .int v201_5), (6, .int v201_6)] [] := by
    intro n201
    induction n201 with
    | zero => intro P201 v201_5 v201_6 hm201 I201 X201 W201 hv201_4 hv201_5 hv201_6 hq201_0 hq201_1; omega
    | succ n201 ih201 =>
      intro P201 v201_5 v201_6 hm201 I201 X201 W201 hv201_4 hv201_5 hv201_6 hq201_0 hq201_1
      have h68903 := X201.at ha0
      obtain ⟨b68904, e68905, h68906⟩ := I201.fld (h68903) 10 13 2 rfl
      have hq201_1 := hq201_1 b68904 e68905
      have J293 : ∀ (P293 : PP) (v293_5 : Int32), (IM P293 a0) → (EM [0, 28, 29, 30, 31, 32, 35, 36, 37, 38, 41, 42] a0 P P293) → (MW P293 a0) → (0 ≤ a4.toInt ∧ a4.toInt ≤ 19) → (3 ≤ v293_5.toInt ∧ v293_5.toInt ≤ 4) → (0 ≤ v201_6.toInt ∧ v201_6.toInt ≤ 63) → (0 ≤ (pI P293 a0 0).toInt ∧ (pI P293 a0 0).toInt ≤ 0) → (∀ b, pR P293 a0 10 = some b → 1 ≤ (pI P293 b (a2.toInt.toNat)).toInt ∧ (pI P293 b (a2.toInt.toNat)).toInt ≤ 16) → G E ({ frames := 5, cells := 0, slots := 0, locals := 320 } : Room) D cy 9 P293 0 0 293 [(0, .ref a0), (4, .int a4), (5, .int v293_5), (6, .int v201_6)] [] := by
        intro P293 v293_5 I293 X293 W293 hv293_4 hv293_5 hv293_6 hq293_0 hq293_1
        have h68907 := X293.at ha0
        obtain ⟨b68908, e68909, h68910⟩ := I293.fld (h68907) 10 13 2 rfl
        have hq293_1 := hq293_1 b68908 e68909
        refine s_iinc (lv0 := [(0, .ref a0), (4, .int a4), (5, .int v293_5)]) (m := 1) C dX12_guard_293 3 rfl (by decide) rfl (by decide) (by omega) (fun z68911 h68912 => ?_)
        have h68912 : z68911.toInt = v201_6.toInt + 1 := h68912
        refine g_goto C 201 dX12_guard_296 (by decide) ?_
        refine g_lv (lv' := [(0, .ref a0), (4, .int a4), (5, .int v293_5), (6, .int z68911)]) [1, 2, 3, 0] rfl ?_
        exact ih201 P293 v293_5 z68911 (by omega) I293 X293 W293 (by omega) (by omega) (by omega) (by omega) (fun b9 e9 => by rw [e68909] at e9; cases e9; omega)
      have J222 : ∀ (n222 : Nat) (P222 : PP) (v222_5 : Int32) (v222_7 : Int32), (64 - v222_7.toInt).toNat < n222 → (IM P222 a0) → (EM [0, 28, 29, 30, 31, 32, 35, 36, 37, 38, 41, 42] a0 P P222) → (MW P222 a0) → (0 ≤ a4.toInt ∧ a4.toInt ≤ 19) → (3 ≤ v222_5.toInt ∧ v222_5.toInt ≤ 4) → (0 ≤ v201_6.toInt ∧ v201_6.toInt ≤ 63) → (1 ≤ v222_7.toInt ∧ v222_7.toInt ≤ 64) → (0 ≤ (pI P222 a0 0).toInt ∧ (pI P222 a0 0).toInt ≤ 0) → (∀ b, pR P222 a0 10 = some b → 1 ≤ (pI P222 b (a2.toInt.toNat)).toInt ∧ (pI P222 b (a2.toInt.toNat)).toInt ≤ 16) → G E ({ frames := 5, cells := 0, slots := 0, locals := 320 } : Room) D cy 9 P222 0 0 222 [(0, .ref a0), (4, .int a4), (5, .int v222_5), (6, .int v201_6), (7, .int v222_7)] [] := by
        intro n222
        induction n222 with
        | zero => intro P222 v222_5 v222_7 hm222 I222 X222 W222 hv222_4 hv222_5 hv222_6 hv222_7 hq222_0 hq222_1; omega
        | succ n222 ih222 =>
          intro P222 v222_5 v222_7 hm222 I222 X222 W222 hv222_4 hv222_5 hv222_6 hv222_7 hq222_0 hq222_1
          have h68913 := X222.at ha0
          obtain ⟨b68914, e68915, h68916⟩ := I222.fld (h68913) 10 13 2 rfl
          have hq222_1 := hq222_1 b68914 e68915
          have J287 : ∀ (P287 : PP) (v287_5 : Int32), (IM P287 a0) → (EM [0, 28, 29, 30, 31, 32, 35, 36, 37, 38, 41, 42] a0 P P287) → (MW P287 a0) → (0 ≤ a4.toInt ∧ a4.toInt ≤ 19) → (3 ≤ v287_5.toInt ∧ v287_5.toInt ≤ 4) → (0 ≤ v201_6.toInt ∧ v201_6.toInt ≤ 63) → (1 ≤ v222_7.toInt ∧ v222_7.toInt ≤ 63) → (0 ≤ (pI P287 a0 0).toInt ∧ (pI P287 a0 0).toInt ≤ 0) → (∀ b, pR P287 a0 10 = some b → 1 ≤ (pI P287 b (a2.toInt.toNat)).toInt ∧ (pI P287 b (a2.toInt.toNat)).toInt ≤ 16) → G E ({ frames := 5, cells := 0, slots := 0, locals := 320 } : Room) D cy 9 P287 0 0 287 [(0, .ref a0), (4, .int a4), (5, .int v287_5), (6, .int v201_6), (7, .int v222_7)] [] := by
            intro P287 v287_5 I287 X287 W287 hv287_4 hv287_5 hv287_6 hv287_7 hq287_0 hq287_1
            have h68917 := X287.at ha0
            obtain ⟨b68918, e68919, h68920⟩ := I287.fld (h68917) 10 13 2 rfl
            have hq287_1 := hq287_1 b68918 e68919
            refine s_iinc (lv0 := [(0, .ref a0), (4, .int a4), (5, .int v287_5), (6, .int v201_6)]) (m := 1) C dX12_guard_287 4 rfl (by decide) rfl (by decide) (by omega) (fun z68921 h68922 => ?_)
            have h68922 : z68921.toInt = v222_7.toInt + 1 := h68922
            refine g_goto C 222 dX12_guard_290 (by decide) ?_
            refine g_lv (lv' := [(0, .ref a0), (4, .int a4), (5, .int v287_5), (6, .int v201_6), (7, .int z68921)]) [1, 2, 3, 4, 0] rfl ?_
            exact ih222 P287 v287_5 z68921 (by omega) I287 X287 W287 (by omega) (by omega) (by omega) (by omega) (by omega) (fun b9 e9 => by rw [e68919] at e9; cases e9; omega)
          have J243 : ∀ (n243 : Nat) (P243 : PP) (v243_5 : Int32) (v243_8 : Int32), (64 - v243_8.toInt).toNat < n243 → (IM P243 a0) → (EM [0, 28, 29, 30, 31, 32, 35, 36, 37, 38, 41, 42] a0 P P243) → (MW P243 a0) → (0 ≤ a4.toInt ∧ a4.toInt ≤ 19) → (3 ≤ v243_5.toInt ∧ v243_5.toInt ≤ 4) → (0 ≤ v201_6.toInt ∧ v201_6.toInt ≤ 63) → (1 ≤ v222_7.toInt ∧ v222_7.toInt ≤ 63) → (2 ≤ v243_8.toInt ∧ v243_8.toInt ≤ 64) → (0 ≤ (pI P243 a0 0).toInt ∧ (pI P243 a0 0).toInt ≤ 0) → (∀ b, pR P243 a0 10 = some b → 1 ≤ (pI P243 b (a2.toInt.toNat)).toInt ∧ (pI P243 b (a2.toInt.toNat)).toInt ≤ 16) → G E ({ frames := 5, cells := 0, slots := 0, locals := 320 } : Room) D cy 9 P243 0 0 243 [(0, .ref a0), (4, .int a4), (5, .int v243_5), (6, .int v201_6), (7, .int v222_7), (8, .int v243_8)] [] := by
            intro n243
            induction n243 with
            | zero => intro P243 v243_5 v243_8 hm243 I243 X243 W243 hv243_4 hv243_5 hv243_6 hv243_7 hv243_8 hq243_0 hq243_1; omega
            | succ n243 ih243 =>
              intro P243 v243_5 v243_8 hm243 I243 X243 W243 hv243_4 hv243_5 hv243_6 hv243_7 hv243_8 hq243_0 hq243_1
              have h68923 := X243.at ha0
              obtain ⟨b68924, e68925, h68926⟩ := I243.fld (h68923) 10 13 2 rfl
              have hq243_1 := hq243_1 b68924 e68925
              have J279 : ∀ (P279 : PP) (v279_s0 : Int32), (IM P279 a0) → (EM [0, 28, 29, 30, 31, 32, 35, 36, 37, 38, 41, 42] a0 P P279) → (MW P279 a0) → (0 ≤ a4.toInt ∧ a4.toInt ≤ 19) → (0 ≤ v201_6.toInt ∧ v201_6.toInt ≤ 63) → (1 ≤ v222_7.toInt ∧ v222_7.toInt ≤ 63) → (2 ≤ v243_8.toInt ∧ v243_8.toInt ≤ 63) → (3 ≤ v279_s0.toInt ∧ v279_s0.toInt ≤ 4) → (0 ≤ (pI P279 a0 0).toInt ∧ (pI P279 a0 0).toInt ≤ 0) → (∀ b, pR P279 a0 10 = some b → 1 ≤ (pI P279 b (a2.toInt.toNat)).toInt ∧ (pI P279 b (a2.toInt.toNat)).toInt ≤ 16) → G E ({ frames := 5, cells := 0, slots := 0, locals := 320 } : Room) D cy 9 P279 0 0 279 [(0, .ref a0), (4, .int a4), (6, .int v201_6), (7, .int v222_7), (8, .int v243_8)] [.int v279_s0] := by
                intro P279 v279_s0 I279 X279 W279 hv279_4 hv279_6 hv279_7 hv279_8 hv279_s0 hq279_0 hq279_1
                have h68927 := X279.at ha0
                obtain ⟨b68928, e68929, h68930⟩ := I279.fld (h68927) 10 13 2 rfl
                have hq279_1 := hq279_1 b68928 e68929
                refine g_istore (lv' := [(5, .int v279_s0), (0, .ref a0), (4, .int a4), (6, .int v201_6), (7, .int v222_7), (8, .int v243_8)]) C dX12_guard_279 (by decide) rfl ?_
                refine s_iinc (lv0 := [(5, .int v279_s0), (0, .ref a0), (4, .int a4), (6, .int v201_6), (7, .int v222_7)]) (m := 1) C dX12_guard_281 5 rfl (by decide) rfl (by decide) (by omega) (fun z68931 h68932 => ?_)
                have h68932 : z68931.toInt = v243_8.toInt + 1 := h68932
                refine g_goto C 243 dX12_guard_284 (by decide) ?_
                refine g_lv (lv' := [(0, .ref a0), (4, .int a4), (5, .int v279_s0), (6, .int v201_6), (7, .int v222_7), (8, .int z68931)]) [2, 3, 1, 4, 5, 0] rfl ?_
                exact ih243 P279 v279_s0 z68931 (by omega) I279 X279 W279 (by omega) (by omega) (by omega) (by omega) (by omega) (by omega) (fun b9 e9 => by rw [e68929] at e9; cases e9; omega)
              refine g_iload C dX12_guard_243 5 rfl ?_
              refine g_aload_n C dX12_guard_245 rfl 0 rfl ?_
              refine g_getI C fi_X12_305 (by decide) (h68923).1 (h68923).2 dX12_guard_246 ?_
              have h68933 := I243.rg (h68923) 28 rfl
              refine b_icmp_ge C 287 dX12_guard_249 (by decide) (fun h68934 => ?_) (fun h68934 => ?_)
              · have h68934 : (pI P243 a0 28).toInt ≤ v243_8.toInt := h68934
                refine g_lv (lv' := [(0, .ref a0), (4, .int a4), (5, .int v243_5), (6, .int v201_6), (7, .int v222_7)]) [0, 1, 2, 3, 4] rfl ?_
                exact J287 P243 v243_5 I243 X243 W243 (by omega) (by omega) (by omega) (by omega) (by omega) (fun b9 e9 => by rw [e68925] at e9; cases e9; omega)
              · have h68934 : v243_8.toInt < (pI P243 a0 28).toInt := h68934
                refine g_iload C dX12_guard_252 2 rfl ?_
                refine g_iconst (v := 3) C dX12_guard_254 (by decide) ?_
                refine b_icmp_le C 287 dX12_guard_255 (by decide) (fun h68935 => ?_) (fun h68935 => ?_)
                · have h68935 : v243_5.toInt ≤ 3 := h68935
                  refine g_lv (lv' := [(0, .ref a0), (4, .int a4), (5, .int v243_5), (6, .int v201_6), (7, .int v222_7)]) [0, 1, 2, 3, 4] rfl ?_
                  exact J287 P243 v243_5 I243 X243 W243 (by omega) (by omega) (by omega) (by omega) (by omega) (fun b9 e9 => by rw [e68925] at e9; cases e9; omega)
                · have h68935 : 3 < v243_5.toInt := h68935
                  refine g_aload_n C dX12_guard_258 rfl 0 rfl ?_
                  refine g_iload C dX12_guard_259 1 rfl ?_
                  refine g_iload C dX12_guard_261 3 rfl ?_
                  refine g_iload C dX12_guard_263 4 rfl ?_
                  refine g_iload C dX12_guard_265 5 rfl ?_
                  refine g_callVI (rest := []) C mv_X12_367 [.int a4, .int v201_6, .int v222_7, .int v243_8] (s_X12_isFixedWithout I243 (by omega) W243) (h68923).1 (h68923).2 rfl rfl (by decide) (Nat.le_of_ble_eq_true rfl) (by decide) dX12_guard_267 (fun r68936 Y68937 h68938 => ?_)
                  obtain ⟨Iy68939, Xy68940, W68941, h68938⟩ := h68938
                  have q68942 := Xy68940.keepF 0 (by decide)
                  have q68943 := Xy68940.keepA e68925 (by decide) rfl (a2.toInt.toNat)
                  have Xz68944 : EM [0, 28, 29, 30, 31, 32, 35, 36, 37, 38, 41, 42] a0 P Y68937 := EM.tr ha0 X243 (Xy68940.mono (by decide))
                  have e68945 := Xy68940.ref h68923 (by decide) e68925
                  have h68946 := Xy68940.at h68923
                  have h68947 := Xy68940.ar h68926
                  have h68938 : 0 ≤ r68936.toInt ∧ r68936.toInt ≤ 1 := h68938
                  refine b_if_eq C 278 dX12_guard_270 (by decide) (fun h68948 => ?_) (fun h68948 => ?_)
                  · have h68948 : r68936.toInt = 0 := congrArg Int32.toInt h68948
                    refine g_iconst (v := 3) C dX12_guard_278 (by decide) ?_
                    refine g_lv (lv' := [(0, .ref a0), (4, .int a4), (6, .int v201_6), (7, .int v222_7), (8, .int v243_8)]) [0, 1, 3, 4, 5] rfl ?_
                    exact J279 Y68937 3 Iy68939 Xz68944 W68941 (by omega) (by omega) (by omega) (by omega) (by decide) (by omega) (fun b9 e9 => by rw [e68945] at e9; cases e9; omega)
                  · have h68948 : r68936.toInt ≠ 0 := ti_ne h68948
                    refine g_iload C dX12_guard_273 2 rfl ?_
                    refine g_goto C 279 dX12_guard_275 (by decide) ?_
                    refine g_lv (lv' := [(0, .ref a0), (4, .int a4), (6, .int v201_6), (7, .int v222_7), (8, .int v243_8)]) [0, 1, 3, 4, 5] rfl ?_
                    exact J279 Y68937 v243_5 Iy68939 Xz68944 W68941 (by omega) (by omega) (by omega) (by omega) (by omega) (by omega) (fun b9 e9 => by rw [e68945] at e9; cases e9; omega)
          refine g_iload C dX12_guard_222 4 rfl ?_
          refine g_aload_n C dX12_guard_224 rfl 0 rfl ?_
          refine g_getI C fi_X12_305 (by decide) (h68913).1 (h68913).2 dX12_guard_225 ?_
          have h68949 := I222.rg (h68913) 28 rfl
          refine b_icmp_ge C 293 dX12_guard_228 (by decide) (fun h68950 => ?_) (fun h68950 => ?_)
          · have h68950 : (pI P222 a0 28).toInt ≤ v222_7.toInt := h68950
            refine g_lv (lv' := [(0, .ref a0), (4, .int a4), (5, .int v222_5), (6, .int v201_6)]) [0, 1, 2, 3] rfl ?_
            exact J293 P222 v222_5 I222 X222 W222 (by omega) (by omega) (by omega) (by omega) (fun b9 e9 => by rw [e68915] at e9; cases e9; omega)
          · have h68950 : v222_7.toInt < (pI P222 a0 28).toInt := h68950
            refine g_iload C dX12_guard_231 2 rfl ?_
            refine g_iconst (v := 3) C dX12_guard_233 (by decide) ?_
            refine b_icmp_le C 293 dX12_guard_234 (by decide) (fun h68951 => ?_) (fun h68951 => ?_)
            · have h68951 : v222_5.toInt ≤ 3 := h68951
              refine g_lv (lv' := [(0, .ref a0), (4, .int a4), (5, .int v222_5), (6, .int v201_6)]) [0, 1, 2, 3] rfl ?_
              exact J293 P222 v222_5 I222 X222 W222 (by omega) (by omega) (by omega) (by omega) (fun b9 e9 => by rw [e68915] at e9; cases e9; omega)
            · have h68951 : 3 < v222_5.toInt := h68951
              refine g_iload C dX12_guard_237 4 rfl ?_
              refine g_iconst (v := 1) C dX12_guard_239 (by decide) ?_
              refine s_iadd C dX12_guard_240 (by show -2147483648 ≤ v222_7.toInt + 1 ∧ v222_7.toInt + 1 ≤ 2147483647; omega) (fun z68952 h68953 => ?_)
              have h68953 : z68952.toInt = v222_7.toInt + 1 := h68953
              refine g_istore (lv' := [(8, .int z68952), (0, .ref a0), (4, .int a4), (5, .int v222_5), (6, .int v201_6), (7, .int v222_7)]) C dX12_guard_241 (by decide) rfl ?_
              refine g_lv (lv' := [(0, .ref a0), (4, .int a4), (5, .int v222_5), (6, .int v201_6), (7, .int v222_7), (8, .int z68952)]) [1, 2, 3, 4, 5, 0] rfl ?_
              exact J243 _ P222 v222_5 z68952 (Nat.lt_succ_self _) I222 X222 W222 (by omega) (by omega) (by omega) (by omega) (by omega) (by omega) (fun b9 e9 => by rw [e68915] at e9; cases e9; omega)
      refine g_iload C dX12_guard_201 3 rfl ?_
      refine g_aload_n C dX12_guard_203 rfl 0 rfl ?_
      refine g_getI C fi_X12_305 (by decide) (h68903).1 (h68903).2 dX12_guard_204 ?_
      have h68954 := I201.rg (h68903) 28 rfl
      refine b_icmp_ge C 299 dX12_guard_207 (by decide) (fun h68955 => ?_) (fun h68955 => ?_)
      · have h68955 : (pI P201 a0 28).toInt ≤ v201_6.toInt := h68955
        refine g_lv (lv' := [(5, .int v201_5)]) [2] rfl ?_
        exact J299 P201 v201_5 I201 X201 W201 (by omega) (by omega) (fun b9 e9 => by rw [e68905] at e9; cases e9; omega)
      · have h68955 : v201_6.toInt < (pI P201 a0 28).toInt := h68955
        refine g_iload C dX12_guard_210 2 rfl ?_
        refine g_iconst (v := 3) C dX12_guard_212 (by decide) ?_
        refine b_icmp_le C 299 dX12_guard_213 (by decide) (fun h68956 => ?_) (fun h68956 => ?_)
        · have h68956 : v201_5.toInt ≤ 3 := h68956
          refine g_lv (lv' := [(5, .int v201_5)]) [2] rfl ?_
          exact J299 P201 v201_5 I201 X201 W201 (by omega) (by omega) (fun b9 e9 => by rw [e68905] at e9; cases e9; omega)
        · have h68956 : 3 < v201_5.toInt := h68956
          refine g_iload C dX12_guard_216 3 rfl ?_
          refine g_iconst (v := 1) C dX12_guard_218 (by decide) ?_
          refine s_iadd C dX12_guard_219 (by show -2147483648 ≤ v201_6.toInt + 1 ∧ v201_6.toInt + 1 ≤ 2147483647; omega) (fun z68957 h68958 => ?_)
          have h68958 : z68957.toInt = v201_6.toInt + 1 := h68958
          refine g_istore (lv' := [(7, .int z68957), (0, .ref a0), (4, .int a4), (5, .int v201_5), (6, .int v201_6)]) C dX12_guard_220 (by decide) rfl ?_
          refine g_lv (lv' := [(0, .ref a0), (4, .int a4), (5, .int v201_5), (6, .int v201_6), (7, .int z68957)]) [1, 2, 3, 4, 0] rfl ?_
          exact J222 _ P201 v201_5 z68957 (Nat.lt_succ_self _) I201 X201 W201 (by omega) (by omega) (by omega) (by omega) (by omega) (fun b9 e9 => by rw [e68905] at e9; cases e9; omega)
  have J193 : ∀ (P193 : PP) (v193_5 : Int32), (IM P193 a0) → (EM [0, 28, 29, 30, 31, 32, 35, 36, 37, 38, 41, 42] a0 P P193) → (MW P193 a0) → (0 ≤ a2.toInt ∧ a2.toInt ≤ 1) → (0 ≤ a4.toInt ∧ a4.toInt ≤ 19) → (1 ≤ v193_5.toInt ∧ v193_5.toInt ≤ 4) → (0 ≤ (pI P193 a0 0).toInt ∧ (pI P193 a0 0).toInt ≤ 0) → (∀ b, pR P193 a0 10 = some b → 1 ≤ (pI P193 b (a2.toInt.toNat)).toInt ∧ (pI P193 b (a2.toInt.toNat)).toInt ≤ 16) → G E ({ frames := 5, cells := 0, slots := 0, locals := 320 } : Room) D cy 9 P193 0 0 193 [(0, .ref a0), (2, .int a2), (4, .int a4), (5, .int v193_5)] [] := by
    intro P193 v193_5 I193 X193 W193 hv193_2 hv193_4 hv193_5 hq193_0 hq193_1
    have h68959 := X193.at ha0
    obtain ⟨b68960, e68961, h68962⟩ := I193.fld (h68959) 10 13 2 rfl
    have hq193_1 := hq193_1 b68960 e68961
    refine g_aload_n C dX12_guard_193 rfl 0 rfl ?_
    obtain ⟨b68963, e68964, h68965⟩ := I193.fld (h68959) 15 13 3 rfl
    refine g_getR C fi_X12_60 rfl e68964 (h68959).1 (h68959).2 dX12_guard_194 ?_
    refine g_iload_n C dX12_guard_197 rfl 1 rfl ?_
    refine g_iald (j := (a2.toInt.toNat)) C h68965.1 h68965.2.1 (ix_in h68965.2.2 (by omega)) dX12_guard_198 ?_
    have h68966 := I193.arr e68964 rfl (a2.toInt.toNat)
    refine g_topi (fun z68967 h68968 => ?_)
    have h68968 : z68967.toInt = (pI P193 b68963 (a2.toInt.toNat)).toInt := congrArg Int32.toInt h68968
    refine g_istore (lv' := [(6, .int z68967), (0, .ref a0), (2, .int a2), (4, .int a4), (5, .int v193_5)]) C dX12_guard_199 (by decide) rfl ?_
    refine g_lv (lv' := [(0, .ref a0), (4, .int a4), (5, .int v193_5), (6, .int z68967)]) [1, 3, 4, 0] rfl ?_
    exact J201 _ P193 v193_5 z68967 (Nat.lt_succ_self _) I193 X193 W193 (by omega) (by omega) (by omega) (by omega) (fun b9 e9 => by rw [e68961] at e9; cases e9; omega)
  have J122 : ∀ (n122 : Nat) (P122 : PP) (v122_5 : Int32) (v122_6 : Int32), (64 - v122_6.toInt).toNat < n122 → (IM P122 a0) → (EM [0, 28, 29, 30, 31, 32, 35, 36, 37, 38, 41, 42] a0 P P122) → (MW P122 a0) → (0 ≤ a2.toInt ∧ a2.toInt ≤ 1) → (0 ≤ a4.toInt ∧ a4.toInt ≤ 19) → (1 ≤ v122_5.toInt ∧ v122_5.toInt ≤ 4) → (0 ≤ v122_6.toInt ∧ v122_6.toInt ≤ 64) → (0 ≤ (pI P122 a0 0).toInt ∧ (pI P122 a0 0).toInt ≤ 0) → (∀ b, pR P122 a0 10 = some b → 1 ≤ (pI P122 b (a2.toInt.toNat)).toInt ∧ (pI P122 b (a2.toInt.toNat)).toInt ≤ 16) → G E ({ frames := 5, cells := 0, slots := 0, locals := 320 } : Room) D cy 9 P122 0 0 122 [(0, .ref a0), (2, .int a2), (4, .int a4), (5, .int v122_5), (6, .int v122_6)] [] := by
    intro n122
    induction n122 with
    | zero => intro P122 v122_5 v122_6 hm122 I122 X122 W122 hv122_2 hv122_4 hv122_5 hv122_6 hq122_0 hq122_1; omega
    | succ n122 ih122 =>
      intro P122 v122_5 v122_6 hm122 I122 X122 W122 hv122_2 hv122_4 hv122_5 hv122_6 hq122_0 hq122_1
      have h68969 := X122.at ha0
      obtain ⟨b68970, e68971, h68972⟩ := I122.fld (h68969) 10 13 2 rfl
      have hq122_1 := hq122_1 b68970 e68971
      have J187 : ∀ (P187 : PP) (v187_5 : Int32), (IM P187 a0) → (EM [0, 28, 29, 30, 31, 32, 35, 36, 37, 38, 41, 42] a0 P P187) → (MW P187 a0) → (0 ≤ a2.toInt ∧ a2.toInt ≤ 1) → (0 ≤ a4.toInt ∧ a4.toInt ≤ 19) → (2 ≤ v187_5.toInt ∧ v187_5.toInt ≤ 4) → (0 ≤ v122_6.toInt ∧ v122_6.toInt ≤ 63) → (0 ≤ (pI P187 a0 0).toInt ∧ (pI P187 a0 0).toInt ≤ 0) → (∀ b, pR P187 a0 10 = some b → 1 ≤ (pI P187 b (a2.toInt.toNat)).toInt ∧ (pI P187 b (a2.toInt.toNat)).toInt ≤ 16) → G E ({ frames := 5, cells := 0, slots := 0, locals := 320 } : Room) D cy 9 P187 0 0 187 [(0, .ref a0), (2, .int a2), (4, .int a4), (5, .int v187_5), (6, .int v122_6)] [] := by
        intro P187 v187_5 I187 X187 W187 hv187_2 hv187_4 hv187_5 hv187_6 hq187_0 hq187_1
        have h68973 := X187.at ha0
        obtain ⟨b68974, e68975, h68976⟩ := I187.fld (h68973) 10 13 2 rfl
        have hq187_1 := hq187_1 b68974 e68975
        refine s_iinc (lv0 := [(0, .ref a0), (2, .int a2), (4, .int a4), (5, .int v187_5)]) (m := 1) C dX12_guard_187 4 rfl (by decide) rfl (by decide) (by omega) (fun z68977 h68978 => ?_)
        have h68978 : z68977.toInt = v122_6.toInt + 1 := h68978
        refine g_goto C 122 dX12_guard_190 (by decide) ?_
        refine g_lv (lv' := [(0, .ref a0), (2, .int a2), (4, .int a4), (5, .int v187_5), (6, .int z68977)]) [1, 2, 3, 4, 0] rfl ?_
        exact ih122 P187 v187_5 z68977 (by omega) I187 X187 W187 (by omega) (by omega) (by omega) (by omega) (by omega) (fun b9 e9 => by rw [e68975] at e9; cases e9; omega)
      have J143 : ∀ (n143 : Nat) (P143 : PP) (v143_5 : Int32) (v143_7 : Int32), (64 - v143_7.toInt).toNat < n143 → (IM P143 a0) → (EM [0, 28, 29, 30, 31, 32, 35, 36, 37, 38, 41, 42] a0 P P143) → (MW P143 a0) → (0 ≤ a2.toInt ∧ a2.toInt ≤ 1) → (0 ≤ a4.toInt ∧ a4.toInt ≤ 19) → (2 ≤ v143_5.toInt ∧ v143_5.toInt ≤ 4) → (0 ≤ v122_6.toInt ∧ v122_6.toInt ≤ 63) → (1 ≤ v143_7.toInt ∧ v143_7.toInt ≤ 64) → (0 ≤ (pI P143 a0 0).toInt ∧ (pI P143 a0 0).toInt ≤ 0) → (∀ b, pR P143 a0 10 = some b → 1 ≤ (pI P143 b (a2.toInt.toNat)).toInt ∧ (pI P143 b (a2.toInt.toNat)).toInt ≤ 16) → G E ({ frames := 5, cells := 0, slots := 0, locals := 320 } : Room) D cy 9 P143 0 0 143 [(0, .ref a0), (2, .int a2), (4, .int a4), (5, .int v143_5), (6, .int v122_6), (7, .int v143_7)] [] := by
        intro n143
        induction n143 with
        | zero => intro P143 v143_5 v143_7 hm143 I143 X143 W143 hv143_2 hv143_4 hv143_5 hv143_6 hv143_7 hq143_0 hq143_1; omega
        | succ n143 ih143 =>
          intro P143 v143_5 v143_7 hm143 I143 X143 W143 hv143_2 hv143_4 hv143_5 hv143_6 hv143_7 hq143_0 hq143_1
          have h68979 := X143.at ha0
          obtain ⟨b68980, e68981, h68982⟩ := I143.fld (h68979) 10 13 2 rfl
          have hq143_1 := hq143_1 b68980 e68981
          have J179 : ∀ (P179 : PP) (v179_s0 : Int32), (IM P179 a0) → (EM [0, 28, 29, 30, 31, 32, 35, 36, 37, 38, 41, 42] a0 P P179) → (MW P179 a0) → (0 ≤ a2.toInt ∧ a2.toInt ≤ 1) → (0 ≤ a4.toInt ∧ a4.toInt ≤ 19) → (0 ≤ v122_6.toInt ∧ v122_6.toInt ≤ 63) → (1 ≤ v143_7.toInt ∧ v143_7.toInt ≤ 63) → (2 ≤ v179_s0.toInt ∧ v179_s0.toInt ≤ 4) → (0 ≤ (pI P179 a0 0).toInt ∧ (pI P179 a0 0).toInt ≤ 0) → (∀ b, pR P179 a0 10 = some b → 1 ≤ (pI P179 b (a2.toInt.toNat)).toInt ∧ (pI P179 b (a2.toInt.toNat)).toInt ≤ 16) → G E ({ frames := 5, cells := 0, slots := 0, locals := 320 } : Room) D cy 9 P179 0 0 179 [(0, .ref a0), (2, .int a2), (4, .int a4), (6, .int v122_6), (7, .int v143_7)] [.int v179_s0] := by
            intro P179 v179_s0 I179 X179 W179 hv179_2 hv179_4 hv179_6 hv179_7 hv179_s0 hq179_0 hq179_1
            have h68983 := X179.at ha0
            obtain ⟨b68984, e68985, h68986⟩ := I179.fld (h68983) 10 13 2 rfl
            have hq179_1 := hq179_1 b68984 e68985
            refine g_istore (lv' := [(5, .int v179_s0), (0, .ref a0), (2, .int a2), (4, .int a4), (6, .int v122_6), (7, .int v143_7)]) C dX12_guard_179 (by decide) rfl ?_
            refine s_iinc (lv0 := [(5, .int v179_s0), (0, .ref a0), (2, .int a2), (4, .int a4), (6, .int v122_6)]) (m := 1) C dX12_guard_181 5 rfl (by decide) rfl (by decide) (by omega) (fun z68987 h68988 => ?_)
            have h68988 : z68987.toInt = v143_7.toInt + 1 := h68988
            refine g_goto C 143 dX12_guard_184 (by decide) ?_
            refine g_lv (lv' := [(0, .ref a0), (2, .int a2), (4, .int a4), (5, .int v179_s0), (6, .int v122_6), (7, .int z68987)]) [2, 3, 4, 1, 5, 0] rfl ?_
            exact ih143 P179 v179_s0 z68987 (by omega) I179 X179 W179 (by omega) (by omega) (by omega) (by omega) (by omega) (by omega) (fun b9 e9 => by rw [e68985] at e9; cases e9; omega)
          refine g_iload C dX12_guard_143 5 rfl ?_
          refine g_aload_n C dX12_guard_145 rfl 0 rfl ?_
          refine g_getI C fi_X12_305 (by decide) (h68979).1 (h68979).2 dX12_guard_146 ?_
          have h68989 := I143.rg (h68979) 28 rfl
          refine b_icmp_ge C 187 dX12_guard_149 (by decide) (fun h68990 => ?_) (fun h68990 => ?_)
          · have h68990 : (pI P143 a0 28).toInt ≤ v143_7.toInt := h68990
            refine g_lv (lv' := [(0, .ref a0), (2, .int a2), (4, .int a4), (5, .int v143_5), (6, .int v122_6)]) [0, 1, 2, 3, 4] rfl ?_
            exact J187 P143 v143_5 I143 X143 W143 (by omega) (by omega) (by omega) (by omega) (by omega) (fun b9 e9 => by rw [e68981] at e9; cases e9; omega)
          · have h68990 : v143_7.toInt < (pI P143 a0 28).toInt := h68990
            refine g_iload C dX12_guard_152 3 rfl ?_
            refine g_iconst (v := 2) C dX12_guard_154 (by decide) ?_
            refine b_icmp_le C 187 dX12_guard_155 (by decide) (fun h68991 => ?_) (fun h68991 => ?_)
            · have h68991 : v143_5.toInt ≤ 2 := h68991
              refine g_lv (lv' := [(0, .ref a0), (2, .int a2), (4, .int a4), (5, .int v143_5), (6, .int v122_6)]) [0, 1, 2, 3, 4] rfl ?_
              exact J187 P143 v143_5 I143 X143 W143 (by omega) (by omega) (by omega) (by omega) (by omega) (fun b9 e9 => by rw [e68981] at e9; cases e9; omega)
            · have h68991 : 2 < v143_5.toInt := h68991
              refine g_aload_n C dX12_guard_158 rfl 0 rfl ?_
              refine g_iload C dX12_guard_159 2 rfl ?_
              refine g_iload C dX12_guard_161 4 rfl ?_
              refine g_iload C dX12_guard_163 5 rfl ?_
              refine g_iload C dX12_guard_165 5 rfl ?_
              refine g_callVI (rest := []) C mv_X12_367 [.int a4, .int v122_6, .int v143_7, .int v143_7] (s_X12_isFixedWithout I143 (by omega) W143) (h68979).1 (h68979).2 rfl rfl (by decide) (Nat.le_of_ble_eq_true rfl) (by decide) dX12_guard_167 (fun r68992 Y68993 h68994 => ?_)
              obtain ⟨Iy68995, Xy68996, W68997, h68994⟩ := h68994
              have q68998 := Xy68996.keepF 0 (by decide)
              have q68999 := Xy68996.keepA e68981 (by decide) rfl (a2.toInt.toNat)
              have Xz69000 : EM [0, 28, 29, 30, 31, 32, 35, 36, 37, 38, 41, 42] a0 P Y68993 := EM.tr ha0 X143 (Xy68996.mono (by decide))
              have e69001 := Xy68996.ref h68979 (by decide) e68981
              have h69002 := Xy68996.at h68979
              have h69003 := Xy68996.ar h68982
              have h68994 : 0 ≤ r68992.toInt ∧ r68992.toInt ≤ 1 := h68994
              refine b_if_eq C 178 dX12_guard_170 (by decide) (fun h69004 => ?_) (fun h69004 => ?_)
              · have h69004 : r68992.toInt = 0 := congrArg Int32.toInt h69004
                refine g_iconst (v := 2) C dX12_guard_178 (by decide) ?_
                refine g_lv (lv' := [(0, .ref a0), (2, .int a2), (4, .int a4), (6, .int v122_6), (7, .int v143_7)]) [0, 1, 2, 4, 5] rfl ?_
                exact J179 Y68993 2 Iy68995 Xz69000 W68997 (by omega) (by omega) (by omega) (by omega) (by decide) (by omega) (fun b9 e9 => by rw [e69001] at e9; cases e9; omega)
              · have h69004 : r68992.toInt ≠ 0 := ti_ne h69004
                refine g_iload C dX12_guard_173 3 rfl ?_
                refine g_goto C 179 dX12_guard_175 (by decide) ?_
                refine g_lv (lv' := [(0, .ref a0), (2, .int a2), (4, .int a4), (6, .int v122_6), (7, .int v143_7)]) [0, 1, 2, 4, 5] rfl ?_
                exact J179 Y68993 v143_5 Iy68995 Xz69000 W68997 (by omega) (by omega) (by omega) (by omega) (by omega) (by omega) (fun b9 e9 => by rw [e69001] at e9; cases e9; omega)
      refine g_iload C dX12_guard_122 4 rfl ?_
      refine g_aload_n C dX12_guard_124 rfl 0 rfl ?_
      refine g_getI C fi_X12_305 (by decide) (h68969).1 (h68969).2 dX12_guard_125 ?_
      have h69005 := I122.rg (h68969) 28 rfl
      refine b_icmp_ge C 193 dX12_guard_128 (by decide) (fun h69006 => ?_) (fun h69006 => ?_)
      · have h69006 : (pI P122 a0 28).toInt ≤ v122_6.toInt := h69006
        refine g_lv (lv' := [(0, .ref a0), (2, .int a2), (4, .int a4), (5, .int v122_5)]) [0, 1, 2, 3] rfl ?_
        exact J193 P122 v122_5 I122 X122 W122 (by omega) (by omega) (by omega) (by omega) (fun b9 e9 => by rw [e68971] at e9; cases e9; omega)
      · have h69006 : v122_6.toInt < (pI P122 a0 28).toInt := h69006
        refine g_iload C dX12_guard_131 3 rfl ?_
        refine g_iconst (v := 2) C dX12_guard_133 (by decide) ?_
        refine b_icmp_le C 193 dX12_guard_134 (by decide) (fun h69007 => ?_) (fun h69007 => ?_)
        · have h69007 : v122_5.toInt ≤ 2 := h69007
          refine g_lv (lv' := [(0, .ref a0), (2, .int a2), (4, .int a4), (5, .int v122_5)]) [0, 1, 2, 3] rfl ?_
          exact J193 P122 v122_5 I122 X122 W122 (by omega) (by omega) (by omega) (by omega) (fun b9 e9 => by rw [e68971] at e9; cases e9; omega)
        · have h69007 : 2 < v122_5.toInt := h69007
          refine g_iload C dX12_guard_137 4 rfl ?_
          refine g_iconst (v := 1) C dX12_guard_139 (by decide) ?_
          refine s_iadd C dX12_guard_140 (by show -2147483648 ≤ v122_6.toInt + 1 ∧ v122_6.toInt + 1 ≤ 2147483647; omega) (fun z69008 h69009 => ?_)
          have h69009 : z69008.toInt = v122_6.toInt + 1 := h69009
          refine g_istore (lv' := [(7, .int z69008), (0, .ref a0), (2, .int a2), (4, .int a4), (5, .int v122_5), (6, .int v122_6)]) C dX12_guard_141 (by decide) rfl ?_
          refine g_lv (lv' := [(0, .ref a0), (2, .int a2), (4, .int a4), (5, .int v122_5), (6, .int v122_6), (7, .int z69008)]) [1, 2, 3, 4, 5, 0] rfl ?_
          exact J143 _ P122 v122_5 z69008 (Nat.lt_succ_self _) I122 X122 W122 (by omega) (by omega) (by omega) (by omega) (by omega) (by omega) (fun b9 e9 => by rw [e68971] at e9; cases e9; omega)
  have J114 : ∀ (P114 : PP) (v114_5 : Int32), (IM P114 a0) → (EM [0, 28, 29, 30, 31, 32, 35, 36, 37, 38, 41, 42] a0 P P114) → (MW P114 a0) → (0 ≤ a2.toInt ∧ a2.toInt ≤ 1) → (0 ≤ a4.toInt ∧ a4.toInt ≤ 19) → (1 ≤ v114_5.toInt ∧ v114_5.toInt ≤ 4) → (0 ≤ (pI P114 a0 0).toInt ∧ (pI P114 a0 0).toInt ≤ 0) → (∀ b, pR P114 a0 10 = some b → 1 ≤ (pI P114 b (a2.toInt.toNat)).toInt ∧ (pI P114 b (a2.toInt.toNat)).toInt ≤ 16) → G E ({ frames := 5, cells := 0, slots := 0, locals := 320 } : Room) D cy 9 P114 0 0 114 [(0, .ref a0), (2, .int a2), (4, .int a4), (5, .int v114_5)] [] := by
    intro P114 v114_5 I114 X114 W114 hv114_2 hv114_4 hv114_5 hq114_0 hq114_1
    have h69010 := X114.at ha0
    obtain ⟨b69011, e69012, h69013⟩ := I114.fld (h69010) 10 13 2 rfl
    have hq114_1 := hq114_1 b69011 e69012
    refine g_aload_n C dX12_guard_114 rfl 0 rfl ?_
    obtain ⟨b69014, e69015, h69016⟩ := I114.fld (h69010) 15 13 3 rfl
    refine g_getR C fi_X12_60 rfl e69015 (h69010).1 (h69010).2 dX12_guard_115 ?_
    refine g_iload_n C dX12_guard_118 rfl 1 rfl ?_
    refine g_iald (j := (a2.toInt.toNat)) C h69016.1 h69016.2.1 (ix_in h69016.2.2 (by omega)) dX12_guard_119 ?_
    have h69017 := I114.arr e69015 rfl (a2.toInt.toNat)
    refine g_topi (fun z69018 h69019 => ?_)
    have h69019 : z69018.toInt = (pI P114 b69014 (a2.toInt.toNat)).toInt := congrArg Int32.toInt h69019
    refine g_istore (lv' := [(6, .int z69018), (0, .ref a0), (2, .int a2), (4, .int a4), (5, .int v114_5)]) C dX12_guard_120 (by decide) rfl ?_
    refine g_lv (lv' := [(0, .ref a0), (2, .int a2), (4, .int a4), (5, .int v114_5), (6, .int z69018)]) [1, 2, 3, 4, 0] rfl ?_
    exact J122 _ P114 v114_5 z69018 (Nat.lt_succ_self _) I114 X114 W114 (by omega) (by omega) (by omega) (by omega) (by omega) (fun b9 e9 => by rw [e69012] at e9; cases e9; omega)
  have J70 : ∀ (n70 : Nat) (P70 : PP) (v70_5 : Int32) (v70_6 : Int32), (64 - v70_6.toInt).toNat < n70 → (IM P70 a0) → (EM [0, 28, 29, 30, 31, 32, 35, 36, 37, 38, 41, 42] a0 P P70) → (MW P70 a0) → (0 ≤ a2.toInt ∧ a2.toInt ≤ 1) → (0 ≤ a4.toInt ∧ a4.toInt ≤ 19) → (1 ≤ v70_5.toInt ∧ v70_5.toInt ≤ 4) → (0 ≤ v70_6.toInt ∧ v70_6.toInt ≤ 64) → (0 ≤ (pI P70 a0 0).toInt ∧ (pI P70 a0 0).toInt ≤ 0) → (∀ b, pR P70 a0 10 = some b → 1 ≤ (pI P70 b (a2.toInt.toNat)).toInt ∧ (pI P70 b (a2.toInt.toNat)).toInt ≤ 16) → G E ({ frames := 5, cells := 0, slots := 0, locals := 320 } : Room) D cy 9 P70 0 0 70 [(0, .ref a0), (2, .int a2), (4, .int a4), (5, .int v70_5), (6, .int v70_6)] [] := by
    intro n70
    induction n70 with
    | zero => intro P70 v70_5 v70_6 hm70 I70 X70 W70 hv70_2 hv70_4 hv70_5 hv70_6 hq70_0 hq70_1; omega
    | succ n70 ih70 =>
      intro P70 v70_5 v70_6 hm70 I70 X70 W70 hv70_2 hv70_4 hv70_5 hv70_6 hq70_0 hq70_1
      have h69020 := X70.at ha0
      obtain ⟨b69021, e69022, h69023⟩ := I70.fld (h69020) 10 13 2 rfl
      have hq70_1 := hq70_1 b69021 e69022
      have J106 : ∀ (P106 : PP) (v106_s0 : Int32), (IM P106 a0) → (EM [0, 28, 29, 30, 31, 32, 35, 36, 37, 38, 41, 42] a0 P P106) → (MW P106 a0) → (0 ≤ a2.toInt ∧ a2.toInt ≤ 1) → (0 ≤ a4.toInt ∧ a4.toInt ≤ 19) → (0 ≤ v70_6.toInt ∧ v70_6.toInt ≤ 63) → (1 ≤ v106_s0.toInt ∧ v106_s0.toInt ≤ 4) → (0 ≤ (pI P106 a0 0).toInt ∧ (pI P106 a0 0).toInt ≤ 0) → (∀ b, pR P106 a0 10 = some b → 1 ≤ (pI P106 b (a2.toInt.toNat)).toInt ∧ (pI P106 b (a2.toInt.toNat)).toInt ≤ 16) → G E ({ frames := 5, cells := 0, slots := 0, locals := 320 } : Room) D cy 9 P106 0 0 106 [(0, .ref a0), (2, .int a2), (4, .int a4), (6, .int v70_6)] [.int v106_s0] := by
        intro P106 v106_s0 I106 X106 W106 hv106_2 hv106_4 hv106_6 hv106_s0 hq106_0 hq106_1
        have h69024 := X106.at ha0
        obtain ⟨b69025, e69026, h69027⟩ := I106.fld (h69024) 10 13 2 rfl
        have hq106_1 := hq106_1 b69025 e69026
        refine g_istore (lv' := [(5, .int v106_s0), (0, .ref a0), (2, .int a2), (4, .int a4), (6, .int v70_6)]) C dX12_guard_106 (by decide) rfl ?_
        refine s_iinc (lv0 := [(5, .int v106_s0), (0, .ref a0), (2, .int a2), (4, .int a4)]) (m := 1) C dX12_guard_108 4 rfl (by decide) rfl (by decide) (by omega) (fun z69028 h69029 => ?_)
        have h69029 : z69028.toInt = v70_6.toInt + 1 := h69029
        refine g_goto C 70 dX12_guard_111 (by decide) ?_
        refine g_lv (lv' := [(0, .ref a0), (2, .int a2), (4, .int a4), (5, .int v106_s0), (6, .int z69028)]) [2, 3, 4, 1, 0] rfl ?_
        exact ih70 P106 v106_s0 z69028 (by omega) I106 X106 W106 (by omega) (by omega) (by omega) (by omega) (by omega) (fun b9 e9 => by rw [e69026] at e9; cases e9; omega)
      refine g_iload C dX12_guard_70 4 rfl ?_
      refine g_aload_n C dX12_guard_72 rfl 0 rfl ?_
      refine g_getI C fi_X12_305 (by decide) (h69020).1 (h69020).2 dX12_guard_73 ?_
      have h69030 := I70.rg (h69020) 28 rfl
      refine b_icmp_ge C 114 dX12_guard_76 (by decide) (fun h69031 => ?_) (fun h69031 => ?_)
      · have h69031 : (pI P70 a0 28).toInt ≤ v70_6.toInt := h69031
        refine g_lv (lv' := [(0, .ref a0), (2, .int a2), (4, .int a4), (5, .int v70_5)]) [0, 1, 2, 3] rfl ?_
        exact J114 P70 v70_5 I70 X70 W70 (by omega) (by omega) (by omega) (by omega) (fun b9 e9 => by rw [e69022] at e9; cases e9; omega)
      · have h69031 : v70_6.toInt < (pI P70 a0 28).toInt := h69031
        refine g_iload C dX12_guard_79 3 rfl ?_
        refine g_iconst (v := 1) C dX12_guard_81 (by decide) ?_
        refine b_icmp_le C 114 dX12_guard_82 (by decide) (fun h69032 => ?_) (fun h69032 => ?_)
        · have h69032 : v70_5.toInt ≤ 1 := h69032
          refine g_lv (lv' := [(0, .ref a0), (2, .int a2), (4, .int a4), (5, .int v70_5)]) [0, 1, 2, 3] rfl ?_
          exact J114 P70 v70_5 I70 X70 W70 (by omega) (by omega) (by omega) (by omega) (fun b9 e9 => by rw [e69022] at e9; cases e9; omega)
        · have h69032 : 1 < v70_5.toInt := h69032
          refine g_aload_n C dX12_guard_85 rfl 0 rfl ?_
          refine g_iload C dX12_guard_86 2 rfl ?_
          refine g_iload C dX12_guard_88 4 rfl ?_
          refine g_iload C dX12_guard_90 4 rfl ?_
          refine g_iload C dX12_guard_92 4 rfl ?_
          refine g_callVI (rest := []) C mv_X12_367 [.int a4, .int v70_6, .int v70_6, .int v70_6] (s_X12_isFixedWithout I70 (by omega) W70) (h69020).1 (h69020).2 rfl rfl (by decide) (Nat.le_of_ble_eq_true rfl) (by decide) dX12_guard_94 (fun r69033 Y69034 h69035 => ?_)
          obtain ⟨Iy69036, Xy69037, W69038, h69035⟩ := h69035
          have q69039 := Xy69037.keepF 0 (by decide)
          have q69040 := Xy69037.keepA e69022 (by decide) rfl (a2.toInt.toNat)
          have Xz69041 : EM [0, 28, 29, 30, 31, 32, 35, 36, 37, 38, 41, 42] a0 P Y69034 := EM.tr ha0 X70 (Xy69037.mono (by decide))
          have e69042 := Xy69037.ref h69020 (by decide) e69022
          have h69043 := Xy69037.at h69020
          have h69044 := Xy69037.ar h69023
          have h69035 : 0 ≤ r69033.toInt ∧ r69033.toInt ≤ 1 := h69035
          refine b_if_eq C 105 dX12_guard_97 (by decide) (fun h69045 => ?_) (fun h69045 => ?_)
          · have h69045 : r69033.toInt = 0 := congrArg Int32.toInt h69045
            refine g_iconst (v := 1) C dX12_guard_105 (by decide) ?_
            refine g_lv (lv' := [(0, .ref a0), (2, .int a2), (4, .int a4), (6, .int v70_6)]) [0, 1, 2, 4] rfl ?_
            exact J106 Y69034 1 Iy69036 Xz69041 W69038 (by omega) (by omega) (by omega) (by decide) (by omega) (fun b9 e9 => by rw [e69042] at e9; cases e9; omega)
          · have h69045 : r69033.toInt ≠ 0 := ti_ne h69045
            refine g_iload C dX12_guard_100 3 rfl ?_
            refine g_goto C 106 dX12_guard_102 (by decide) ?_
            refine g_lv (lv' := [(0, .ref a0), (2, .int a2), (4, .int a4), (6, .int v70_6)]) [0, 1, 2, 4] rfl ?_
            exact J106 Y69034 v70_5 Iy69036 Xz69041 W69038 (by omega) (by omega) (by omega) (by omega) (by omega) (fun b9 e9 => by rw [e69042] at e9; cases e9; omega)
  have J25 : ∀ (P25 : PP), (IM P25 a0) → (EM [0, 28, 29, 30, 31, 32, 35, 36, 37, 38, 41, 42] a0 P P25) → (MW P25 a0) → (0 ≤ (pI P25 a0 0).toInt ∧ (pI P25 a0 0).toInt ≤ 0) → G E ({ frames := 5, cells := 0, slots := 0, locals := 320 } : Room) D cy 9 P25 0 0 25 [] [] := by
    intro P25 I25 X25 W25 hq25_0
    have h69046 := X25.at ha0
    refine g_iconst (v := (-1)) C dX12_guard_25 (by decide) ?_
    exact ret _ _ _ _ _ _ dX12_guard_26 rfl (by decide) (by decide) ⟨I25, X25, W25, (by decide)⟩
  refine g_aload_n C dX12_guard_0 rfl 0 rfl ?_
  refine g_iconst (v := 0) C dX12_guard_1 (by decide) ?_
  refine g_putI C fi_X12_1 rfl (ha0).1 (ha0).2 dX12_guard_2 ?_
  refine gqW (ks := [0]) (I.setI (rgOk.of rfl (by decide))) (EM.setI I (by decide)) (fun Y69047 Iy69048 Xy69049 w69050 => ?_)
  have w69050 : (pI Y69047 a0 0).toInt = 0 := w69050
  have W69051 := hW.keep I Xy69049 (by decide) (by decide) (by decide)
  have Xz69052 : EM [0, 28, 29, 30, 31, 32, 35, 36, 37, 38, 41, 42] a0 P Y69047 := Xy69049.mono (by decide)
  have h69053 := Xy69049.at ha0
  refine g_aload_n C dX12_guard_5 rfl 0 rfl ?_
  refine g_iload_n C dX12_guard_6 rfl 1 rfl ?_
  refine g_iload_n C dX12_guard_7 rfl 2 rfl ?_
  refine g_iload_n C dX12_guard_8 rfl 3 rfl ?_
  refine g_callVI (rest := []) C mv_X12_333 [.int a1, .int a2, .int a3] (s_X12_isAsked Iy69048 W69051) (h69053).1 (h69053).2 rfl rfl (by decide) (Nat.le_of_ble_eq_true rfl) (by decide) dX12_guard_9 (fun r69054 Y69055 h69056 => ?_)
  obtain ⟨rfl, h69056⟩ := h69056
  obtain ⟨h69056, hi69057, hi69058⟩ := h69056
  have hi69057 : r69054.toInt = 0 ∨ (((0 : Int) ≤ a1.toInt ∧ a1.toInt ≤ (3 : Int)) ∧ ((0 : Int) ≤ a2.toInt ∧ a2.toInt ≤ (1 : Int)) ∧ ((0 : Int) ≤ a3.toInt ∧ a3.toInt ≤ (1 : Int))) := hi69057
  have h69056 : 0 ≤ r69054.toInt ∧ r69054.toInt ≤ 1 := h69056
  refine b_if_eq C 25 dX12_guard_12 (by decide) (fun h69059 => ?_) (fun h69059 => ?_)
  · have h69059 : r69054.toInt = 0 := congrArg Int32.toInt h69059
    clear hi69057
    refine g_lv (lv' := []) [] rfl ?_
    exact J25 Y69047 Iy69048 Xz69052 W69051 (by omega)
  · have h69059 : r69054.toInt ≠ 0 := ti_ne h69059
    replace hi69057 := hi69057.resolve_left (by omega)
    obtain ⟨b69060, e69061, h69062⟩ := Iy69048.fld (h69053) 10 13 2 rfl
    have hi69058 := (hi69058.resolve_left (by omega)) b69060 e69061
    have hi69058 : 0 < (pI Y69047 b69060 (a2.toInt.toNat)).toInt := hi69058
    have h69063 := Iy69048.arr e69061 rfl (a2.toInt.toNat)
    refine g_aload_n C dX12_guard_15 rfl 0 rfl ?_
    refine g_iload_n C dX12_guard_16 rfl 2 rfl ?_
    refine g_iload C dX12_guard_17 4 rfl ?_
    refine g_callVI (rest := []) C mv_X12_352 [.int a2, .int a4] (s_X12_isPage Iy69048 (by omega) W69051) (h69053).1 (h69053).2 rfl rfl (by decide) (Nat.le_of_ble_eq_true rfl) (by decide) dX12_guard_19 (fun r69064 Y69065 h69066 => ?_)
    obtain ⟨rfl, h69066⟩ := h69066
    obtain ⟨h69066, hi69067⟩ := h69066
    have hi69067 : r69064.toInt = 0 ∨ (((0 : Int) ≤ a4.toInt ∧ a4.toInt ≤ (19 : Int))) := hi69067
    have h69066 : 0 ≤ r69064.toInt ∧ r69064.toInt ≤ 1 := h69066
    refine b_if_ne C 27 dX12_guard_22 (by decide) (fun h69068 => ?_) (fun h69068 => ?_)
    · have h69068 : r69064.toInt ≠ 0 := ti_ne h69068
      replace hi69067 := hi69067.resolve_left (by omega)
      refine g_aload_n C dX12_guard_27 rfl 0 rfl ?_
      refine g_callVV (rest := []) C mv_X12_336 [] (s_X12_leavesNone Iy69048 W69051) (h69053).1 (h69053).2 rfl rfl (by decide) (Nat.le_of_ble_eq_true rfl) (by decide) dX12_guard_28 (fun Y69070 h69071 => ?_)
      obtain ⟨Iy69072, Xy69073, W69074⟩ := h69071
      have q69075 := Xy69073.keepF 0 (by decide)
      have q69076 := Xy69073.keepA e69061 (by decide) rfl (a2.toInt.toNat)
      have Xz69077 : EM [0, 28, 29, 30, 31, 32, 35, 36, 37, 38, 41, 42] a0 P Y69070 := EM.tr ha0 Xz69052 (Xy69073.mono (by decide))
      have e69078 := Xy69073.ref h69053 (by decide) e69061
      have h69079 := Xy69073.at h69053
      have h69080 := Xy69073.ar h69062
      refine g_aload_n C dX12_guard_31 rfl 0 rfl ?_
      refine g_iload_n C dX12_guard_32 rfl 1 rfl ?_
      refine g_iload_n C dX12_guard_33 rfl 2 rfl ?_
      refine g_iload_n C dX12_guard_34 rfl 3 rfl ?_
      refine g_aload_n C dX12_guard_35 rfl 0 rfl ?_
      obtain ⟨b69081, e69082, h69083⟩ := Iy69072.fld (h69079) 20 13 20 rfl
      refine g_getR C fi_X12_69 rfl e69082 (h69079).1 (h69079).2 dX12_guard_36 ?_
      refine g_iload_n C dX12_guard_39 rfl 1 rfl ?_
      refine g_iald (j := (a1.toInt.toNat)) C h69083.1 h69083.2.1 (ix_in h69083.2.2 (by omega)) dX12_guard_40 ?_
      have h69084 := Iy69072.arr e69082 rfl (a1.toInt.toNat)
      refine g_callVV (rest := []) C mv_X12_339 [.int a1, .int a2, .int a3, .int (pI Y69070 b69081 (a1.toInt.toNat))] (s_X12_gathers Iy69072 (by omega) (by omega) (by omega) (fun b9 e9 => by rw [e69078] at e9; cases e9; show 1 ≤ (pI Y69070 b69060 (a2.toInt.toNat)).toInt ∧ (pI Y69070 b69060 (a2.toInt.toNat)).toInt ≤ 16; omega) W69074) (h69079).1 (h69079).2 rfl rfl (by decide) (Nat.le_of_ble_eq_true rfl) (by decide) dX12_guard_41 (fun Y69086 h69087 => ?_)
      obtain ⟨Iy69088, Xy69089, W69090, p69091⟩ := h69087
      have p69091 : (pI Y69086 a0 28).toInt ≤ 4 + (pI Y69070 b69081 (a1.toInt.toNat)).toInt := p69091
      have q69092 := Xy69089.keepF 0 (by decide)
      have q69093 := Xy69089.keepA e69078 (by decide) rfl (a2.toInt.toNat)
      have q69094 := Xy69089.keepA e69082 (by decide) rfl (a1.toInt.toNat)
      have Xz69095 : EM [0, 28, 29, 30, 31, 32, 35, 36, 37, 38, 41, 42] a0 P Y69086 := EM.tr ha0 Xz69077 (Xy69089.mono (by decide))
      have e69096 := Xy69089.ref h69079 (by decide) e69078
      have e69097 := Xy69089.ref h69079 (by decide) e69082
      have h69098 := Xy69089.at h69079
      have h69099 := Xy69089.ar h69080
      have h69100 := Xy69089.ar h69083
      have h69101 := Iy69088.rg h69098 28 rfl
      refine g_aload_n C dX12_guard_44 rfl 0 rfl ?_
      refine g_callVV (rest := []) C mv_X12_346 [] (s_X12_findSolved Iy69088 W69090) (h69098).1 (h69098).2 rfl rfl (by decide) (Nat.le_of_ble_eq_true rfl) (by decide) dX12_guard_45 (fun Y69103 h69104 => ?_)
      obtain ⟨Iy69105, Xy69106, W69107⟩ := h69104
      have q69108 := Xy69106.keepF 0 (by decide)
      have q69109 := Xy69106.keepA e69096 (by decide) rfl (a2.toInt.toNat)
      have q69110 := Xy69106.keepA e69097 (by decide) rfl (a1.toInt.toNat)
      have q69111 := Xy69106.keepF 28 (by decide)
      have Xz69112 : EM [0, 28, 29, 30, 31, 32, 35, 36, 37, 38, 41, 42] a0 P Y69103 := EM.tr ha0 Xz69095 (Xy69106.mono (by decide))
      have e69113 := Xy69106.ref h69098 (by decide) e69096
      have e69114 := Xy69106.ref h69098 (by decide) e69097
      have h69115 := Xy69106.at h69098
      have h69116 := Xy69106.ar h69099
      have h69117 := Xy69106.ar h69100
      refine g_aload_n C dX12_guard_48 rfl 0 rfl ?_
      refine g_iload C dX12_guard_49 4 rfl ?_
      refine g_callVI (rest := []) C mv_X12_330 [.int a4] (s_X12_isFixed Iy69105 (by omega) W69107) (h69115).1 (h69115).2 rfl rfl (by decide) (Nat.le_of_ble_eq_true rfl) (by decide) dX12_guard_51 (fun r69118 Y69119 h69120 => ?_)
      obtain ⟨rfl, h69120⟩ := h69120
      have h69120 : 0 ≤ r69118.toInt ∧ r69118.toInt ≤ 1 := h69120
      refine b_if_ne C 59 dX12_guard_54 (by decide) (fun h69121 => ?_) (fun h69121 => ?_)
      · have h69121 : r69118.toInt ≠ 0 := ti_ne h69121
        refine g_iconst (v := 4) C dX12_guard_59 (by decide) ?_
        refine g_istore (lv' := [(5, .int 4), (0, .ref a0), (1, .int a1), (2, .int a2), (3, .int a3), (4, .int a4)]) C dX12_guard_60 (by decide) rfl ?_
        refine g_aload_n C dX12_guard_62 rfl 1 rfl ?_
        obtain ⟨b69122, e69123, h69124⟩ := Iy69105.fld (h69115) 15 13 3 rfl
        refine g_getR C fi_X12_60 rfl e69123 (h69115).1 (h69115).2 dX12_guard_63 ?_
        refine g_iload_n C dX12_guard_66 rfl 3 rfl ?_
        refine g_iald (j := (a2.toInt.toNat)) C h69124.1 h69124.2.1 (ix_in h69124.2.2 (by omega)) dX12_guard_67 ?_
        have h69125 := Iy69105.arr e69123 rfl (a2.toInt.toNat)
        refine g_topi (fun z69126 h69127 => ?_)
        have h69127 : z69126.toInt = (pI Y69103 b69122 (a2.toInt.toNat)).toInt := congrArg Int32.toInt h69127
        refine g_istore (lv' := [(6, .int z69126), (5, .int 4), (0, .ref a0), (1, .int a1), (2, .int a2), (3, .int a3), (4, .int a4)]) C dX12_guard_68 (by decide) rfl ?_
        refine g_lv (lv' := [(0, .ref a0), (2, .int a2), (4, .int a4), (5, .int 4), (6, .int z69126)]) [2, 4, 6, 1, 0] rfl ?_
        exact J70 _ Y69103 4 z69126 (Nat.lt_succ_self _) Iy69105 Xz69112 W69107 (by omega) (by omega) (by decide) (by omega) (by omega) (fun b9 e9 => by rw [e69113] at e9; cases e9; omega)
      · have h69121 : r69118.toInt = 0 := congrArg Int32.toInt h69121
        refine g_iconst (v := (-1)) C dX12_guard_57 (by decide) ?_
        exact ret _ _ _ _ _ _ dX12_guard_58 rfl (by decide) (by decide) ⟨Iy69105, Xz69112, W69107, (by decide)⟩
    · have h69068 : r69064.toInt = 0 := congrArg Int32.toInt h69068
      clear hi69067
      refine g_lv (lv' := []) [] rfl ?_
      exact J25 Y69047 Iy69048 Xz69052 W69051 (by omega)
theorem dX12_hasAlike_0 : decode cX12_hasAlike 0 = .ok (.iconst 0, 1) := by decide +kernel
theorem dX12_hasAlike_1 : decode cX12_hasAlike 1 = .ok (.istore_n 3, 1) := by decide +kernel
theorem dX12_hasAlike_2 : decode cX12_hasAlike 2 = .ok (.iconst 0, 1) := by decide +kernel
theorem dX12_hasAlike_3 : decode cX12_hasAlike 3 = .ok (.istore 4, 2) := by decide +kernel
theorem dX12_hasAlike_5 : decode cX12_hasAlike 5 = .ok (.iload 4, 2) := by decide +kernel
theorem dX12_hasAlike_7 : decode cX12_hasAlike 7 = .ok (.aload_n 0, 1) := by decide +kernel
theorem dX12_hasAlike_8 : decode cX12_hasAlike 8 = .ok (.getfield 69, 3) := by decide +kernel
theorem dX12_hasAlike_11 : decode cX12_hasAlike 11 = .ok (.iload_n 1, 1) := by decide +kernel
theorem dX12_hasAlike_12 : decode cX12_hasAlike 12 = .ok (.iaload, 1) := by decide +kernel
theorem dX12_hasAlike_13 : decode cX12_hasAlike 13 = .ok (.if_icmp .ge 45, 3) := by decide +kernel
theorem dX12_hasAlike_16 : decode cX12_hasAlike 16 = .ok (.iload_n 3, 1) := by decide +kernel
theorem dX12_hasAlike_17 : decode cX12_hasAlike 17 = .ok (.ifCond .ne 29, 3) := by decide +kernel
theorem dX12_hasAlike_20 : decode cX12_hasAlike 20 = .ok (.bipush 40, 2) := by decide +kernel
theorem dX12_hasAlike_22 : decode cX12_hasAlike 22 = .ok (.iload_n 1, 1) := by decide +kernel
theorem dX12_hasAlike_23 : decode cX12_hasAlike 23 = .ok (.imul, 1) := by decide +kernel
theorem dX12_hasAlike_24 : decode cX12_hasAlike 24 = .ok (.iload 4, 2) := by decide +kernel
theorem dX12_hasAlike_26 : decode cX12_hasAlike 26 = .ok (.iadd, 1) := by decide +kernel
theorem dX12_hasAlike_27 : decode cX12_hasAlike 27 = .ok (.iload_n 2, 1) := by decide +kernel
theorem dX12_hasAlike_28 : decode cX12_hasAlike 28 = .ok (.if_icmp .eq 22, 3) := by decide +kernel
theorem dX12_hasAlike_31 : decode cX12_hasAlike 31 = .ok (.aload_n 0, 1) := by decide +kernel
theorem dX12_hasAlike_32 : decode cX12_hasAlike 32 = .ok (.bipush 40, 2) := by decide +kernel
theorem dX12_hasAlike_34 : decode cX12_hasAlike 34 = .ok (.iload_n 1, 1) := by decide +kernel
theorem dX12_hasAlike_35 : decode cX12_hasAlike 35 = .ok (.imul, 1) := by decide +kernel
theorem dX12_hasAlike_36 : decode cX12_hasAlike 36 = .ok (.iload 4, 2) := by decide +kernel
theorem dX12_hasAlike_38 : decode cX12_hasAlike 38 = .ok (.iadd, 1) := by decide +kernel
theorem dX12_hasAlike_39 : decode cX12_hasAlike 39 = .ok (.iload_n 2, 1) := by decide +kernel
theorem dX12_hasAlike_40 : decode cX12_hasAlike 40 = .ok (.invokevirtual 399, 3) := by decide +kernel
theorem dX12_hasAlike_58 : decode cX12_hasAlike 58 = .ok (.iload_n 3, 1) := by decide +kernel
theorem dX12_hasAlike_59 : decode cX12_hasAlike 59 = .ok (.ireturn, 1) := by decide +kernel
theorem dX12_isAlike_0 : decode cX12_isAlike 0 = .ok (.aload_n 0, 1) := by decide +kernel
theorem dX12_isAlike_1 : decode cX12_isAlike 1 = .ok (.getfield 72, 3) := by decide +kernel
theorem dX12_isAlike_4 : decode cX12_isAlike 4 = .ok (.iload_n 1, 1) := by decide +kernel
theorem dX12_isAlike_5 : decode cX12_isAlike 5 = .ok (.iaload, 1) := by decide +kernel
theorem dX12_isAlike_6 : decode cX12_isAlike 6 = .ok (.aload_n 0, 1) := by decide +kernel
theorem dX12_isAlike_7 : decode cX12_isAlike 7 = .ok (.getfield 72, 3) := by decide +kernel
theorem dX12_isAlike_10 : decode cX12_isAlike 10 = .ok (.iload_n 2, 1) := by decide +kernel
theorem dX12_isAlike_11 : decode cX12_isAlike 11 = .ok (.iaload, 1) := by decide +kernel
theorem dX12_isAlike_12 : decode cX12_isAlike 12 = .ok (.if_icmp .ne 67, 3) := by decide +kernel
theorem dX12_isAlike_15 : decode cX12_isAlike 15 = .ok (.aload_n 0, 1) := by decide +kernel
theorem dX12_isAlike_16 : decode cX12_isAlike 16 = .ok (.getfield 75, 3) := by decide +kernel
theorem dX12_isAlike_19 : decode cX12_isAlike 19 = .ok (.iload_n 1, 1) := by decide +kernel
theorem dX12_isAlike_20 : decode cX12_isAlike 20 = .ok (.iaload, 1) := by decide +kernel
theorem dX12_isAlike_21 : decode cX12_isAlike 21 = .ok (.aload_n 0, 1) := by decide +kernel
theorem dX12_isAlike_22 : decode cX12_isAlike 22 = .ok (.getfield 75, 3) := by decide +kernel
theorem dX12_isAlike_25 : decode cX12_isAlike 25 = .ok (.iload_n 2, 1) := by decide +kernel
theorem dX12_isAlike_26 : decode cX12_isAlike 26 = .ok (.iaload, 1) := by decide +kernel
theorem dX12_isAlike_27 : decode cX12_isAlike 27 = .ok (.if_icmp .ne 52, 3) := by decide +kernel
theorem dX12_isAlike_30 : decode cX12_isAlike 30 = .ok (.aload_n 0, 1) := by decide +kernel
theorem dX12_isAlike_31 : decode cX12_isAlike 31 = .ok (.getfield 78, 3) := by decide +kernel
theorem dX12_isAlike_34 : decode cX12_isAlike 34 = .ok (.iload_n 1, 1) := by decide +kernel
theorem dX12_isAlike_35 : decode cX12_isAlike 35 = .ok (.iaload, 1) := by decide +kernel
theorem dX12_isAlike_36 : decode cX12_isAlike 36 = .ok (.aload_n 0, 1) := by decide +kernel
theorem dX12_isAlike_37 : decode cX12_isAlike 37 = .ok (.getfield 78, 3) := by decide +kernel
theorem dX12_isAlike_40 : decode cX12_isAlike 40 = .ok (.iload_n 2, 1) := by decide +kernel
theorem dX12_isAlike_41 : decode cX12_isAlike 41 = .ok (.iaload, 1) := by decide +kernel
theorem dX12_isAlike_42 : decode cX12_isAlike 42 = .ok (.if_icmp .ne 37, 3) := by decide +kernel
theorem dX12_isAlike_45 : decode cX12_isAlike 45 = .ok (.aload_n 0, 1) := by decide +kernel
theorem dX12_isAlike_46 : decode cX12_isAlike 46 = .ok (.getfield 81, 3) := by decide +kernel
theorem dX12_isAlike_49 : decode cX12_isAlike 49 = .ok (.iload_n 1, 1) := by decide +kernel
theorem dX12_isAlike_50 : decode cX12_isAlike 50 = .ok (.iaload, 1) := by decide +kernel
theorem dX12_isAlike_51 : decode cX12_isAlike 51 = .ok (.aload_n 0, 1) := by decide +kernel
theorem dX12_isAlike_52 : decode cX12_isAlike 52 = .ok (.getfield 81, 3) := by decide +kernel
theorem dX12_isAlike_55 : decode cX12_isAlike 55 = .ok (.iload_n 2, 1) := by decide +kernel
theorem dX12_isAlike_56 : decode cX12_isAlike 56 = .ok (.iaload, 1) := by decide +kernel
theorem dX12_isAlike_57 : decode cX12_isAlike 57 = .ok (.if_icmp .ne 22, 3) := by decide +kernel
theorem dX12_isAlike_60 : decode cX12_isAlike 60 = .ok (.aload_n 0, 1) := by decide +kernel
theorem dX12_isAlike_61 : decode cX12_isAlike 61 = .ok (.getfield 84, 3) := by decide +kernel
theorem dX12_isAlike_64 : decode cX12_isAlike 64 = .ok (.iload_n 1, 1) := by decide +kernel
theorem dX12_isAlike_65 : decode cX12_isAlike 65 = .ok (.iaload, 1) := by decide +kernel
theorem dX12_isAlike_66 : decode cX12_isAlike 66 = .ok (.aload_n 0, 1) := by decide +kernel
theorem dX12_isAlike_67 : decode cX12_isAlike 67 = .ok (.getfield 84, 3) := by decide +kernel
theorem dX12_isAlike_70 : decode cX12_isAlike 70 = .ok (.iload_n 2, 1) := by decide +kernel
theorem dX12_isAlike_71 : decode cX12_isAlike 71 = .ok (.iaload, 1) := by decide +kernel
theorem dX12_isAlike_72 : decode cX12_isAlike 72 = .ok (.if_icmp .ne 7, 3) := by decide +kernel
theorem dX12_isAlike_75 : decode cX12_isAlike 75 = .ok (.iconst 1, 1) := by decide +kernel
theorem dX12_isAlike_76 : decode cX12_isAlike 76 = .ok (.goto 4, 3) := by decide +kernel
theorem dX12_isAlike_79 : decode cX12_isAlike 79 = .ok (.iconst 0, 1) := by decide +kernel
theorem dX12_isAlike_80 : decode cX12_isAlike 80 = .ok (.ireturn, 1) := by decide +kernel
set_option maxHeartbeats 4000000 in
set_option maxRecDepth 100000 in
theorem s_X12_isAlike {P : PP} {a0 : Nat} {a1 : Int32} {a2 : Int32} (I : IM P a0) (ha1 : 0 ≤ a1.toInt ∧ a1.toInt ≤ 799) (ha2 : 0 ≤ a2.toInt ∧ a2.toInt ≤ 799) (hW : MW P a0) : CtrI yX12_isAlike cX12_isAlike 3 (some Jvm.ClassFile.FieldType.boolean) ({ frames := 1, cells := 0, slots := 0, locals := 64 } : Room) 0 0 P [.ref a0, .int a1, .int a2] (fun r P2 => P = P2 ∧ (0 ≤ r.toInt ∧ r.toInt ≤ 1)) := by
  refine enI (lv := [(0, .ref a0), (1, .int a1), (2, .int a2)]) (by decide) (Nat.le_of_ble_eq_true rfl) rfl (fun E D cy C Ci0 ret => ?_)
  have ha0 := I.2.1
  have J79 : G E ({ frames := 1, cells := 0, slots := 0, locals := 64 } : Room) D cy 3 P 0 0 79 [] [] := by
    refine g_iconst (v := 0) C dX12_isAlike_79 (by decide) ?_
    exact ret _ _ _ _ _ _ dX12_isAlike_80 rfl (by decide) (by decide) ⟨rfl, (by decide)⟩
  refine g_aload_n C dX12_isAlike_0 rfl 0 rfl ?_
  obtain ⟨b69173, e69174, h69175⟩ := I.fld (ha0) 21 13 800 rfl
  refine g_getR C fi_X12_72 rfl e69174 (ha0).1 (ha0).2 dX12_isAlike_1 ?_
  refine g_iload_n C dX12_isAlike_4 rfl 1 rfl ?_
  refine g_iald (j := (a1.toInt.toNat)) C h69175.1 h69175.2.1 (ix_in h69175.2.2 (by omega)) dX12_isAlike_5 ?_
  refine g_aload_n C dX12_isAlike_6 rfl 0 rfl ?_
  refine g_getR C fi_X12_72 rfl e69174 (ha0).1 (ha0).2 dX12_isAlike_7 ?_
  refine g_iload_n C dX12_isAlike_10 rfl 2 rfl ?_
  refine g_iald (j := (a2.toInt.toNat)) C h69175.1 h69175.2.1 (ix_in h69175.2.2 (by omega)) dX12_isAlike_11 ?_
  have u69177 := ti_rng (pI P b69173 (a1.toInt.toNat))
  have u69178 := ti_rng (pI P b69173 (a2.toInt.toNat))
  refine b_icmp_ne C 79 dX12_isAlike_12 (by decide) (fun h69176 => ?_) (fun h69176 => ?_)
  · have h69176 : (pI P b69173 (a1.toInt.toNat)).toInt ≠ (pI P b69173 (a2.toInt.toNat)).toInt := ti_ne h69176
    refine g_lv (lv' := []) [] rfl ?_
    exact J79 
  · have h69176 : (pI P b69173 (a1.toInt.toNat)).toInt = (pI P b69173 (a2.toInt.toNat)).toInt := congrArg Int32.toInt h69176
    refine g_aload_n C dX12_isAlike_15 rfl 0 rfl ?_
    obtain ⟨b69179, e69180, h69181⟩ := I.fld (ha0) 22 13 800 rfl
    refine g_getR C fi_X12_75 rfl e69180 (ha0).1 (ha0).2 dX12_isAlike_16 ?_
    refine g_iload_n C dX12_isAlike_19 rfl 1 rfl ?_
    refine g_iald (j := (a1.toInt.toNat)) C h69181.1 h69181.2.1 (ix_in h69181.2.2 (by omega)) dX12_isAlike_20 ?_
    have h69182 := I.arr e69180 rfl (a1.toInt.toNat)
    refine g_aload_n C dX12_isAlike_21 rfl 0 rfl ?_
    refine g_getR C fi_X12_75 rfl e69180 (ha0).1 (ha0).2 dX12_isAlike_22 ?_
    refine g_iload_n C dX12_isAlike_25 rfl 2 rfl ?_
    refine g_iald (j := (a2.toInt.toNat)) C h69181.1 h69181.2.1 (ix_in h69181.2.2 (by omega)) dX12_isAlike_26 ?_
    have h69183 := I.arr e69180 rfl (a2.toInt.toNat)
    refine b_icmp_ne C 79 dX12_isAlike_27 (by decide) (fun h69184 => ?_) (fun h69184 => ?_)
    · have h69184 : (pI P b69179 (a1.toInt.toNat)).toInt ≠ (pI P b69179 (a2.toInt.toNat)).toInt := ti_ne h69184
      refine g_lv (lv' := []) [] rfl ?_
      exact J79 
    · have h69184 : (pI P b69179 (a1.toInt.toNat)).toInt = (pI P b69179 (a2.toInt.toNat)).toInt := congrArg Int32.toInt h69184
      refine g_aload_n C dX12_isAlike_30 rfl 0 rfl ?_
      obtain ⟨b69185, e69186, h69187⟩ := I.fld (ha0) 23 13 800 rfl
      refine g_getR C fi_X12_78 rfl e69186 (ha0).1 (ha0).2 dX12_isAlike_31 ?_
      refine g_iload_n C dX12_isAlike_34 rfl 1 rfl ?_
      refine g_iald (j := (a1.toInt.toNat)) C h69187.1 h69187.2.1 (ix_in h69187.2.2 (by omega)) dX12_isAlike_35 ?_
      refine g_aload_n C dX12_isAlike_36 rfl 0 rfl ?_
      refine g_getR C fi_X12_78 rfl e69186 (ha0).1 (ha0).2 dX12_isAlike_37 ?_
      refine g_iload_n C dX12_isAlike_40 rfl 2 rfl ?_
      refine g_iald (j := (a2.toInt.toNat)) C h69187.1 h69187.2.1 (ix_in h69187.2.2 (by omega)) dX12_isAlike_41 ?_
      have u69189 := ti_rng (pI P b69185 (a1.toInt.toNat))
      have u69190 := ti_rng (pI P b69185 (a2.toInt.toNat))
      refine b_icmp_ne C 79 dX12_isAlike_42 (by decide) (fun h69188 => ?_) (fun h69188 => ?_)
      · have h69188 : (pI P b69185 (a1.toInt.toNat)).toInt ≠ (pI P b69185 (a2.toInt.toNat)).toInt := ti_ne h69188
        refine g_lv (lv' := []) [] rfl ?_
        exact J79 
      · have h69188 : (pI P b69185 (a1.toInt.toNat)).toInt = (pI P b69185 (a2.toInt.toNat)).toInt := congrArg Int32.toInt h69188
        refine g_aload_n C dX12_isAlike_45 rfl 0 rfl ?_
        obtain ⟨b69191, e69192, h69193⟩ := I.fld (ha0) 24 13 800 rfl
        refine g_getR C fi_X12_81 rfl e69192 (ha0).1 (ha0).2 dX12_isAlike_46 ?_
        refine g_iload_n C dX12_isAlike_49 rfl 1 rfl ?_
        refine g_iald (j := (a1.toInt.toNat)) C h69193.1 h69193.2.1 (ix_in h69193.2.2 (by omega)) dX12_isAlike_50 ?_
        refine g_aload_n C dX12_isAlike_51 rfl 0 rfl ?_
        refine g_getR C fi_X12_81 rfl e69192 (ha0).1 (ha0).2 dX12_isAlike_52 ?_
        refine g_iload_n C dX12_isAlike_55 rfl 2 rfl ?_
        refine g_iald (j := (a2.toInt.toNat)) C h69193.1 h69193.2.1 (ix_in h69193.2.2 (by omega)) dX12_isAlike_56 ?_
        have u69195 := ti_rng (pI P b69191 (a1.toInt.toNat))
        have u69196 := ti_rng (pI P b69191 (a2.toInt.toNat))
        refine b_icmp_ne C 79 dX12_isAlike_57 (by decide) (fun h69194 => ?_) (fun h69194 => ?_)
        · have h69194 : (pI P b69191 (a1.toInt.toNat)).toInt ≠ (pI P b69191 (a2.toInt.toNat)).toInt := ti_ne h69194
          refine g_lv (lv' := []) [] rfl ?_
          exact J79 
        · have h69194 : (pI P b69191 (a1.toInt.toNat)).toInt = (pI P b69191 (a2.toInt.toNat)).toInt := congrArg Int32.toInt h69194
          refine g_aload_n C dX12_isAlike_60 rfl 0 rfl ?_
          obtain ⟨b69197, e69198, h69199⟩ := I.fld (ha0) 25 13 800 rfl
          refine g_getR C fi_X12_84 rfl e69198 (ha0).1 (ha0).2 dX12_isAlike_61 ?_
          refine g_iload_n C dX12_isAlike_64 rfl 1 rfl ?_
          refine g_iald (j := (a1.toInt.toNat)) C h69199.1 h69199.2.1 (ix_in h69199.2.2 (by omega)) dX12_isAlike_65 ?_
          refine g_aload_n C dX12_isAlike_66 rfl 0 rfl ?_
          refine g_getR C fi_X12_84 rfl e69198 (ha0).1 (ha0).2 dX12_isAlike_67 ?_
          refine g_iload_n C dX12_isAlike_70 rfl 2 rfl ?_
          refine g_iald (j := (a2.toInt.toNat)) C h69199.1 h69199.2.1 (ix_in h69199.2.2 (by omega)) dX12_isAlike_71 ?_
          have u69201 := ti_rng (pI P b69197 (a1.toInt.toNat))
          have u69202 := ti_rng (pI P b69197 (a2.toInt.toNat))
          refine b_icmp_ne C 79 dX12_isAlike_72 (by decide) (fun h69200 => ?_) (fun h69200 => ?_)
          · have h69200 : (pI P b69197 (a1.toInt.toNat)).toInt ≠ (pI P b69197 (a2.toInt.toNat)).toInt := ti_ne h69200
            refine g_lv (lv' := []) [] rfl ?_
            exact J79 
          · have h69200 : (pI P b69197 (a1.toInt.toNat)).toInt = (pI P b69197 (a2.toInt.toNat)).toInt := congrArg Int32.toInt h69200
            refine g_iconst (v := 1) C dX12_isAlike_75 (by decide) ?_
            refine g_goto C 80 dX12_isAlike_76 (by decide) ?_
            exact ret _ _ _ _ _ _ dX12_isAlike_80 rfl (by decide) (by decide) ⟨rfl, (by decide)⟩
theorem dX12_hasAlike_43 : decode cX12_hasAlike 43 = .ok (.ifCond .eq 7, 3) := by decide +kernel
theorem dX12_hasAlike_46 : decode cX12_hasAlike 46 = .ok (.iconst 1, 1) := by decide +kernel
theorem dX12_hasAlike_47 : decode cX12_hasAlike 47 = .ok (.goto 4, 3) := by decide +kernel
theorem dX12_hasAlike_50 : decode cX12_hasAlike 50 = .ok (.iconst 0, 1) := by decide +kernel
theorem dX12_hasAlike_51 : decode cX12_hasAlike 51 = .ok (.istore_n 3, 1) := by decide +kernel
theorem dX12_hasAlike_52 : decode cX12_hasAlike 52 = .ok (.iinc 4 1, 3) := by decide +kernel
theorem dX12_hasAlike_55 : decode cX12_hasAlike 55 = .ok (.goto (-50), 3) := by decide +kernel
set_option maxHeartbeats 4000000 in
set_option maxRecDepth 100000 in
theorem s_X12_hasAlike {P : PP} {a0 : Nat} {a1 : Int32} {a2 : Int32} (I : IM P a0) (ha1 : 0 ≤ a1.toInt ∧ a1.toInt ≤ 3) (ha2 : 0 ≤ a2.toInt ∧ a2.toInt ≤ 799) (hW : MW P a0) : CtrI yX12_hasAlike cX12_hasAlike 5 (some Jvm.ClassFile.FieldType.boolean) ({ frames := 2, cells := 0, slots := 0, locals := 128 } : Room) 0 0 P [.ref a0, .int a1, .int a2] (fun r P2 => P = P2 ∧ (0 ≤ r.toInt ∧ r.toInt ≤ 1)) := by
  refine enI (lv := [(0, .ref a0), (1, .int a1), (2, .int a2)]) (by decide) (Nat.le_of_ble_eq_true rfl) rfl (fun E D cy C Ci0 ret => ?_)
  have ha0 := I.2.1
  have J5 : ∀ (n5 : Nat) (v5_3 : Int32) (v5_4 : Int32), (40 - v5_4.toInt).toNat < n5 → (0 ≤ v5_3.toInt ∧ v5_3.toInt ≤ 1) → (0 ≤ v5_4.toInt ∧ v5_4.toInt ≤ 40) → G E ({ frames := 2, cells := 0, slots := 0, locals := 128 } : Room) D cy 5 P 0 0 5 [(0, .ref a0), (1, .int a1), (2, .int a2), (3, .int v5_3), (4, .int v5_4)] [] := by
    intro n5
    induction n5 with
    | zero => intro v5_3 v5_4 hm5 hv5_3 hv5_4; omega
    | succ n5 ih5 =>
      intro v5_3 v5_4 hm5 hv5_3 hv5_4
      have J51 : ∀ (v51_s0 : Int32), (0 ≤ v5_4.toInt ∧ v5_4.toInt ≤ 39) → (0 ≤ v51_s0.toInt ∧ v51_s0.toInt ≤ 1) → (∀ b, pR P a0 20 = some b → 1 ≤ (pI P b (a1.toInt.toNat)).toInt ∧ (pI P b (a1.toInt.toNat)).toInt ≤ 40) → G E ({ frames := 2, cells := 0, slots := 0, locals := 128 } : Room) D cy 5 P 0 0 51 [(0, .ref a0), (1, .int a1), (2, .int a2), (4, .int v5_4)] [.int v51_s0] := by
        intro v51_s0 hv51_4 hv51_s0 hq51_0
        obtain ⟨b69653, e69654, h69655⟩ := I.fld (ha0) 20 13 20 rfl
        have hq51_0 := hq51_0 b69653 e69654
        refine g_istore_n (lv' := [(3, .int v51_s0), (0, .ref a0), (1, .int a1), (2, .int a2), (4, .int v5_4)]) C dX12_hasAlike_51 rfl (by decide) rfl ?_
        refine s_iinc (lv0 := [(3, .int v51_s0), (0, .ref a0), (1, .int a1), (2, .int a2)]) (m := 1) C dX12_hasAlike_52 4 rfl (by decide) rfl (by decide) (by omega) (fun z69656 h69657 => ?_)
        have h69657 : z69656.toInt = v5_4.toInt + 1 := h69657
        refine g_goto C 5 dX12_hasAlike_55 (by decide) ?_
        refine g_lv (lv' := [(0, .ref a0), (1, .int a1), (2, .int a2), (3, .int v51_s0), (4, .int z69656)]) [2, 3, 4, 1, 0] rfl ?_
        exact ih5 v51_s0 z69656 (by omega) (by omega) (by omega)
      have J50 : (0 ≤ v5_4.toInt ∧ v5_4.toInt ≤ 39) → (∀ b, pR P a0 20 = some b → 1 ≤ (pI P b (a1.toInt.toNat)).toInt ∧ (pI P b (a1.toInt.toNat)).toInt ≤ 40) → G E ({ frames := 2, cells := 0, slots := 0, locals := 128 } : Room) D cy 5 P 0 0 50 [(0, .ref a0), (1, .int a1), (2, .int a2), (4, .int v5_4)] [] := by
        intro hv50_4 hq50_0
        obtain ⟨b69658, e69659, h69660⟩ := I.fld (ha0) 20 13 20 rfl
        have hq50_0 := hq50_0 b69658 e69659
        refine g_iconst (v := 0) C dX12_hasAlike_50 (by decide) ?_
        exact J51 0 (by omega) (by decide) (fun b9 e9 => by rw [e69659] at e9; cases e9; omega)
      have J46 : (0 ≤ v5_4.toInt ∧ v5_4.toInt ≤ 39) → (∀ b, pR P a0 20 = some b → 1 ≤ (pI P b (a1.toInt.toNat)).toInt ∧ (pI P b (a1.toInt.toNat)).toInt ≤ 40) → G E ({ frames := 2, cells := 0, slots := 0, locals := 128 } : Room) D cy 5 P 0 0 46 [(0, .ref a0), (1, .int a1), (2, .int a2), (4, .int v5_4)] [] := by
        intro hv46_4 hq46_0
        obtain ⟨b69661, e69662, h69663⟩ := I.fld (ha0) 20 13 20 rfl
        have hq46_0 := hq46_0 b69661 e69662
        refine g_iconst (v := 1) C dX12_hasAlike_46 (by decide) ?_
        refine g_goto C 51 dX12_hasAlike_47 (by decide) ?_
        exact J51 1 (by omega) (by decide) (fun b9 e9 => by rw [e69662] at e9; cases e9; omega)
      refine g_iload C dX12_hasAlike_5 4 rfl ?_
      refine g_aload_n C dX12_hasAlike_7 rfl 0 rfl ?_
      obtain ⟨b69664, e69665, h69666⟩ := I.fld (ha0) 20 13 20 rfl
      refine g_getR C fi_X12_69 rfl e69665 (ha0).1 (ha0).2 dX12_hasAlike_8 ?_
      refine g_iload_n C dX12_hasAlike_11 rfl 1 rfl ?_
      refine g_iald (j := (a1.toInt.toNat)) C h69666.1 h69666.2.1 (ix_in h69666.2.2 (by omega)) dX12_hasAlike_12 ?_
      have h69667 := I.arr e69665 rfl (a1.toInt.toNat)
      refine b_icmp_ge C 58 dX12_hasAlike_13 (by decide) (fun h69668 => ?_) (fun h69668 => ?_)
      · have h69668 : (pI P b69664 (a1.toInt.toNat)).toInt ≤ v5_4.toInt := h69668
        refine g_iload_n C dX12_hasAlike_58 rfl 3 rfl ?_
        exact ret _ _ _ _ _ _ dX12_hasAlike_59 (nar_b (b01 (by omega))) (by decide) (by decide) ⟨rfl, (by omega)⟩
      · have h69668 : v5_4.toInt < (pI P b69664 (a1.toInt.toNat)).toInt := h69668
        refine g_iload_n C dX12_hasAlike_16 rfl 3 rfl ?_
        refine b_if_ne C 46 dX12_hasAlike_17 (by decide) (fun h69669 => ?_) (fun h69669 => ?_)
        · have h69669 : v5_3.toInt ≠ 0 := ti_ne h69669
          refine g_lv (lv' := [(0, .ref a0), (1, .int a1), (2, .int a2), (4, .int v5_4)]) [0, 1, 2, 4] rfl ?_
          exact J46 (by omega) (fun b9 e9 => by rw [e69665] at e9; cases e9; omega)
        · have h69669 : v5_3.toInt = 0 := congrArg Int32.toInt h69669
          refine g_bipush (v := 40) C dX12_hasAlike_20 (by decide) ?_
          refine g_iload_n C dX12_hasAlike_22 rfl 1 rfl ?_
          refine s_imul C dX12_hasAlike_23 (by show -2147483648 ≤ 40 * a1.toInt ∧ 40 * a1.toInt ≤ 2147483647; omega) (fun z69670 h69671 => ?_)
          have h69671 : z69670.toInt = 40 * a1.toInt := h69671
          refine g_iload C dX12_hasAlike_24 4 rfl ?_
          refine s_iadd C dX12_hasAlike_26 (by show -2147483648 ≤ z69670.toInt + v5_4.toInt ∧ z69670.toInt + v5_4.toInt ≤ 2147483647; omega) (fun z69672 h69673 => ?_)
          have h69673 : z69672.toInt = z69670.toInt + v5_4.toInt := h69673
          refine g_iload_n C dX12_hasAlike_27 rfl 2 rfl ?_
          refine b_icmp_eq C 50 dX12_hasAlike_28 (by decide) (fun h69674 => ?_) (fun h69674 => ?_)
          · have h69674 : z69672.toInt = a2.toInt := congrArg Int32.toInt h69674
            refine g_lv (lv' := [(0, .ref a0), (1, .int a1), (2, .int a2), (4, .int v5_4)]) [0, 1, 2, 4] rfl ?_
            exact J50 (by omega) (fun b9 e9 => by rw [e69665] at e9; cases e9; omega)
          · have h69674 : z69672.toInt ≠ a2.toInt := ti_ne h69674
            refine g_aload_n C dX12_hasAlike_31 rfl 0 rfl ?_
            refine g_bipush (v := 40) C dX12_hasAlike_32 (by decide) ?_
            refine g_iload_n C dX12_hasAlike_34 rfl 1 rfl ?_
            refine s_imul C dX12_hasAlike_35 (by show -2147483648 ≤ 40 * a1.toInt ∧ 40 * a1.toInt ≤ 2147483647; omega) (fun z69675 h69676 => ?_)
            have h69676 : z69675.toInt = 40 * a1.toInt := h69676
            refine g_iload C dX12_hasAlike_36 4 rfl ?_
            refine s_iadd C dX12_hasAlike_38 (by show -2147483648 ≤ z69675.toInt + v5_4.toInt ∧ z69675.toInt + v5_4.toInt ≤ 2147483647; omega) (fun z69677 h69678 => ?_)
            have h69678 : z69677.toInt = z69675.toInt + v5_4.toInt := h69678
            refine g_iload_n C dX12_hasAlike_39 rfl 2 rfl ?_
            refine g_callVI (rest := []) C mv_X12_399 [.int z69677, .int a2] (s_X12_isAlike I (by omega) (by omega) hW) (ha0).1 (ha0).2 rfl rfl (by decide) (Nat.le_of_ble_eq_true rfl) (by decide) dX12_hasAlike_40 (fun r69679 Y69680 h69681 => ?_)
            obtain ⟨rfl, h69681⟩ := h69681
            have h69681 : 0 ≤ r69679.toInt ∧ r69679.toInt ≤ 1 := h69681
            refine b_if_eq C 50 dX12_hasAlike_43 (by decide) (fun h69682 => ?_) (fun h69682 => ?_)
            · have h69682 : r69679.toInt = 0 := congrArg Int32.toInt h69682
              refine g_lv (lv' := [(0, .ref a0), (1, .int a1), (2, .int a2), (4, .int v5_4)]) [0, 1, 2, 4] rfl ?_
              exact J50 (by omega) (fun b9 e9 => by rw [e69665] at e9; cases e9; omega)
            · have h69682 : r69679.toInt ≠ 0 := ti_ne h69682
              refine g_lv (lv' := [(0, .ref a0), (1, .int a1), (2, .int a2), (4, .int v5_4)]) [0, 1, 2, 4] rfl ?_
              exact J46 (by omega) (fun b9 e9 => by rw [e69665] at e9; cases e9; omega)
  refine g_iconst (v := 0) C dX12_hasAlike_0 (by decide) ?_
  refine g_istore_n (lv' := [(3, .int 0), (0, .ref a0), (1, .int a1), (2, .int a2)]) C dX12_hasAlike_1 rfl (by decide) rfl ?_
  refine g_iconst (v := 0) C dX12_hasAlike_2 (by decide) ?_
  refine g_istore (lv' := [(4, .int 0), (3, .int 0), (0, .ref a0), (1, .int a1), (2, .int a2)]) C dX12_hasAlike_3 (by decide) rfl ?_
  refine g_lv (lv' := [(0, .ref a0), (1, .int a1), (2, .int a2), (3, .int 0), (4, .int 0)]) [2, 3, 4, 1, 0] rfl ?_
  exact J5 _ 0 0 (Nat.lt_succ_self _) (by decide) (by decide)
theorem dX12_hasWord_0 : decode cX12_hasWord 0 = .ok (.aload_n 0, 1) := by decide +kernel
theorem dX12_hasWord_1 : decode cX12_hasWord 1 = .ok (.iload_n 1, 1) := by decide +kernel
theorem dX12_hasWord_2 : decode cX12_hasWord 2 = .ok (.invokevirtual 172, 3) := by decide +kernel
theorem dX12_isWord_0 : decode cX12_isWord 0 = .ok (.aload_n 0, 1) := by decide +kernel
theorem dX12_isWord_1 : decode cX12_isWord 1 = .ok (.getfield 162, 3) := by decide +kernel
theorem dX12_isWord_4 : decode cX12_isWord 4 = .ok (.ifCond .ne 39, 3) := by decide +kernel
theorem dX12_isWord_7 : decode cX12_isWord 7 = .ok (.aload_n 0, 1) := by decide +kernel
theorem dX12_isWord_8 : decode cX12_isWord 8 = .ok (.getfield 24, 3) := by decide +kernel
theorem dX12_isWord_11 : decode cX12_isWord 11 = .ok (.aload_n 0, 1) := by decide +kernel
theorem dX12_isWord_12 : decode cX12_isWord 12 = .ok (.getfield 159, 3) := by decide +kernel
theorem dX12_isWord_15 : decode cX12_isWord 15 = .ok (.iaload, 1) := by decide +kernel
theorem dX12_isWord_16 : decode cX12_isWord 16 = .ok (.iconst 1, 1) := by decide +kernel
theorem dX12_isWord_17 : decode cX12_isWord 17 = .ok (.if_icmp .ne 26, 3) := by decide +kernel
theorem dX12_isWord_20 : decode cX12_isWord 20 = .ok (.aload_n 0, 1) := by decide +kernel
theorem dX12_isWord_21 : decode cX12_isWord 21 = .ok (.getfield 30, 3) := by decide +kernel
theorem dX12_isWord_24 : decode cX12_isWord 24 = .ok (.aload_n 0, 1) := by decide +kernel
theorem dX12_isWord_25 : decode cX12_isWord 25 = .ok (.getfield 159, 3) := by decide +kernel
theorem dX12_isWord_28 : decode cX12_isWord 28 = .ok (.laload, 1) := by decide +kernel
theorem dX12_isWord_29 : decode cX12_isWord 29 = .ok (.aload_n 0, 1) := by decide +kernel
theorem dX12_isWord_30 : decode cX12_isWord 30 = .ok (.getfield 42, 3) := by decide +kernel
theorem dX12_isWord_33 : decode cX12_isWord 33 = .ok (.iload_n 1, 1) := by decide +kernel
theorem dX12_isWord_34 : decode cX12_isWord 34 = .ok (.laload, 1) := by decide +kernel
theorem dX12_isWord_35 : decode cX12_isWord 35 = .ok (.lcmp, 1) := by decide +kernel
theorem dX12_isWord_36 : decode cX12_isWord 36 = .ok (.ifCond .ne 7, 3) := by decide +kernel
theorem dX12_isWord_39 : decode cX12_isWord 39 = .ok (.iconst 1, 1) := by decide +kernel
theorem dX12_isWord_40 : decode cX12_isWord 40 = .ok (.goto 4, 3) := by decide +kernel
theorem dX12_isWord_43 : decode cX12_isWord 43 = .ok (.iconst 0, 1) := by decide +kernel
theorem dX12_isWord_44 : decode cX12_isWord 44 = .ok (.ireturn, 1) := by decide +kernel
set_option maxHeartbeats 4000000 in
set_option maxRecDepth 100000 in
theorem s_X12_isWord {P : PP} {a0 : Nat} {a1 : Int32} (I : IM P a0) (ha1 : 0 ≤ a1.toInt ∧ a1.toInt ≤ 3) (hW : MW P a0) : CtrI yX12_isWord cX12_isWord 2 (some Jvm.ClassFile.FieldType.boolean) ({ frames := 1, cells := 0, slots := 0, locals := 64 } : Room) 0 0 P [.ref a0, .int a1] (fun r P2 => P = P2 ∧ (0 ≤ r.toInt ∧ r.toInt ≤ 1)) := by
  refine enI (lv := [(0, .ref a0), (1, .int a1)]) (by decide) (Nat.le_of_ble_eq_true rfl) rfl (fun E D cy C Ci0 ret => ?_)
  have ha0 := I.2.1
  have J43 : (0 ≤ (pI P a0 8).toInt ∧ (pI P a0 8).toInt ≤ 16005) → G E ({ frames := 1, cells := 0, slots := 0, locals := 64 } : Room) D cy 2 P 0 0 43 [] [] := by
    intro hq43_0
    refine g_iconst (v := 0) C dX12_isWord_43 (by decide) ?_
    exact ret _ _ _ _ _ _ dX12_isWord_44 rfl (by decide) (by decide) ⟨rfl, (by decide)⟩
  refine g_aload_n C dX12_isWord_0 rfl 0 rfl ?_
  refine g_getI C fi_X12_162 (by decide) (ha0).1 (ha0).2 dX12_isWord_1 ?_
  have h69702 := I.rg (ha0) 8 rfl
  refine b_if_ne C 43 dX12_isWord_4 (by decide) (fun h69703 => ?_) (fun h69703 => ?_)
  · have h69703 : (pI P a0 8).toInt ≠ 0 := ti_ne h69703
    refine g_lv (lv' := []) [] rfl ?_
    exact J43 (by omega)
  · have h69703 : (pI P a0 8).toInt = 0 := congrArg Int32.toInt h69703
    refine g_aload_n C dX12_isWord_7 rfl 0 rfl ?_
    obtain ⟨b69704, e69705, h69706⟩ := I.fld (ha0) 4 13 1002 rfl
    refine g_getR C fi_X12_24 rfl e69705 (ha0).1 (ha0).2 dX12_isWord_8 ?_
    refine g_aload_n C dX12_isWord_11 rfl 0 rfl ?_
    refine g_getI C fi_X12_159 (by decide) (ha0).1 (ha0).2 dX12_isWord_12 ?_
    have h69707 := I.rg (ha0) 7 rfl
    refine g_iald (j := ((pI P a0 7).toInt.toNat)) C h69706.1 h69706.2.1 (ix_in h69706.2.2 (by omega)) dX12_isWord_15 ?_
    have h69708 := I.arr e69705 rfl ((pI P a0 7).toInt.toNat)
    refine g_iconst (v := 1) C dX12_isWord_16 (by decide) ?_
    refine b_icmp_ne C 43 dX12_isWord_17 (by decide) (fun h69709 => ?_) (fun h69709 => ?_)
    · have h69709 : (pI P b69704 ((pI P a0 7).toInt.toNat)).toInt ≠ 1 := ti_ne h69709
      refine g_lv (lv' := []) [] rfl ?_
      exact J43 (by omega)
    · have h69709 : (pI P b69704 ((pI P a0 7).toInt.toNat)).toInt = 1 := congrArg Int32.toInt h69709
      refine g_aload_n C dX12_isWord_20 rfl 0 rfl ?_
      obtain ⟨b69710, e69711, h69712⟩ := I.fld (ha0) 6 14 1002 rfl
      refine g_getR C fi_X12_30 rfl e69711 (ha0).1 (ha0).2 dX12_isWord_21 ?_
      refine g_aload_n C dX12_isWord_24 rfl 0 rfl ?_
      refine g_getI C fi_X12_159 (by decide) (ha0).1 (ha0).2 dX12_isWord_25 ?_
      refine g_lald (j := ((pI P a0 7).toInt.toNat)) C h69712.1 h69712.2.1 (ix_in h69712.2.2 (by omega)) dX12_isWord_28 ?_
      refine g_topl (fun l69713 _ => ?_)
      refine g_aload_n C dX12_isWord_29 rfl 0 rfl ?_
      obtain ⟨b69714, e69715, h69716⟩ := I.fld (ha0) 9 14 4 rfl
      refine g_getR C fi_X12_42 rfl e69715 (ha0).1 (ha0).2 dX12_isWord_30 ?_
      refine g_iload_n C dX12_isWord_33 rfl 1 rfl ?_
      refine g_lald (j := (a1.toInt.toNat)) C h69716.1 h69716.2.1 (ix_in h69716.2.2 (by omega)) dX12_isWord_34 ?_
      refine g_topl (fun l69717 _ => ?_)
      refine a_lcmp C dX12_isWord_35 (fun z69718 => ?_)
      have u69720 := ti_rng z69718
      refine b_if_ne C 43 dX12_isWord_36 (by decide) (fun h69719 => ?_) (fun h69719 => ?_)
      · have h69719 : z69718.toInt ≠ 0 := ti_ne h69719
        refine g_lv (lv' := []) [] rfl ?_
        exact J43 (by omega)
      · have h69719 : z69718.toInt = 0 := congrArg Int32.toInt h69719
        refine g_iconst (v := 1) C dX12_isWord_39 (by decide) ?_
        refine g_goto C 44 dX12_isWord_40 (by decide) ?_
        exact ret _ _ _ _ _ _ dX12_isWord_44 rfl (by decide) (by decide) ⟨rfl, (by decide)⟩
theorem dX12_hasWord_5 : decode cX12_hasWord 5 = .ok (.istore_n 2, 1) := by decide +kernel
theorem dX12_hasWord_6 : decode cX12_hasWord 6 = .ok (.aload_n 0, 1) := by decide +kernel
theorem dX12_hasWord_7 : decode cX12_hasWord 7 = .ok (.dup, 1) := by decide +kernel
theorem dX12_hasWord_8 : decode cX12_hasWord 8 = .ok (.getfield 159, 3) := by decide +kernel
theorem dX12_hasWord_11 : decode cX12_hasWord 11 = .ok (.iload_n 2, 1) := by decide +kernel
theorem dX12_hasWord_12 : decode cX12_hasWord 12 = .ok (.ifCond .eq 7, 3) := by decide +kernel
theorem dX12_hasWord_15 : decode cX12_hasWord 15 = .ok (.iconst 1, 1) := by decide +kernel
theorem dX12_hasWord_16 : decode cX12_hasWord 16 = .ok (.goto 4, 3) := by decide +kernel
theorem dX12_hasWord_19 : decode cX12_hasWord 19 = .ok (.iconst 0, 1) := by decide +kernel
theorem dX12_hasWord_20 : decode cX12_hasWord 20 = .ok (.iadd, 1) := by decide +kernel
theorem dX12_hasWord_21 : decode cX12_hasWord 21 = .ok (.putfield 159, 3) := by decide +kernel
theorem dX12_init_0 : decode cX12_init 0 = .ok (.aload_n 0, 1) := by decide +kernel
theorem dX12_init_1 : decode cX12_init 1 = .ok (.invokespecial 18, 3) := by decide +kernel
theorem dX12_init_4 : decode cX12_init 4 = .ok (.aload_n 0, 1) := by decide +kernel
theorem dX12_init_5 : decode cX12_init 5 = .ok (.sipush 1000, 3) := by decide +kernel
theorem dX12_init_8 : decode cX12_init 8 = .ok (.newarray .int, 2) := by decide +kernel
theorem dX12_isAllWith_0 : decode cX12_isAllWith 0 = .ok (.iconst 0, 1) := by decide +kernel
theorem dX12_isAllWith_1 : decode cX12_isAllWith 1 = .ok (.istore 4, 2) := by decide +kernel
theorem dX12_isAllWith_3 : decode cX12_isAllWith 3 = .ok (.iload 4, 2) := by decide +kernel
theorem dX12_isAllWith_5 : decode cX12_isAllWith 5 = .ok (.iconst 2, 1) := by decide +kernel
theorem dX12_isAllWith_6 : decode cX12_isAllWith 6 = .ok (.if_icmp .ge 95, 3) := by decide +kernel
theorem dX12_isAllWith_9 : decode cX12_isAllWith 9 = .ok (.aload_n 0, 1) := by decide +kernel
theorem dX12_isAllWith_10 : decode cX12_isAllWith 10 = .ok (.iload_n 1, 1) := by decide +kernel
theorem dX12_isAllWith_11 : decode cX12_isAllWith 11 = .ok (.iload_n 2, 1) := by decide +kernel
theorem dX12_isAllWith_12 : decode cX12_isAllWith 12 = .ok (.iload 4, 2) := by decide +kernel
theorem dX12_isAllWith_14 : decode cX12_isAllWith 14 = .ok (.aload_n 0, 1) := by decide +kernel
theorem dX12_isAllWith_15 : decode cX12_isAllWith 15 = .ok (.getfield 69, 3) := by decide +kernel
theorem dX12_isAllWith_18 : decode cX12_isAllWith 18 = .ok (.iload_n 1, 1) := by decide +kernel
theorem dX12_isAllWith_19 : decode cX12_isAllWith 19 = .ok (.iaload, 1) := by decide +kernel
theorem dX12_isAllWith_20 : decode cX12_isAllWith 20 = .ok (.invokevirtual 339, 3) := by decide +kernel
theorem dX12_isAllWith_23 : decode cX12_isAllWith 23 = .ok (.iconst 0, 1) := by decide +kernel
theorem dX12_isAllWith_24 : decode cX12_isAllWith 24 = .ok (.istore 5, 2) := by decide +kernel
theorem dX12_isAllWith_26 : decode cX12_isAllWith 26 = .ok (.iload 5, 2) := by decide +kernel
theorem dX12_isAllWith_28 : decode cX12_isAllWith 28 = .ok (.bipush 11, 2) := by decide +kernel
theorem dX12_isAllWith_30 : decode cX12_isAllWith 30 = .ok (.if_icmp .ge 47, 3) := by decide +kernel
theorem dX12_isAllWith_33 : decode cX12_isAllWith 33 = .ok (.iload_n 3, 1) := by decide +kernel
theorem dX12_isAllWith_34 : decode cX12_isAllWith 34 = .ok (.iload 5, 2) := by decide +kernel
theorem dX12_isAllWith_36 : decode cX12_isAllWith 36 = .ok (.ishr, 1) := by decide +kernel
theorem dX12_isAllWith_37 : decode cX12_isAllWith 37 = .ok (.iconst 1, 1) := by decide +kernel
theorem dX12_isAllWith_38 : decode cX12_isAllWith 38 = .ok (.iand, 1) := by decide +kernel
theorem dX12_isAllWith_39 : decode cX12_isAllWith 39 = .ok (.iconst 1, 1) := by decide +kernel
theorem dX12_isAllWith_40 : decode cX12_isAllWith 40 = .ok (.if_icmp .ne 31, 3) := by decide +kernel
theorem dX12_isAllWith_43 : decode cX12_isAllWith 43 = .ok (.aload_n 0, 1) := by decide +kernel
theorem dX12_isAllWith_44 : decode cX12_isAllWith 44 = .ok (.iload_n 2, 1) := by decide +kernel
theorem dX12_isAllWith_45 : decode cX12_isAllWith 45 = .ok (.iload 5, 2) := by decide +kernel
theorem dX12_isAllWith_47 : decode cX12_isAllWith 47 = .ok (.invokevirtual 261, 3) := by decide +kernel
theorem dX12_isAllWith_50 : decode cX12_isAllWith 50 = .ok (.istore 6, 2) := by decide +kernel
theorem dX12_isAllWith_52 : decode cX12_isAllWith 52 = .ok (.aload_n 0, 1) := by decide +kernel
theorem dX12_isAllWith_53 : decode cX12_isAllWith 53 = .ok (.iload 6, 2) := by decide +kernel
theorem dX12_isAllWith_55 : decode cX12_isAllWith 55 = .ok (.aload_n 0, 1) := by decide +kernel
theorem dX12_isAllWith_56 : decode cX12_isAllWith 56 = .ok (.iload_n 2, 1) := by decide +kernel
theorem dX12_isAllWith_57 : decode cX12_isAllWith 57 = .ok (.iload 6, 2) := by decide +kernel
theorem dX12_isAllWith_59 : decode cX12_isAllWith 59 = .ok (.invokevirtual 223, 3) := by decide +kernel
theorem dX12_isAllWith_62 : decode cX12_isAllWith 62 = .ok (.iload 4, 2) := by decide +kernel
theorem dX12_isAllWith_64 : decode cX12_isAllWith 64 = .ok (.invokestatic 315, 3) := by decide +kernel
theorem dX12_isAllWith_67 : decode cX12_isAllWith 67 = .ok (.iconst (-1), 1) := by decide +kernel
theorem dX12_isAllWith_68 : decode cX12_isAllWith 68 = .ok (.invokevirtual 308, 3) := by decide +kernel
theorem dX12_isAllWith_71 : decode cX12_isAllWith 71 = .ok (.iinc 5 1, 3) := by decide +kernel
theorem dX12_isAllWith_74 : decode cX12_isAllWith 74 = .ok (.goto (-48), 3) := by decide +kernel
theorem dX12_isAllWith_77 : decode cX12_isAllWith 77 = .ok (.aload_n 0, 1) := by decide +kernel
theorem dX12_isAllWith_78 : decode cX12_isAllWith 78 = .ok (.invokevirtual 346, 3) := by decide +kernel
theorem dX12_isAllWith_81 : decode cX12_isAllWith 81 = .ok (.aload_n 0, 1) := by decide +kernel
theorem dX12_isAllWith_82 : decode cX12_isAllWith 82 = .ok (.iload_n 2, 1) := by decide +kernel
theorem dX12_isAllWith_83 : decode cX12_isAllWith 83 = .ok (.aload_n 0, 1) := by decide +kernel
theorem dX12_isAllWith_84 : decode cX12_isAllWith 84 = .ok (.invokevirtual 349, 3) := by decide +kernel
theorem dX12_isAllWith_87 : decode cX12_isAllWith 87 = .ok (.invokevirtual 371, 3) := by decide +kernel
theorem dX12_isAllWith_90 : decode cX12_isAllWith 90 = .ok (.ifCond .ne 5, 3) := by decide +kernel
theorem dX12_isAllWith_93 : decode cX12_isAllWith 93 = .ok (.iconst 0, 1) := by decide +kernel
theorem dX12_isAllWith_94 : decode cX12_isAllWith 94 = .ok (.ireturn, 1) := by decide +kernel
theorem dX12_isAllWith_95 : decode cX12_isAllWith 95 = .ok (.iinc 4 1, 3) := by decide +kernel
theorem dX12_isAllWith_98 : decode cX12_isAllWith 98 = .ok (.goto (-95), 3) := by decide +kernel
theorem dX12_isAllWith_101 : decode cX12_isAllWith 101 = .ok (.iconst 1, 1) := by decide +kernel
theorem dX12_isAllWith_102 : decode cX12_isAllWith 102 = .ok (.ireturn, 1) := by decide +kernel
set_option maxHeartbeats 4000000 in
set_option maxRecDepth 100000 in
theorem s_X12_isAllWith {P : PP} {a0 : Nat} {a1 : Int32} {a2 : Int32} {a3 : Int32} (I : IM P a0) (ha1 : 0 ≤ a1.toInt ∧ a1.toInt ≤ 3) (ha2 : 0 ≤ a2.toInt ∧ a2.toInt ≤ 1) (hf0 : ∀ b, pR P a0 10 = some b → 1 ≤ (pI P b (a2.toInt.toNat)).toInt ∧ (pI P b (a2.toInt.toNat)).toInt ≤ 16) (hW : MW P a0) : CtrI yX12_isAllWith cX12_isAllWith 7 (some Jvm.ClassFile.FieldType.boolean) ({ frames := 5, cells := 0, slots := 0, locals := 320 } : Room) 0 0 P [.ref a0, .int a1, .int a2, .int a3] (fun r P2 => IM P2 a0 ∧ EM [28, 29, 30, 31, 35, 36, 37, 38] a0 P P2 ∧ MW P2 a0 ∧ (0 ≤ r.toInt ∧ r.toInt ≤ 1)) := by
  refine enI (lv := [(0, .ref a0), (1, .int a1), (2, .int a2), (3, .int a3)]) (by decide) (Nat.le_of_ble_eq_true rfl) rfl (fun E D cy C Ci0 ret => ?_)
  have ha0 := I.2.1
  have J3 : ∀ (n3 : Nat) (P3 : PP) (v3_4 : Int32), (2 - v3_4.toInt).toNat < n3 → (IM P3 a0) → (EM [28, 29, 30, 31, 35, 36, 37, 38] a0 P P3) → (MW P3 a0) → (0 ≤ v3_4.toInt ∧ v3_4.toInt ≤ 2) → (∀ b, pR P3 a0 10 = some b → 1 ≤ (pI P3 b (a2.toInt.toNat)).toInt ∧ (pI P3 b (a2.toInt.toNat)).toInt ≤ 16) → G E ({ frames := 5, cells := 0, slots := 0, locals := 320 } : Room) D cy 7 P3 0 0 3 [(0, .ref a0), (1, .int a1), (2, .int a2), (3, .int a3), (4, .int v3_4)] [] := by
    intro n3
    induction n3 with
    | zero => intro P3 v3_4 hm3 I3 X3 W3 hv3_4 hq3_0; omega
    | succ n3 ih3 =>
      intro P3 v3_4 hm3 I3 X3 W3 hv3_4 hq3_0
      have h70324 := X3.at ha0
      obtain ⟨b70325, e70326, h70327⟩ := I3.fld (h70324) 10 13 2 rfl
      have hq3_0 := hq3_0 b70325 e70326
      have J26 : ∀ (n26 : Nat) (P26 : PP) (v26_5 : Int32), (11 - v26_5.toInt).toNat < n26 → (IM P26 a0) → (EM [28, 29, 30, 31, 35, 36, 37, 38] a0 P P26) → (MW P26 a0) → (0 ≤ v3_4.toInt ∧ v3_4.toInt ≤ 1) → (0 ≤ v26_5.toInt ∧ v26_5.toInt ≤ 11) → (∀ b, pR P26 a0 10 = some b → 1 ≤ (pI P26 b (a2.toInt.toNat)).toInt ∧ (pI P26 b (a2.toInt.toNat)).toInt ≤ 16) → ((pI P26 a0 28).toInt ≤ 44 + v26_5.toInt) → G E ({ frames := 5, cells := 0, slots := 0, locals := 320 } : Room) D cy 7 P26 0 0 26 [(0, .ref a0), (1, .int a1), (2, .int a2), (3, .int a3), (4, .int v3_4), (5, .int v26_5)] [] := by
        intro n26
        induction n26 with
        | zero => intro P26 v26_5 hm26 I26 X26 W26 hv26_4 hv26_5 hq26_0 rel26_0; omega
        | succ n26 ih26 =>
          intro P26 v26_5 hm26 I26 X26 W26 hv26_4 hv26_5 hq26_0 rel26_0
          have h70328 := X26.at ha0
          obtain ⟨b70329, e70330, h70331⟩ := I26.fld (h70328) 10 13 2 rfl
          have hq26_0 := hq26_0 b70329 e70330
          have h70332 := I26.rg h70328 28 rfl
          have J71 : ∀ (P71 : PP), (IM P71 a0) → (EM [28, 29, 30, 31, 35, 36, 37, 38] a0 P P71) → (MW P71 a0) → (0 ≤ v3_4.toInt ∧ v3_4.toInt ≤ 1) → (0 ≤ v26_5.toInt ∧ v26_5.toInt ≤ 10) → (∀ b, pR P71 a0 10 = some b → 1 ≤ (pI P71 b (a2.toInt.toNat)).toInt ∧ (pI P71 b (a2.toInt.toNat)).toInt ≤ 16) → ((pI P71 a0 28).toInt ≤ 45 + v26_5.toInt) → G E ({ frames := 5, cells := 0, slots := 0, locals := 320 } : Room) D cy 7 P71 0 0 71 [(0, .ref a0), (1, .int a1), (2, .int a2), (3, .int a3), (4, .int v3_4), (5, .int v26_5)] [] := by
            intro P71 I71 X71 W71 hv71_4 hv71_5 hq71_0 rel71_0
            have h70333 := X71.at ha0
            obtain ⟨b70334, e70335, h70336⟩ := I71.fld (h70333) 10 13 2 rfl
            have hq71_0 := hq71_0 b70334 e70335
            have h70337 := I71.rg h70333 28 rfl
            refine s_iinc (lv0 := [(0, .ref a0), (1, .int a1), (2, .int a2), (3, .int a3), (4, .int v3_4)]) (m := 1) C dX12_isAllWith_71 5 rfl (by decide) rfl (by decide) (by omega) (fun z70338 h70339 => ?_)
            have h70339 : z70338.toInt = v26_5.toInt + 1 := h70339
            refine g_goto C 26 dX12_isAllWith_74 (by decide) ?_
            refine g_lv (lv' := [(0, .ref a0), (1, .int a1), (2, .int a2), (3, .int a3), (4, .int v3_4), (5, .int z70338)]) [1, 2, 3, 4, 5, 0] rfl ?_
            exact ih26 P71 z70338 (by omega) I71 X71 W71 (by omega) (by omega) (fun b9 e9 => by rw [e70335] at e9; cases e9; omega) (by show (pI P71 a0 28).toInt ≤ 44 + z70338.toInt; omega)
          refine g_iload C dX12_isAllWith_26 5 rfl ?_
          refine g_bipush (v := 11) C dX12_isAllWith_28 (by decide) ?_
          refine b_icmp_ge C 77 dX12_isAllWith_30 (by decide) (fun h70340 => ?_) (fun h70340 => ?_)
          · have h70340 : 11 ≤ v26_5.toInt := h70340
            refine g_aload_n C dX12_isAllWith_77 rfl 0 rfl ?_
            refine g_callVV (rest := []) C mv_X12_346 [] (s_X12_findSolved I26 W26) (h70328).1 (h70328).2 rfl rfl (by decide) (Nat.le_of_ble_eq_true rfl) (by decide) dX12_isAllWith_78 (fun Y70342 h70343 => ?_)
            obtain ⟨Iy70344, Xy70345, W70346⟩ := h70343
            have q70347 := Xy70345.keepA e70330 (by decide) rfl (a2.toInt.toNat)
            have q70348 := Xy70345.keepF 28 (by decide)
            have Xz70349 : EM [28, 29, 30, 31, 35, 36, 37, 38] a0 P Y70342 := EM.tr ha0 X26 (Xy70345.mono (by decide))
            have e70350 := Xy70345.ref h70328 (by decide) e70330
            have h70351 := Xy70345.at h70328
            have h70352 := Xy70345.ar h70331
            refine g_aload_n C dX12_isAllWith_81 rfl 0 rfl ?_
            refine g_iload_n C dX12_isAllWith_82 rfl 2 rfl ?_
            refine g_aload_n C dX12_isAllWith_83 rfl 0 rfl ?_
            refine g_callVI (rest := [.int a2, .ref a0]) C mv_X12_349 [] (s_X12_fixedSet Iy70344 W70346) (h70351).1 (h70351).2 rfl rfl (by decide) (Nat.le_of_ble_eq_true rfl) (by decide) dX12_isAllWith_84 (fun r70353 Y70354 h70355 => ?_)
            obtain ⟨rfl, h70355⟩ := h70355
            have h70355 : True := h70355
            refine g_callVI (rest := []) C mv_X12_371 [.int a2, .int r70353] (s_X12_givesAll Iy70344 (by omega) W70346) (h70351).1 (h70351).2 rfl rfl (by decide) (Nat.le_of_ble_eq_true rfl) (by decide) dX12_isAllWith_87 (fun r70356 Y70357 h70358 => ?_)
            obtain ⟨rfl, h70358⟩ := h70358
            have h70358 : 0 ≤ r70356.toInt ∧ r70356.toInt ≤ 1 := h70358
            refine b_if_ne C 95 dX12_isAllWith_90 (by decide) (fun h70359 => ?_) (fun h70359 => ?_)
            · have h70359 : r70356.toInt ≠ 0 := ti_ne h70359
              refine s_iinc (lv0 := [(0, .ref a0), (1, .int a1), (2, .int a2), (3, .int a3), (5, .int v26_5)]) (m := 1) C dX12_isAllWith_95 4 rfl (by decide) rfl (by decide) (by omega) (fun z70360 h70361 => ?_)
              have h70361 : z70360.toInt = v3_4.toInt + 1 := h70361
              refine g_goto C 3 dX12_isAllWith_98 (by decide) ?_
              refine g_lv (lv' := [(0, .ref a0), (1, .int a1), (2, .int a2), (3, .int a3), (4, .int z70360)]) [1, 2, 3, 4, 0] rfl ?_
              exact ih3 Y70342 z70360 (by omega) Iy70344 Xz70349 W70346 (by omega) (fun b9 e9 => by rw [e70350] at e9; cases e9; omega)
            · have h70359 : r70356.toInt = 0 := congrArg Int32.toInt h70359
              refine g_iconst (v := 0) C dX12_isAllWith_93 (by decide) ?_
              exact ret _ _ _ _ _ _ dX12_isAllWith_94 rfl (by decide) (by decide) ⟨Iy70344, Xz70349, W70346, (by decide)⟩
          · have h70340 : v26_5.toInt < 11 := h70340
            refine g_iload_n C dX12_isAllWith_33 rfl 3 rfl ?_
            refine g_iload C dX12_isAllWith_34 5 rfl ?_
            refine a_ishr C dX12_isAllWith_36 (fun z70362 => ?_)
            refine g_iconst (v := 1) C dX12_isAllWith_37 (by decide) ?_
            refine s_iand C dX12_isAllWith_38 (by show 0 ≤ 1; omega) (fun z70364 h70365 => ?_)
            have h70365 : 0 ≤ z70364.toInt ∧ z70364.toInt ≤ 1 := h70365
            refine g_iconst (v := 1) C dX12_isAllWith_39 (by decide) ?_
            refine b_icmp_ne C 71 dX12_isAllWith_40 (by decide) (fun h70366 => ?_) (fun h70366 => ?_)
            · have h70366 : z70364.toInt ≠ 1 := ti_ne h70366
              exact J71 P26 I26 X26 W26 (by omega) (by omega) (fun b9 e9 => by rw [e70330] at e9; cases e9; omega) (by show (pI P26 a0 28).toInt ≤ 45 + v26_5.toInt; omega)
            · have h70366 : z70364.toInt = 1 := congrArg Int32.toInt h70366
              refine g_aload_n C dX12_isAllWith_43 rfl 0 rfl ?_
              refine g_iload_n C dX12_isAllWith_44 rfl 2 rfl ?_
              refine g_iload C dX12_isAllWith_45 5 rfl ?_
              refine g_callVI (rest := []) C mv_X12_261 [.int a2, .int v26_5] (s_X12_setOf I26 (by omega) (fun b9 e9 => by rw [e70330] at e9; cases e9; show 1 ≤ (pI P26 b70329 (a2.toInt.toNat)).toInt ∧ (pI P26 b70329 (a2.toInt.toNat)).toInt ≤ 16; omega) W26) (h70328).1 (h70328).2 rfl rfl (by decide) (Nat.le_of_ble_eq_true rfl) (by decide) dX12_isAllWith_47 (fun r70367 Y70368 h70369 => ?_)
              obtain ⟨Iy70370, Xy70371, W70372, h70369⟩ := h70369
              have q70373 := Xy70371.keepA e70330 (by decide) rfl (a2.toInt.toNat)
              have q70374 := Xy70371.keepF 28 (by decide)
              have Xz70375 : EM [28, 29, 30, 31, 35, 36, 37, 38] a0 P Y70368 := EM.tr ha0 X26 (Xy70371.mono (by decide))
              have e70376 := Xy70371.ref h70328 (by decide) e70330
              have h70377 := Xy70371.at h70328
              have h70378 := Xy70371.ar h70331
              have h70369 : True := h70369
              refine g_istore (lv' := [(6, .int r70367), (0, .ref a0), (1, .int a1), (2, .int a2), (3, .int a3), (4, .int v3_4), (5, .int v26_5)]) C dX12_isAllWith_50 (by decide) rfl ?_
              refine g_aload_n C dX12_isAllWith_52 rfl 1 rfl ?_
              refine g_iload C dX12_isAllWith_53 0 rfl ?_
              refine g_aload_n C dX12_isAllWith_55 rfl 1 rfl ?_
              refine g_iload_n C dX12_isAllWith_56 rfl 3 rfl ?_
              refine g_iload C dX12_isAllWith_57 0 rfl ?_
              refine g_callVI (rest := [.int r70367, .ref a0]) C mv_X12_223 [.int a2, .int r70367] (s_X12_sumOf Iy70370 (by omega) W70372) (h70377).1 (h70377).2 rfl rfl (by decide) (Nat.le_of_ble_eq_true rfl) (by decide) dX12_isAllWith_59 (fun r70379 Y70380 h70381 => ?_)
              obtain ⟨rfl, h70381⟩ := h70381
              have h70381 : True := h70381
              refine g_iload C dX12_isAllWith_62 5 rfl ?_
              refine g_callSI (b := 0) (ci := 0) (rest := [.int r70367, .ref a0]) C ms_X12_315 [.int r70379, .int v3_4] (s_X12_byteOf Iy70370.1) rfl rfl (by decide) (Nat.le_of_ble_eq_true rfl) (by decide) dX12_isAllWith_64 (fun r70382 Y70383 h70384 => ?_)
              obtain ⟨rfl, h70384⟩ := h70384
              have h70384 : 0 ≤ r70382.toInt ∧ r70382.toInt ≤ 255 := h70384
              refine g_iconst (v := (-1)) C dX12_isAllWith_67 (by decide) ?_
              refine g_callVV (rest := []) C mv_X12_308 [.int r70367, .int r70382, .int (-1)] (s_X12_adds Iy70370 (by omega) W70372) (h70377).1 (h70377).2 rfl rfl (by decide) (Nat.le_of_ble_eq_true rfl) (by decide) dX12_isAllWith_68 (fun Y70386 h70387 => ?_)
              obtain ⟨Iy70388, Xy70389, W70390, p70391⟩ := h70387
              have p70391 : (pI Y70386 a0 28).toInt = (pI Y70368 a0 28).toInt + 1 := p70391
              have q70392 := Xy70389.keepA e70376 (by decide) rfl (a2.toInt.toNat)
              have Xz70393 : EM [28, 29, 30, 31, 35, 36, 37, 38] a0 P Y70386 := EM.tr ha0 Xz70375 (Xy70389.mono (by decide))
              have e70394 := Xy70389.ref h70377 (by decide) e70376
              have h70395 := Xy70389.at h70377
              have h70396 := Xy70389.ar h70378
              have h70397 := Iy70388.rg h70395 28 rfl
              refine g_lv (lv' := [(0, .ref a0), (1, .int a1), (2, .int a2), (3, .int a3), (4, .int v3_4), (5, .int v26_5)]) [1, 2, 3, 4, 5, 6] rfl ?_
              exact J71 Y70386 Iy70388 Xz70393 W70390 (by omega) (by omega) (fun b9 e9 => by rw [e70394] at e9; cases e9; omega) (by show (pI Y70386 a0 28).toInt ≤ 45 + v26_5.toInt; omega)
      refine g_iload C dX12_isAllWith_3 4 rfl ?_
      refine g_iconst (v := 2) C dX12_isAllWith_5 (by decide) ?_
      refine b_icmp_ge C 101 dX12_isAllWith_6 (by decide) (fun h70398 => ?_) (fun h70398 => ?_)
      · have h70398 : 2 ≤ v3_4.toInt := h70398
        refine g_iconst (v := 1) C dX12_isAllWith_101 (by decide) ?_
        exact ret _ _ _ _ _ _ dX12_isAllWith_102 rfl (by decide) (by decide) ⟨I3, X3, W3, (by decide)⟩
      · have h70398 : v3_4.toInt < 2 := h70398
        refine g_aload_n C dX12_isAllWith_9 rfl 0 rfl ?_
        refine g_iload_n C dX12_isAllWith_10 rfl 1 rfl ?_
        refine g_iload_n C dX12_isAllWith_11 rfl 2 rfl ?_
        refine g_iload C dX12_isAllWith_12 4 rfl ?_
        refine g_aload_n C dX12_isAllWith_14 rfl 0 rfl ?_
        obtain ⟨b70399, e70400, h70401⟩ := I3.fld (h70324) 20 13 20 rfl
        refine g_getR C fi_X12_69 rfl e70400 (h70324).1 (h70324).2 dX12_isAllWith_15 ?_
        refine g_iload_n C dX12_isAllWith_18 rfl 1 rfl ?_
        refine g_iald (j := (a1.toInt.toNat)) C h70401.1 h70401.2.1 (ix_in h70401.2.2 (by omega)) dX12_isAllWith_19 ?_
        have h70402 := I3.arr e70400 rfl (a1.toInt.toNat)
        refine g_callVV (rest := []) C mv_X12_339 [.int a1, .int a2, .int v3_4, .int (pI P3 b70399 (a1.toInt.toNat))] (s_X12_gathers I3 (by omega) (by omega) (by omega) (fun b9 e9 => by rw [e70326] at e9; cases e9; show 1 ≤ (pI P3 b70325 (a2.toInt.toNat)).toInt ∧ (pI P3 b70325 (a2.toInt.toNat)).toInt ≤ 16; omega) W3) (h70324).1 (h70324).2 rfl rfl (by decide) (Nat.le_of_ble_eq_true rfl) (by decide) dX12_isAllWith_20 (fun Y70404 h70405 => ?_)
        obtain ⟨Iy70406, Xy70407, W70408, p70409⟩ := h70405
        have p70409 : (pI Y70404 a0 28).toInt ≤ 4 + (pI P3 b70399 (a1.toInt.toNat)).toInt := p70409
        have q70410 := Xy70407.keepA e70326 (by decide) rfl (a2.toInt.toNat)
        have q70411 := Xy70407.keepA e70400 (by decide) rfl (a1.toInt.toNat)
        have Xz70412 : EM [28, 29, 30, 31, 35, 36, 37, 38] a0 P Y70404 := EM.tr ha0 X3 (Xy70407.mono (by decide))
        have e70413 := Xy70407.ref h70324 (by decide) e70326
        have e70414 := Xy70407.ref h70324 (by decide) e70400
        have h70415 := Xy70407.at h70324
        have h70416 := Xy70407.ar h70327
        have h70417 := Xy70407.ar h70401
        have h70418 := Iy70406.rg h70415 28 rfl
        refine g_iconst (v := 0) C dX12_isAllWith_23 (by decide) ?_
        refine g_istore (lv' := [(5, .int 0), (0, .ref a0), (1, .int a1), (2, .int a2), (3, .int a3), (4, .int v3_4)]) C dX12_isAllWith_24 (by decide) rfl ?_
        refine g_lv (lv' := [(0, .ref a0), (1, .int a1), (2, .int a2), (3, .int a3), (4, .int v3_4), (5, .int 0)]) [1, 2, 3, 4, 5, 0] rfl ?_
        exact J26 _ Y70404 0 (Nat.lt_succ_self _) Iy70406 Xz70412 W70408 (by omega) (by decide) (fun b9 e9 => by rw [e70413] at e9; cases e9; omega) (by show (pI Y70404 a0 28).toInt ≤ 44 + 0; omega)
  obtain ⟨b70419, e70420, h70421⟩ := I.fld (ha0) 10 13 2 rfl
  have hf0 := hf0 b70419 e70420
  refine g_iconst (v := 0) C dX12_isAllWith_0 (by decide) ?_
  refine g_istore (lv' := [(4, .int 0), (0, .ref a0), (1, .int a1), (2, .int a2), (3, .int a3)]) C dX12_isAllWith_1 (by decide) rfl ?_
  refine g_lv (lv' := [(0, .ref a0), (1, .int a1), (2, .int a2), (3, .int a3), (4, .int 0)]) [1, 2, 3, 4, 0] rfl ?_
  exact J3 _ P 0 (Nat.lt_succ_self _) I EM.rf hW (by decide) (fun b9 e9 => by rw [e70420] at e9; cases e9; omega)
theorem dX12_isOut_0 : decode cX12_isOut 0 = .ok (.iconst 0, 1) := by decide +kernel
theorem dX12_isOut_1 : decode cX12_isOut 1 = .ok (.istore_n 2, 1) := by decide +kernel
theorem dX12_isOut_2 : decode cX12_isOut 2 = .ok (.iconst 0, 1) := by decide +kernel
theorem dX12_isOut_3 : decode cX12_isOut 3 = .ok (.istore_n 3, 1) := by decide +kernel
theorem dX12_isOut_4 : decode cX12_isOut 4 = .ok (.iload_n 3, 1) := by decide +kernel
theorem dX12_isOut_5 : decode cX12_isOut 5 = .ok (.iconst 4, 1) := by decide +kernel
theorem dX12_isOut_6 : decode cX12_isOut 6 = .ok (.if_icmp .ge 70, 3) := by decide +kernel
theorem dX12_isOut_9 : decode cX12_isOut 9 = .ok (.iconst 0, 1) := by decide +kernel
theorem dX12_isOut_10 : decode cX12_isOut 10 = .ok (.istore 4, 2) := by decide +kernel
theorem dX12_isOut_12 : decode cX12_isOut 12 = .ok (.iload 4, 2) := by decide +kernel
theorem dX12_isOut_14 : decode cX12_isOut 14 = .ok (.aload_n 0, 1) := by decide +kernel
theorem dX12_isOut_15 : decode cX12_isOut 15 = .ok (.getfield 69, 3) := by decide +kernel
theorem dX12_isOut_18 : decode cX12_isOut 18 = .ok (.iload_n 3, 1) := by decide +kernel
theorem dX12_isOut_19 : decode cX12_isOut 19 = .ok (.iaload, 1) := by decide +kernel
theorem dX12_isOut_20 : decode cX12_isOut 20 = .ok (.if_icmp .ge 50, 3) := by decide +kernel
theorem dX12_isOut_23 : decode cX12_isOut 23 = .ok (.iload_n 2, 1) := by decide +kernel
theorem dX12_isOut_24 : decode cX12_isOut 24 = .ok (.ifCond .ne 34, 3) := by decide +kernel
theorem dX12_isOut_27 : decode cX12_isOut 27 = .ok (.aload_n 0, 1) := by decide +kernel
theorem dX12_isOut_28 : decode cX12_isOut 28 = .ok (.getfield 75, 3) := by decide +kernel
theorem dX12_isOut_31 : decode cX12_isOut 31 = .ok (.bipush 40, 2) := by decide +kernel
theorem dX12_isOut_33 : decode cX12_isOut 33 = .ok (.iload_n 3, 1) := by decide +kernel
theorem dX12_isOut_34 : decode cX12_isOut 34 = .ok (.imul, 1) := by decide +kernel
theorem dX12_isOut_35 : decode cX12_isOut 35 = .ok (.iload 4, 2) := by decide +kernel
theorem dX12_isOut_37 : decode cX12_isOut 37 = .ok (.iadd, 1) := by decide +kernel
theorem dX12_isOut_38 : decode cX12_isOut 38 = .ok (.iaload, 1) := by decide +kernel
theorem dX12_isOut_39 : decode cX12_isOut 39 = .ok (.iload_n 1, 1) := by decide +kernel
theorem dX12_isOut_40 : decode cX12_isOut 40 = .ok (.if_icmp .eq 18, 3) := by decide +kernel
theorem dX12_isOut_43 : decode cX12_isOut 43 = .ok (.aload_n 0, 1) := by decide +kernel
theorem dX12_isOut_44 : decode cX12_isOut 44 = .ok (.getfield 75, 3) := by decide +kernel
theorem dX12_isOut_47 : decode cX12_isOut 47 = .ok (.bipush 40, 2) := by decide +kernel
theorem dX12_isOut_49 : decode cX12_isOut 49 = .ok (.iload_n 3, 1) := by decide +kernel
theorem dX12_isOut_50 : decode cX12_isOut 50 = .ok (.imul, 1) := by decide +kernel
theorem dX12_isOut_51 : decode cX12_isOut 51 = .ok (.iload 4, 2) := by decide +kernel
theorem dX12_isOut_53 : decode cX12_isOut 53 = .ok (.iadd, 1) := by decide +kernel
theorem dX12_isOut_54 : decode cX12_isOut 54 = .ok (.iaload, 1) := by decide +kernel
theorem dX12_isOut_55 : decode cX12_isOut 55 = .ok (.ifCond .ge 7, 3) := by decide +kernel
theorem dX12_isOut_58 : decode cX12_isOut 58 = .ok (.iconst 1, 1) := by decide +kernel
theorem dX12_isOut_59 : decode cX12_isOut 59 = .ok (.goto 4, 3) := by decide +kernel
theorem dX12_isOut_62 : decode cX12_isOut 62 = .ok (.iconst 0, 1) := by decide +kernel
theorem dX12_isOut_63 : decode cX12_isOut 63 = .ok (.istore_n 2, 1) := by decide +kernel
theorem dX12_isOut_64 : decode cX12_isOut 64 = .ok (.iinc 4 1, 3) := by decide +kernel
theorem dX12_isOut_67 : decode cX12_isOut 67 = .ok (.goto (-55), 3) := by decide +kernel
theorem dX12_isOut_70 : decode cX12_isOut 70 = .ok (.iinc 3 1, 3) := by decide +kernel
theorem dX12_isOut_73 : decode cX12_isOut 73 = .ok (.goto (-69), 3) := by decide +kernel
theorem dX12_isOut_76 : decode cX12_isOut 76 = .ok (.iload_n 2, 1) := by decide +kernel
theorem dX12_isOut_77 : decode cX12_isOut 77 = .ok (.ireturn, 1) := by decide +kernel
set_option maxHeartbeats 4000000 in
set_option maxRecDepth 100000 in
theorem s_X12_isOut {P : PP} {a0 : Nat} {a1 : Int32} (I : IM P a0) (hW : MW P a0) : CtrI yX12_isOut cX12_isOut 5 (some Jvm.ClassFile.FieldType.boolean) ({ frames := 1, cells := 0, slots := 0, locals := 64 } : Room) 0 0 P [.ref a0, .int a1] (fun r P2 => P = P2 ∧ (0 ≤ r.toInt ∧ r.toInt ≤ 1)) := by
  refine enI (lv := [(0, .ref a0), (1, .int a1)]) (by decide) (Nat.le_of_ble_eq_true rfl) rfl (fun E D cy C Ci0 ret => ?_)
  have ha0 := I.2.1
  have J4 : ∀ (n4 : Nat) (v4_2 : Int32) (v4_3 : Int32), (4 - v4_3.toInt).toNat < n4 → (0 ≤ v4_2.toInt ∧ v4_2.toInt ≤ 1) → (0 ≤ v4_3.toInt ∧ v4_3.toInt ≤ 4) → G E ({ frames := 1, cells := 0, slots := 0, locals := 64 } : Room) D cy 5 P 0 0 4 [(0, .ref a0), (1, .int a1), (2, .int v4_2), (3, .int v4_3)] [] := by
    intro n4
    induction n4 with
    | zero => intro v4_2 v4_3 hm4 hv4_2 hv4_3; omega
    | succ n4 ih4 =>
      intro v4_2 v4_3 hm4 hv4_2 hv4_3
      have J12 : ∀ (n12 : Nat) (v12_2 : Int32) (v12_4 : Int32), (40 - v12_4.toInt).toNat < n12 → (0 ≤ v12_2.toInt ∧ v12_2.toInt ≤ 1) → (0 ≤ v4_3.toInt ∧ v4_3.toInt ≤ 3) → (0 ≤ v12_4.toInt ∧ v12_4.toInt ≤ 40) → G E ({ frames := 1, cells := 0, slots := 0, locals := 64 } : Room) D cy 5 P 0 0 12 [(0, .ref a0), (1, .int a1), (2, .int v12_2), (3, .int v4_3), (4, .int v12_4)] [] := by
        intro n12
        induction n12 with
        | zero => intro v12_2 v12_4 hm12 hv12_2 hv12_3 hv12_4; omega
        | succ n12 ih12 =>
          intro v12_2 v12_4 hm12 hv12_2 hv12_3 hv12_4
          have J63 : ∀ (v63_s0 : Int32), (0 ≤ v4_3.toInt ∧ v4_3.toInt ≤ 3) → (0 ≤ v12_4.toInt ∧ v12_4.toInt ≤ 39) → (0 ≤ v63_s0.toInt ∧ v63_s0.toInt ≤ 1) → (∀ b, pR P a0 20 = some b → 1 ≤ (pI P b (v4_3.toInt.toNat)).toInt ∧ (pI P b (v4_3.toInt.toNat)).toInt ≤ 40) → G E ({ frames := 1, cells := 0, slots := 0, locals := 64 } : Room) D cy 5 P 0 0 63 [(0, .ref a0), (1, .int a1), (3, .int v4_3), (4, .int v12_4)] [.int v63_s0] := by
            intro v63_s0 hv63_3 hv63_4 hv63_s0 hq63_0
            obtain ⟨b70907, e70908, h70909⟩ := I.fld (ha0) 20 13 20 rfl
            have hq63_0 := hq63_0 b70907 e70908
            refine g_istore_n (lv' := [(2, .int v63_s0), (0, .ref a0), (1, .int a1), (3, .int v4_3), (4, .int v12_4)]) C dX12_isOut_63 rfl (by decide) rfl ?_
            refine s_iinc (lv0 := [(2, .int v63_s0), (0, .ref a0), (1, .int a1), (3, .int v4_3)]) (m := 1) C dX12_isOut_64 4 rfl (by decide) rfl (by decide) (by omega) (fun z70910 h70911 => ?_)
            have h70911 : z70910.toInt = v12_4.toInt + 1 := h70911
            refine g_goto C 12 dX12_isOut_67 (by decide) ?_
            refine g_lv (lv' := [(0, .ref a0), (1, .int a1), (2, .int v63_s0), (3, .int v4_3), (4, .int z70910)]) [2, 3, 1, 4, 0] rfl ?_
            exact ih12 v63_s0 z70910 (by omega) (by omega) (by omega) (by omega)
          have J58 : (0 ≤ v4_3.toInt ∧ v4_3.toInt ≤ 3) → (0 ≤ v12_4.toInt ∧ v12_4.toInt ≤ 39) → (∀ b, pR P a0 20 = some b → 1 ≤ (pI P b (v4_3.toInt.toNat)).toInt ∧ (pI P b (v4_3.toInt.toNat)).toInt ≤ 40) → G E ({ frames := 1, cells := 0, slots := 0, locals := 64 } : Room) D cy 5 P 0 0 58 [(0, .ref a0), (1, .int a1), (3, .int v4_3), (4, .int v12_4)] [] := by
            intro hv58_3 hv58_4 hq58_0
            obtain ⟨b70912, e70913, h70914⟩ := I.fld (ha0) 20 13 20 rfl
            have hq58_0 := hq58_0 b70912 e70913
            refine g_iconst (v := 1) C dX12_isOut_58 (by decide) ?_
            refine g_goto C 63 dX12_isOut_59 (by decide) ?_
            exact J63 1 (by omega) (by omega) (by decide) (fun b9 e9 => by rw [e70913] at e9; cases e9; omega)
          refine g_iload C dX12_isOut_12 4 rfl ?_
          refine g_aload_n C dX12_isOut_14 rfl 0 rfl ?_
          obtain ⟨b70915, e70916, h70917⟩ := I.fld (ha0) 20 13 20 rfl
          refine g_getR C fi_X12_69 rfl e70916 (ha0).1 (ha0).2 dX12_isOut_15 ?_
          refine g_iload_n C dX12_isOut_18 rfl 3 rfl ?_
          refine g_iald (j := (v4_3.toInt.toNat)) C h70917.1 h70917.2.1 (ix_in h70917.2.2 (by omega)) dX12_isOut_19 ?_
          have h70918 := I.arr e70916 rfl (v4_3.toInt.toNat)
          refine b_icmp_ge C 70 dX12_isOut_20 (by decide) (fun h70919 => ?_) (fun h70919 => ?_)
          · have h70919 : (pI P b70915 (v4_3.toInt.toNat)).toInt ≤ v12_4.toInt := h70919
            refine s_iinc (lv0 := [(0, .ref a0), (1, .int a1), (2, .int v12_2), (4, .int v12_4)]) (m := 1) C dX12_isOut_70 3 rfl (by decide) rfl (by decide) (by omega) (fun z70920 h70921 => ?_)
            have h70921 : z70920.toInt = v4_3.toInt + 1 := h70921
            refine g_goto C 4 dX12_isOut_73 (by decide) ?_
            refine g_lv (lv' := [(0, .ref a0), (1, .int a1), (2, .int v12_2), (3, .int z70920)]) [1, 2, 3, 0] rfl ?_
            exact ih4 v12_2 z70920 (by omega) (by omega) (by omega)
          · have h70919 : v12_4.toInt < (pI P b70915 (v4_3.toInt.toNat)).toInt := h70919
            refine g_iload_n C dX12_isOut_23 rfl 2 rfl ?_
            refine b_if_ne C 58 dX12_isOut_24 (by decide) (fun h70922 => ?_) (fun h70922 => ?_)
            · have h70922 : v12_2.toInt ≠ 0 := ti_ne h70922
              refine g_lv (lv' := [(0, .ref a0), (1, .int a1), (3, .int v4_3), (4, .int v12_4)]) [0, 1, 3, 4] rfl ?_
              exact J58 (by omega) (by omega) (fun b9 e9 => by rw [e70916] at e9; cases e9; omega)
            · have h70922 : v12_2.toInt = 0 := congrArg Int32.toInt h70922
              refine g_aload_n C dX12_isOut_27 rfl 0 rfl ?_
              obtain ⟨b70923, e70924, h70925⟩ := I.fld (ha0) 22 13 800 rfl
              refine g_getR C fi_X12_75 rfl e70924 (ha0).1 (ha0).2 dX12_isOut_28 ?_
              refine g_bipush (v := 40) C dX12_isOut_31 (by decide) ?_
              refine g_iload_n C dX12_isOut_33 rfl 3 rfl ?_
              refine s_imul C dX12_isOut_34 (by show -2147483648 ≤ 40 * v4_3.toInt ∧ 40 * v4_3.toInt ≤ 2147483647; omega) (fun z70926 h70927 => ?_)
              have h70927 : z70926.toInt = 40 * v4_3.toInt := h70927
              refine g_iload C dX12_isOut_35 4 rfl ?_
              refine s_iadd C dX12_isOut_37 (by show -2147483648 ≤ z70926.toInt + v12_4.toInt ∧ z70926.toInt + v12_4.toInt ≤ 2147483647; omega) (fun z70928 h70929 => ?_)
              have h70929 : z70928.toInt = z70926.toInt + v12_4.toInt := h70929
              refine g_iald (j := (z70928.toInt.toNat)) C h70925.1 h70925.2.1 (ix_in h70925.2.2 (by omega)) dX12_isOut_38 ?_
              have h70930 := I.arr e70924 rfl (z70928.toInt.toNat)
              refine g_iload_n C dX12_isOut_39 rfl 1 rfl ?_
              have u70932 := ti_rng a1
              refine b_icmp_eq C 58 dX12_isOut_40 (by decide) (fun h70931 => ?_) (fun h70931 => ?_)
              · have h70931 : (pI P b70923 (z70928.toInt.toNat)).toInt = a1.toInt := congrArg Int32.toInt h70931
                refine g_lv (lv' := [(0, .ref a0), (1, .int a1), (3, .int v4_3), (4, .int v12_4)]) [0, 1, 3, 4] rfl ?_
                exact J58 (by omega) (by omega) (fun b9 e9 => by rw [e70916] at e9; cases e9; omega)
              · have h70931 : (pI P b70923 (z70928.toInt.toNat)).toInt ≠ a1.toInt := ti_ne h70931
                refine g_aload_n C dX12_isOut_43 rfl 0 rfl ?_
                refine g_getR C fi_X12_75 rfl e70924 (ha0).1 (ha0).2 dX12_isOut_44 ?_
                refine g_bipush (v := 40) C dX12_isOut_47 (by decide) ?_
                refine g_iload_n C dX12_isOut_49 rfl 3 rfl ?_
                refine s_imul C dX12_isOut_50 (by show -2147483648 ≤ 40 * v4_3.toInt ∧ 40 * v4_3.toInt ≤ 2147483647; omega) (fun z70933 h70934 => ?_)
                have h70934 : z70933.toInt = 40 * v4_3.toInt := h70934
                refine g_iload C dX12_isOut_51 4 rfl ?_
                refine s_iadd C dX12_isOut_53 (by show -2147483648 ≤ z70933.toInt + v12_4.toInt ∧ z70933.toInt + v12_4.toInt ≤ 2147483647; omega) (fun z70935 h70936 => ?_)
                have h70936 : z70935.toInt = z70933.toInt + v12_4.toInt := h70936
                refine g_iald (j := (z70935.toInt.toNat)) C h70925.1 h70925.2.1 (ix_in h70925.2.2 (by omega)) dX12_isOut_54 ?_
                have h70937 := I.arr e70924 rfl (z70935.toInt.toNat)
                refine b_if_ge C 62 dX12_isOut_55 (by decide) (fun h70938 => ?_) (fun h70938 => ?_)
                · have h70938 : 0 ≤ (pI P b70923 (z70935.toInt.toNat)).toInt := h70938
                  refine g_iconst (v := 0) C dX12_isOut_62 (by decide) ?_
                  refine g_lv (lv' := [(0, .ref a0), (1, .int a1), (3, .int v4_3), (4, .int v12_4)]) [0, 1, 3, 4] rfl ?_
                  exact J63 0 (by omega) (by omega) (by decide) (fun b9 e9 => by rw [e70916] at e9; cases e9; omega)
                · have h70938 : (pI P b70923 (z70935.toInt.toNat)).toInt < 0 := h70938
                  refine g_lv (lv' := [(0, .ref a0), (1, .int a1), (3, .int v4_3), (4, .int v12_4)]) [0, 1, 3, 4] rfl ?_
                  exact J58 (by omega) (by omega) (fun b9 e9 => by rw [e70916] at e9; cases e9; omega)
      refine g_iload_n C dX12_isOut_4 rfl 3 rfl ?_
      refine g_iconst (v := 4) C dX12_isOut_5 (by decide) ?_
      refine b_icmp_ge C 76 dX12_isOut_6 (by decide) (fun h70939 => ?_) (fun h70939 => ?_)
      · have h70939 : 4 ≤ v4_3.toInt := h70939
        refine g_iload_n C dX12_isOut_76 rfl 2 rfl ?_
        exact ret _ _ _ _ _ _ dX12_isOut_77 (nar_b (b01 (by omega))) (by decide) (by decide) ⟨rfl, (by omega)⟩
      · have h70939 : v4_3.toInt < 4 := h70939
        refine g_iconst (v := 0) C dX12_isOut_9 (by decide) ?_
        refine g_istore (lv' := [(4, .int 0), (0, .ref a0), (1, .int a1), (2, .int v4_2), (3, .int v4_3)]) C dX12_isOut_10 (by decide) rfl ?_
        refine g_lv (lv' := [(0, .ref a0), (1, .int a1), (2, .int v4_2), (3, .int v4_3), (4, .int 0)]) [1, 2, 3, 4, 0] rfl ?_
        exact J12 _ v4_2 0 (Nat.lt_succ_self _) (by omega) (by omega) (by decide)
  refine g_iconst (v := 0) C dX12_isOut_0 (by decide) ?_
  refine g_istore_n (lv' := [(2, .int 0), (0, .ref a0), (1, .int a1)]) C dX12_isOut_1 rfl (by decide) rfl ?_
  refine g_iconst (v := 0) C dX12_isOut_2 (by decide) ?_
  refine g_istore_n (lv' := [(3, .int 0), (2, .int 0), (0, .ref a0), (1, .int a1)]) C dX12_isOut_3 rfl (by decide) rfl ?_
  refine g_lv (lv' := [(0, .ref a0), (1, .int a1), (2, .int 0), (3, .int 0)]) [2, 3, 1, 0] rfl ?_
  exact J4 _ 0 0 (Nat.lt_succ_self _) (by decide) (by decide)
theorem dX12_isSign_0 : decode cX12_isSign 0 = .ok (.aload_n 0, 1) := by decide +kernel
theorem dX12_isSign_1 : decode cX12_isSign 1 = .ok (.getfield 162, 3) := by decide +kernel
theorem dX12_isSign_4 : decode cX12_isSign 4 = .ok (.ifCond .ne 35, 3) := by decide +kernel
theorem dX12_isSign_7 : decode cX12_isSign 7 = .ok (.aload_n 0, 1) := by decide +kernel
theorem dX12_isSign_8 : decode cX12_isSign 8 = .ok (.getfield 24, 3) := by decide +kernel
theorem dX12_isSign_11 : decode cX12_isSign 11 = .ok (.aload_n 0, 1) := by decide +kernel
theorem dX12_isSign_12 : decode cX12_isSign 12 = .ok (.getfield 159, 3) := by decide +kernel
theorem dX12_isSign_15 : decode cX12_isSign 15 = .ok (.iaload, 1) := by decide +kernel
theorem dX12_isSign_16 : decode cX12_isSign 16 = .ok (.iconst 3, 1) := by decide +kernel
theorem dX12_isSign_17 : decode cX12_isSign 17 = .ok (.if_icmp .ne 22, 3) := by decide +kernel
theorem dX12_isSign_20 : decode cX12_isSign 20 = .ok (.aload_n 0, 1) := by decide +kernel
theorem dX12_isSign_21 : decode cX12_isSign 21 = .ok (.getfield 30, 3) := by decide +kernel
theorem dX12_isSign_24 : decode cX12_isSign 24 = .ok (.aload_n 0, 1) := by decide +kernel
theorem dX12_isSign_25 : decode cX12_isSign 25 = .ok (.getfield 159, 3) := by decide +kernel
theorem dX12_isSign_28 : decode cX12_isSign 28 = .ok (.laload, 1) := by decide +kernel
theorem dX12_isSign_29 : decode cX12_isSign 29 = .ok (.iload_n 1, 1) := by decide +kernel
theorem dX12_isSign_30 : decode cX12_isSign 30 = .ok (.i2l, 1) := by decide +kernel
theorem dX12_isSign_31 : decode cX12_isSign 31 = .ok (.lcmp, 1) := by decide +kernel
theorem dX12_isSign_32 : decode cX12_isSign 32 = .ok (.ifCond .ne 7, 3) := by decide +kernel
theorem dX12_isSign_35 : decode cX12_isSign 35 = .ok (.iconst 1, 1) := by decide +kernel
theorem dX12_isSign_36 : decode cX12_isSign 36 = .ok (.goto 4, 3) := by decide +kernel
theorem dX12_isSign_39 : decode cX12_isSign 39 = .ok (.iconst 0, 1) := by decide +kernel
theorem dX12_isSign_40 : decode cX12_isSign 40 = .ok (.ireturn, 1) := by decide +kernel
set_option maxHeartbeats 4000000 in
set_option maxRecDepth 100000 in
theorem s_X12_isSign {P : PP} {a0 : Nat} {a1 : Int32} (I : IM P a0) (hW : MW P a0) : CtrI yX12_isSign cX12_isSign 2 (some Jvm.ClassFile.FieldType.boolean) ({ frames := 1, cells := 0, slots := 0, locals := 64 } : Room) 0 0 P [.ref a0, .int a1] (fun r P2 => P = P2 ∧ (0 ≤ r.toInt ∧ r.toInt ≤ 1)) := by
  refine enI (lv := [(0, .ref a0), (1, .int a1)]) (by decide) (Nat.le_of_ble_eq_true rfl) rfl (fun E D cy C Ci0 ret => ?_)
  have ha0 := I.2.1
  have J39 : (0 ≤ (pI P a0 8).toInt ∧ (pI P a0 8).toInt ≤ 16005) → G E ({ frames := 1, cells := 0, slots := 0, locals := 64 } : Room) D cy 2 P 0 0 39 [] [] := by
    intro hq39_0
    refine g_iconst (v := 0) C dX12_isSign_39 (by decide) ?_
    exact ret _ _ _ _ _ _ dX12_isSign_40 rfl (by decide) (by decide) ⟨rfl, (by decide)⟩
  refine g_aload_n C dX12_isSign_0 rfl 0 rfl ?_
  refine g_getI C fi_X12_162 (by decide) (ha0).1 (ha0).2 dX12_isSign_1 ?_
  have h70956 := I.rg (ha0) 8 rfl
  refine b_if_ne C 39 dX12_isSign_4 (by decide) (fun h70957 => ?_) (fun h70957 => ?_)
  · have h70957 : (pI P a0 8).toInt ≠ 0 := ti_ne h70957
    refine g_lv (lv' := []) [] rfl ?_
    exact J39 (by omega)
  · have h70957 : (pI P a0 8).toInt = 0 := congrArg Int32.toInt h70957
    refine g_aload_n C dX12_isSign_7 rfl 0 rfl ?_
    obtain ⟨b70958, e70959, h70960⟩ := I.fld (ha0) 4 13 1002 rfl
    refine g_getR C fi_X12_24 rfl e70959 (ha0).1 (ha0).2 dX12_isSign_8 ?_
    refine g_aload_n C dX12_isSign_11 rfl 0 rfl ?_
    refine g_getI C fi_X12_159 (by decide) (ha0).1 (ha0).2 dX12_isSign_12 ?_
    have h70961 := I.rg (ha0) 7 rfl
    refine g_iald (j := ((pI P a0 7).toInt.toNat)) C h70960.1 h70960.2.1 (ix_in h70960.2.2 (by omega)) dX12_isSign_15 ?_
    have h70962 := I.arr e70959 rfl ((pI P a0 7).toInt.toNat)
    refine g_iconst (v := 3) C dX12_isSign_16 (by decide) ?_
    refine b_icmp_ne C 39 dX12_isSign_17 (by decide) (fun h70963 => ?_) (fun h70963 => ?_)
    · have h70963 : (pI P b70958 ((pI P a0 7).toInt.toNat)).toInt ≠ 3 := ti_ne h70963
      refine g_lv (lv' := []) [] rfl ?_
      exact J39 (by omega)
    · have h70963 : (pI P b70958 ((pI P a0 7).toInt.toNat)).toInt = 3 := congrArg Int32.toInt h70963
      refine g_aload_n C dX12_isSign_20 rfl 0 rfl ?_
      obtain ⟨b70964, e70965, h70966⟩ := I.fld (ha0) 6 14 1002 rfl
      refine g_getR C fi_X12_30 rfl e70965 (ha0).1 (ha0).2 dX12_isSign_21 ?_
      refine g_aload_n C dX12_isSign_24 rfl 0 rfl ?_
      refine g_getI C fi_X12_159 (by decide) (ha0).1 (ha0).2 dX12_isSign_25 ?_
      refine g_lald (j := ((pI P a0 7).toInt.toNat)) C h70966.1 h70966.2.1 (ix_in h70966.2.2 (by omega)) dX12_isSign_28 ?_
      refine g_topl (fun l70967 _ => ?_)
      refine g_iload_n C dX12_isSign_29 rfl 1 rfl ?_
      refine a_i2l C dX12_isSign_30 (fun l70968 => ?_)
      refine a_lcmp C dX12_isSign_31 (fun z70969 => ?_)
      have u70971 := ti_rng z70969
      refine b_if_ne C 39 dX12_isSign_32 (by decide) (fun h70970 => ?_) (fun h70970 => ?_)
      · have h70970 : z70969.toInt ≠ 0 := ti_ne h70970
        refine g_lv (lv' := []) [] rfl ?_
        exact J39 (by omega)
      · have h70970 : z70969.toInt = 0 := congrArg Int32.toInt h70970
        refine g_iconst (v := 1) C dX12_isSign_35 (by decide) ?_
        refine g_goto C 40 dX12_isSign_36 (by decide) ?_
        exact ret _ _ _ _ _ _ dX12_isSign_40 rfl (by decide) (by decide) ⟨rfl, (by decide)⟩
theorem dX12_leaflet_0 : decode cX12_leaflet 0 = .ok (.aload_n 0, 1) := by decide +kernel
theorem dX12_leaflet_1 : decode cX12_leaflet 1 = .ok (.iconst 0, 1) := by decide +kernel
theorem dX12_leaflet_2 : decode cX12_leaflet 2 = .ok (.putfield 1, 3) := by decide +kernel
theorem dX12_leaflet_5 : decode cX12_leaflet 5 = .ok (.aload_n 0, 1) := by decide +kernel
theorem dX12_leaflet_6 : decode cX12_leaflet 6 = .ok (.iload_n 1, 1) := by decide +kernel
theorem dX12_leaflet_7 : decode cX12_leaflet 7 = .ok (.invokevirtual 192, 3) := by decide +kernel
theorem dX12_leaflet_10 : decode cX12_leaflet 10 = .ok (.ifCond .eq 19, 3) := by decide +kernel
theorem dX12_leaflet_13 : decode cX12_leaflet 13 = .ok (.iload_n 2, 1) := by decide +kernel
theorem dX12_leaflet_14 : decode cX12_leaflet 14 = .ok (.invokestatic 258, 3) := by decide +kernel
theorem dX12_leaflet_17 : decode cX12_leaflet 17 = .ok (.ifCond .eq 12, 3) := by decide +kernel
theorem dX12_leaflet_20 : decode cX12_leaflet 20 = .ok (.iload_n 3, 1) := by decide +kernel
theorem dX12_leaflet_21 : decode cX12_leaflet 21 = .ok (.iconst 0, 1) := by decide +kernel
theorem dX12_leaflet_22 : decode cX12_leaflet 22 = .ok (.iconst 3, 1) := by decide +kernel
theorem dX12_leaflet_23 : decode cX12_leaflet 23 = .ok (.invokestatic 178, 3) := by decide +kernel
theorem dX12_leaflet_26 : decode cX12_leaflet 26 = .ok (.ifCond .ne 5, 3) := by decide +kernel
theorem dX12_leaflet_29 : decode cX12_leaflet 29 = .ok (.iconst (-1), 1) := by decide +kernel
theorem dX12_leaflet_30 : decode cX12_leaflet 30 = .ok (.ireturn, 1) := by decide +kernel
theorem dX12_leaflet_31 : decode cX12_leaflet 31 = .ok (.aload_n 0, 1) := by decide +kernel
theorem dX12_leaflet_32 : decode cX12_leaflet 32 = .ok (.iload_n 1, 1) := by decide +kernel
theorem dX12_leaflet_33 : decode cX12_leaflet 33 = .ok (.iload_n 2, 1) := by decide +kernel
theorem dX12_leaflet_34 : decode cX12_leaflet 34 = .ok (.invokevirtual 261, 3) := by decide +kernel
theorem dX12_leaflet_37 : decode cX12_leaflet 37 = .ok (.istore 4, 2) := by decide +kernel
theorem dX12_leaflet_39 : decode cX12_leaflet 39 = .ok (.iload_n 3, 1) := by decide +kernel
theorem dX12_leaflet_40 : decode cX12_leaflet 40 = .ok (.ifCond .ne 8, 3) := by decide +kernel
theorem dX12_leaflet_43 : decode cX12_leaflet 43 = .ok (.iload 4, 2) := by decide +kernel
theorem dX12_leaflet_45 : decode cX12_leaflet 45 = .ok (.goto 44, 3) := by decide +kernel
theorem dX12_leaflet_48 : decode cX12_leaflet 48 = .ok (.iload_n 3, 1) := by decide +kernel
theorem dX12_leaflet_49 : decode cX12_leaflet 49 = .ok (.iconst 3, 1) := by decide +kernel
theorem dX12_leaflet_50 : decode cX12_leaflet 50 = .ok (.if_icmp .ne 11, 3) := by decide +kernel
theorem dX12_leaflet_53 : decode cX12_leaflet 53 = .ok (.iload 4, 2) := by decide +kernel
theorem dX12_leaflet_55 : decode cX12_leaflet 55 = .ok (.invokestatic 264, 3) := by decide +kernel
theorem dX12_leaflet_58 : decode cX12_leaflet 58 = .ok (.goto 31, 3) := by decide +kernel
theorem dX12_leaflet_61 : decode cX12_leaflet 61 = .ok (.iload_n 3, 1) := by decide +kernel
theorem dX12_leaflet_62 : decode cX12_leaflet 62 = .ok (.iconst 1, 1) := by decide +kernel
theorem dX12_leaflet_63 : decode cX12_leaflet 63 = .ok (.if_icmp .ne 13, 3) := by decide +kernel
theorem dX12_leaflet_66 : decode cX12_leaflet 66 = .ok (.aload_n 0, 1) := by decide +kernel
theorem dX12_leaflet_67 : decode cX12_leaflet 67 = .ok (.iload_n 1, 1) := by decide +kernel
theorem dX12_leaflet_68 : decode cX12_leaflet 68 = .ok (.iload 4, 2) := by decide +kernel
theorem dX12_leaflet_70 : decode cX12_leaflet 70 = .ok (.invokevirtual 223, 3) := by decide +kernel
theorem dX12_leaflet_73 : decode cX12_leaflet 73 = .ok (.goto 16, 3) := by decide +kernel
theorem dX12_leaflet_76 : decode cX12_leaflet 76 = .ok (.aload_n 0, 1) := by decide +kernel
theorem dX12_leaflet_77 : decode cX12_leaflet 77 = .ok (.iload_n 1, 1) := by decide +kernel
theorem dX12_leaflet_78 : decode cX12_leaflet 78 = .ok (.iload_n 2, 1) := by decide +kernel
theorem dX12_leaflet_79 : decode cX12_leaflet 79 = .ok (.aload_n 0, 1) := by decide +kernel
theorem dX12_leaflet_80 : decode cX12_leaflet 80 = .ok (.iload_n 1, 1) := by decide +kernel
theorem dX12_leaflet_81 : decode cX12_leaflet 81 = .ok (.iload 4, 2) := by decide +kernel
theorem dX12_leaflet_83 : decode cX12_leaflet 83 = .ok (.invokevirtual 223, 3) := by decide +kernel
theorem dX12_leaflet_86 : decode cX12_leaflet 86 = .ok (.invokevirtual 267, 3) := by decide +kernel
theorem dX12_leaflet_89 : decode cX12_leaflet 89 = .ok (.ireturn, 1) := by decide +kernel
set_option maxHeartbeats 4000000 in
set_option maxRecDepth 100000 in
theorem s_X12_leaflet {P : PP} {a0 : Nat} {a1 : Int32} {a2 : Int32} {a3 : Int32} (I : IM P a0) (hW : MW P a0) : CtrI yX12_leaflet cX12_leaflet 5 (some Jvm.ClassFile.FieldType.int) ({ frames := 4, cells := 0, slots := 0, locals := 256 } : Room) 0 0 P [.ref a0, .int a1, .int a2, .int a3] (fun r P2 => IM P2 a0 ∧ EM [0] a0 P P2 ∧ MW P2 a0 ∧ (True)) := by
  refine enI (lv := [(0, .ref a0), (1, .int a1), (2, .int a2), (3, .int a3)]) (by decide) (Nat.le_of_ble_eq_true rfl) rfl (fun E D cy C Ci0 ret => ?_)
  have ha0 := I.2.1
  have J29 : ∀ (P29 : PP), (IM P29 a0) → (EM [0] a0 P P29) → (MW P29 a0) → (0 ≤ (pI P29 a0 0).toInt ∧ (pI P29 a0 0).toInt ≤ 0) → G E ({ frames := 4, cells := 0, slots := 0, locals := 256 } : Room) D cy 5 P29 0 0 29 [] [] := by
    intro P29 I29 X29 W29 hq29_0
    have h71028 := X29.at ha0
    refine g_iconst (v := (-1)) C dX12_leaflet_29 (by decide) ?_
    exact ret _ _ _ _ _ _ dX12_leaflet_30 rfl (by decide) (by decide) ⟨I29, X29, W29, trivial⟩
  refine g_aload_n C dX12_leaflet_0 rfl 0 rfl ?_
  refine g_iconst (v := 0) C dX12_leaflet_1 (by decide) ?_
  refine g_putI C fi_X12_1 rfl (ha0).1 (ha0).2 dX12_leaflet_2 ?_
  refine gqW (ks := [0]) (I.setI (rgOk.of rfl (by decide))) (EM.setI I (by decide)) (fun Y71029 Iy71030 Xy71031 w71032 => ?_)
  have w71032 : (pI Y71029 a0 0).toInt = 0 := w71032
  have W71033 := hW.keep I Xy71031 (by decide) (by decide) (by decide)
  have Xz71034 : EM [0] a0 P Y71029 := Xy71031.mono (by decide)
  have h71035 := Xy71031.at ha0
  refine g_aload_n C dX12_leaflet_5 rfl 0 rfl ?_
  refine g_iload_n C dX12_leaflet_6 rfl 1 rfl ?_
  refine g_callVI (rest := []) C mv_X12_192 [.int a1] (s_X12_isBook Iy71030 W71033) (h71035).1 (h71035).2 rfl rfl (by decide) (Nat.le_of_ble_eq_true rfl) (by decide) dX12_leaflet_7 (fun r71036 Y71037 h71038 => ?_)
  obtain ⟨rfl, h71038⟩ := h71038
  obtain ⟨h71038, hi71039, hi71040⟩ := h71038
  have hi71039 : r71036.toInt = 0 ∨ (((0 : Int) ≤ a1.toInt ∧ a1.toInt ≤ (1 : Int))) := hi71039
  have h71038 : 0 ≤ r71036.toInt ∧ r71036.toInt ≤ 1 := h71038
  refine b_if_eq C 29 dX12_leaflet_10 (by decide) (fun h71041 => ?_) (fun h71041 => ?_)
  · have h71041 : r71036.toInt = 0 := congrArg Int32.toInt h71041
    clear hi71039
    refine g_lv (lv' := []) [] rfl ?_
    exact J29 Y71029 Iy71030 Xz71034 W71033 (by omega)
  · have h71041 : r71036.toInt ≠ 0 := ti_ne h71041
    replace hi71039 := hi71039.resolve_left (by omega)
    obtain ⟨b71042, e71043, h71044⟩ := Iy71030.fld (h71035) 10 13 2 rfl
    have hi71040 := (hi71040.resolve_left (by omega)) b71042 e71043
    have hi71040 : 0 < (pI Y71029 b71042 (a1.toInt.toNat)).toInt := hi71040
    have h71045 := Iy71030.arr e71043 rfl (a1.toInt.toNat)
    refine g_iload_n C dX12_leaflet_13 rfl 2 rfl ?_
    refine g_callSI (b := 0) (ci := 0) (rest := []) C ms_X12_258 [.int a2] (s_X12_isNumber Iy71030.1) rfl rfl (by decide) (Nat.le_of_ble_eq_true rfl) (by decide) dX12_leaflet_14 (fun r71046 Y71047 h71048 => ?_)
    obtain ⟨rfl, h71048⟩ := h71048
    obtain ⟨h71048, hi71049⟩ := h71048
    have hi71049 : r71046.toInt = 0 ∨ (((0 : Int) ≤ a2.toInt ∧ a2.toInt ≤ (9999 : Int))) := hi71049
    have h71048 : 0 ≤ r71046.toInt ∧ r71046.toInt ≤ 1 := h71048
    refine b_if_eq C 29 dX12_leaflet_17 (by decide) (fun h71050 => ?_) (fun h71050 => ?_)
    · have h71050 : r71046.toInt = 0 := congrArg Int32.toInt h71050
      clear hi71049
      refine g_lv (lv' := []) [] rfl ?_
      exact J29 Y71029 Iy71030 Xz71034 W71033 (by omega)
    · have h71050 : r71046.toInt ≠ 0 := ti_ne h71050
      replace hi71049 := hi71049.resolve_left (by omega)
      refine g_iload_n C dX12_leaflet_20 rfl 3 rfl ?_
      refine g_iconst (v := 0) C dX12_leaflet_21 (by decide) ?_
      refine g_iconst (v := 3) C dX12_leaflet_22 (by decide) ?_
      refine g_callSI (b := 0) (ci := 0) (rest := []) C ms_X12_178 [.int a3, .int 0, .int 3] (s_X12_within Iy71030.1) rfl rfl (by decide) (Nat.le_of_ble_eq_true rfl) (by decide) dX12_leaflet_23 (fun r71051 Y71052 h71053 => ?_)
      obtain ⟨rfl, h71053⟩ := h71053
      obtain ⟨h71053, hi71054⟩ := h71053
      have hi71054 : r71051.toInt = 0 ∨ (0 ≤ a3.toInt ∧ a3.toInt ≤ 3) := hi71054
      have h71053 : 0 ≤ r71051.toInt ∧ r71051.toInt ≤ 1 := h71053
      refine b_if_ne C 31 dX12_leaflet_26 (by decide) (fun h71055 => ?_) (fun h71055 => ?_)
      · have h71055 : r71051.toInt ≠ 0 := ti_ne h71055
        replace hi71054 := hi71054.resolve_left (by omega)
        refine g_aload_n C dX12_leaflet_31 rfl 0 rfl ?_
        refine g_iload_n C dX12_leaflet_32 rfl 1 rfl ?_
        refine g_iload_n C dX12_leaflet_33 rfl 2 rfl ?_
        refine g_callVI (rest := []) C mv_X12_261 [.int a1, .int a2] (s_X12_setOf Iy71030 (by omega) (fun b9 e9 => by rw [e71043] at e9; cases e9; show 1 ≤ (pI Y71029 b71042 (a1.toInt.toNat)).toInt ∧ (pI Y71029 b71042 (a1.toInt.toNat)).toInt ≤ 16; omega) W71033) (h71035).1 (h71035).2 rfl rfl (by decide) (Nat.le_of_ble_eq_true rfl) (by decide) dX12_leaflet_34 (fun r71056 Y71057 h71058 => ?_)
        obtain ⟨Iy71059, Xy71060, W71061, h71058⟩ := h71058
        have q71062 := Xy71060.keepF 0 (by decide)
        have q71063 := Xy71060.keepA e71043 (by decide) rfl (a1.toInt.toNat)
        have Xz71064 : EM [0] a0 P Y71057 := EM.tr ha0 Xz71034 (Xy71060.mono (by decide))
        have e71065 := Xy71060.ref h71035 (by decide) e71043
        have h71066 := Xy71060.at h71035
        have h71067 := Xy71060.ar h71044
        have h71058 : True := h71058
        refine g_istore (lv' := [(4, .int r71056), (0, .ref a0), (1, .int a1), (2, .int a2), (3, .int a3)]) C dX12_leaflet_37 (by decide) rfl ?_
        refine g_iload_n C dX12_leaflet_39 rfl 4 rfl ?_
        refine b_if_ne C 48 dX12_leaflet_40 (by decide) (fun h71068 => ?_) (fun h71068 => ?_)
        · have h71068 : a3.toInt ≠ 0 := ti_ne h71068
          refine g_iload_n C dX12_leaflet_48 rfl 4 rfl ?_
          refine g_iconst (v := 3) C dX12_leaflet_49 (by decide) ?_
          refine b_icmp_ne C 61 dX12_leaflet_50 (by decide) (fun h71069 => ?_) (fun h71069 => ?_)
          · have h71069 : a3.toInt ≠ 3 := ti_ne h71069
            refine g_iload_n C dX12_leaflet_61 rfl 4 rfl ?_
            refine g_iconst (v := 1) C dX12_leaflet_62 (by decide) ?_
            refine b_icmp_ne C 76 dX12_leaflet_63 (by decide) (fun h71070 => ?_) (fun h71070 => ?_)
            · have h71070 : a3.toInt ≠ 1 := ti_ne h71070
              refine g_aload_n C dX12_leaflet_76 rfl 1 rfl ?_
              refine g_iload_n C dX12_leaflet_77 rfl 2 rfl ?_
              refine g_iload_n C dX12_leaflet_78 rfl 3 rfl ?_
              refine g_aload_n C dX12_leaflet_79 rfl 1 rfl ?_
              refine g_iload_n C dX12_leaflet_80 rfl 2 rfl ?_
              refine g_iload C dX12_leaflet_81 0 rfl ?_
              refine g_callVI (rest := [.int a2, .int a1, .ref a0]) C mv_X12_223 [.int a1, .int r71056] (s_X12_sumOf Iy71059 (by omega) W71061) (h71066).1 (h71066).2 rfl rfl (by decide) (Nat.le_of_ble_eq_true rfl) (by decide) dX12_leaflet_83 (fun r71071 Y71072 h71073 => ?_)
              obtain ⟨rfl, h71073⟩ := h71073
              have h71073 : True := h71073
              refine g_callVI (rest := []) C mv_X12_267 [.int a1, .int a2, .int r71071] (s_X12_sealOf Iy71059 (by omega) W71061) (h71066).1 (h71066).2 rfl rfl (by decide) (Nat.le_of_ble_eq_true rfl) (by decide) dX12_leaflet_86 (fun r71074 Y71075 h71076 => ?_)
              obtain ⟨rfl, h71076⟩ := h71076
              have h71076 : -996 ≤ r71074.toInt ∧ r71074.toInt ≤ 996 := h71076
              exact ret _ _ _ _ _ _ dX12_leaflet_89 rfl (by decide) (by decide) ⟨Iy71059, Xz71064, W71061, trivial⟩
            · have h71070 : a3.toInt = 1 := congrArg Int32.toInt h71070
              refine g_aload_n C dX12_leaflet_66 rfl 1 rfl ?_
              refine g_iload_n C dX12_leaflet_67 rfl 2 rfl ?_
              refine g_iload C dX12_leaflet_68 0 rfl ?_
              refine g_callVI (rest := []) C mv_X12_223 [.int a1, .int r71056] (s_X12_sumOf Iy71059 (by omega) W71061) (h71066).1 (h71066).2 rfl rfl (by decide) (Nat.le_of_ble_eq_true rfl) (by decide) dX12_leaflet_70 (fun r71077 Y71078 h71079 => ?_)
              obtain ⟨rfl, h71079⟩ := h71079
              have h71079 : True := h71079
              refine g_goto C 89 dX12_leaflet_73 (by decide) ?_
              exact ret _ _ _ _ _ _ dX12_leaflet_89 rfl (by decide) (by decide) ⟨Iy71059, Xz71064, W71061, trivial⟩
          · have h71069 : a3.toInt = 3 := congrArg Int32.toInt h71069
            refine g_iload C dX12_leaflet_53 0 rfl ?_
            refine g_callSI (b := 0) (ci := 0) (rest := []) C ms_X12_264 [.int r71056] (s_X12_bits Iy71059.1) rfl rfl (by decide) (Nat.le_of_ble_eq_true rfl) (by decide) dX12_leaflet_55 (fun r71080 Y71081 h71082 => ?_)
            obtain ⟨rfl, h71082⟩ := h71082
            obtain ⟨h71082, hi71083⟩ := h71082
            have hi71083 : r71080.toInt = 0 ∨ r71056.toInt ≠ 0 := hi71083
            have h71082 : 0 ≤ r71080.toInt ∧ r71080.toInt ≤ 20 := h71082
            refine g_goto C 89 dX12_leaflet_58 (by decide) ?_
            exact ret _ _ _ _ _ _ dX12_leaflet_89 rfl (by decide) (by decide) ⟨Iy71059, Xz71064, W71061, trivial⟩
        · have h71068 : a3.toInt = 0 := congrArg Int32.toInt h71068
          refine g_iload C dX12_leaflet_43 0 rfl ?_
          refine g_goto C 89 dX12_leaflet_45 (by decide) ?_
          exact ret _ _ _ _ _ _ dX12_leaflet_89 rfl (by decide) (by decide) ⟨Iy71059, Xz71064, W71061, trivial⟩
      · have h71055 : r71051.toInt = 0 := congrArg Int32.toInt h71055
        clear hi71054
        refine g_lv (lv' := []) [] rfl ?_
        exact J29 Y71029 Iy71030 Xz71034 W71033 (by omega)
theorem dX12_mark_0 : decode cX12_mark 0 = .ok (.aload_n 0, 1) := by decide +kernel
theorem dX12_mark_1 : decode cX12_mark 1 = .ok (.iconst 0, 1) := by decide +kernel
theorem dX12_mark_2 : decode cX12_mark 2 = .ok (.putfield 1, 3) := by decide +kernel
theorem dX12_mark_5 : decode cX12_mark 5 = .ok (.iload_n 1, 1) := by decide +kernel
theorem dX12_mark_6 : decode cX12_mark 6 = .ok (.iconst 0, 1) := by decide +kernel
theorem dX12_mark_7 : decode cX12_mark 7 = .ok (.iconst 3, 1) := by decide +kernel
theorem dX12_mark_8 : decode cX12_mark 8 = .ok (.invokestatic 178, 3) := by decide +kernel
theorem dX12_mark_11 : decode cX12_mark 11 = .ok (.ifCond .eq 16, 3) := by decide +kernel
theorem dX12_mark_14 : decode cX12_mark 14 = .ok (.iload_n 2, 1) := by decide +kernel
theorem dX12_mark_15 : decode cX12_mark 15 = .ok (.ifCond .eq 14, 3) := by decide +kernel
theorem dX12_mark_18 : decode cX12_mark 18 = .ok (.aload_n 0, 1) := by decide +kernel
theorem dX12_mark_19 : decode cX12_mark 19 = .ok (.getfield 87, 3) := by decide +kernel
theorem dX12_mark_22 : decode cX12_mark 22 = .ok (.iload_n 1, 1) := by decide +kernel
theorem dX12_mark_23 : decode cX12_mark 23 = .ok (.baload, 1) := by decide +kernel
theorem dX12_mark_24 : decode cX12_mark 24 = .ok (.ifCond .ne 5, 3) := by decide +kernel
theorem dX12_mark_27 : decode cX12_mark 27 = .ok (.iconst 0, 1) := by decide +kernel
theorem dX12_mark_28 : decode cX12_mark 28 = .ok (.ireturn, 1) := by decide +kernel
theorem dX12_mark_29 : decode cX12_mark 29 = .ok (.iconst 0, 1) := by decide +kernel
theorem dX12_mark_30 : decode cX12_mark 30 = .ok (.istore_n 3, 1) := by decide +kernel
theorem dX12_mark_31 : decode cX12_mark 31 = .ok (.iload_n 3, 1) := by decide +kernel
theorem dX12_mark_32 : decode cX12_mark 32 = .ok (.iconst 4, 1) := by decide +kernel
theorem dX12_mark_33 : decode cX12_mark 33 = .ok (.if_icmp .ge 43, 3) := by decide +kernel
theorem dX12_mark_36 : decode cX12_mark 36 = .ok (.aload_n 0, 1) := by decide +kernel
theorem dX12_mark_37 : decode cX12_mark 37 = .ok (.iload_n 2, 1) := by decide +kernel
theorem dX12_mark_38 : decode cX12_mark 38 = .ok (.ifCond .eq 13, 3) := by decide +kernel
theorem dX12_mark_41 : decode cX12_mark 41 = .ok (.iconst 4, 1) := by decide +kernel
theorem dX12_mark_42 : decode cX12_mark 42 = .ok (.iload_n 1, 1) := by decide +kernel
theorem dX12_mark_43 : decode cX12_mark 43 = .ok (.iconst 1, 1) := by decide +kernel
theorem dX12_mark_44 : decode cX12_mark 44 = .ok (.iadd, 1) := by decide +kernel
theorem dX12_mark_45 : decode cX12_mark 45 = .ok (.imul, 1) := by decide +kernel
theorem dX12_mark_46 : decode cX12_mark 46 = .ok (.iload_n 3, 1) := by decide +kernel
theorem dX12_mark_47 : decode cX12_mark 47 = .ok (.iadd, 1) := by decide +kernel
theorem dX12_mark_48 : decode cX12_mark 48 = .ok (.goto 4, 3) := by decide +kernel
theorem dX12_mark_51 : decode cX12_mark 51 = .ok (.iload_n 3, 1) := by decide +kernel
theorem dX12_mark_52 : decode cX12_mark 52 = .ok (.iload_n 2, 1) := by decide +kernel
theorem dX12_mark_53 : decode cX12_mark 53 = .ok (.ifCond .eq 7, 3) := by decide +kernel
theorem dX12_mark_56 : decode cX12_mark 56 = .ok (.iload_n 3, 1) := by decide +kernel
theorem dX12_mark_57 : decode cX12_mark 57 = .ok (.goto 10, 3) := by decide +kernel
theorem dX12_mark_60 : decode cX12_mark 60 = .ok (.iconst 4, 1) := by decide +kernel
theorem dX12_mark_61 : decode cX12_mark 61 = .ok (.iload_n 1, 1) := by decide +kernel
theorem dX12_mark_62 : decode cX12_mark 62 = .ok (.iconst 1, 1) := by decide +kernel
theorem dX12_mark_63 : decode cX12_mark 63 = .ok (.iadd, 1) := by decide +kernel
theorem dX12_mark_64 : decode cX12_mark 64 = .ok (.imul, 1) := by decide +kernel
theorem dX12_mark_65 : decode cX12_mark 65 = .ok (.iload_n 3, 1) := by decide +kernel
theorem dX12_mark_66 : decode cX12_mark 66 = .ok (.iadd, 1) := by decide +kernel
theorem dX12_mark_67 : decode cX12_mark 67 = .ok (.invokevirtual 302, 3) := by decide +kernel
theorem dX12_mark_70 : decode cX12_mark 70 = .ok (.iinc 3 1, 3) := by decide +kernel
theorem dX12_mark_73 : decode cX12_mark 73 = .ok (.goto (-42), 3) := by decide +kernel
theorem dX12_mark_76 : decode cX12_mark 76 = .ok (.aload_n 0, 1) := by decide +kernel
theorem dX12_mark_77 : decode cX12_mark 77 = .ok (.getfield 87, 3) := by decide +kernel
theorem dX12_mark_80 : decode cX12_mark 80 = .ok (.iload_n 1, 1) := by decide +kernel
theorem dX12_mark_81 : decode cX12_mark 81 = .ok (.iconst 1, 1) := by decide +kernel
theorem dX12_mark_82 : decode cX12_mark 82 = .ok (.bastore, 1) := by decide +kernel
theorem dX12_mark_83 : decode cX12_mark 83 = .ok (.iconst 1, 1) := by decide +kernel
theorem dX12_mark_84 : decode cX12_mark 84 = .ok (.ireturn, 1) := by decide +kernel
set_option maxHeartbeats 4000000 in
set_option maxRecDepth 100000 in
theorem s_X12_mark {P : PP} {a0 : Nat} {a1 : Int32} {a2 : Int32} (I : IM P a0) (ha2 : 0 ≤ a2.toInt ∧ a2.toInt ≤ 1) (hW : MW P a0) : CtrI yX12_mark cX12_mark 4 (some Jvm.ClassFile.FieldType.boolean) ({ frames := 3, cells := 0, slots := 0, locals := 192 } : Room) 0 0 P [.ref a0, .int a1, .int a2] (fun r P2 => IM P2 a0 ∧ EM [0, 20, 21, 22, 23, 24, 25, 26] a0 P P2 ∧ MW P2 a0 ∧ (0 ≤ r.toInt ∧ r.toInt ≤ 1) ∧ (r.toInt = 0 ∨ (((0 : Int) ≤ a1.toInt ∧ a1.toInt ≤ (3 : Int))))) := by
  refine enI (lv := [(0, .ref a0), (1, .int a1), (2, .int a2)]) (by decide) (Nat.le_of_ble_eq_true rfl) rfl (fun E D cy C Ci0 ret => ?_)
  have ha0 := I.2.1
  have J31 : ∀ (n31 : Nat) (P31 : PP) (v31_3 : Int32), (4 - v31_3.toInt).toNat < n31 → (IM P31 a0) → (EM [0, 20, 21, 22, 23, 24, 25, 26] a0 P P31) → (MW P31 a0) → (0 ≤ a1.toInt ∧ a1.toInt ≤ 3) → (0 ≤ v31_3.toInt ∧ v31_3.toInt ≤ 4) → (0 ≤ (pI P31 a0 0).toInt ∧ (pI P31 a0 0).toInt ≤ 0) → G E ({ frames := 3, cells := 0, slots := 0, locals := 192 } : Room) D cy 4 P31 0 0 31 [(0, .ref a0), (1, .int a1), (2, .int a2), (3, .int v31_3)] [] := by
    intro n31
    induction n31 with
    | zero => intro P31 v31_3 hm31 I31 X31 W31 hv31_1 hv31_3 hq31_0; omega
    | succ n31 ih31 =>
      intro P31 v31_3 hm31 I31 X31 W31 hv31_1 hv31_3 hq31_0
      have h71242 := X31.at ha0
      have J67 : ∀ (v67_s0 : Int32) (v67_s1 : Int32), (0 ≤ a1.toInt ∧ a1.toInt ≤ 3) → (0 ≤ v31_3.toInt ∧ v31_3.toInt ≤ 3) → (0 ≤ v67_s0.toInt ∧ v67_s0.toInt ≤ 19) → (0 ≤ v67_s1.toInt ∧ v67_s1.toInt ≤ 19) → (0 ≤ (pI P31 a0 0).toInt ∧ (pI P31 a0 0).toInt ≤ 0) → G E ({ frames := 3, cells := 0, slots := 0, locals := 192 } : Room) D cy 4 P31 0 0 67 [(0, .ref a0), (1, .int a1), (2, .int a2), (3, .int v31_3)] [.int v67_s0, .int v67_s1, .ref a0] := by
        intro v67_s0 v67_s1 hv67_1 hv67_3 hv67_s0 hv67_s1 hq67_0
        have h71243 := X31.at ha0
        refine g_callVV (rest := []) C mv_X12_302 [.int v67_s1, .int v67_s0] (s_X12_copies I31 (by omega) (by omega) W31) (h71243).1 (h71243).2 rfl rfl (by decide) (Nat.le_of_ble_eq_true rfl) (by decide) dX12_mark_67 (fun Y71245 h71246 => ?_)
        obtain ⟨Iy71247, Xy71248, W71249⟩ := h71246
        have q71250 := Xy71248.keepF 0 (by decide)
        have Xz71251 : EM [0, 20, 21, 22, 23, 24, 25, 26] a0 P Y71245 := EM.tr ha0 X31 (Xy71248.mono (by decide))
        have h71252 := Xy71248.at h71243
        refine s_iinc (lv0 := [(0, .ref a0), (1, .int a1), (2, .int a2)]) (m := 1) C dX12_mark_70 3 rfl (by decide) rfl (by decide) (by omega) (fun z71253 h71254 => ?_)
        have h71254 : z71253.toInt = v31_3.toInt + 1 := h71254
        refine g_goto C 31 dX12_mark_73 (by decide) ?_
        refine g_lv (lv' := [(0, .ref a0), (1, .int a1), (2, .int a2), (3, .int z71253)]) [1, 2, 3, 0] rfl ?_
        exact ih31 Y71245 z71253 (by omega) Iy71247 Xz71251 W71249 (by omega) (by omega) (by omega)
      have J52 : ∀ (v52_s0 : Int32), (0 ≤ a1.toInt ∧ a1.toInt ≤ 3) → (0 ≤ v31_3.toInt ∧ v31_3.toInt ≤ 3) → (0 ≤ v52_s0.toInt ∧ v52_s0.toInt ≤ 19) → (0 ≤ (pI P31 a0 0).toInt ∧ (pI P31 a0 0).toInt ≤ 0) → G E ({ frames := 3, cells := 0, slots := 0, locals := 192 } : Room) D cy 4 P31 0 0 52 [(0, .ref a0), (1, .int a1), (2, .int a2), (3, .int v31_3)] [.int v52_s0, .ref a0] := by
        intro v52_s0 hv52_1 hv52_3 hv52_s0 hq52_0
        have h71255 := X31.at ha0
        refine g_iload_n C dX12_mark_52 rfl 2 rfl ?_
        refine b_if_eq C 60 dX12_mark_53 (by decide) (fun h71256 => ?_) (fun h71256 => ?_)
        · have h71256 : a2.toInt = 0 := congrArg Int32.toInt h71256
          refine g_iconst (v := 4) C dX12_mark_60 (by decide) ?_
          refine g_iload_n C dX12_mark_61 rfl 1 rfl ?_
          refine g_iconst (v := 1) C dX12_mark_62 (by decide) ?_
          refine s_iadd C dX12_mark_63 (by show -2147483648 ≤ a1.toInt + 1 ∧ a1.toInt + 1 ≤ 2147483647; omega) (fun z71257 h71258 => ?_)
          have h71258 : z71257.toInt = a1.toInt + 1 := h71258
          refine s_imul C dX12_mark_64 (by show -2147483648 ≤ 4 * z71257.toInt ∧ 4 * z71257.toInt ≤ 2147483647; omega) (fun z71259 h71260 => ?_)
          have h71260 : z71259.toInt = 4 * z71257.toInt := h71260
          refine g_iload_n C dX12_mark_65 rfl 3 rfl ?_
          refine s_iadd C dX12_mark_66 (by show -2147483648 ≤ z71259.toInt + v31_3.toInt ∧ z71259.toInt + v31_3.toInt ≤ 2147483647; omega) (fun z71261 h71262 => ?_)
          have h71262 : z71261.toInt = z71259.toInt + v31_3.toInt := h71262
          exact J67 z71261 v52_s0 (by omega) (by omega) (by omega) (by omega) (by omega)
        · have h71256 : a2.toInt ≠ 0 := ti_ne h71256
          refine g_iload_n C dX12_mark_56 rfl 3 rfl ?_
          refine g_goto C 67 dX12_mark_57 (by decide) ?_
          exact J67 v31_3 v52_s0 (by omega) (by omega) (by omega) (by omega) (by omega)
      refine g_iload_n C dX12_mark_31 rfl 3 rfl ?_
      refine g_iconst (v := 4) C dX12_mark_32 (by decide) ?_
      refine b_icmp_ge C 76 dX12_mark_33 (by decide) (fun h71263 => ?_) (fun h71263 => ?_)
      · have h71263 : 4 ≤ v31_3.toInt := h71263
        refine g_aload_n C dX12_mark_76 rfl 0 rfl ?_
        obtain ⟨b71264, e71265, h71266⟩ := I31.fld (h71242) 26 15 4 rfl
        refine g_getR C fi_X12_87 rfl e71265 (h71242).1 (h71242).2 dX12_mark_77 ?_
        refine g_iload_n C dX12_mark_80 rfl 1 rfl ?_
        refine g_iconst (v := 1) C dX12_mark_81 (by decide) ?_
        refine g_zast (j := (a1.toInt.toNat)) C h71266.1 h71266.2.1 (ix_in h71266.2.2 (by omega)) (Or.inr rfl) dX12_mark_82 ?_
        refine gqW (ks := [26]) (I31.setA e71265 h71266 (by decide) (arOk.none rfl)) (EM.setA I31 e71265 rfl (by decide)) (fun Y71267 Iy71268 Xy71269 w71270 => ?_)
        have w71270 : (pI Y71267 b71264 (a1.toInt.toNat)).toInt = 1 := w71270
        have q71271 := Xy71269.keepF 0 (by decide)
        have W71272 := W31.keep I31 Xy71269 (by decide) (by decide) (by decide)
        have Xz71273 : EM [0, 20, 21, 22, 23, 24, 25, 26] a0 P Y71267 := EM.tr ha0 X31 (Xy71269.mono (by decide))
        have e71274 := Xy71269.ref h71242 (by decide) e71265
        have h71275 := Xy71269.at h71242
        have h71276 := Xy71269.ar h71266
        refine g_iconst (v := 1) C dX12_mark_83 (by decide) ?_
        exact ret _ _ _ _ _ _ dX12_mark_84 rfl (by decide) (by decide) ⟨Iy71268, Xz71273, W71272, (by decide), Or.inr (by omega)⟩
      · have h71263 : v31_3.toInt < 4 := h71263
        refine g_aload_n C dX12_mark_36 rfl 0 rfl ?_
        refine g_iload_n C dX12_mark_37 rfl 2 rfl ?_
        refine b_if_eq C 51 dX12_mark_38 (by decide) (fun h71277 => ?_) (fun h71277 => ?_)
        · have h71277 : a2.toInt = 0 := congrArg Int32.toInt h71277
          refine g_iload_n C dX12_mark_51 rfl 3 rfl ?_
          exact J52 v31_3 (by omega) (by omega) (by omega) (by omega)
        · have h71277 : a2.toInt ≠ 0 := ti_ne h71277
          refine g_iconst (v := 4) C dX12_mark_41 (by decide) ?_
          refine g_iload_n C dX12_mark_42 rfl 1 rfl ?_
          refine g_iconst (v := 1) C dX12_mark_43 (by decide) ?_
          refine s_iadd C dX12_mark_44 (by show -2147483648 ≤ a1.toInt + 1 ∧ a1.toInt + 1 ≤ 2147483647; omega) (fun z71278 h71279 => ?_)
          have h71279 : z71278.toInt = a1.toInt + 1 := h71279
          refine s_imul C dX12_mark_45 (by show -2147483648 ≤ 4 * z71278.toInt ∧ 4 * z71278.toInt ≤ 2147483647; omega) (fun z71280 h71281 => ?_)
          have h71281 : z71280.toInt = 4 * z71278.toInt := h71281
          refine g_iload_n C dX12_mark_46 rfl 3 rfl ?_
          refine s_iadd C dX12_mark_47 (by show -2147483648 ≤ z71280.toInt + v31_3.toInt ∧ z71280.toInt + v31_3.toInt ≤ 2147483647; omega) (fun z71282 h71283 => ?_)
          have h71283 : z71282.toInt = z71280.toInt + v31_3.toInt := h71283
          refine g_goto C 52 dX12_mark_48 (by decide) ?_
          exact J52 z71282 (by omega) (by omega) (by omega) (by omega)
  have J29 : ∀ (P29 : PP), (IM P29 a0) → (EM [0, 20, 21, 22, 23, 24, 25, 26] a0 P P29) → (MW P29 a0) → (0 ≤ a1.toInt ∧ a1.toInt ≤ 3) → (0 ≤ (pI P29 a0 0).toInt ∧ (pI P29 a0 0).toInt ≤ 0) → G E ({ frames := 3, cells := 0, slots := 0, locals := 192 } : Room) D cy 4 P29 0 0 29 [(0, .ref a0), (1, .int a1), (2, .int a2)] [] := by
    intro P29 I29 X29 W29 hv29_1 hq29_0
    have h71284 := X29.at ha0
    refine g_iconst (v := 0) C dX12_mark_29 (by decide) ?_
    refine g_istore_n (lv' := [(3, .int 0), (0, .ref a0), (1, .int a1), (2, .int a2)]) C dX12_mark_30 rfl (by decide) rfl ?_
    refine g_lv (lv' := [(0, .ref a0), (1, .int a1), (2, .int a2), (3, .int 0)]) [1, 2, 3, 0] rfl ?_
    exact J31 _ P29 0 (Nat.lt_succ_self _) I29 X29 W29 (by omega) (by decide) (by omega)
  have J27 : ∀ (P27 : PP), (IM P27 a0) → (EM [0, 20, 21, 22, 23, 24, 25, 26] a0 P P27) → (MW P27 a0) → (0 ≤ (pI P27 a0 0).toInt ∧ (pI P27 a0 0).toInt ≤ 0) → G E ({ frames := 3, cells := 0, slots := 0, locals := 192 } : Room) D cy 4 P27 0 0 27 [] [] := by
    intro P27 I27 X27 W27 hq27_0
    have h71285 := X27.at ha0
    refine g_iconst (v := 0) C dX12_mark_27 (by decide) ?_
    exact ret _ _ _ _ _ _ dX12_mark_28 rfl (by decide) (by decide) ⟨I27, X27, W27, (by decide), Or.inl rfl⟩
  refine g_aload_n C dX12_mark_0 rfl 0 rfl ?_
  refine g_iconst (v := 0) C dX12_mark_1 (by decide) ?_
  refine g_putI C fi_X12_1 rfl (ha0).1 (ha0).2 dX12_mark_2 ?_
  refine gqW (ks := [0]) (I.setI (rgOk.of rfl (by decide))) (EM.setI I (by decide)) (fun Y71286 Iy71287 Xy71288 w71289 => ?_)
  have w71289 : (pI Y71286 a0 0).toInt = 0 := w71289
  have W71290 := hW.keep I Xy71288 (by decide) (by decide) (by decide)
  have Xz71291 : EM [0, 20, 21, 22, 23, 24, 25, 26] a0 P Y71286 := Xy71288.mono (by decide)
  have h71292 := Xy71288.at ha0
  refine g_iload_n C dX12_mark_5 rfl 1 rfl ?_
  refine g_iconst (v := 0) C dX12_mark_6 (by decide) ?_
  refine g_iconst (v := 3) C dX12_mark_7 (by decide) ?_
  refine g_callSI (b := 0) (ci := 0) (rest := []) C ms_X12_178 [.int a1, .int 0, .int 3] (s_X12_within Iy71287.1) rfl rfl (by decide) (Nat.le_of_ble_eq_true rfl) (by decide) dX12_mark_8 (fun r71293 Y71294 h71295 => ?_)
  obtain ⟨rfl, h71295⟩ := h71295
  obtain ⟨h71295, hi71296⟩ := h71295
  have hi71296 : r71293.toInt = 0 ∨ (0 ≤ a1.toInt ∧ a1.toInt ≤ 3) := hi71296
  have h71295 : 0 ≤ r71293.toInt ∧ r71293.toInt ≤ 1 := h71295
  refine b_if_eq C 27 dX12_mark_11 (by decide) (fun h71297 => ?_) (fun h71297 => ?_)
  · have h71297 : r71293.toInt = 0 := congrArg Int32.toInt h71297
    clear hi71296
    refine g_lv (lv' := []) [] rfl ?_
    exact J27 Y71286 Iy71287 Xz71291 W71290 (by omega)
  · have h71297 : r71293.toInt ≠ 0 := ti_ne h71297
    replace hi71296 := hi71296.resolve_left (by omega)
    refine g_iload_n C dX12_mark_14 rfl 2 rfl ?_
    refine b_if_eq C 29 dX12_mark_15 (by decide) (fun h71298 => ?_) (fun h71298 => ?_)
    · have h71298 : a2.toInt = 0 := congrArg Int32.toInt h71298
      exact J29 Y71286 Iy71287 Xz71291 W71290 (by omega) (by omega)
    · have h71298 : a2.toInt ≠ 0 := ti_ne h71298
      refine g_aload_n C dX12_mark_18 rfl 0 rfl ?_
      obtain ⟨b71299, e71300, h71301⟩ := Iy71287.fld (h71292) 26 15 4 rfl
      refine g_getR C fi_X12_87 rfl e71300 (h71292).1 (h71292).2 dX12_mark_19 ?_
      refine g_iload_n C dX12_mark_22 rfl 1 rfl ?_
      refine g_zald (j := (a1.toInt.toNat)) C h71301.1 h71301.2.1 (ix_in h71301.2.2 (by omega)) dX12_mark_23 ?_
      have u71303 := ti_rng (pI Y71286 b71299 (a1.toInt.toNat))
      refine b_if_ne C 29 dX12_mark_24 (by decide) (fun h71302 => ?_) (fun h71302 => ?_)
      · have h71302 : (pI Y71286 b71299 (a1.toInt.toNat)).toInt ≠ 0 := ti_ne h71302
        exact J29 Y71286 Iy71287 Xz71291 W71290 (by omega) (by omega)
      · have h71302 : (pI Y71286 b71299 (a1.toInt.toNat)).toInt = 0 := congrArg Int32.toInt h71302
        refine g_lv (lv' := []) [] rfl ?_
        exact J27 Y71286 Iy71287 Xz71291 W71290 (by omega)
theorem dX12_nameless_0 : decode cX12_nameless 0 = .ok (.aload_n 0, 1) := by decide +kernel
theorem dX12_nameless_1 : decode cX12_nameless 1 = .ok (.iconst 0, 1) := by decide +kernel
theorem dX12_nameless_2 : decode cX12_nameless 2 = .ok (.putfield 1, 3) := by decide +kernel
theorem dX12_nameless_5 : decode cX12_nameless 5 = .ok (.iload_n 1, 1) := by decide +kernel
theorem dX12_nameless_6 : decode cX12_nameless 6 = .ok (.invokestatic 278, 3) := by decide +kernel
theorem dX12_nameless_9 : decode cX12_nameless 9 = .ok (.ifCond .eq 41, 3) := by decide +kernel
theorem dX12_nameless_12 : decode cX12_nameless 12 = .ok (.iload_n 2, 1) := by decide +kernel
theorem dX12_nameless_13 : decode cX12_nameless 13 = .ok (.invokestatic 258, 3) := by decide +kernel
theorem dX12_nameless_16 : decode cX12_nameless 16 = .ok (.ifCond .eq 34, 3) := by decide +kernel
theorem dX12_nameless_19 : decode cX12_nameless 19 = .ok (.iload_n 3, 1) := by decide +kernel
theorem dX12_nameless_20 : decode cX12_nameless 20 = .ok (.iconst 0, 1) := by decide +kernel
theorem dX12_nameless_21 : decode cX12_nameless 21 = .ok (.ldc 195, 2) := by decide +kernel
theorem dX12_nameless_23 : decode cX12_nameless 23 = .ok (.invokestatic 178, 3) := by decide +kernel
theorem dX12_nameless_26 : decode cX12_nameless 26 = .ok (.ifCond .eq 24, 3) := by decide +kernel
theorem dX12_nameless_29 : decode cX12_nameless 29 = .ok (.aload_n 0, 1) := by decide +kernel
theorem dX12_nameless_30 : decode cX12_nameless 30 = .ok (.getfield 69, 3) := by decide +kernel
theorem dX12_nameless_33 : decode cX12_nameless 33 = .ok (.iload_n 1, 1) := by decide +kernel
theorem dX12_nameless_34 : decode cX12_nameless 34 = .ok (.iaload, 1) := by decide +kernel
theorem dX12_nameless_35 : decode cX12_nameless 35 = .ok (.bipush 40, 2) := by decide +kernel
theorem dX12_nameless_37 : decode cX12_nameless 37 = .ok (.if_icmp .eq 13, 3) := by decide +kernel
theorem dX12_nameless_40 : decode cX12_nameless 40 = .ok (.aload_n 0, 1) := by decide +kernel
theorem dX12_nameless_41 : decode cX12_nameless 41 = .ok (.iload_n 1, 1) := by decide +kernel
theorem dX12_nameless_42 : decode cX12_nameless 42 = .ok (.invokevirtual 295, 3) := by decide +kernel
theorem dX12_nameless_45 : decode cX12_nameless 45 = .ok (.bipush 6, 2) := by decide +kernel
theorem dX12_nameless_47 : decode cX12_nameless 47 = .ok (.if_icmp .ne 5, 3) := by decide +kernel
theorem dX12_nameless_50 : decode cX12_nameless 50 = .ok (.iconst (-1), 1) := by decide +kernel
theorem dX12_nameless_51 : decode cX12_nameless 51 = .ok (.ireturn, 1) := by decide +kernel
theorem dX12_nameless_52 : decode cX12_nameless 52 = .ok (.aload_n 0, 1) := by decide +kernel
theorem dX12_nameless_53 : decode cX12_nameless 53 = .ok (.iload_n 1, 1) := by decide +kernel
theorem dX12_nameless_54 : decode cX12_nameless 54 = .ok (.iconst (-1), 1) := by decide +kernel
theorem dX12_nameless_55 : decode cX12_nameless 55 = .ok (.iload_n 2, 1) := by decide +kernel
theorem dX12_nameless_56 : decode cX12_nameless 56 = .ok (.iload_n 3, 1) := by decide +kernel
theorem dX12_nameless_57 : decode cX12_nameless 57 = .ok (.iconst 3, 1) := by decide +kernel
theorem dX12_nameless_58 : decode cX12_nameless 58 = .ok (.iconst 0, 1) := by decide +kernel
theorem dX12_nameless_59 : decode cX12_nameless 59 = .ok (.invokevirtual 284, 3) := by decide +kernel
theorem dX12_nameless_62 : decode cX12_nameless 62 = .ok (.ireturn, 1) := by decide +kernel
set_option maxHeartbeats 4000000 in
set_option maxRecDepth 100000 in
theorem s_X12_nameless {P : PP} {a0 : Nat} {a1 : Int32} {a2 : Int32} {a3 : Int32} (I : IM P a0) (hW : MW P a0) : CtrI yX12_nameless cX12_nameless 4 (some Jvm.ClassFile.FieldType.int) ({ frames := 3, cells := 0, slots := 0, locals := 192 } : Room) 0 0 P [.ref a0, .int a1, .int a2, .int a3] (fun r P2 => IM P2 a0 ∧ EM [0, 20, 21, 22, 23, 24, 25] a0 P P2 ∧ MW P2 a0 ∧ (-1 ≤ r.toInt ∧ r.toInt ≤ 39)) := by
  refine enI (lv := [(0, .ref a0), (1, .int a1), (2, .int a2), (3, .int a3)]) (by decide) (Nat.le_of_ble_eq_true rfl) rfl (fun E D cy C Ci0 ret => ?_)
  have ha0 := I.2.1
  have J50 : ∀ (P50 : PP), (IM P50 a0) → (EM [0, 20, 21, 22, 23, 24, 25] a0 P P50) → (MW P50 a0) → (0 ≤ (pI P50 a0 0).toInt ∧ (pI P50 a0 0).toInt ≤ 0) → G E ({ frames := 3, cells := 0, slots := 0, locals := 192 } : Room) D cy 4 P50 0 0 50 [] [] := by
    intro P50 I50 X50 W50 hq50_0
    have h71349 := X50.at ha0
    refine g_iconst (v := (-1)) C dX12_nameless_50 (by decide) ?_
    exact ret _ _ _ _ _ _ dX12_nameless_51 rfl (by decide) (by decide) ⟨I50, X50, W50, (by decide)⟩
  refine g_aload_n C dX12_nameless_0 rfl 0 rfl ?_
  refine g_iconst (v := 0) C dX12_nameless_1 (by decide) ?_
  refine g_putI C fi_X12_1 rfl (ha0).1 (ha0).2 dX12_nameless_2 ?_
  refine gqW (ks := [0]) (I.setI (rgOk.of rfl (by decide))) (EM.setI I (by decide)) (fun Y71350 Iy71351 Xy71352 w71353 => ?_)
  have w71353 : (pI Y71350 a0 0).toInt = 0 := w71353
  have W71354 := hW.keep I Xy71352 (by decide) (by decide) (by decide)
  have Xz71355 : EM [0, 20, 21, 22, 23, 24, 25] a0 P Y71350 := Xy71352.mono (by decide)
  have h71356 := Xy71352.at ha0
  refine g_iload_n C dX12_nameless_5 rfl 1 rfl ?_
  refine g_callSI (b := 0) (ci := 0) (rest := []) C ms_X12_278 [.int a1] (s_X12_isQuarter Iy71351.1) rfl rfl (by decide) (Nat.le_of_ble_eq_true rfl) (by decide) dX12_nameless_6 (fun r71357 Y71358 h71359 => ?_)
  obtain ⟨rfl, h71359⟩ := h71359
  obtain ⟨h71359, hi71360⟩ := h71359
  have hi71360 : r71357.toInt = 0 ∨ (((0 : Int) ≤ a1.toInt ∧ a1.toInt ≤ (3 : Int))) := hi71360
  have h71359 : 0 ≤ r71357.toInt ∧ r71357.toInt ≤ 1 := h71359
  refine b_if_eq C 50 dX12_nameless_9 (by decide) (fun h71361 => ?_) (fun h71361 => ?_)
  · have h71361 : r71357.toInt = 0 := congrArg Int32.toInt h71361
    clear hi71360
    refine g_lv (lv' := []) [] rfl ?_
    exact J50 Y71350 Iy71351 Xz71355 W71354 (by omega)
  · have h71361 : r71357.toInt ≠ 0 := ti_ne h71361
    replace hi71360 := hi71360.resolve_left (by omega)
    refine g_iload_n C dX12_nameless_12 rfl 2 rfl ?_
    refine g_callSI (b := 0) (ci := 0) (rest := []) C ms_X12_258 [.int a2] (s_X12_isNumber Iy71351.1) rfl rfl (by decide) (Nat.le_of_ble_eq_true rfl) (by decide) dX12_nameless_13 (fun r71362 Y71363 h71364 => ?_)
    obtain ⟨rfl, h71364⟩ := h71364
    obtain ⟨h71364, hi71365⟩ := h71364
    have hi71365 : r71362.toInt = 0 ∨ (((0 : Int) ≤ a2.toInt ∧ a2.toInt ≤ (9999 : Int))) := hi71365
    have h71364 : 0 ≤ r71362.toInt ∧ r71362.toInt ≤ 1 := h71364
    refine b_if_eq C 50 dX12_nameless_16 (by decide) (fun h71366 => ?_) (fun h71366 => ?_)
    · have h71366 : r71362.toInt = 0 := congrArg Int32.toInt h71366
      clear hi71365
      refine g_lv (lv' := []) [] rfl ?_
      exact J50 Y71350 Iy71351 Xz71355 W71354 (by omega)
    · have h71366 : r71362.toInt ≠ 0 := ti_ne h71366
      replace hi71365 := hi71365.resolve_left (by omega)
      refine g_iload_n C dX12_nameless_19 rfl 3 rfl ?_
      refine g_iconst (v := 0) C dX12_nameless_20 (by decide) ?_
      refine g_ldc (v := 65535) C kc_X12_195 dX12_nameless_21 ?_
      refine g_callSI (b := 0) (ci := 0) (rest := []) C ms_X12_178 [.int a3, .int 0, .int 65535] (s_X12_within Iy71351.1) rfl rfl (by decide) (Nat.le_of_ble_eq_true rfl) (by decide) dX12_nameless_23 (fun r71367 Y71368 h71369 => ?_)
      obtain ⟨rfl, h71369⟩ := h71369
      obtain ⟨h71369, hi71370⟩ := h71369
      have hi71370 : r71367.toInt = 0 ∨ (0 ≤ a3.toInt ∧ a3.toInt ≤ 65535) := hi71370
      have h71369 : 0 ≤ r71367.toInt ∧ r71367.toInt ≤ 1 := h71369
      refine b_if_eq C 50 dX12_nameless_26 (by decide) (fun h71371 => ?_) (fun h71371 => ?_)
      · have h71371 : r71367.toInt = 0 := congrArg Int32.toInt h71371
        clear hi71370
        refine g_lv (lv' := []) [] rfl ?_
        exact J50 Y71350 Iy71351 Xz71355 W71354 (by omega)
      · have h71371 : r71367.toInt ≠ 0 := ti_ne h71371
        replace hi71370 := hi71370.resolve_left (by omega)
        refine g_aload_n C dX12_nameless_29 rfl 0 rfl ?_
        obtain ⟨b71372, e71373, h71374⟩ := Iy71351.fld (h71356) 20 13 20 rfl
        refine g_getR C fi_X12_69 rfl e71373 (h71356).1 (h71356).2 dX12_nameless_30 ?_
        refine g_iload_n C dX12_nameless_33 rfl 1 rfl ?_
        refine g_iald (j := (a1.toInt.toNat)) C h71374.1 h71374.2.1 (ix_in h71374.2.2 (by omega)) dX12_nameless_34 ?_
        have h71375 := Iy71351.arr e71373 rfl (a1.toInt.toNat)
        refine g_bipush (v := 40) C dX12_nameless_35 (by decide) ?_
        refine b_icmp_eq C 50 dX12_nameless_37 (by decide) (fun h71376 => ?_) (fun h71376 => ?_)
        · have h71376 : (pI Y71350 b71372 (a1.toInt.toNat)).toInt = 40 := congrArg Int32.toInt h71376
          refine g_lv (lv' := []) [] rfl ?_
          exact J50 Y71350 Iy71351 Xz71355 W71354 (by omega)
        · have h71376 : (pI Y71350 b71372 (a1.toInt.toNat)).toInt ≠ 40 := ti_ne h71376
          refine g_aload_n C dX12_nameless_40 rfl 0 rfl ?_
          refine g_iload_n C dX12_nameless_41 rfl 1 rfl ?_
          refine g_callVI (rest := []) C mv_X12_295 [.int a1] (s_X12_namelessIn Iy71351 (by omega) W71354) (h71356).1 (h71356).2 rfl rfl (by decide) (Nat.le_of_ble_eq_true rfl) (by decide) dX12_nameless_42 (fun r71377 Y71378 h71379 => ?_)
          obtain ⟨rfl, h71379⟩ := h71379
          have h71379 : True := h71379
          refine g_bipush (v := 6) C dX12_nameless_45 (by decide) ?_
          have u71381 := ti_rng r71377
          refine b_icmp_ne C 52 dX12_nameless_47 (by decide) (fun h71380 => ?_) (fun h71380 => ?_)
          · have h71380 : r71377.toInt ≠ 6 := ti_ne h71380
            refine g_aload_n C dX12_nameless_52 rfl 0 rfl ?_
            refine g_iload_n C dX12_nameless_53 rfl 1 rfl ?_
            refine g_iconst (v := (-1)) C dX12_nameless_54 (by decide) ?_
            refine g_iload_n C dX12_nameless_55 rfl 2 rfl ?_
            refine g_iload_n C dX12_nameless_56 rfl 3 rfl ?_
            refine g_iconst (v := 3) C dX12_nameless_57 (by decide) ?_
            refine g_iconst (v := 0) C dX12_nameless_58 (by decide) ?_
            refine g_callVI (rest := []) C mv_X12_284 [.int a1, .int (-1), .int a2, .int a3, .int 3, .int 0] (s_X12_lays Iy71351 (by omega) (by decide) (fun b9 e9 => by rw [e71373] at e9; cases e9; show 0 ≤ (pI Y71350 b71372 (a1.toInt.toNat)).toInt ∧ (pI Y71350 b71372 (a1.toInt.toNat)).toInt ≤ 39; omega) W71354 (fun _ _ h9 => absurd h9 (by decide))) (h71356).1 (h71356).2 rfl rfl (by decide) (Nat.le_of_ble_eq_true rfl) (by decide) dX12_nameless_59 (fun r71382 Y71383 h71384 => ?_)
            obtain ⟨Iy71385, Xy71386, W71387, p71388, h71384⟩ := h71384
            have p71388 := p71388 b71372 e71373
            have p71388 : (pI Y71383 b71372 (a1.toInt.toNat)).toInt = (pI Y71350 b71372 (a1.toInt.toNat)).toInt + 1 := p71388
            have q71389 := Xy71386.keepF 0 (by decide)
            have Xz71390 : EM [0, 20, 21, 22, 23, 24, 25] a0 P Y71383 := EM.tr ha0 Xz71355 (Xy71386.mono (by decide))
            have e71391 := Xy71386.ref h71356 (by decide) e71373
            have h71392 := Xy71386.at h71356
            have h71393 := Xy71386.ar h71374
            have h71384 : 0 ≤ r71382.toInt ∧ r71382.toInt ≤ 39 := h71384
            exact ret _ _ _ _ _ _ dX12_nameless_62 rfl (by decide) (by decide) ⟨Iy71385, Xz71390, W71387, (by omega)⟩
          · have h71380 : r71377.toInt = 6 := congrArg Int32.toInt h71380
            refine g_lv (lv' := []) [] rfl ?_
            exact J50 Y71350 Iy71351 Xz71355 W71354 (by omega)
theorem dX12_needs_0 : decode cX12_needs 0 = .ok (.aload_n 0, 1) := by decide +kernel
theorem dX12_needs_1 : decode cX12_needs 1 = .ok (.iconst 0, 1) := by decide +kernel
theorem dX12_needs_2 : decode cX12_needs 2 = .ok (.putfield 1, 3) := by decide +kernel
theorem dX12_needs_5 : decode cX12_needs 5 = .ok (.iload_n 1, 1) := by decide +kernel
theorem dX12_needs_6 : decode cX12_needs 6 = .ok (.invokestatic 278, 3) := by decide +kernel
theorem dX12_needs_9 : decode cX12_needs 9 = .ok (.ifCond .eq 11, 3) := by decide +kernel
theorem dX12_needs_12 : decode cX12_needs 12 = .ok (.aload_n 0, 1) := by decide +kernel
theorem dX12_needs_13 : decode cX12_needs 13 = .ok (.iload_n 2, 1) := by decide +kernel
theorem dX12_needs_14 : decode cX12_needs 14 = .ok (.invokevirtual 192, 3) := by decide +kernel
theorem dX12_needs_17 : decode cX12_needs 17 = .ok (.ifCond .ne 5, 3) := by decide +kernel
theorem dX12_needs_22 : decode cX12_needs 22 = .ok (.aload_n 0, 1) := by decide +kernel
theorem dX12_needs_23 : decode cX12_needs 23 = .ok (.iload_n 1, 1) := by decide +kernel
theorem dX12_needs_24 : decode cX12_needs 24 = .ok (.iload_n 2, 1) := by decide +kernel
theorem dX12_needs_25 : decode cX12_needs 25 = .ok (.invokevirtual 408, 3) := by decide +kernel
theorem dX12_needsOf_0 : decode cX12_needsOf 0 = .ok (.aload_n 0, 1) := by decide +kernel
theorem dX12_needsOf_1 : decode cX12_needsOf 1 = .ok (.iload_n 2, 1) := by decide +kernel
theorem dX12_needsOf_2 : decode cX12_needsOf 2 = .ok (.invokevirtual 312, 3) := by decide +kernel
theorem dX12_needsOf_5 : decode cX12_needsOf 5 = .ok (.iconst 0, 1) := by decide +kernel
theorem dX12_needsOf_6 : decode cX12_needsOf 6 = .ok (.istore_n 3, 1) := by decide +kernel
theorem dX12_needsOf_7 : decode cX12_needsOf 7 = .ok (.iload_n 3, 1) := by decide +kernel
theorem dX12_needsOf_8 : decode cX12_needsOf 8 = .ok (.bipush 60, 2) := by decide +kernel
theorem dX12_needsOf_10 : decode cX12_needsOf 10 = .ok (.if_icmp .gt 55, 3) := by decide +kernel
theorem dX12_needsOf_13 : decode cX12_needsOf 13 = .ok (.aload_n 0, 1) := by decide +kernel
theorem dX12_needsOf_14 : decode cX12_needsOf 14 = .ok (.invokevirtual 346, 3) := by decide +kernel
theorem dX12_needsOf_17 : decode cX12_needsOf 17 = .ok (.aload_n 0, 1) := by decide +kernel
theorem dX12_needsOf_18 : decode cX12_needsOf 18 = .ok (.iload_n 2, 1) := by decide +kernel
theorem dX12_needsOf_19 : decode cX12_needsOf 19 = .ok (.aload_n 0, 1) := by decide +kernel
theorem dX12_needsOf_20 : decode cX12_needsOf 20 = .ok (.invokevirtual 349, 3) := by decide +kernel
theorem dX12_needsOf_23 : decode cX12_needsOf 23 = .ok (.invokevirtual 371, 3) := by decide +kernel
theorem dX12_needsOf_26 : decode cX12_needsOf 26 = .ok (.ifCond .eq 5, 3) := by decide +kernel
theorem dX12_needsOf_29 : decode cX12_needsOf 29 = .ok (.iload_n 3, 1) := by decide +kernel
theorem dX12_needsOf_30 : decode cX12_needsOf 30 = .ok (.ireturn, 1) := by decide +kernel
theorem dX12_needsOf_31 : decode cX12_needsOf 31 = .ok (.iload_n 3, 1) := by decide +kernel
theorem dX12_needsOf_32 : decode cX12_needsOf 32 = .ok (.bipush 60, 2) := by decide +kernel
theorem dX12_needsOf_34 : decode cX12_needsOf 34 = .ok (.if_icmp .ge 25, 3) := by decide +kernel
theorem dX12_needsOf_37 : decode cX12_needsOf 37 = .ok (.aload_n 0, 1) := by decide +kernel
theorem dX12_needsOf_38 : decode cX12_needsOf 38 = .ok (.iload_n 1, 1) := by decide +kernel
theorem dX12_needsOf_39 : decode cX12_needsOf 39 = .ok (.iload_n 2, 1) := by decide +kernel
theorem dX12_needsOf_40 : decode cX12_needsOf 40 = .ok (.iload_n 3, 1) := by decide +kernel
theorem dX12_needsOf_41 : decode cX12_needsOf 41 = .ok (.invokevirtual 402, 3) := by decide +kernel
theorem dX12_needsOf_44 : decode cX12_needsOf 44 = .ok (.ifCond .eq 15, 3) := by decide +kernel
theorem dX12_needsOf_47 : decode cX12_needsOf 47 = .ok (.aload_n 0, 1) := by decide +kernel
theorem dX12_needsOf_48 : decode cX12_needsOf 48 = .ok (.aload_n 0, 1) := by decide +kernel
theorem dX12_needsOf_49 : decode cX12_needsOf 49 = .ok (.iload_n 2, 1) := by decide +kernel
theorem dX12_needsOf_50 : decode cX12_needsOf 50 = .ok (.iload_n 3, 1) := by decide +kernel
theorem dX12_needsOf_51 : decode cX12_needsOf 51 = .ok (.invokevirtual 261, 3) := by decide +kernel
theorem dX12_needsOf_54 : decode cX12_needsOf 54 = .ok (.iconst 0, 1) := by decide +kernel
theorem dX12_needsOf_55 : decode cX12_needsOf 55 = .ok (.iconst (-1), 1) := by decide +kernel
theorem dX12_needsOf_56 : decode cX12_needsOf 56 = .ok (.invokevirtual 308, 3) := by decide +kernel
theorem dX12_needsOf_59 : decode cX12_needsOf 59 = .ok (.iinc 3 1, 3) := by decide +kernel
theorem dX12_needsOf_62 : decode cX12_needsOf 62 = .ok (.goto (-55), 3) := by decide +kernel
theorem dX12_needsOf_65 : decode cX12_needsOf 65 = .ok (.bipush 61, 2) := by decide +kernel
theorem dX12_needsOf_67 : decode cX12_needsOf 67 = .ok (.ireturn, 1) := by decide +kernel
set_option maxHeartbeats 4000000 in
set_option maxRecDepth 100000 in
theorem s_X12_needsOf {P : PP} {a0 : Nat} {a1 : Int32} {a2 : Int32} (I : IM P a0) (ha1 : 0 ≤ a1.toInt ∧ a1.toInt ≤ 3) (ha2 : 0 ≤ a2.toInt ∧ a2.toInt ≤ 1) (hf0 : ∀ b, pR P a0 10 = some b → 1 ≤ (pI P b (a2.toInt.toNat)).toInt ∧ (pI P b (a2.toInt.toNat)).toInt ≤ 16) (hW : MW P a0) : CtrI yX12_needsOf cX12_needsOf 4 (some Jvm.ClassFile.FieldType.int) ({ frames := 4, cells := 0, slots := 0, locals := 256 } : Room) 0 0 P [.ref a0, .int a1, .int a2] (fun r P2 => IM P2 a0 ∧ EM [28, 29, 30, 31, 35, 36, 37, 38] a0 P P2 ∧ MW P2 a0 ∧ (0 ≤ r.toInt ∧ r.toInt ≤ 61)) := by
  refine enI (lv := [(0, .ref a0), (1, .int a1), (2, .int a2)]) (by decide) (Nat.le_of_ble_eq_true rfl) rfl (fun E D cy C Ci0 ret => ?_)
  have ha0 := I.2.1
  have J7 : ∀ (n7 : Nat) (P7 : PP) (v7_3 : Int32), (61 - v7_3.toInt).toNat < n7 → (IM P7 a0) → (EM [28, 29, 30, 31, 35, 36, 37, 38] a0 P P7) → (MW P7 a0) → (0 ≤ v7_3.toInt ∧ v7_3.toInt ≤ 61) → (∀ b, pR P7 a0 10 = some b → 1 ≤ (pI P7 b (a2.toInt.toNat)).toInt ∧ (pI P7 b (a2.toInt.toNat)).toInt ≤ 16) → ((pI P7 a0 28).toInt ≤ 4 + v7_3.toInt) → G E ({ frames := 4, cells := 0, slots := 0, locals := 256 } : Room) D cy 4 P7 0 0 7 [(0, .ref a0), (1, .int a1), (2, .int a2), (3, .int v7_3)] [] := by
    intro n7
    induction n7 with
    | zero => intro P7 v7_3 hm7 I7 X7 W7 hv7_3 hq7_0 rel7_0; omega
    | succ n7 ih7 =>
      intro P7 v7_3 hm7 I7 X7 W7 hv7_3 hq7_0 rel7_0
      have h72692 := X7.at ha0
      obtain ⟨b72693, e72694, h72695⟩ := I7.fld (h72692) 10 13 2 rfl
      have hq7_0 := hq7_0 b72693 e72694
      have h72696 := I7.rg h72692 28 rfl
      have J59 : ∀ (P59 : PP), (IM P59 a0) → (EM [28, 29, 30, 31, 35, 36, 37, 38] a0 P P59) → (MW P59 a0) → (0 ≤ v7_3.toInt ∧ v7_3.toInt ≤ 60) → (∀ b, pR P59 a0 10 = some b → 1 ≤ (pI P59 b (a2.toInt.toNat)).toInt ∧ (pI P59 b (a2.toInt.toNat)).toInt ≤ 16) → ((pI P59 a0 28).toInt ≤ 5 + v7_3.toInt) → G E ({ frames := 4, cells := 0, slots := 0, locals := 256 } : Room) D cy 4 P59 0 0 59 [(0, .ref a0), (1, .int a1), (2, .int a2), (3, .int v7_3)] [] := by
        intro P59 I59 X59 W59 hv59_3 hq59_0 rel59_0
        have h72697 := X59.at ha0
        obtain ⟨b72698, e72699, h72700⟩ := I59.fld (h72697) 10 13 2 rfl
        have hq59_0 := hq59_0 b72698 e72699
        have h72701 := I59.rg h72697 28 rfl
        refine s_iinc (lv0 := [(0, .ref a0), (1, .int a1), (2, .int a2)]) (m := 1) C dX12_needsOf_59 3 rfl (by decide) rfl (by decide) (by omega) (fun z72702 h72703 => ?_)
        have h72703 : z72702.toInt = v7_3.toInt + 1 := h72703
        refine g_goto C 7 dX12_needsOf_62 (by decide) ?_
        refine g_lv (lv' := [(0, .ref a0), (1, .int a1), (2, .int a2), (3, .int z72702)]) [1, 2, 3, 0] rfl ?_
        exact ih7 P59 z72702 (by omega) I59 X59 W59 (by omega) (fun b9 e9 => by rw [e72699] at e9; cases e9; omega) (by show (pI P59 a0 28).toInt ≤ 4 + z72702.toInt; omega)
      refine g_iload_n C dX12_needsOf_7 rfl 3 rfl ?_
      refine g_bipush (v := 60) C dX12_needsOf_8 (by decide) ?_
      refine b_icmp_gt C 65 dX12_needsOf_10 (by decide) (fun h72704 => ?_) (fun h72704 => ?_)
      · have h72704 : 60 < v7_3.toInt := h72704
        refine g_bipush (v := 61) C dX12_needsOf_65 (by decide) ?_
        exact ret _ _ _ _ _ _ dX12_needsOf_67 rfl (by decide) (by decide) ⟨I7, X7, W7, (by decide)⟩
      · have h72704 : v7_3.toInt ≤ 60 := h72704
        refine g_aload_n C dX12_needsOf_13 rfl 0 rfl ?_
        refine g_callVV (rest := []) C mv_X12_346 [] (s_X12_findSolved I7 W7) (h72692).1 (h72692).2 rfl rfl (by decide) (Nat.le_of_ble_eq_true rfl) (by decide) dX12_needsOf_14 (fun Y72706 h72707 => ?_)
        obtain ⟨Iy72708, Xy72709, W72710⟩ := h72707
        have q72711 := Xy72709.keepA e72694 (by decide) rfl (a2.toInt.toNat)
        have q72712 := Xy72709.keepF 28 (by decide)
        have Xz72713 : EM [28, 29, 30, 31, 35, 36, 37, 38] a0 P Y72706 := EM.tr ha0 X7 (Xy72709.mono (by decide))
        have e72714 := Xy72709.ref h72692 (by decide) e72694
        have h72715 := Xy72709.at h72692
        have h72716 := Xy72709.ar h72695
        refine g_aload_n C dX12_needsOf_17 rfl 0 rfl ?_
        refine g_iload_n C dX12_needsOf_18 rfl 2 rfl ?_
        refine g_aload_n C dX12_needsOf_19 rfl 0 rfl ?_
        refine g_callVI (rest := [.int a2, .ref a0]) C mv_X12_349 [] (s_X12_fixedSet Iy72708 W72710) (h72715).1 (h72715).2 rfl rfl (by decide) (Nat.le_of_ble_eq_true rfl) (by decide) dX12_needsOf_20 (fun r72717 Y72718 h72719 => ?_)
        obtain ⟨rfl, h72719⟩ := h72719
        have h72719 : True := h72719
        refine g_callVI (rest := []) C mv_X12_371 [.int a2, .int r72717] (s_X12_givesAll Iy72708 (by omega) W72710) (h72715).1 (h72715).2 rfl rfl (by decide) (Nat.le_of_ble_eq_true rfl) (by decide) dX12_needsOf_23 (fun r72720 Y72721 h72722 => ?_)
        obtain ⟨rfl, h72722⟩ := h72722
        have h72722 : 0 ≤ r72720.toInt ∧ r72720.toInt ≤ 1 := h72722
        refine b_if_eq C 31 dX12_needsOf_26 (by decide) (fun h72723 => ?_) (fun h72723 => ?_)
        · have h72723 : r72720.toInt = 0 := congrArg Int32.toInt h72723
          refine g_iload_n C dX12_needsOf_31 rfl 3 rfl ?_
          refine g_bipush (v := 60) C dX12_needsOf_32 (by decide) ?_
          refine b_icmp_ge C 59 dX12_needsOf_34 (by decide) (fun h72724 => ?_) (fun h72724 => ?_)
          · have h72724 : 60 ≤ v7_3.toInt := h72724
            exact J59 Y72706 Iy72708 Xz72713 W72710 (by omega) (fun b9 e9 => by rw [e72714] at e9; cases e9; omega) (by show (pI Y72706 a0 28).toInt ≤ 5 + v7_3.toInt; omega)
          · have h72724 : v7_3.toInt < 60 := h72724
            refine g_aload_n C dX12_needsOf_37 rfl 0 rfl ?_
            refine g_iload_n C dX12_needsOf_38 rfl 1 rfl ?_
            refine g_iload_n C dX12_needsOf_39 rfl 2 rfl ?_
            refine g_iload_n C dX12_needsOf_40 rfl 3 rfl ?_
            refine g_callVI (rest := []) C mv_X12_402 [.int a1, .int a2, .int v7_3] (s_X12_falls Iy72708 (by omega) W72710) (h72715).1 (h72715).2 rfl rfl (by decide) (Nat.le_of_ble_eq_true rfl) (by decide) dX12_needsOf_41 (fun r72725 Y72726 h72727 => ?_)
            obtain ⟨rfl, h72727⟩ := h72727
            have h72727 : 0 ≤ r72725.toInt ∧ r72725.toInt ≤ 1 := h72727
            refine b_if_eq C 59 dX12_needsOf_44 (by decide) (fun h72728 => ?_) (fun h72728 => ?_)
            · have h72728 : r72725.toInt = 0 := congrArg Int32.toInt h72728
              exact J59 Y72706 Iy72708 Xz72713 W72710 (by omega) (fun b9 e9 => by rw [e72714] at e9; cases e9; omega) (by show (pI Y72706 a0 28).toInt ≤ 5 + v7_3.toInt; omega)
            · have h72728 : r72725.toInt ≠ 0 := ti_ne h72728
              refine g_aload_n C dX12_needsOf_47 rfl 0 rfl ?_
              refine g_aload_n C dX12_needsOf_48 rfl 0 rfl ?_
              refine g_iload_n C dX12_needsOf_49 rfl 2 rfl ?_
              refine g_iload_n C dX12_needsOf_50 rfl 3 rfl ?_
              refine g_callVI (rest := [.ref a0]) C mv_X12_261 [.int a2, .int v7_3] (s_X12_setOf Iy72708 (by omega) (fun b9 e9 => by rw [e72714] at e9; cases e9; show 1 ≤ (pI Y72706 b72693 (a2.toInt.toNat)).toInt ∧ (pI Y72706 b72693 (a2.toInt.toNat)).toInt ≤ 16; omega) W72710) (h72715).1 (h72715).2 rfl rfl (by decide) (Nat.le_of_ble_eq_true rfl) (by decide) dX12_needsOf_51 (fun r72729 Y72730 h72731 => ?_)
              obtain ⟨Iy72732, Xy72733, W72734, h72731⟩ := h72731
              have q72735 := Xy72733.keepA e72714 (by decide) rfl (a2.toInt.toNat)
              have q72736 := Xy72733.keepF 28 (by decide)
              have Xz72737 : EM [28, 29, 30, 31, 35, 36, 37, 38] a0 P Y72730 := EM.tr ha0 Xz72713 (Xy72733.mono (by decide))
              have e72738 := Xy72733.ref h72715 (by decide) e72714
              have h72739 := Xy72733.at h72715
              have h72740 := Xy72733.ar h72716
              have h72731 : True := h72731
              refine g_iconst (v := 0) C dX12_needsOf_54 (by decide) ?_
              refine g_iconst (v := (-1)) C dX12_needsOf_55 (by decide) ?_
              refine g_callVV (rest := []) C mv_X12_308 [.int r72729, .int 0, .int (-1)] (s_X12_adds Iy72732 (by omega) W72734) (h72739).1 (h72739).2 rfl rfl (by decide) (Nat.le_of_ble_eq_true rfl) (by decide) dX12_needsOf_56 (fun Y72742 h72743 => ?_)
              obtain ⟨Iy72744, Xy72745, W72746, p72747⟩ := h72743
              have p72747 : (pI Y72742 a0 28).toInt = (pI Y72730 a0 28).toInt + 1 := p72747
              have q72748 := Xy72745.keepA e72738 (by decide) rfl (a2.toInt.toNat)
              have Xz72749 : EM [28, 29, 30, 31, 35, 36, 37, 38] a0 P Y72742 := EM.tr ha0 Xz72737 (Xy72745.mono (by decide))
              have e72750 := Xy72745.ref h72739 (by decide) e72738
              have h72751 := Xy72745.at h72739
              have h72752 := Xy72745.ar h72740
              have h72753 := Iy72744.rg h72751 28 rfl
              exact J59 Y72742 Iy72744 Xz72749 W72746 (by omega) (fun b9 e9 => by rw [e72750] at e9; cases e9; omega) (by show (pI Y72742 a0 28).toInt ≤ 5 + v7_3.toInt; omega)
        · have h72723 : r72720.toInt ≠ 0 := ti_ne h72723
          refine g_iload_n C dX12_needsOf_29 rfl 3 rfl ?_
          exact ret _ _ _ _ _ _ dX12_needsOf_30 rfl (by decide) (by decide) ⟨Iy72708, Xz72713, W72710, (by omega)⟩
  obtain ⟨b72754, e72755, h72756⟩ := I.fld (ha0) 10 13 2 rfl
  have hf0 := hf0 b72754 e72755
  refine g_aload_n C dX12_needsOf_0 rfl 0 rfl ?_
  refine g_iload_n C dX12_needsOf_1 rfl 2 rfl ?_
  refine g_callVV (rest := []) C mv_X12_312 [.int a2] (s_X12_begins I (by omega) hW) (ha0).1 (ha0).2 rfl rfl (by decide) (Nat.le_of_ble_eq_true rfl) (by decide) dX12_needsOf_2 (fun Y72758 h72759 => ?_)
  obtain ⟨Iy72760, Xy72761, W72762, p72763⟩ := h72759
  have p72763 : (pI Y72758 a0 28).toInt ≤ 4 := p72763
  have q72764 := Xy72761.keepA e72755 (by decide) rfl (a2.toInt.toNat)
  have Xz72765 : EM [28, 29, 30, 31, 35, 36, 37, 38] a0 P Y72758 := Xy72761.mono (by decide)
  have e72766 := Xy72761.ref ha0 (by decide) e72755
  have h72767 := Xy72761.at ha0
  have h72768 := Xy72761.ar h72756
  have h72769 := Iy72760.rg h72767 28 rfl
  refine g_iconst (v := 0) C dX12_needsOf_5 (by decide) ?_
  refine g_istore_n (lv' := [(3, .int 0), (0, .ref a0), (1, .int a1), (2, .int a2)]) C dX12_needsOf_6 rfl (by decide) rfl ?_
  refine g_lv (lv' := [(0, .ref a0), (1, .int a1), (2, .int a2), (3, .int 0)]) [1, 2, 3, 0] rfl ?_
  exact J7 _ Y72758 0 (Nat.lt_succ_self _) Iy72760 Xz72765 W72762 (by decide) (fun b9 e9 => by rw [e72766] at e9; cases e9; omega) (by show (pI Y72758 a0 28).toInt ≤ 4 + 0; omega)
theorem dX12_needs_20 : decode cX12_needs 20 = .ok (.iconst (-1), 1) := by decide +kernel
theorem dX12_needs_21 : decode cX12_needs 21 = .ok (.ireturn, 1) := by decide +kernel
theorem dX12_needs_28 : decode cX12_needs 28 = .ok (.istore_n 3, 1) := by decide +kernel
theorem dX12_needs_29 : decode cX12_needs 29 = .ok (.iload_n 3, 1) := by decide +kernel
theorem dX12_needs_30 : decode cX12_needs 30 = .ok (.bipush 60, 2) := by decide +kernel
theorem dX12_needs_32 : decode cX12_needs 32 = .ok (.if_icmp .le 7, 3) := by decide +kernel
theorem dX12_needs_35 : decode cX12_needs 35 = .ok (.iconst (-1), 1) := by decide +kernel
theorem dX12_needs_36 : decode cX12_needs 36 = .ok (.goto 4, 3) := by decide +kernel
theorem dX12_needs_39 : decode cX12_needs 39 = .ok (.iload_n 3, 1) := by decide +kernel
theorem dX12_needs_40 : decode cX12_needs 40 = .ok (.ireturn, 1) := by decide +kernel
set_option maxHeartbeats 4000000 in
set_option maxRecDepth 100000 in
theorem s_X12_needs {P : PP} {a0 : Nat} {a1 : Int32} {a2 : Int32} (I : IM P a0) (hW : MW P a0) : CtrI yX12_needs cX12_needs 4 (some Jvm.ClassFile.FieldType.int) ({ frames := 5, cells := 0, slots := 0, locals := 320 } : Room) 0 0 P [.ref a0, .int a1, .int a2] (fun r P2 => IM P2 a0 ∧ EM [0, 28, 29, 30, 31, 35, 36, 37, 38] a0 P P2 ∧ MW P2 a0 ∧ (-1 ≤ r.toInt ∧ r.toInt ≤ 60)) := by
  refine enI (lv := [(0, .ref a0), (1, .int a1), (2, .int a2)]) (by decide) (Nat.le_of_ble_eq_true rfl) rfl (fun E D cy C Ci0 ret => ?_)
  have ha0 := I.2.1
  have J20 : ∀ (P20 : PP), (IM P20 a0) → (EM [0, 28, 29, 30, 31, 35, 36, 37, 38] a0 P P20) → (MW P20 a0) → (0 ≤ (pI P20 a0 0).toInt ∧ (pI P20 a0 0).toInt ≤ 0) → G E ({ frames := 5, cells := 0, slots := 0, locals := 320 } : Room) D cy 4 P20 0 0 20 [] [] := by
    intro P20 I20 X20 W20 hq20_0
    have h72806 := X20.at ha0
    refine g_iconst (v := (-1)) C dX12_needs_20 (by decide) ?_
    exact ret _ _ _ _ _ _ dX12_needs_21 rfl (by decide) (by decide) ⟨I20, X20, W20, (by decide)⟩
  refine g_aload_n C dX12_needs_0 rfl 0 rfl ?_
  refine g_iconst (v := 0) C dX12_needs_1 (by decide) ?_
  refine g_putI C fi_X12_1 rfl (ha0).1 (ha0).2 dX12_needs_2 ?_
  refine gqW (ks := [0]) (I.setI (rgOk.of rfl (by decide))) (EM.setI I (by decide)) (fun Y72807 Iy72808 Xy72809 w72810 => ?_)
  have w72810 : (pI Y72807 a0 0).toInt = 0 := w72810
  have W72811 := hW.keep I Xy72809 (by decide) (by decide) (by decide)
  have Xz72812 : EM [0, 28, 29, 30, 31, 35, 36, 37, 38] a0 P Y72807 := Xy72809.mono (by decide)
  have h72813 := Xy72809.at ha0
  refine g_iload_n C dX12_needs_5 rfl 1 rfl ?_
  refine g_callSI (b := 0) (ci := 0) (rest := []) C ms_X12_278 [.int a1] (s_X12_isQuarter Iy72808.1) rfl rfl (by decide) (Nat.le_of_ble_eq_true rfl) (by decide) dX12_needs_6 (fun r72814 Y72815 h72816 => ?_)
  obtain ⟨rfl, h72816⟩ := h72816
  obtain ⟨h72816, hi72817⟩ := h72816
  have hi72817 : r72814.toInt = 0 ∨ (((0 : Int) ≤ a1.toInt ∧ a1.toInt ≤ (3 : Int))) := hi72817
  have h72816 : 0 ≤ r72814.toInt ∧ r72814.toInt ≤ 1 := h72816
  refine b_if_eq C 20 dX12_needs_9 (by decide) (fun h72818 => ?_) (fun h72818 => ?_)
  · have h72818 : r72814.toInt = 0 := congrArg Int32.toInt h72818
    clear hi72817
    refine g_lv (lv' := []) [] rfl ?_
    exact J20 Y72807 Iy72808 Xz72812 W72811 (by omega)
  · have h72818 : r72814.toInt ≠ 0 := ti_ne h72818
    replace hi72817 := hi72817.resolve_left (by omega)
    refine g_aload_n C dX12_needs_12 rfl 0 rfl ?_
    refine g_iload_n C dX12_needs_13 rfl 2 rfl ?_
    refine g_callVI (rest := []) C mv_X12_192 [.int a2] (s_X12_isBook Iy72808 W72811) (h72813).1 (h72813).2 rfl rfl (by decide) (Nat.le_of_ble_eq_true rfl) (by decide) dX12_needs_14 (fun r72819 Y72820 h72821 => ?_)
    obtain ⟨rfl, h72821⟩ := h72821
    obtain ⟨h72821, hi72822, hi72823⟩ := h72821
    have hi72822 : r72819.toInt = 0 ∨ (((0 : Int) ≤ a2.toInt ∧ a2.toInt ≤ (1 : Int))) := hi72822
    have h72821 : 0 ≤ r72819.toInt ∧ r72819.toInt ≤ 1 := h72821
    refine b_if_ne C 22 dX12_needs_17 (by decide) (fun h72824 => ?_) (fun h72824 => ?_)
    · have h72824 : r72819.toInt ≠ 0 := ti_ne h72824
      replace hi72822 := hi72822.resolve_left (by omega)
      obtain ⟨b72825, e72826, h72827⟩ := Iy72808.fld (h72813) 10 13 2 rfl
      have hi72823 := (hi72823.resolve_left (by omega)) b72825 e72826
      have hi72823 : 0 < (pI Y72807 b72825 (a2.toInt.toNat)).toInt := hi72823
      have h72828 := Iy72808.arr e72826 rfl (a2.toInt.toNat)
      refine g_aload_n C dX12_needs_22 rfl 0 rfl ?_
      refine g_iload_n C dX12_needs_23 rfl 1 rfl ?_
      refine g_iload_n C dX12_needs_24 rfl 2 rfl ?_
      refine g_callVI (rest := []) C mv_X12_408 [.int a1, .int a2] (s_X12_needsOf Iy72808 (by omega) (by omega) (fun b9 e9 => by rw [e72826] at e9; cases e9; show 1 ≤ (pI Y72807 b72825 (a2.toInt.toNat)).toInt ∧ (pI Y72807 b72825 (a2.toInt.toNat)).toInt ≤ 16; omega) W72811) (h72813).1 (h72813).2 rfl rfl (by decide) (Nat.le_of_ble_eq_true rfl) (by decide) dX12_needs_25 (fun r72829 Y72830 h72831 => ?_)
      obtain ⟨Iy72832, Xy72833, W72834, h72831⟩ := h72831
      have q72835 := Xy72833.keepF 0 (by decide)
      have q72836 := Xy72833.keepA e72826 (by decide) rfl (a2.toInt.toNat)
      have Xz72837 : EM [0, 28, 29, 30, 31, 35, 36, 37, 38] a0 P Y72830 := EM.tr ha0 Xz72812 (Xy72833.mono (by decide))
      have e72838 := Xy72833.ref h72813 (by decide) e72826
      have h72839 := Xy72833.at h72813
      have h72840 := Xy72833.ar h72827
      have h72831 : 0 ≤ r72829.toInt ∧ r72829.toInt ≤ 61 := h72831
      refine g_istore_n (lv' := [(3, .int r72829), (0, .ref a0), (1, .int a1), (2, .int a2)]) C dX12_needs_28 rfl (by decide) rfl ?_
      refine g_iload_n C dX12_needs_29 rfl 0 rfl ?_
      refine g_bipush (v := 60) C dX12_needs_30 (by decide) ?_
      refine b_icmp_le C 39 dX12_needs_32 (by decide) (fun h72841 => ?_) (fun h72841 => ?_)
      · have h72841 : r72829.toInt ≤ 60 := h72841
        refine g_iload_n C dX12_needs_39 rfl 0 rfl ?_
        exact ret _ _ _ _ _ _ dX12_needs_40 rfl (by decide) (by decide) ⟨Iy72832, Xz72837, W72834, (by omega)⟩
      · have h72841 : 60 < r72829.toInt := h72841
        refine g_iconst (v := (-1)) C dX12_needs_35 (by decide) ?_
        refine g_goto C 40 dX12_needs_36 (by decide) ?_
        exact ret _ _ _ _ _ _ dX12_needs_40 rfl (by decide) (by decide) ⟨Iy72832, Xz72837, W72834, (by decide)⟩
    · have h72824 : r72819.toInt = 0 := congrArg Int32.toInt h72824
      clear hi72822
      refine g_lv (lv' := []) [] rfl ?_
      exact J20 Y72807 Iy72808 Xz72812 W72811 (by omega)
theorem dX12_page_0 : decode cX12_page 0 = .ok (.aload_n 0, 1) := by decide +kernel
theorem dX12_page_1 : decode cX12_page 1 = .ok (.iconst 0, 1) := by decide +kernel
theorem dX12_page_2 : decode cX12_page 2 = .ok (.putfield 1, 3) := by decide +kernel
theorem dX12_page_5 : decode cX12_page 5 = .ok (.aload_n 0, 1) := by decide +kernel
theorem dX12_page_6 : decode cX12_page 6 = .ok (.iload_n 1, 1) := by decide +kernel
theorem dX12_page_7 : decode cX12_page 7 = .ok (.invokevirtual 192, 3) := by decide +kernel
theorem dX12_page_10 : decode cX12_page 10 = .ok (.ifCond .eq 37, 3) := by decide +kernel
theorem dX12_page_13 : decode cX12_page 13 = .ok (.iload_n 2, 1) := by decide +kernel
theorem dX12_page_14 : decode cX12_page 14 = .ok (.iconst 0, 1) := by decide +kernel
theorem dX12_page_15 : decode cX12_page 15 = .ok (.aload_n 0, 1) := by decide +kernel
theorem dX12_page_16 : decode cX12_page 16 = .ok (.getfield 45, 3) := by decide +kernel
theorem dX12_page_19 : decode cX12_page 19 = .ok (.iload_n 1, 1) := by decide +kernel
theorem dX12_page_20 : decode cX12_page 20 = .ok (.iaload, 1) := by decide +kernel
theorem dX12_page_21 : decode cX12_page 21 = .ok (.iconst 1, 1) := by decide +kernel
theorem dX12_page_22 : decode cX12_page 22 = .ok (.isub, 1) := by decide +kernel
theorem dX12_page_23 : decode cX12_page 23 = .ok (.invokestatic 178, 3) := by decide +kernel
theorem dX12_page_26 : decode cX12_page 26 = .ok (.ifCond .eq 21, 3) := by decide +kernel
theorem dX12_page_29 : decode cX12_page 29 = .ok (.iload_n 3, 1) := by decide +kernel
theorem dX12_page_30 : decode cX12_page 30 = .ok (.iconst 0, 1) := by decide +kernel
theorem dX12_page_31 : decode cX12_page 31 = .ok (.ldc 195, 2) := by decide +kernel
theorem dX12_page_33 : decode cX12_page 33 = .ok (.invokestatic 178, 3) := by decide +kernel
theorem dX12_page_36 : decode cX12_page 36 = .ok (.ifCond .eq 11, 3) := by decide +kernel
theorem dX12_page_39 : decode cX12_page 39 = .ok (.aload_n 0, 1) := by decide +kernel
theorem dX12_page_40 : decode cX12_page 40 = .ok (.iload_n 1, 1) := by decide +kernel
theorem dX12_page_41 : decode cX12_page 41 = .ok (.invokevirtual 196, 3) := by decide +kernel
theorem dX12_page_44 : decode cX12_page 44 = .ok (.ifCond .eq 5, 3) := by decide +kernel
theorem dX12_page_47 : decode cX12_page 47 = .ok (.iconst 0, 1) := by decide +kernel
theorem dX12_page_48 : decode cX12_page 48 = .ok (.ireturn, 1) := by decide +kernel
theorem dX12_page_49 : decode cX12_page 49 = .ok (.aload_n 0, 1) := by decide +kernel
theorem dX12_page_50 : decode cX12_page 50 = .ok (.getfield 48, 3) := by decide +kernel
theorem dX12_page_53 : decode cX12_page 53 = .ok (.bipush 16, 2) := by decide +kernel
theorem dX12_page_55 : decode cX12_page 55 = .ok (.iload_n 1, 1) := by decide +kernel
theorem dX12_page_56 : decode cX12_page 56 = .ok (.imul, 1) := by decide +kernel
theorem dX12_page_57 : decode cX12_page 57 = .ok (.iload_n 2, 1) := by decide +kernel
theorem dX12_page_58 : decode cX12_page 58 = .ok (.iadd, 1) := by decide +kernel
theorem dX12_page_59 : decode cX12_page 59 = .ok (.iload_n 3, 1) := by decide +kernel
theorem dX12_page_60 : decode cX12_page 60 = .ok (.iastore, 1) := by decide +kernel
theorem dX12_page_61 : decode cX12_page 61 = .ok (.iconst 1, 1) := by decide +kernel
theorem dX12_page_62 : decode cX12_page 62 = .ok (.ireturn, 1) := by decide +kernel
set_option maxHeartbeats 4000000 in
set_option maxRecDepth 100000 in
theorem s_X12_page {P : PP} {a0 : Nat} {a1 : Int32} {a2 : Int32} {a3 : Int32} (I : IM P a0) (hW : MW P a0) : CtrI yX12_page cX12_page 4 (some Jvm.ClassFile.FieldType.boolean) ({ frames := 3, cells := 0, slots := 0, locals := 192 } : Room) 0 0 P [.ref a0, .int a1, .int a2, .int a3] (fun r P2 => IM P2 a0 ∧ EM [0, 11] a0 P P2 ∧ MW P2 a0 ∧ (0 ≤ r.toInt ∧ r.toInt ≤ 1) ∧ (r.toInt = 0 ∨ (((0 : Int) ≤ a1.toInt ∧ a1.toInt ≤ (1 : Int)) ∧ ((0 : Int) ≤ a2.toInt ∧ a2.toInt ≤ (15 : Int)) ∧ ((0 : Int) ≤ a3.toInt ∧ a3.toInt ≤ (65535 : Int))))) := by
  refine enI (lv := [(0, .ref a0), (1, .int a1), (2, .int a2), (3, .int a3)]) (by decide) (Nat.le_of_ble_eq_true rfl) rfl (fun E D cy C Ci0 ret => ?_)
  have ha0 := I.2.1
  have J47 : ∀ (P47 : PP), (IM P47 a0) → (EM [0, 11] a0 P P47) → (MW P47 a0) → (0 ≤ (pI P47 a0 0).toInt ∧ (pI P47 a0 0).toInt ≤ 0) → G E ({ frames := 3, cells := 0, slots := 0, locals := 192 } : Room) D cy 4 P47 0 0 47 [] [] := by
    intro P47 I47 X47 W47 hq47_0
    have h72896 := X47.at ha0
    refine g_iconst (v := 0) C dX12_page_47 (by decide) ?_
    exact ret _ _ _ _ _ _ dX12_page_48 rfl (by decide) (by decide) ⟨I47, X47, W47, (by decide), Or.inl rfl⟩
  refine g_aload_n C dX12_page_0 rfl 0 rfl ?_
  refine g_iconst (v := 0) C dX12_page_1 (by decide) ?_
  refine g_putI C fi_X12_1 rfl (ha0).1 (ha0).2 dX12_page_2 ?_
  refine gqW (ks := [0]) (I.setI (rgOk.of rfl (by decide))) (EM.setI I (by decide)) (fun Y72897 Iy72898 Xy72899 w72900 => ?_)
  have w72900 : (pI Y72897 a0 0).toInt = 0 := w72900
  have W72901 := hW.keep I Xy72899 (by decide) (by decide) (by decide)
  have Xz72902 : EM [0, 11] a0 P Y72897 := Xy72899.mono (by decide)
  have h72903 := Xy72899.at ha0
  refine g_aload_n C dX12_page_5 rfl 0 rfl ?_
  refine g_iload_n C dX12_page_6 rfl 1 rfl ?_
  refine g_callVI (rest := []) C mv_X12_192 [.int a1] (s_X12_isBook Iy72898 W72901) (h72903).1 (h72903).2 rfl rfl (by decide) (Nat.le_of_ble_eq_true rfl) (by decide) dX12_page_7 (fun r72904 Y72905 h72906 => ?_)
  obtain ⟨rfl, h72906⟩ := h72906
  obtain ⟨h72906, hi72907, hi72908⟩ := h72906
  have hi72907 : r72904.toInt = 0 ∨ (((0 : Int) ≤ a1.toInt ∧ a1.toInt ≤ (1 : Int))) := hi72907
  have h72906 : 0 ≤ r72904.toInt ∧ r72904.toInt ≤ 1 := h72906
  refine b_if_eq C 47 dX12_page_10 (by decide) (fun h72909 => ?_) (fun h72909 => ?_)
  · have h72909 : r72904.toInt = 0 := congrArg Int32.toInt h72909
    clear hi72907
    refine g_lv (lv' := []) [] rfl ?_
    exact J47 Y72897 Iy72898 Xz72902 W72901 (by omega)
  · have h72909 : r72904.toInt ≠ 0 := ti_ne h72909
    replace hi72907 := hi72907.resolve_left (by omega)
    obtain ⟨b72910, e72911, h72912⟩ := Iy72898.fld (h72903) 10 13 2 rfl
    have hi72908 := (hi72908.resolve_left (by omega)) b72910 e72911
    have hi72908 : 0 < (pI Y72897 b72910 (a1.toInt.toNat)).toInt := hi72908
    have h72913 := Iy72898.arr e72911 rfl (a1.toInt.toNat)
    refine g_iload_n C dX12_page_13 rfl 2 rfl ?_
    refine g_iconst (v := 0) C dX12_page_14 (by decide) ?_
    refine g_aload_n C dX12_page_15 rfl 0 rfl ?_
    refine g_getR C fi_X12_45 rfl e72911 (h72903).1 (h72903).2 dX12_page_16 ?_
    refine g_iload_n C dX12_page_19 rfl 1 rfl ?_
    refine g_iald (j := (a1.toInt.toNat)) C h72912.1 h72912.2.1 (ix_in h72912.2.2 (by omega)) dX12_page_20 ?_
    refine g_iconst (v := 1) C dX12_page_21 (by decide) ?_
    refine s_isub C dX12_page_22 (by show -2147483648 ≤ (pI Y72897 b72910 (a1.toInt.toNat)).toInt - 1 ∧ (pI Y72897 b72910 (a1.toInt.toNat)).toInt - 1 ≤ 2147483647; omega) (fun z72914 h72915 => ?_)
    have h72915 : z72914.toInt = (pI Y72897 b72910 (a1.toInt.toNat)).toInt - 1 := h72915
    refine g_callSI (b := 0) (ci := 0) (rest := []) C ms_X12_178 [.int a2, .int 0, .int z72914] (s_X12_within Iy72898.1) rfl rfl (by decide) (Nat.le_of_ble_eq_true rfl) (by decide) dX12_page_23 (fun r72916 Y72917 h72918 => ?_)
    obtain ⟨rfl, h72918⟩ := h72918
    obtain ⟨h72918, hi72919⟩ := h72918
    have hi72919 : r72916.toInt = 0 ∨ (0 ≤ a2.toInt ∧ a2.toInt ≤ z72914.toInt) := hi72919
    have h72918 : 0 ≤ r72916.toInt ∧ r72916.toInt ≤ 1 := h72918
    refine b_if_eq C 47 dX12_page_26 (by decide) (fun h72920 => ?_) (fun h72920 => ?_)
    · have h72920 : r72916.toInt = 0 := congrArg Int32.toInt h72920
      clear hi72919
      refine g_lv (lv' := []) [] rfl ?_
      exact J47 Y72897 Iy72898 Xz72902 W72901 (by omega)
    · have h72920 : r72916.toInt ≠ 0 := ti_ne h72920
      replace hi72919 := hi72919.resolve_left (by omega)
      refine g_iload_n C dX12_page_29 rfl 3 rfl ?_
      refine g_iconst (v := 0) C dX12_page_30 (by decide) ?_
      refine g_ldc (v := 65535) C kc_X12_195 dX12_page_31 ?_
      refine g_callSI (b := 0) (ci := 0) (rest := []) C ms_X12_178 [.int a3, .int 0, .int 65535] (s_X12_within Iy72898.1) rfl rfl (by decide) (Nat.le_of_ble_eq_true rfl) (by decide) dX12_page_33 (fun r72921 Y72922 h72923 => ?_)
      obtain ⟨rfl, h72923⟩ := h72923
      obtain ⟨h72923, hi72924⟩ := h72923
      have hi72924 : r72921.toInt = 0 ∨ (0 ≤ a3.toInt ∧ a3.toInt ≤ 65535) := hi72924
      have h72923 : 0 ≤ r72921.toInt ∧ r72921.toInt ≤ 1 := h72923
      refine b_if_eq C 47 dX12_page_36 (by decide) (fun h72925 => ?_) (fun h72925 => ?_)
      · have h72925 : r72921.toInt = 0 := congrArg Int32.toInt h72925
        clear hi72924
        refine g_lv (lv' := []) [] rfl ?_
        exact J47 Y72897 Iy72898 Xz72902 W72901 (by omega)
      · have h72925 : r72921.toInt ≠ 0 := ti_ne h72925
        replace hi72924 := hi72924.resolve_left (by omega)
        refine g_aload_n C dX12_page_39 rfl 0 rfl ?_
        refine g_iload_n C dX12_page_40 rfl 1 rfl ?_
        refine g_callVI (rest := []) C mv_X12_196 [.int a1] (s_X12_isOut Iy72898 W72901) (h72903).1 (h72903).2 rfl rfl (by decide) (Nat.le_of_ble_eq_true rfl) (by decide) dX12_page_41 (fun r72926 Y72927 h72928 => ?_)
        obtain ⟨rfl, h72928⟩ := h72928
        have h72928 : 0 ≤ r72926.toInt ∧ r72926.toInt ≤ 1 := h72928
        refine b_if_eq C 49 dX12_page_44 (by decide) (fun h72929 => ?_) (fun h72929 => ?_)
        · have h72929 : r72926.toInt = 0 := congrArg Int32.toInt h72929
          refine g_aload_n C dX12_page_49 rfl 0 rfl ?_
          obtain ⟨b72930, e72931, h72932⟩ := Iy72898.fld (h72903) 11 13 32 rfl
          refine g_getR C fi_X12_48 rfl e72931 (h72903).1 (h72903).2 dX12_page_50 ?_
          refine g_bipush (v := 16) C dX12_page_53 (by decide) ?_
          refine g_iload_n C dX12_page_55 rfl 1 rfl ?_
          refine s_imul C dX12_page_56 (by show -2147483648 ≤ 16 * a1.toInt ∧ 16 * a1.toInt ≤ 2147483647; omega) (fun z72933 h72934 => ?_)
          have h72934 : z72933.toInt = 16 * a1.toInt := h72934
          refine g_iload_n C dX12_page_57 rfl 2 rfl ?_
          refine s_iadd C dX12_page_58 (by show -2147483648 ≤ z72933.toInt + a2.toInt ∧ z72933.toInt + a2.toInt ≤ 2147483647; omega) (fun z72935 h72936 => ?_)
          have h72936 : z72935.toInt = z72933.toInt + a2.toInt := h72936
          refine g_iload_n C dX12_page_59 rfl 3 rfl ?_
          refine g_iast (j := (z72935.toInt.toNat)) C h72932.1 h72932.2.1 (ix_in h72932.2.2 (by omega)) dX12_page_60 ?_
          refine gqW (ks := [11]) (Iy72898.setA e72931 h72932 (by decide) (arOk.none rfl)) (EM.setA Iy72898 e72931 rfl (by decide)) (fun Y72937 Iy72938 Xy72939 w72940 => ?_)
          have w72940 : (pI Y72937 b72930 (z72935.toInt.toNat)).toInt = a3.toInt := w72940
          have q72941 := Xy72939.keepF 0 (by decide)
          have q72942 := Xy72939.keepA e72911 (by decide) rfl (a1.toInt.toNat)
          have W72943 := W72901.keep Iy72898 Xy72939 (by decide) (by decide) (by decide)
          have Xz72944 : EM [0, 11] a0 P Y72937 := EM.tr ha0 Xz72902 (Xy72939.mono (by decide))
          have e72945 := Xy72939.ref h72903 (by decide) e72911
          have e72946 := Xy72939.ref h72903 (by decide) e72931
          have h72947 := Xy72939.at h72903
          have h72948 := Xy72939.ar h72912
          have h72949 := Xy72939.ar h72932
          refine g_iconst (v := 1) C dX12_page_61 (by decide) ?_
          exact ret _ _ _ _ _ _ dX12_page_62 rfl (by decide) (by decide) ⟨Iy72938, Xz72944, W72943, (by decide), Or.inr (by omega)⟩
        · have h72929 : r72926.toInt ≠ 0 := ti_ne h72929
          refine g_lv (lv' := []) [] rfl ?_
          exact J47 Y72897 Iy72898 Xz72902 W72901 (by omega)
