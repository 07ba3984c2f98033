/-- a new array that no field holds yet -/
def yQ (P0 P : PP) (a q n : Nat) : Prop := q ∈ pL P ∧ pK P q = 14 ∧ pN P q = n ∧ q ∉ pL P0 ∧ (∀ k, pR P a k ≠ some q) ∧ ∀ j, pI P q j = 0
theorem yQ.new {S : List Nat} {P0 P : PP} {a q n : Nat} {ks : List Nat} (h : yDn S P0 P a ks) (hq : q ∉ pL P) : yQ P0 (pNw P q 14 n) a q n :=
  ⟨in_new, K_new, N_new, h.sub hq, fun j => by rw [R_old hq h.mem]; exact h.nofield hq j, fun j => by rw [I_new]⟩
theorem yQ.setJ {P0 P : PP} {a q n b i : Nat} {v : Int64} (h : yQ P0 P a q n) : yQ P0 (pSJ P b i v) a q n := ⟨h.1, h.2.1, h.2.2.1, h.2.2.2.1, h.2.2.2.2.1, h.2.2.2.2.2⟩
theorem g_pp {E : EV} {R : Room} {D : va_G} {cy : Nat → ClassId} {nL : Nat} {P P2 : PP} {cs sl pc pc2 cs2 sl2 : Nat} {lv : List (Nat × Value)} {st : List Value} (h1 : P = P2) (h2 : pc = pc2) (h3 : cs = cs2) (h4 : sl = sl2) (k : G E R D cy nL P2 cs2 sl2 pc2 lv st) : G E R D cy nL P cs sl pc lv st := by
  subst h1; subst h2; subst h3; subst h4; exact k
theorem pSI_pWI (P : PP) (I2 : Nat → Nat → Int32) (J2 : Nat → Nat → Int64) (a k : Nat) (v : Int32) : pSI (pWI P I2 J2) a k v = pWI P (va_up I2 a (va_up (I2 a) k v)) J2 := rfl
theorem W_mem {P : PP} {I2 : Nat → Nat → Int32} {J2 : Nat → Nat → Int64} {a : Nat} (h : a ∈ pL P) : a ∈ pL (pWI P I2 J2) := h
theorem W_kind {P : PP} {I2 : Nat → Nat → Int32} {J2 : Nat → Nat → Int64} {a k : Nat} (h : pK P a = k) : pK (pWI P I2 J2) a = k := h
theorem W_len {P : PP} {I2 : Nat → Nat → Int32} {J2 : Nat → Nat → Int64} {a k : Nat} (h : pN P a = k) : pN (pWI P I2 J2) a = k := h
theorem W_fld {P : PP} {I2 : Nat → Nat → Int32} {J2 : Nat → Nat → Int64} {a k : Nat} {r : Option Nat} (h : pR P a k = r) : pR (pWI P I2 J2) a k = r := h
theorem dX12_init_0 : decode cX12_init 0 = .ok (.aload_n 0, 1) := by decide +kernel
theorem dX12_init_1 : decode cX12_init 1 = .ok (.invokespecial 18, 3) := by decide +kernel
theorem dX12_init_4 : decode cX12_init 4 = .ok (.aload_n 0, 1) := by decide +kernel
theorem dX12_init_5 : decode cX12_init 5 = .ok (.sipush 1000, 3) := by decide +kernel
theorem dX12_init_8 : decode cX12_init 8 = .ok (.newarray .int, 2) := by decide +kernel
theorem dX12_init_10 : decode cX12_init 10 = .ok (.putfield 14, 3) := by decide +kernel
theorem dX12_init_13 : decode cX12_init 13 = .ok (.aload_n 0, 1) := by decide +kernel
theorem dX12_init_14 : decode cX12_init 14 = .ok (.sipush 1002, 3) := by decide +kernel
theorem dX12_init_17 : decode cX12_init 17 = .ok (.newarray .int, 2) := by decide +kernel
theorem dX12_init_19 : decode cX12_init 19 = .ok (.putfield 24, 3) := by decide +kernel
theorem dX12_init_22 : decode cX12_init 22 = .ok (.aload_n 0, 1) := by decide +kernel
theorem dX12_init_23 : decode cX12_init 23 = .ok (.sipush 1002, 3) := by decide +kernel
theorem dX12_init_26 : decode cX12_init 26 = .ok (.newarray .int, 2) := by decide +kernel
theorem dX12_init_28 : decode cX12_init 28 = .ok (.putfield 27, 3) := by decide +kernel
theorem dX12_init_31 : decode cX12_init 31 = .ok (.aload_n 0, 1) := by decide +kernel
theorem dX12_init_32 : decode cX12_init 32 = .ok (.sipush 1002, 3) := by decide +kernel
theorem dX12_init_35 : decode cX12_init 35 = .ok (.newarray .long, 2) := by decide +kernel
theorem dX12_init_37 : decode cX12_init 37 = .ok (.putfield 30, 3) := by decide +kernel
theorem dX12_init_40 : decode cX12_init 40 = .ok (.aload_n 0, 1) := by decide +kernel
theorem dX12_init_41 : decode cX12_init 41 = .ok (.iconst 4, 1) := by decide +kernel
theorem dX12_init_42 : decode cX12_init 42 = .ok (.newarray .long, 2) := by decide +kernel
theorem dX12_init_44 : decode cX12_init 44 = .ok (.dup, 1) := by decide +kernel
theorem dX12_init_45 : decode cX12_init 45 = .ok (.iconst 0, 1) := by decide +kernel
theorem dX12_init_46 : decode cX12_init 46 = .ok (.ldc2_w 34, 3) := by decide +kernel
theorem dX12_init_49 : decode cX12_init 49 = .ok (.lastore, 1) := by decide +kernel
theorem dX12_init_50 : decode cX12_init 50 = .ok (.dup, 1) := by decide +kernel
theorem dX12_init_51 : decode cX12_init 51 = .ok (.iconst 1, 1) := by decide +kernel
theorem dX12_init_52 : decode cX12_init 52 = .ok (.ldc2_w 36, 3) := by decide +kernel
theorem dX12_init_55 : decode cX12_init 55 = .ok (.lastore, 1) := by decide +kernel
theorem dX12_init_56 : decode cX12_init 56 = .ok (.dup, 1) := by decide +kernel
theorem dX12_init_57 : decode cX12_init 57 = .ok (.iconst 2, 1) := by decide +kernel
theorem dX12_init_58 : decode cX12_init 58 = .ok (.ldc2_w 38, 3) := by decide +kernel
theorem dX12_init_61 : decode cX12_init 61 = .ok (.lastore, 1) := by decide +kernel
theorem dX12_init_62 : decode cX12_init 62 = .ok (.dup, 1) := by decide +kernel
theorem dX12_init_63 : decode cX12_init 63 = .ok (.iconst 3, 1) := by decide +kernel
theorem dX12_init_64 : decode cX12_init 64 = .ok (.ldc2_w 40, 3) := by decide +kernel
theorem dX12_init_67 : decode cX12_init 67 = .ok (.lastore, 1) := by decide +kernel
theorem dX12_init_68 : decode cX12_init 68 = .ok (.putfield 42, 3) := by decide +kernel
theorem dX12_init_71 : decode cX12_init 71 = .ok (.aload_n 0, 1) := by decide +kernel
theorem dX12_init_72 : decode cX12_init 72 = .ok (.iconst 2, 1) := by decide +kernel
theorem dX12_init_73 : decode cX12_init 73 = .ok (.newarray .int, 2) := by decide +kernel
theorem dX12_init_75 : decode cX12_init 75 = .ok (.putfield 45, 3) := by decide +kernel
theorem dX12_init_78 : decode cX12_init 78 = .ok (.aload_n 0, 1) := by decide +kernel
theorem dX12_init_79 : decode cX12_init 79 = .ok (.bipush 32, 2) := by decide +kernel
theorem dX12_init_81 : decode cX12_init 81 = .ok (.newarray .int, 2) := by decide +kernel
theorem dX12_init_83 : decode cX12_init 83 = .ok (.putfield 48, 3) := by decide +kernel
theorem dX12_init_86 : decode cX12_init 86 = .ok (.aload_n 0, 1) := by decide +kernel
theorem dX12_init_87 : decode cX12_init 87 = .ok (.bipush 63, 2) := by decide +kernel
theorem dX12_init_89 : decode cX12_init 89 = .ok (.newarray .int, 2) := by decide +kernel
theorem dX12_init_91 : decode cX12_init 91 = .ok (.putfield 51, 3) := by decide +kernel
theorem dX12_init_94 : decode cX12_init 94 = .ok (.aload_n 0, 1) := by decide +kernel
theorem dX12_init_95 : decode cX12_init 95 = .ok (.iconst 3, 1) := by decide +kernel
theorem dX12_init_96 : decode cX12_init 96 = .ok (.newarray .int, 2) := by decide +kernel
theorem dX12_init_98 : decode cX12_init 98 = .ok (.putfield 54, 3) := by decide +kernel
theorem dX12_init_101 : decode cX12_init 101 = .ok (.aload_n 0, 1) := by decide +kernel
theorem dX12_init_102 : decode cX12_init 102 = .ok (.iconst 3, 1) := by decide +kernel
theorem dX12_init_103 : decode cX12_init 103 = .ok (.newarray .int, 2) := by decide +kernel
theorem dX12_init_105 : decode cX12_init 105 = .ok (.putfield 57, 3) := by decide +kernel
theorem dX12_init_108 : decode cX12_init 108 = .ok (.aload_n 0, 1) := by decide +kernel
theorem dX12_init_109 : decode cX12_init 109 = .ok (.iconst 3, 1) := by decide +kernel
theorem dX12_init_110 : decode cX12_init 110 = .ok (.newarray .int, 2) := by decide +kernel
theorem dX12_init_112 : decode cX12_init 112 = .ok (.putfield 60, 3) := by decide +kernel
theorem dX12_init_115 : decode cX12_init 115 = .ok (.aload_n 0, 1) := by decide +kernel
theorem dX12_init_116 : decode cX12_init 116 = .ok (.bipush 12, 2) := by decide +kernel
theorem dX12_init_118 : decode cX12_init 118 = .ok (.newarray .int, 2) := by decide +kernel
theorem dX12_init_120 : decode cX12_init 120 = .ok (.putfield 63, 3) := by decide +kernel
theorem dX12_init_123 : decode cX12_init 123 = .ok (.aload_n 0, 1) := by decide +kernel
theorem dX12_init_124 : decode cX12_init 124 = .ok (.iconst 3, 1) := by decide +kernel
theorem dX12_init_125 : decode cX12_init 125 = .ok (.newarray .int, 2) := by decide +kernel
theorem dX12_init_127 : decode cX12_init 127 = .ok (.putfield 66, 3) := by decide +kernel
theorem dX12_init_130 : decode cX12_init 130 = .ok (.aload_n 0, 1) := by decide +kernel
theorem dX12_init_131 : decode cX12_init 131 = .ok (.bipush 20, 2) := by decide +kernel
theorem dX12_init_133 : decode cX12_init 133 = .ok (.newarray .int, 2) := by decide +kernel
theorem dX12_init_135 : decode cX12_init 135 = .ok (.putfield 69, 3) := by decide +kernel
theorem dX12_init_138 : decode cX12_init 138 = .ok (.aload_n 0, 1) := by decide +kernel
theorem dX12_init_139 : decode cX12_init 139 = .ok (.sipush 800, 3) := by decide +kernel
theorem dX12_init_142 : decode cX12_init 142 = .ok (.newarray .int, 2) := by decide +kernel
theorem dX12_init_144 : decode cX12_init 144 = .ok (.putfield 72, 3) := by decide +kernel
theorem dX12_init_147 : decode cX12_init 147 = .ok (.aload_n 0, 1) := by decide +kernel
theorem dX12_init_148 : decode cX12_init 148 = .ok (.sipush 800, 3) := by decide +kernel
theorem dX12_init_151 : decode cX12_init 151 = .ok (.newarray .int, 2) := by decide +kernel
theorem dX12_init_153 : decode cX12_init 153 = .ok (.putfield 75, 3) := by decide +kernel
theorem dX12_init_156 : decode cX12_init 156 = .ok (.aload_n 0, 1) := by decide +kernel
theorem dX12_init_157 : decode cX12_init 157 = .ok (.sipush 800, 3) := by decide +kernel
theorem dX12_init_160 : decode cX12_init 160 = .ok (.newarray .int, 2) := by decide +kernel
theorem dX12_init_162 : decode cX12_init 162 = .ok (.putfield 78, 3) := by decide +kernel
theorem dX12_init_165 : decode cX12_init 165 = .ok (.aload_n 0, 1) := by decide +kernel
theorem dX12_init_166 : decode cX12_init 166 = .ok (.sipush 800, 3) := by decide +kernel
theorem dX12_init_169 : decode cX12_init 169 = .ok (.newarray .int, 2) := by decide +kernel
theorem dX12_init_171 : decode cX12_init 171 = .ok (.putfield 81, 3) := by decide +kernel
theorem dX12_init_174 : decode cX12_init 174 = .ok (.aload_n 0, 1) := by decide +kernel
theorem dX12_init_175 : decode cX12_init 175 = .ok (.sipush 800, 3) := by decide +kernel
theorem dX12_init_178 : decode cX12_init 178 = .ok (.newarray .int, 2) := by decide +kernel
theorem dX12_init_180 : decode cX12_init 180 = .ok (.putfield 84, 3) := by decide +kernel
theorem dX12_init_183 : decode cX12_init 183 = .ok (.aload_n 0, 1) := by decide +kernel
theorem dX12_init_184 : decode cX12_init 184 = .ok (.iconst 4, 1) := by decide +kernel
theorem dX12_init_185 : decode cX12_init 185 = .ok (.newarray .boolean, 2) := by decide +kernel
theorem dX12_init_187 : decode cX12_init 187 = .ok (.putfield 87, 3) := by decide +kernel
theorem dX12_init_190 : decode cX12_init 190 = .ok (.aload_n 0, 1) := by decide +kernel
theorem dX12_init_191 : decode cX12_init 191 = .ok (.bipush 64, 2) := by decide +kernel
theorem dX12_init_193 : decode cX12_init 193 = .ok (.newarray .int, 2) := by decide +kernel
theorem dX12_init_195 : decode cX12_init 195 = .ok (.putfield 91, 3) := by decide +kernel
theorem dX12_init_198 : decode cX12_init 198 = .ok (.aload_n 0, 1) := by decide +kernel
theorem dX12_init_199 : decode cX12_init 199 = .ok (.bipush 64, 2) := by decide +kernel
theorem dX12_init_201 : decode cX12_init 201 = .ok (.newarray .int, 2) := by decide +kernel
theorem dX12_init_203 : decode cX12_init 203 = .ok (.putfield 94, 3) := by decide +kernel
theorem dX12_init_206 : decode cX12_init 206 = .ok (.aload_n 0, 1) := by decide +kernel
theorem dX12_init_207 : decode cX12_init 207 = .ok (.bipush 64, 2) := by decide +kernel
theorem dX12_init_209 : decode cX12_init 209 = .ok (.newarray .int, 2) := by decide +kernel
theorem dX12_init_211 : decode cX12_init 211 = .ok (.putfield 97, 3) := by decide +kernel
theorem dX12_init_214 : decode cX12_init 214 = .ok (.aload_n 0, 1) := by decide +kernel
theorem dX12_init_215 : decode cX12_init 215 = .ok (.bipush 40, 2) := by decide +kernel
theorem dX12_init_217 : decode cX12_init 217 = .ok (.newarray .boolean, 2) := by decide +kernel
theorem dX12_init_219 : decode cX12_init 219 = .ok (.putfield 100, 3) := by decide +kernel
theorem dX12_init_222 : decode cX12_init 222 = .ok (.aload_n 0, 1) := by decide +kernel
theorem dX12_init_223 : decode cX12_init 223 = .ok (.bipush 20, 2) := by decide +kernel
theorem dX12_init_225 : decode cX12_init 225 = .ok (.newarray .int, 2) := by decide +kernel
theorem dX12_init_227 : decode cX12_init 227 = .ok (.putfield 103, 3) := by decide +kernel
theorem dX12_init_230 : decode cX12_init 230 = .ok (.aload_n 0, 1) := by decide +kernel
theorem dX12_init_231 : decode cX12_init 231 = .ok (.bipush 20, 2) := by decide +kernel
theorem dX12_init_233 : decode cX12_init 233 = .ok (.newarray .int, 2) := by decide +kernel
theorem dX12_init_235 : decode cX12_init 235 = .ok (.putfield 106, 3) := by decide +kernel
theorem dX12_init_238 : decode cX12_init 238 = .ok (.aload_n 0, 1) := by decide +kernel
theorem dX12_init_239 : decode cX12_init 239 = .ok (.bipush 20, 2) := by decide +kernel
theorem dX12_init_241 : decode cX12_init 241 = .ok (.newarray .int, 2) := by decide +kernel
theorem dX12_init_243 : decode cX12_init 243 = .ok (.putfield 109, 3) := by decide +kernel
theorem dX12_init_246 : decode cX12_init 246 = .ok (.aload_n 0, 1) := by decide +kernel
theorem dX12_init_247 : decode cX12_init 247 = .ok (.bipush 40, 2) := by decide +kernel
theorem dX12_init_249 : decode cX12_init 249 = .ok (.newarray .int, 2) := by decide +kernel
theorem dX12_init_251 : decode cX12_init 251 = .ok (.putfield 112, 3) := by decide +kernel
theorem dX12_init_254 : decode cX12_init 254 = .ok (.aload_n 0, 1) := by decide +kernel
theorem dX12_init_255 : decode cX12_init 255 = .ok (.bipush 64, 2) := by decide +kernel
theorem dX12_init_257 : decode cX12_init 257 = .ok (.newarray .int, 2) := by decide +kernel
theorem dX12_init_259 : decode cX12_init 259 = .ok (.putfield 115, 3) := by decide +kernel
theorem dX12_init_262 : decode cX12_init 262 = .ok (.aload_n 0, 1) := by decide +kernel
theorem dX12_init_263 : decode cX12_init 263 = .ok (.bipush 64, 2) := by decide +kernel
theorem dX12_init_265 : decode cX12_init 265 = .ok (.newarray .int, 2) := by decide +kernel
theorem dX12_init_267 : decode cX12_init 267 = .ok (.putfield 118, 3) := by decide +kernel
theorem dX12_init_270 : decode cX12_init 270 = .ok (.aload_n 0, 1) := by decide +kernel
theorem dX12_init_271 : decode cX12_init 271 = .ok (.bipush 60, 2) := by decide +kernel
theorem dX12_init_273 : decode cX12_init 273 = .ok (.newarray .int, 2) := by decide +kernel
theorem dX12_init_275 : decode cX12_init 275 = .ok (.putfield 121, 3) := by decide +kernel
theorem dX12_init_278 : decode cX12_init 278 = .ok (.aload_n 0, 1) := by decide +kernel
theorem dX12_init_279 : decode cX12_init 279 = .ok (.bipush 21, 2) := by decide +kernel
theorem dX12_init_281 : decode cX12_init 281 = .ok (.newarray .int, 2) := by decide +kernel
theorem dX12_init_283 : decode cX12_init 283 = .ok (.putfield 124, 3) := by decide +kernel
theorem dX12_init_286 : decode cX12_init 286 = .ok (.aload_n 0, 1) := by decide +kernel
theorem dX12_init_287 : decode cX12_init 287 = .ok (.iconst 4, 1) := by decide +kernel
theorem dX12_init_288 : decode cX12_init 288 = .ok (.newarray .int, 2) := by decide +kernel
theorem dX12_init_290 : decode cX12_init 290 = .ok (.putfield 127, 3) := by decide +kernel
theorem dX12_init_293 : decode cX12_init 293 = .ok (.aload_n 0, 1) := by decide +kernel
theorem dX12_init_294 : decode cX12_init 294 = .ok (.iconst 4, 1) := by decide +kernel
theorem dX12_init_295 : decode cX12_init 295 = .ok (.newarray .int, 2) := by decide +kernel
theorem dX12_init_297 : decode cX12_init 297 = .ok (.putfield 130, 3) := by decide +kernel
theorem dX12_init_300 : decode cX12_init 300 = .ok (.aload_n 0, 1) := by decide +kernel
theorem dX12_init_301 : decode cX12_init 301 = .ok (.iconst 4, 1) := by decide +kernel
theorem dX12_init_302 : decode cX12_init 302 = .ok (.newarray .int, 2) := by decide +kernel
theorem dX12_init_304 : decode cX12_init 304 = .ok (.putfield 133, 3) := by decide +kernel
theorem dX12_init_307 : decode cX12_init 307 = .ok (.iconst 0, 1) := by decide +kernel
theorem dX12_init_308 : decode cX12_init 308 = .ok (.istore_n 1, 1) := by decide +kernel
theorem dX12_init_309 : decode cX12_init 309 = .ok (.iload_n 1, 1) := by decide +kernel
theorem dX12_init_310 : decode cX12_init 310 = .ok (.iconst 4, 1) := by decide +kernel
theorem dX12_init_311 : decode cX12_init 311 = .ok (.if_icmp .ge 16, 3) := by decide +kernel
theorem dX12_init_314 : decode cX12_init 314 = .ok (.aload_n 0, 1) := by decide +kernel
theorem dX12_init_315 : decode cX12_init 315 = .ok (.getfield 130, 3) := by decide +kernel
theorem dX12_init_318 : decode cX12_init 318 = .ok (.iload_n 1, 1) := by decide +kernel
theorem dX12_init_319 : decode cX12_init 319 = .ok (.iconst 1, 1) := by decide +kernel
theorem dX12_init_320 : decode cX12_init 320 = .ok (.iastore, 1) := by decide +kernel
theorem dX12_init_321 : decode cX12_init 321 = .ok (.iinc 1 1, 3) := by decide +kernel
theorem dX12_init_324 : decode cX12_init 324 = .ok (.goto (-15), 3) := by decide +kernel
theorem dX12_init_327 : decode cX12_init 327 = .ok (.return_, 1) := by decide +kernel
set_option maxHeartbeats 4000000 in
set_option maxRecDepth 100000 in
theorem c_X12_init {P : PP} {a : Nat} {S : List Nat} (ha : a ∈ pL P) (haK : pK P a = 12) (hr : ∀ k, pR P a k = none) (hg : xAG (a :: S) P) (z : zG P) (hS : S = []) (hz : ∀ j, pI P a j = 0) : CtrV yX12_init cX12_init 2 none ({ frames := 2, cells := 35, slots := 8708, locals := 128 } : Room) 35 8708 P [.ref a] (fun P2 => FM P2 a) := by
  subst hS
  have D0 := yDn.zero ha hg z hr
  refine enV (lv := [(0, .ref a)]) (by decide) (Nat.le_of_ble_eq_true rfl) rfl (fun E D cy C Ci0 ret => ?_)
  have Ci9 := Ci0 rfl
  refine g_aload_n C dX12_init_0 rfl 0 rfl ?_
  refine g_objInit C oi_X12_18 oi_inst oi_code (by decide) (by decide) (Nat.le_of_ble_eq_true rfl) dX12_init_1 ?_
  refine g_aload_n C dX12_init_4 rfl 0 rfl ?_
  refine g_sipush (v := 1000) C dX12_init_5 (by decide) ?_
  refine g_newI (N := 1000) C ac_int (by decide) rfl (by decide) (by decide) (by decide) dX12_init_8 (fun q1257 h1258 => ?_)
  refine g_putFR C fi_X12_14 Ci9 ⟨_, rfl, rfl⟩ rfl ((xExt.new (S := []) h1258).1 _ D0.mem).1 (((xExt.new (S := []) h1258).1 _ D0.mem).2.1.trans (D0.kind.trans haK)) dX12_init_10 ?_
  have D1259 := D0.arr (k := 1) h1258 (show shp (pK P a) 1 = some (13, 1000) by rw [haK]; rfl) (by decide) (by decide)
  generalize pSR (pNw P q1257 13 1000) a 1 (some q1257) = P1260 at D1259  ⊢
  refine g_aload_n C dX12_init_13 rfl 0 rfl ?_
  refine g_sipush (v := 1002) C dX12_init_14 (by decide) ?_
  refine g_newI (N := 1002) C ac_int (by decide) rfl (by decide) (by decide) (by decide) dX12_init_17 (fun q1261 h1262 => ?_)
  refine g_putFR C fi_X12_24 Ci9 ⟨_, rfl, rfl⟩ rfl ((xExt.new (S := []) h1262).1 _ D1259.mem).1 (((xExt.new (S := []) h1262).1 _ D1259.mem).2.1.trans (D1259.kind.trans haK)) dX12_init_19 ?_
  have D1263 := D1259.arr (k := 4) h1262 (show shp (pK P a) 4 = some (13, 1002) by rw [haK]; rfl) (by decide) (by decide)
  generalize pSR (pNw P1260 q1261 13 1002) a 4 (some q1261) = P1264 at D1263  ⊢
  refine g_aload_n C dX12_init_22 rfl 0 rfl ?_
  refine g_sipush (v := 1002) C dX12_init_23 (by decide) ?_
  refine g_newI (N := 1002) C ac_int (by decide) rfl (by decide) (by decide) (by decide) dX12_init_26 (fun q1265 h1266 => ?_)
  refine g_putFR C fi_X12_27 Ci9 ⟨_, rfl, rfl⟩ rfl ((xExt.new (S := []) h1266).1 _ D1263.mem).1 (((xExt.new (S := []) h1266).1 _ D1263.mem).2.1.trans (D1263.kind.trans haK)) dX12_init_28 ?_
  have D1267 := D1263.arr (k := 5) h1266 (show shp (pK P a) 5 = some (13, 1002) by rw [haK]; rfl) (by decide) (by decide)
  generalize pSR (pNw P1264 q1265 13 1002) a 5 (some q1265) = P1268 at D1267  ⊢
  refine g_aload_n C dX12_init_31 rfl 0 rfl ?_
  refine g_sipush (v := 1002) C dX12_init_32 (by decide) ?_
  refine g_newJ (N := 1002) C ac_long (by decide) rfl (by decide) (by decide) (by decide) dX12_init_35 (fun q1269 h1270 => ?_)
  refine g_putFR C fi_X12_30 Ci9 ⟨_, rfl, rfl⟩ rfl ((xExt.new (S := []) h1270).1 _ D1267.mem).1 (((xExt.new (S := []) h1270).1 _ D1267.mem).2.1.trans (D1267.kind.trans haK)) dX12_init_37 ?_
  have D1271 := D1267.arr (k := 6) h1270 (show shp (pK P a) 6 = some (14, 1002) by rw [haK]; rfl) (by decide) (by decide)
  generalize pSR (pNw P1268 q1269 14 1002) a 6 (some q1269) = P1272 at D1271  ⊢
  refine g_aload_n C dX12_init_40 rfl 0 rfl ?_
  refine g_iconst (v := 4) C dX12_init_41 (by decide) ?_
  refine g_newJ (N := 4) C ac_long (by decide) rfl (by decide) (by decide) (by decide) dX12_init_42 (fun q1273 h1274 => ?_)
  have D1275 := D1271.newA (kd := 14) (n := 4) h1274 (by decide) (by decide)
  have Q1276 := yQ.new (n := 4) D1271 h1274
  generalize pNw P1272 q1273 14 4 = P1277 at D1275 Q1276 ⊢
  refine g_dup C dX12_init_44 rfl ?_
  refine g_iconst (v := 0) C dX12_init_45 (by decide) ?_
  refine g_ldc2 (v := 765438) C kl_X12_34 dX12_init_46 ?_
  refine g_topl (fun y1278 _ => ?_)
  refine g_last (j := 0) C Q1276.1 Q1276.2.1 (IX.litn (j := 0) Q1276.2.2.1 rfl (by decide) (by decide)) dX12_init_49 ?_
  have D1279 := D1275.setJ (i := 0) (v := y1278) Q1276.2.2.2.1
  have Q1280 := Q1276.setJ (b := q1273) (i := 0) (v := y1278)
  generalize pSJ P1277 q1273 0 y1278 = P1281 at D1279 Q1280 ⊢
  refine g_dup C dX12_init_50 rfl ?_
  refine g_iconst (v := 1) C dX12_init_51 (by decide) ?_
  refine g_ldc2 (v := 11726208) C kl_X12_36 dX12_init_52 ?_
  refine g_topl (fun y1282 _ => ?_)
  refine g_last (j := 1) C Q1280.1 Q1280.2.1 (IX.litn (j := 1) Q1280.2.2.1 rfl (by decide) (by decide)) dX12_init_55 ?_
  have D1283 := D1279.setJ (i := 1) (v := y1282) Q1280.2.2.2.1
  have Q1284 := Q1280.setJ (b := q1273) (i := 1) (v := y1282)
  generalize pSJ P1281 q1273 1 y1282 = P1285 at D1283 Q1284 ⊢
  refine g_dup C dX12_init_56 rfl ?_
  refine g_iconst (v := 2) C dX12_init_57 (by decide) ?_
  refine g_ldc2 (v := 26801) C kl_X12_38 dX12_init_58 ?_
  refine g_topl (fun y1286 _ => ?_)
  refine g_last (j := 2) C Q1284.1 Q1284.2.1 (IX.litn (j := 2) Q1284.2.2.1 rfl (by decide) (by decide)) dX12_init_61 ?_
  have D1287 := D1283.setJ (i := 2) (v := y1286) Q1284.2.2.2.1
  have Q1288 := Q1284.setJ (b := q1273) (i := 2) (v := y1286)
  generalize pSJ P1285 q1273 2 y1286 = P1289 at D1287 Q1288 ⊢
  refine g_dup C dX12_init_62 rfl ?_
  refine g_iconst (v := 3) C dX12_init_63 (by decide) ?_
  refine g_ldc2 (v := 969301) C kl_X12_40 dX12_init_64 ?_
  refine g_topl (fun y1290 _ => ?_)
  refine g_last (j := 3) C Q1288.1 Q1288.2.1 (IX.litn (j := 3) Q1288.2.2.1 rfl (by decide) (by decide)) dX12_init_67 ?_
  have D1291 := D1287.setJ (i := 3) (v := y1290) Q1288.2.2.2.1
  have Q1292 := Q1288.setJ (b := q1273) (i := 3) (v := y1290)
  generalize pSJ P1289 q1273 3 y1290 = P1293 at D1291 Q1292 ⊢
  refine g_putFR C fi_X12_42 Ci9 ⟨_, rfl, rfl⟩ rfl D1291.mem (D1291.kind.trans haK) dX12_init_68 ?_
  have D1294 := D1291.put (k := 9) (show shp (pK P a) 9 = some (14, 4) by rw [haK]; rfl) Q1292.1 Q1292.2.1 Q1292.2.2.1 Q1292.2.2.2.1 Q1292.2.2.2.2.1 (fun _ => Q1292.2.2.2.2.2)
  generalize pSR P1293 a 9 (some q1273) = P1295 at D1294 ⊢
  refine g_aload_n C dX12_init_71 rfl 0 rfl ?_
  refine g_iconst (v := 2) C dX12_init_72 (by decide) ?_
  refine g_newI (N := 2) C ac_int (by decide) rfl (by decide) (by decide) (by decide) dX12_init_73 (fun q1296 h1297 => ?_)
  refine g_putFR C fi_X12_45 Ci9 ⟨_, rfl, rfl⟩ rfl ((xExt.new (S := []) h1297).1 _ D1294.mem).1 (((xExt.new (S := []) h1297).1 _ D1294.mem).2.1.trans (D1294.kind.trans haK)) dX12_init_75 ?_
  have D1298 := D1294.arr (k := 10) h1297 (show shp (pK P a) 10 = some (13, 2) by rw [haK]; rfl) (by decide) (by decide)
  generalize pSR (pNw P1295 q1296 13 2) a 10 (some q1296) = P1299 at D1298  ⊢
  refine g_aload_n C dX12_init_78 rfl 0 rfl ?_
  refine g_bipush (v := 32) C dX12_init_79 (by decide) ?_
  refine g_newI (N := 32) C ac_int (by decide) rfl (by decide) (by decide) (by decide) dX12_init_81 (fun q1300 h1301 => ?_)
  refine g_putFR C fi_X12_48 Ci9 ⟨_, rfl, rfl⟩ rfl ((xExt.new (S := []) h1301).1 _ D1298.mem).1 (((xExt.new (S := []) h1301).1 _ D1298.mem).2.1.trans (D1298.kind.trans haK)) dX12_init_83 ?_
  have D1302 := D1298.arr (k := 11) h1301 (show shp (pK P a) 11 = some (13, 32) by rw [haK]; rfl) (by decide) (by decide)
  generalize pSR (pNw P1299 q1300 13 32) a 11 (some q1300) = P1303 at D1302  ⊢
  refine g_aload_n C dX12_init_86 rfl 0 rfl ?_
  refine g_bipush (v := 63) C dX12_init_87 (by decide) ?_
  refine g_newI (N := 63) C ac_int (by decide) rfl (by decide) (by decide) (by decide) dX12_init_89 (fun q1304 h1305 => ?_)
  refine g_putFR C fi_X12_51 Ci9 ⟨_, rfl, rfl⟩ rfl ((xExt.new (S := []) h1305).1 _ D1302.mem).1 (((xExt.new (S := []) h1305).1 _ D1302.mem).2.1.trans (D1302.kind.trans haK)) dX12_init_91 ?_
  have D1306 := D1302.arr (k := 12) h1305 (show shp (pK P a) 12 = some (13, 63) by rw [haK]; rfl) (by decide) (by decide)
  generalize pSR (pNw P1303 q1304 13 63) a 12 (some q1304) = P1307 at D1306  ⊢
  refine g_aload_n C dX12_init_94 rfl 0 rfl ?_
  refine g_iconst (v := 3) C dX12_init_95 (by decide) ?_
  refine g_newI (N := 3) C ac_int (by decide) rfl (by decide) (by decide) (by decide) dX12_init_96 (fun q1308 h1309 => ?_)
  refine g_putFR C fi_X12_54 Ci9 ⟨_, rfl, rfl⟩ rfl ((xExt.new (S := []) h1309).1 _ D1306.mem).1 (((xExt.new (S := []) h1309).1 _ D1306.mem).2.1.trans (D1306.kind.trans haK)) dX12_init_98 ?_
  have D1310 := D1306.arr (k := 13) h1309 (show shp (pK P a) 13 = some (13, 3) by rw [haK]; rfl) (by decide) (by decide)
  generalize pSR (pNw P1307 q1308 13 3) a 13 (some q1308) = P1311 at D1310  ⊢
  refine g_aload_n C dX12_init_101 rfl 0 rfl ?_
  refine g_iconst (v := 3) C dX12_init_102 (by decide) ?_
  refine g_newI (N := 3) C ac_int (by decide) rfl (by decide) (by decide) (by decide) dX12_init_103 (fun q1312 h1313 => ?_)
  refine g_putFR C fi_X12_57 Ci9 ⟨_, rfl, rfl⟩ rfl ((xExt.new (S := []) h1313).1 _ D1310.mem).1 (((xExt.new (S := []) h1313).1 _ D1310.mem).2.1.trans (D1310.kind.trans haK)) dX12_init_105 ?_
  have D1314 := D1310.arr (k := 14) h1313 (show shp (pK P a) 14 = some (13, 3) by rw [haK]; rfl) (by decide) (by decide)
  generalize pSR (pNw P1311 q1312 13 3) a 14 (some q1312) = P1315 at D1314  ⊢
  refine g_aload_n C dX12_init_108 rfl 0 rfl ?_
  refine g_iconst (v := 3) C dX12_init_109 (by decide) ?_
  refine g_newI (N := 3) C ac_int (by decide) rfl (by decide) (by decide) (by decide) dX12_init_110 (fun q1316 h1317 => ?_)
  refine g_putFR C fi_X12_60 Ci9 ⟨_, rfl, rfl⟩ rfl ((xExt.new (S := []) h1317).1 _ D1314.mem).1 (((xExt.new (S := []) h1317).1 _ D1314.mem).2.1.trans (D1314.kind.trans haK)) dX12_init_112 ?_
  have D1318 := D1314.arr (k := 15) h1317 (show shp (pK P a) 15 = some (13, 3) by rw [haK]; rfl) (by decide) (by decide)
  generalize pSR (pNw P1315 q1316 13 3) a 15 (some q1316) = P1319 at D1318  ⊢
  refine g_aload_n C dX12_init_115 rfl 0 rfl ?_
  refine g_bipush (v := 12) C dX12_init_116 (by decide) ?_
  refine g_newI (N := 12) C ac_int (by decide) rfl (by decide) (by decide) (by decide) dX12_init_118 (fun q1320 h1321 => ?_)
  refine g_putFR C fi_X12_63 Ci9 ⟨_, rfl, rfl⟩ rfl ((xExt.new (S := []) h1321).1 _ D1318.mem).1 (((xExt.new (S := []) h1321).1 _ D1318.mem).2.1.trans (D1318.kind.trans haK)) dX12_init_120 ?_
  have D1322 := D1318.arr (k := 16) h1321 (show shp (pK P a) 16 = some (13, 12) by rw [haK]; rfl) (by decide) (by decide)
  generalize pSR (pNw P1319 q1320 13 12) a 16 (some q1320) = P1323 at D1322  ⊢
  refine g_aload_n C dX12_init_123 rfl 0 rfl ?_
  refine g_iconst (v := 3) C dX12_init_124 (by decide) ?_
  refine g_newI (N := 3) C ac_int (by decide) rfl (by decide) (by decide) (by decide) dX12_init_125 (fun q1324 h1325 => ?_)
  refine g_putFR C fi_X12_66 Ci9 ⟨_, rfl, rfl⟩ rfl ((xExt.new (S := []) h1325).1 _ D1322.mem).1 (((xExt.new (S := []) h1325).1 _ D1322.mem).2.1.trans (D1322.kind.trans haK)) dX12_init_127 ?_
  have D1326 := D1322.arr (k := 17) h1325 (show shp (pK P a) 17 = some (13, 3) by rw [haK]; rfl) (by decide) (by decide)
  generalize pSR (pNw P1323 q1324 13 3) a 17 (some q1324) = P1327 at D1326  ⊢
  refine g_aload_n C dX12_init_130 rfl 0 rfl ?_
  refine g_bipush (v := 20) C dX12_init_131 (by decide) ?_
  refine g_newI (N := 20) C ac_int (by decide) rfl (by decide) (by decide) (by decide) dX12_init_133 (fun q1328 h1329 => ?_)
  refine g_putFR C fi_X12_69 Ci9 ⟨_, rfl, rfl⟩ rfl ((xExt.new (S := []) h1329).1 _ D1326.mem).1 (((xExt.new (S := []) h1329).1 _ D1326.mem).2.1.trans (D1326.kind.trans haK)) dX12_init_135 ?_
  have D1330 := D1326.arr (k := 20) h1329 (show shp (pK P a) 20 = some (13, 20) by rw [haK]; rfl) (by decide) (by decide)
  generalize pSR (pNw P1327 q1328 13 20) a 20 (some q1328) = P1331 at D1330  ⊢
  refine g_aload_n C dX12_init_138 rfl 0 rfl ?_
  refine g_sipush (v := 800) C dX12_init_139 (by decide) ?_
  refine g_newI (N := 800) C ac_int (by decide) rfl (by decide) (by decide) (by decide) dX12_init_142 (fun q1332 h1333 => ?_)
  refine g_putFR C fi_X12_72 Ci9 ⟨_, rfl, rfl⟩ rfl ((xExt.new (S := []) h1333).1 _ D1330.mem).1 (((xExt.new (S := []) h1333).1 _ D1330.mem).2.1.trans (D1330.kind.trans haK)) dX12_init_144 ?_
  have D1334 := D1330.arr (k := 21) h1333 (show shp (pK P a) 21 = some (13, 800) by rw [haK]; rfl) (by decide) (by decide)
  generalize pSR (pNw P1331 q1332 13 800) a 21 (some q1332) = P1335 at D1334  ⊢
  refine g_aload_n C dX12_init_147 rfl 0 rfl ?_
  refine g_sipush (v := 800) C dX12_init_148 (by decide) ?_
  refine g_newI (N := 800) C ac_int (by decide) rfl (by decide) (by decide) (by decide) dX12_init_151 (fun q1336 h1337 => ?_)
  refine g_putFR C fi_X12_75 Ci9 ⟨_, rfl, rfl⟩ rfl ((xExt.new (S := []) h1337).1 _ D1334.mem).1 (((xExt.new (S := []) h1337).1 _ D1334.mem).2.1.trans (D1334.kind.trans haK)) dX12_init_153 ?_
  have D1338 := D1334.arr (k := 22) h1337 (show shp (pK P a) 22 = some (13, 800) by rw [haK]; rfl) (by decide) (by decide)
  generalize pSR (pNw P1335 q1336 13 800) a 22 (some q1336) = P1339 at D1338  ⊢
  refine g_aload_n C dX12_init_156 rfl 0 rfl ?_
  refine g_sipush (v := 800) C dX12_init_157 (by decide) ?_
  refine g_newI (N := 800) C ac_int (by decide) rfl (by decide) (by decide) (by decide) dX12_init_160 (fun q1340 h1341 => ?_)
  refine g_putFR C fi_X12_78 Ci9 ⟨_, rfl, rfl⟩ rfl ((xExt.new (S := []) h1341).1 _ D1338.mem).1 (((xExt.new (S := []) h1341).1 _ D1338.mem).2.1.trans (D1338.kind.trans haK)) dX12_init_162 ?_
  have D1342 := D1338.arr (k := 23) h1341 (show shp (pK P a) 23 = some (13, 800) by rw [haK]; rfl) (by decide) (by decide)
  generalize pSR (pNw P1339 q1340 13 800) a 23 (some q1340) = P1343 at D1342  ⊢
  refine g_aload_n C dX12_init_165 rfl 0 rfl ?_
  refine g_sipush (v := 800) C dX12_init_166 (by decide) ?_
  refine g_newI (N := 800) C ac_int (by decide) rfl (by decide) (by decide) (by decide) dX12_init_169 (fun q1344 h1345 => ?_)
  refine g_putFR C fi_X12_81 Ci9 ⟨_, rfl, rfl⟩ rfl ((xExt.new (S := []) h1345).1 _ D1342.mem).1 (((xExt.new (S := []) h1345).1 _ D1342.mem).2.1.trans (D1342.kind.trans haK)) dX12_init_171 ?_
  have D1346 := D1342.arr (k := 24) h1345 (show shp (pK P a) 24 = some (13, 800) by rw [haK]; rfl) (by decide) (by decide)
  generalize pSR (pNw P1343 q1344 13 800) a 24 (some q1344) = P1347 at D1346  ⊢
  refine g_aload_n C dX12_init_174 rfl 0 rfl ?_
  refine g_sipush (v := 800) C dX12_init_175 (by decide) ?_
  refine g_newI (N := 800) C ac_int (by decide) rfl (by decide) (by decide) (by decide) dX12_init_178 (fun q1348 h1349 => ?_)
  refine g_putFR C fi_X12_84 Ci9 ⟨_, rfl, rfl⟩ rfl ((xExt.new (S := []) h1349).1 _ D1346.mem).1 (((xExt.new (S := []) h1349).1 _ D1346.mem).2.1.trans (D1346.kind.trans haK)) dX12_init_180 ?_
  have D1350 := D1346.arr (k := 25) h1349 (show shp (pK P a) 25 = some (13, 800) by rw [haK]; rfl) (by decide) (by decide)
  generalize pSR (pNw P1347 q1348 13 800) a 25 (some q1348) = P1351 at D1350  ⊢
  refine g_aload_n C dX12_init_183 rfl 0 rfl ?_
  refine g_iconst (v := 4) C dX12_init_184 (by decide) ?_
  refine g_newZ (N := 4) C ac_boolean (by decide) rfl (by decide) (by decide) (by decide) dX12_init_185 (fun q1352 h1353 => ?_)
  refine g_putFR C fi_X12_87 Ci9 ⟨_, rfl, rfl⟩ rfl ((xExt.new (S := []) h1353).1 _ D1350.mem).1 (((xExt.new (S := []) h1353).1 _ D1350.mem).2.1.trans (D1350.kind.trans haK)) dX12_init_187 ?_
  have D1354 := D1350.arr (k := 26) h1353 (show shp (pK P a) 26 = some (15, 4) by rw [haK]; rfl) (by decide) (by decide)
  generalize pSR (pNw P1351 q1352 15 4) a 26 (some q1352) = P1355 at D1354  ⊢
  refine g_aload_n C dX12_init_190 rfl 0 rfl ?_
  refine g_bipush (v := 64) C dX12_init_191 (by decide) ?_
  refine g_newI (N := 64) C ac_int (by decide) rfl (by decide) (by decide) (by decide) dX12_init_193 (fun q1356 h1357 => ?_)
  refine g_putFR C fi_X12_91 Ci9 ⟨_, rfl, rfl⟩ rfl ((xExt.new (S := []) h1357).1 _ D1354.mem).1 (((xExt.new (S := []) h1357).1 _ D1354.mem).2.1.trans (D1354.kind.trans haK)) dX12_init_195 ?_
  have D1358 := D1354.arr (k := 29) h1357 (show shp (pK P a) 29 = some (13, 64) by rw [haK]; rfl) (by decide) (by decide)
  generalize pSR (pNw P1355 q1356 13 64) a 29 (some q1356) = P1359 at D1358  ⊢
  refine g_aload_n C dX12_init_198 rfl 0 rfl ?_
  refine g_bipush (v := 64) C dX12_init_199 (by decide) ?_
  refine g_newI (N := 64) C ac_int (by decide) rfl (by decide) (by decide) (by decide) dX12_init_201 (fun q1360 h1361 => ?_)
  refine g_putFR C fi_X12_94 Ci9 ⟨_, rfl, rfl⟩ rfl ((xExt.new (S := []) h1361).1 _ D1358.mem).1 (((xExt.new (S := []) h1361).1 _ D1358.mem).2.1.trans (D1358.kind.trans haK)) dX12_init_203 ?_
  have D1362 := D1358.arr (k := 30) h1361 (show shp (pK P a) 30 = some (13, 64) by rw [haK]; rfl) (by decide) (by decide)
  generalize pSR (pNw P1359 q1360 13 64) a 30 (some q1360) = P1363 at D1362  ⊢
  refine g_aload_n C dX12_init_206 rfl 0 rfl ?_
  refine g_bipush (v := 64) C dX12_init_207 (by decide) ?_
  refine g_newI (N := 64) C ac_int (by decide) rfl (by decide) (by decide) (by decide) dX12_init_209 (fun q1364 h1365 => ?_)
  refine g_putFR C fi_X12_97 Ci9 ⟨_, rfl, rfl⟩ rfl ((xExt.new (S := []) h1365).1 _ D1362.mem).1 (((xExt.new (S := []) h1365).1 _ D1362.mem).2.1.trans (D1362.kind.trans haK)) dX12_init_211 ?_
  have D1366 := D1362.arr (k := 31) h1365 (show shp (pK P a) 31 = some (13, 64) by rw [haK]; rfl) (by decide) (by decide)
  generalize pSR (pNw P1363 q1364 13 64) a 31 (some q1364) = P1367 at D1366  ⊢
  refine g_aload_n C dX12_init_214 rfl 0 rfl ?_
  refine g_bipush (v := 40) C dX12_init_215 (by decide) ?_
  refine g_newZ (N := 40) C ac_boolean (by decide) rfl (by decide) (by decide) (by decide) dX12_init_217 (fun q1368 h1369 => ?_)
  refine g_putFR C fi_X12_100 Ci9 ⟨_, rfl, rfl⟩ rfl ((xExt.new (S := []) h1369).1 _ D1366.mem).1 (((xExt.new (S := []) h1369).1 _ D1366.mem).2.1.trans (D1366.kind.trans haK)) dX12_init_219 ?_
  have D1370 := D1366.arr (k := 32) h1369 (show shp (pK P a) 32 = some (15, 40) by rw [haK]; rfl) (by decide) (by decide)
  generalize pSR (pNw P1367 q1368 15 40) a 32 (some q1368) = P1371 at D1370  ⊢
  refine g_aload_n C dX12_init_222 rfl 0 rfl ?_
  refine g_bipush (v := 20) C dX12_init_223 (by decide) ?_
  refine g_newI (N := 20) C ac_int (by decide) rfl (by decide) (by decide) (by decide) dX12_init_225 (fun q1372 h1373 => ?_)
  refine g_putFR C fi_X12_103 Ci9 ⟨_, rfl, rfl⟩ rfl ((xExt.new (S := []) h1373).1 _ D1370.mem).1 (((xExt.new (S := []) h1373).1 _ D1370.mem).2.1.trans (D1370.kind.trans haK)) dX12_init_227 ?_
  have D1374 := D1370.arr (k := 34) h1373 (show shp (pK P a) 34 = some (13, 20) by rw [haK]; rfl) (by decide) (by decide)
  generalize pSR (pNw P1371 q1372 13 20) a 34 (some q1372) = P1375 at D1374  ⊢
  refine g_aload_n C dX12_init_230 rfl 0 rfl ?_
  refine g_bipush (v := 20) C dX12_init_231 (by decide) ?_
  refine g_newI (N := 20) C ac_int (by decide) rfl (by decide) (by decide) (by decide) dX12_init_233 (fun q1376 h1377 => ?_)
  refine g_putFR C fi_X12_106 Ci9 ⟨_, rfl, rfl⟩ rfl ((xExt.new (S := []) h1377).1 _ D1374.mem).1 (((xExt.new (S := []) h1377).1 _ D1374.mem).2.1.trans (D1374.kind.trans haK)) dX12_init_235 ?_
  have D1378 := D1374.arr (k := 37) h1377 (show shp (pK P a) 37 = some (13, 20) by rw [haK]; rfl) (by decide) (by decide)
  generalize pSR (pNw P1375 q1376 13 20) a 37 (some q1376) = P1379 at D1378  ⊢
  refine g_aload_n C dX12_init_238 rfl 0 rfl ?_
  refine g_bipush (v := 20) C dX12_init_239 (by decide) ?_
  refine g_newI (N := 20) C ac_int (by decide) rfl (by decide) (by decide) (by decide) dX12_init_241 (fun q1380 h1381 => ?_)
  refine g_putFR C fi_X12_109 Ci9 ⟨_, rfl, rfl⟩ rfl ((xExt.new (S := []) h1381).1 _ D1378.mem).1 (((xExt.new (S := []) h1381).1 _ D1378.mem).2.1.trans (D1378.kind.trans haK)) dX12_init_243 ?_
  have D1382 := D1378.arr (k := 38) h1381 (show shp (pK P a) 38 = some (13, 20) by rw [haK]; rfl) (by decide) (by decide)
  generalize pSR (pNw P1379 q1380 13 20) a 38 (some q1380) = P1383 at D1382  ⊢
  refine g_aload_n C dX12_init_246 rfl 0 rfl ?_
  refine g_bipush (v := 40) C dX12_init_247 (by decide) ?_
  refine g_newI (N := 40) C ac_int (by decide) rfl (by decide) (by decide) (by decide) dX12_init_249 (fun q1384 h1385 => ?_)
  refine g_putFR C fi_X12_112 Ci9 ⟨_, rfl, rfl⟩ rfl ((xExt.new (S := []) h1385).1 _ D1382.mem).1 (((xExt.new (S := []) h1385).1 _ D1382.mem).2.1.trans (D1382.kind.trans haK)) dX12_init_251 ?_
  have D1386 := D1382.arr (k := 40) h1385 (show shp (pK P a) 40 = some (13, 40) by rw [haK]; rfl) (by decide) (by decide)
  generalize pSR (pNw P1383 q1384 13 40) a 40 (some q1384) = P1387 at D1386  ⊢
  refine g_aload_n C dX12_init_254 rfl 0 rfl ?_
  refine g_bipush (v := 64) C dX12_init_255 (by decide) ?_
  refine g_newI (N := 64) C ac_int (by decide) rfl (by decide) (by decide) (by decide) dX12_init_257 (fun q1388 h1389 => ?_)
  refine g_putFR C fi_X12_115 Ci9 ⟨_, rfl, rfl⟩ rfl ((xExt.new (S := []) h1389).1 _ D1386.mem).1 (((xExt.new (S := []) h1389).1 _ D1386.mem).2.1.trans (D1386.kind.trans haK)) dX12_init_259 ?_
  have D1390 := D1386.arr (k := 41) h1389 (show shp (pK P a) 41 = some (13, 64) by rw [haK]; rfl) (by decide) (by decide)
  generalize pSR (pNw P1387 q1388 13 64) a 41 (some q1388) = P1391 at D1390  ⊢
  refine g_aload_n C dX12_init_262 rfl 0 rfl ?_
  refine g_bipush (v := 64) C dX12_init_263 (by decide) ?_
  refine g_newI (N := 64) C ac_int (by decide) rfl (by decide) (by decide) (by decide) dX12_init_265 (fun q1392 h1393 => ?_)
  refine g_putFR C fi_X12_118 Ci9 ⟨_, rfl, rfl⟩ rfl ((xExt.new (S := []) h1393).1 _ D1390.mem).1 (((xExt.new (S := []) h1393).1 _ D1390.mem).2.1.trans (D1390.kind.trans haK)) dX12_init_267 ?_
  have D1394 := D1390.arr (k := 42) h1393 (show shp (pK P a) 42 = some (13, 64) by rw [haK]; rfl) (by decide) (by decide)
  generalize pSR (pNw P1391 q1392 13 64) a 42 (some q1392) = P1395 at D1394  ⊢
  refine g_aload_n C dX12_init_270 rfl 0 rfl ?_
  refine g_bipush (v := 60) C dX12_init_271 (by decide) ?_
  refine g_newI (N := 60) C ac_int (by decide) rfl (by decide) (by decide) (by decide) dX12_init_273 (fun q1396 h1397 => ?_)
  refine g_putFR C fi_X12_121 Ci9 ⟨_, rfl, rfl⟩ rfl ((xExt.new (S := []) h1397).1 _ D1394.mem).1 (((xExt.new (S := []) h1397).1 _ D1394.mem).2.1.trans (D1394.kind.trans haK)) dX12_init_275 ?_
  have D1398 := D1394.arr (k := 43) h1397 (show shp (pK P a) 43 = some (13, 60) by rw [haK]; rfl) (by decide) (by decide)
  generalize pSR (pNw P1395 q1396 13 60) a 43 (some q1396) = P1399 at D1398  ⊢
  refine g_aload_n C dX12_init_278 rfl 0 rfl ?_
  refine g_bipush (v := 21) C dX12_init_279 (by decide) ?_
  refine g_newI (N := 21) C ac_int (by decide) rfl (by decide) (by decide) (by decide) dX12_init_281 (fun q1400 h1401 => ?_)
  refine g_putFR C fi_X12_124 Ci9 ⟨_, rfl, rfl⟩ rfl ((xExt.new (S := []) h1401).1 _ D1398.mem).1 (((xExt.new (S := []) h1401).1 _ D1398.mem).2.1.trans (D1398.kind.trans haK)) dX12_init_283 ?_
  have D1402 := D1398.arr (k := 44) h1401 (show shp (pK P a) 44 = some (13, 21) by rw [haK]; rfl) (by decide) (by decide)
  generalize pSR (pNw P1399 q1400 13 21) a 44 (some q1400) = P1403 at D1402  ⊢
  refine g_aload_n C dX12_init_286 rfl 0 rfl ?_
  refine g_iconst (v := 4) C dX12_init_287 (by decide) ?_
  refine g_newI (N := 4) C ac_int (by decide) rfl (by decide) (by decide) (by decide) dX12_init_288 (fun q1404 h1405 => ?_)
  refine g_putFR C fi_X12_127 Ci9 ⟨_, rfl, rfl⟩ rfl ((xExt.new (S := []) h1405).1 _ D1402.mem).1 (((xExt.new (S := []) h1405).1 _ D1402.mem).2.1.trans (D1402.kind.trans haK)) dX12_init_290 ?_
  have D1406 := D1402.arr (k := 45) h1405 (show shp (pK P a) 45 = some (13, 4) by rw [haK]; rfl) (by decide) (by decide)
  generalize pSR (pNw P1403 q1404 13 4) a 45 (some q1404) = P1407 at D1406  ⊢
  refine g_aload_n C dX12_init_293 rfl 0 rfl ?_
  refine g_iconst (v := 4) C dX12_init_294 (by decide) ?_
  refine g_newI (N := 4) C ac_int (by decide) rfl (by decide) (by decide) (by decide) dX12_init_295 (fun q1408 h1409 => ?_)
  refine g_putFR C fi_X12_130 Ci9 ⟨_, rfl, rfl⟩ rfl ((xExt.new (S := []) h1409).1 _ D1406.mem).1 (((xExt.new (S := []) h1409).1 _ D1406.mem).2.1.trans (D1406.kind.trans haK)) dX12_init_297 ?_
  have e1411 : pR (pSR (pNw P1407 q1408 13 4) a 46 (some q1408)) a 46 = some q1408 := R_put
  have D1410 := D1406.arr (k := 46) h1409 (show shp (pK P a) 46 = some (13, 4) by rw [haK]; rfl) (by decide) (by decide)
  generalize pSR (pNw P1407 q1408 13 4) a 46 (some q1408) = P1412 at D1410 e1411 ⊢
  refine g_aload_n C dX12_init_300 rfl 0 rfl ?_
  refine g_iconst (v := 4) C dX12_init_301 (by decide) ?_
  refine g_newI (N := 4) C ac_int (by decide) rfl (by decide) (by decide) (by decide) dX12_init_302 (fun q1413 h1414 => ?_)
  refine g_putFR C fi_X12_133 Ci9 ⟨_, rfl, rfl⟩ rfl ((xExt.new (S := []) h1414).1 _ D1410.mem).1 (((xExt.new (S := []) h1414).1 _ D1410.mem).2.1.trans (D1410.kind.trans haK)) dX12_init_304 ?_
  have e1416 := R_keep (k := 47) (kd := 13) (n := 4) (v := some q1413) h1414 D1410.mem (by decide) e1411
  have D1415 := D1410.arr (k := 47) h1414 (show shp (pK P a) 47 = some (13, 4) by rw [haK]; rfl) (by decide) (by decide)
  generalize pSR (pNw P1412 q1413 13 4) a 47 (some q1413) = P1417 at D1415 e1416 ⊢
  refine g_iconst (v := 0) C dX12_init_307 (by decide) ?_
  refine g_istore_n (lv' := [(1, .int 0), (0, .ref a)]) C dX12_init_308 rfl (by decide) rfl ?_
  have hq := fd_at D1415 haK (by decide) (k := 46) rfl e1416
  refine g_pp (P2 := pWI P1417 (pI P1417) (pJ P1417)) (pc2 := 309) (cs2 := 35) (sl2 := 8708) (pWI_self _) (by decide) (by decide) (by decide) ?_
  have lp1423 : ∀ (n1425 i1418 : Nat), i1418 + n1425 = 4 → ∀ (I1419 : Nat → Nat → Int32), ((∀ j, j < i1418 → I1419 q1408 j = 1) ∧ ∀ b, b ≠ q1408 → I1419 b = pI P1417 b) → G E ({ frames := 2, cells := 35, slots := 8708, locals := 128 } : Room) D cy 2 (pWI P1417 I1419 (pJ P1417)) 35 8708 309 [(1, .int (nI i1418)), (0, .ref a)] [] := by
    intro n1425
    induction n1425 with
    | zero =>
      intro i1418 hi1420 I1419 hv1421
      have ei1422 : (nI i1418).toInt = (i1418 : Int) := ti_nI (by omega)
      refine g_iload_n C dX12_init_309 rfl 0 rfl ?_
      refine g_iconst (v := 4) C dX12_init_310 (by decide) ?_
      refine b_icmp_ge C 327 dX12_init_311 (by decide) (fun h1426 => ?_) (fun h1426 => ?_)
      · have h1426 : 4 ≤ (nI i1418).toInt := h1426
        exact ret _ _ _ _ _ dX12_init_327 (by decide) (by decide) (FM.of D1415 haK (kin (by decide +kernel)) hz e1416 (fun j hj => hv1421.1 j (by omega)) hv1421.2)
      · have h1426 : (nI i1418).toInt < 4 := h1426
        omega
    | succ n1425 ih1424 =>
      intro i1418 hi1420 I1419 hv1421
      have ei1422 : (nI i1418).toInt = (i1418 : Int) := ti_nI (by omega)
      refine g_iload_n C dX12_init_309 rfl 0 rfl ?_
      refine g_iconst (v := 4) C dX12_init_310 (by decide) ?_
      refine b_icmp_ge C 327 dX12_init_311 (by decide) (fun h1427 => ?_) (fun h1427 => ?_)
      · have h1427 : 4 ≤ (nI i1418).toInt := h1427
        omega
      · have h1427 : (nI i1418).toInt < 4 := h1427
        refine g_aload_n C dX12_init_314 rfl 1 rfl ?_
        refine g_getR C fi_X12_130 rfl (W_fld e1416) (W_mem D1415.mem) (W_kind (D1415.kind.trans haK)) dX12_init_315 ?_
        refine g_iload_n C dX12_init_318 rfl 0 rfl ?_
        refine g_iconst (v := 1) C dX12_init_319 (by decide) ?_
        refine g_iast (j := i1418) C (W_mem hq.1) (W_kind hq.2.1) (IX.inn (W_len hq.2.2) (by omega) (by decide)) dX12_init_320 ?_
        obtain ⟨I1428, eI1428⟩ : ∃ I9, I9 = va_up I1419 q1408 (va_up (I1419 q1408) i1418 1) := ⟨_, rfl⟩
        rw [pSI_pWI, ← eI1428]
        have h1429 : (∀ j, j < i1418 + 1 → I1428 q1408 j = 1) ∧ ∀ b, b ≠ q1408 → I1428 b = pI P1417 b := ⟨fun j hj => by rw [eI1428]; by_cases ej : j = i1418 <;> simp [va_up, ej] <;> exact hv1421.1 j (by omega), fun b hb => by rw [eI1428, up_ne hb]; exact hv1421.2 b hb⟩
        refine g_iinc (v := (nI (i1418 + 1))) (lv' := [(1, .int (nI (i1418 + 1))), (0, .ref a)]) C dX12_init_321 0 rfl (nI_1 _) (by decide) rfl ?_
        refine g_goto C 309 dX12_init_324 (by decide) ?_
        exact ih1424 (i1418 + 1) (by omega) _ (h1429)
  exact lp1423 4 0 rfl _ (⟨fun j hj => absurd hj (by omega), fun b _ => rfl⟩)
