/-- a new array that no field holds yet -/
def yQ (P0 P : PP) (a q n : Nat) : Prop := q ∈ pL P ∧ pK P q = 14 ∧ pN P q = n ∧ q ∉ pL P0 ∧ (∀ k, pR P a k ≠ some q) ∧ ∀ j, pI P q j = 0
theorem yQ.new {S : List Nat} {P0 P : PP} {a q n : Nat} {ks : List Nat} (h : yDn S P0 P a ks) (hq : q ∉ pL P) : yQ P0 (pNw P q 14 n) a q n :=
  ⟨in_new, K_new, N_new, h.sub hq, fun j => by rw [R_old hq h.mem]; exact h.nofield hq j, fun j => by rw [I_new]⟩
theorem yQ.setJ {P0 P : PP} {a q n b i : Nat} {v : Int64} (h : yQ P0 P a q n) : yQ P0 (pSJ P b i v) a q n := ⟨h.1, h.2.1, h.2.2.1, h.2.2.2.1, h.2.2.2.2.1, h.2.2.2.2.2⟩
theorem g_pp {E : EV} {R : Room} {D : va_G} {cy : Nat → ClassId} {nL : Nat} {P P2 : PP} {cs sl pc pc2 cs2 sl2 : Nat} {lv : List (Nat × Value)} {st : List Value} (h1 : P = P2) (h2 : pc = pc2) (h3 : cs = cs2) (h4 : sl = sl2) (k : G E R D cy nL P2 cs2 sl2 pc2 lv st) : G E R D cy nL P cs sl pc lv st := by
  subst h1; subst h2; subst h3; subst h4; exact k
theorem pSI_pWI (P : PP) (I2 : Nat → Nat → Int32) (J2 : Nat → Nat → Int64) (a k : Nat) (v : Int32) : pSI (pWI P I2 J2) a k v = pWI P (va_up I2 a (va_up (I2 a) k v)) J2 := rfl
theorem W_mem {P : PP} {I2 : Nat → Nat → Int32} {J2 : Nat → Nat → Int64} {a : Nat} (h : a ∈ pL P) : a ∈ pL (pWI P I2 J2) := h
theorem W_kind {P : PP} {I2 : Nat → Nat → Int32} {J2 : Nat → Nat → Int64} {a k : Nat} (h : pK P a = k) : pK (pWI P I2 J2) a = k := h
theorem W_len {P : PP} {I2 : Nat → Nat → Int32} {J2 : Nat → Nat → Int64} {a k : Nat} (h : pN P a = k) : pN (pWI P I2 J2) a = k := h
theorem W_fld {P : PP} {I2 : Nat → Nat → Int32} {J2 : Nat → Nat → Int64} {a k : Nat} {r : Option Nat} (h : pR P a k = r) : pR (pWI P I2 J2) a k = r := h

theorem arOk.zero (f : Nat) : arOk f 0 := by
  intro lo hi e
  have h0 : (0 : Int32).toInt = 0 := rfl
  rw [h0]
  unfold arT at e
  split at e <;> first | (cases e; decide) | cases e
theorem shp12 {f kd n : Nat} (hs : shp 12 f = some (kd, n)) : 13 ≤ kd := by
  unfold shp at hs
  split at hs <;> first | omega | (cases hs; done) | (cases hs; decide)
theorem IM.made {P Pn : PP} {a ho : Nat} {ks : List Nat} {I2 : Nat → Nat → Int32} (D : yDn [] P Pn a ks) (haK : pK P a = 12) (hk : ∀ k, (shp 12 k).isSome = true → k ∈ ks) (e : pR Pn a 46 = some ho) (h2 : ∀ b, b ≠ ho → I2 b = pI Pn b) : IM (pWI Pn I2 (pJ Pn)) a ∧ MW (pWI Pn I2 (pJ Pn)) a ∧ pI (pWI Pn I2 (pJ Pn)) a 2 = pI P a 2 := by
  have am := D.mem
  have i := D.2.2.2.1
  have hho := fd_at D haK (hk 46 rfl) (k := 46) rfl e
  obtain ⟨g, -, z⟩ := D.done haK (by decide) hk
  have hzero : ∀ k b, k ≠ 46 → (shp 12 k).isSome = true → pR Pn a k = some b → ∀ j, I2 b j = 0 := fun k b hne hs hb j => by
    rw [h2 b (fun h => hne (i k 46 ho (h ▸ hb) e))]
    obtain ⟨⟨kd, n⟩, hs2⟩ := Option.isSome_iff_exists.mp hs
    exact (D.2.2.1 k b hb).2.2.2 (by rw [(fd_at D haK (hk k hs) hs2 hb).2.1]; exact shp12 hs2) j
  have hIV : IV (pWI Pn I2 (pJ Pn)) := by
    refine ⟨fun b hb hs => g b hb hs, fun b hb k => ?_, fun b hb hk2 j c hc => ?_⟩
    · show rgOk (pK Pn b) k (I2 b k)
      by_cases hb2 : b = ho
      · rw [hb2, hho.2.1]; exact rgOk.none (rgT_arr (by decide))
      · rw [h2 b hb2]; exact (z b hb).1 k
    · have hc2 : pR Pn b j = some c := hc
      rw [(z b hb).2.1 hk2 j] at hc2; cases hc2
  refine ⟨⟨hIV, ⟨am, D.kind.trans haK⟩, i, fun f b hb j => ?_, fun b hb => ?_⟩, ⟨fun b c hb hc j _ h0 => ?_, fun h i2 _ _ hs => ?_⟩, ?_⟩
  · show arOk f (I2 b j)
    by_cases hf : f = 46
    · subst hf; exact arOk.none rfl
    · intro lo hi ha
      rw [hzero f b hf (arT_shp ha) hb j]
      exact arOk.zero f lo hi ha
  · show (I2 b 1000).toInt = 0
    rw [hzero 4 b (by decide) rfl hb 1000]; rfl
  · exfalso
    have h1 : 0 < (I2 b j).toInt := h0
    rw [hzero 10 b (by decide) rfl hb j] at h1
    exact absurd h1 (by decide)
  · exfalso
    obtain ⟨z9, hz, -⟩ := xFd.at (D.ok haK (by decide) hk) (D.kind.trans haK) 20 13 20 rfl
    have h1 : szf (pWI Pn I2 (pJ Pn)) a h = (I2 z9 h).toInt := szf_at (P := pWI Pn I2 (pJ Pn)) hz h
    rw [h1, hzero 20 z9 (by decide) rfl hz h] at hs
    have h3 : (0 : Int32).toInt = 0 := rfl
    omega
  · show I2 a 2 = pI P a 2
    have hne : a ≠ ho := fun h => by
      have h1 := hho.2.1
      rw [← h, D.kind, haK] at h1
      omega
    rw [h2 a hne, D.2.2.2.2]

theorem dX12_init_10 : decode cX12_init 10 = .ok (.putfield 14, 3) := by decide +kernel
theorem dX12_init_13 : decode cX12_init 13 = .ok (.aload_n 0, 1) := by decide +kernel
theorem dX12_init_14 : decode cX12_init 14 = .ok (.sipush 1002, 3) := by decide +kernel
theorem dX12_init_17 : decode cX12_init 17 = .ok (.newarray .int, 2) := by decide +kernel
theorem dX12_init_19 : decode cX12_init 19 = .ok (.putfield 24, 3) := by decide +kernel
theorem dX12_init_22 : decode cX12_init 22 = .ok (.aload_n 0, 1) := by decide +kernel
theorem dX12_init_23 : decode cX12_init 23 = .ok (.sipush 1002, 3) := by decide +kernel
theorem dX12_init_26 : decode cX12_init 26 = .ok (.newarray .int, 2) := by decide +kernel
theorem dX12_init_28 : decode cX12_init 28 = .ok (.putfield 27, 3) := by decide +kernel
theorem dX12_init_31 : decode cX12_init 31 = .ok (.aload_n 0, 1) := by decide +kernel
theorem dX12_init_32 : decode cX12_init 32 = .ok (.sipush 1002, 3) := by decide +kernel
theorem dX12_init_35 : decode cX12_init 35 = .ok (.newarray .long, 2) := by decide +kernel
theorem dX12_init_37 : decode cX12_init 37 = .ok (.putfield 30, 3) := by decide +kernel
theorem dX12_init_40 : decode cX12_init 40 = .ok (.aload_n 0, 1) := by decide +kernel
theorem dX12_init_41 : decode cX12_init 41 = .ok (.iconst 4, 1) := by decide +kernel
theorem dX12_init_42 : decode cX12_init 42 = .ok (.newarray .long, 2) := by decide +kernel
theorem dX12_init_44 : decode cX12_init 44 = .ok (.dup, 1) := by decide +kernel
theorem dX12_init_45 : decode cX12_init 45 = .ok (.iconst 0, 1) := by decide +kernel
theorem dX12_init_46 : decode cX12_init 46 = .ok (.ldc2_w 34, 3) := by decide +kernel
theorem dX12_init_49 : decode cX12_init 49 = .ok (.lastore, 1) := by decide +kernel
theorem dX12_init_50 : decode cX12_init 50 = .ok (.dup, 1) := by decide +kernel
theorem dX12_init_51 : decode cX12_init 51 = .ok (.iconst 1, 1) := by decide +kernel
theorem dX12_init_52 : decode cX12_init 52 = .ok (.ldc2_w 36, 3) := by decide +kernel
theorem dX12_init_55 : decode cX12_init 55 = .ok (.lastore, 1) := by decide +kernel
theorem dX12_init_56 : decode cX12_init 56 = .ok (.dup, 1) := by decide +kernel
theorem dX12_init_57 : decode cX12_init 57 = .ok (.iconst 2, 1) := by decide +kernel
theorem dX12_init_58 : decode cX12_init 58 = .ok (.ldc2_w 38, 3) := by decide +kernel
theorem dX12_init_61 : decode cX12_init 61 = .ok (.lastore, 1) := by decide +kernel
theorem dX12_init_62 : decode cX12_init 62 = .ok (.dup, 1) := by decide +kernel
theorem dX12_init_63 : decode cX12_init 63 = .ok (.iconst 3, 1) := by decide +kernel
theorem dX12_init_64 : decode cX12_init 64 = .ok (.ldc2_w 40, 3) := by decide +kernel
theorem dX12_init_67 : decode cX12_init 67 = .ok (.lastore, 1) := by decide +kernel
theorem dX12_init_68 : decode cX12_init 68 = .ok (.putfield 42, 3) := by decide +kernel
theorem dX12_init_71 : decode cX12_init 71 = .ok (.aload_n 0, 1) := by decide +kernel
theorem dX12_init_72 : decode cX12_init 72 = .ok (.iconst 2, 1) := by decide +kernel
theorem dX12_init_73 : decode cX12_init 73 = .ok (.newarray .int, 2) := by decide +kernel
theorem dX12_init_75 : decode cX12_init 75 = .ok (.putfield 45, 3) := by decide +kernel
theorem dX12_init_78 : decode cX12_init 78 = .ok (.aload_n 0, 1) := by decide +kernel
theorem dX12_init_79 : decode cX12_init 79 = .ok (.bipush 32, 2) := by decide +kernel
theorem dX12_init_81 : decode cX12_init 81 = .ok (.newarray .int, 2) := by decide +kernel
theorem dX12_init_83 : decode cX12_init 83 = .ok (.putfield 48, 3) := by decide +kernel
theorem dX12_init_86 : decode cX12_init 86 = .ok (.aload_n 0, 1) := by decide +kernel
theorem dX12_init_87 : decode cX12_init 87 = .ok (.bipush 63, 2) := by decide +kernel
theorem dX12_init_89 : decode cX12_init 89 = .ok (.newarray .int, 2) := by decide +kernel
theorem dX12_init_91 : decode cX12_init 91 = .ok (.putfield 51, 3) := by decide +kernel
theorem dX12_init_94 : decode cX12_init 94 = .ok (.aload_n 0, 1) := by decide +kernel
theorem dX12_init_95 : decode cX12_init 95 = .ok (.iconst 3, 1) := by decide +kernel
theorem dX12_init_96 : decode cX12_init 96 = .ok (.newarray .int, 2) := by decide +kernel
theorem dX12_init_98 : decode cX12_init 98 = .ok (.putfield 54, 3) := by decide +kernel
theorem dX12_init_101 : decode cX12_init 101 = .ok (.aload_n 0, 1) := by decide +kernel
theorem dX12_init_102 : decode cX12_init 102 = .ok (.iconst 3, 1) := by decide +kernel
theorem dX12_init_103 : decode cX12_init 103 = .ok (.newarray .int, 2) := by decide +kernel
theorem dX12_init_105 : decode cX12_init 105 = .ok (.putfield 57, 3) := by decide +kernel
theorem dX12_init_108 : decode cX12_init 108 = .ok (.aload_n 0, 1) := by decide +kernel
theorem dX12_init_109 : decode cX12_init 109 = .ok (.iconst 3, 1) := by decide +kernel
theorem dX12_init_110 : decode cX12_init 110 = .ok (.newarray .int, 2) := by decide +kernel
theorem dX12_init_112 : decode cX12_init 112 = .ok (.putfield 60, 3) := by decide +kernel
theorem dX12_init_115 : decode cX12_init 115 = .ok (.aload_n 0, 1) := by decide +kernel
theorem dX12_init_116 : decode cX12_init 116 = .ok (.bipush 12, 2) := by decide +kernel
theorem dX12_init_118 : decode cX12_init 118 = .ok (.newarray .int, 2) := by decide +kernel
theorem dX12_init_120 : decode cX12_init 120 = .ok (.putfield 63, 3) := by decide +kernel
theorem dX12_init_123 : decode cX12_init 123 = .ok (.aload_n 0, 1) := by decide +kernel
theorem dX12_init_124 : decode cX12_init 124 = .ok (.iconst 3, 1) := by decide +kernel
theorem dX12_init_125 : decode cX12_init 125 = .ok (.newarray .int, 2) := by decide +kernel
theorem dX12_init_127 : decode cX12_init 127 = .ok (.putfield 66, 3) := by decide +kernel
theorem dX12_init_130 : decode cX12_init 130 = .ok (.aload_n 0, 1) := by decide +kernel
theorem dX12_init_131 : decode cX12_init 131 = .ok (.bipush 20, 2) := by decide +kernel
theorem dX12_init_133 : decode cX12_init 133 = .ok (.newarray .int, 2) := by decide +kernel
theorem dX12_init_135 : decode cX12_init 135 = .ok (.putfield 69, 3) := by decide +kernel
theorem dX12_init_138 : decode cX12_init 138 = .ok (.aload_n 0, 1) := by decide +kernel
theorem dX12_init_139 : decode cX12_init 139 = .ok (.sipush 800, 3) := by decide +kernel
theorem dX12_init_142 : decode cX12_init 142 = .ok (.newarray .int, 2) := by decide +kernel
theorem dX12_init_144 : decode cX12_init 144 = .ok (.putfield 72, 3) := by decide +kernel
theorem dX12_init_147 : decode cX12_init 147 = .ok (.aload_n 0, 1) := by decide +kernel
theorem dX12_init_148 : decode cX12_init 148 = .ok (.sipush 800, 3) := by decide +kernel
theorem dX12_init_151 : decode cX12_init 151 = .ok (.newarray .int, 2) := by decide +kernel
theorem dX12_init_153 : decode cX12_init 153 = .ok (.putfield 75, 3) := by decide +kernel
theorem dX12_init_156 : decode cX12_init 156 = .ok (.aload_n 0, 1) := by decide +kernel
theorem dX12_init_157 : decode cX12_init 157 = .ok (.sipush 800, 3) := by decide +kernel
theorem dX12_init_160 : decode cX12_init 160 = .ok (.newarray .int, 2) := by decide +kernel
theorem dX12_init_162 : decode cX12_init 162 = .ok (.putfield 78, 3) := by decide +kernel
theorem dX12_init_165 : decode cX12_init 165 = .ok (.aload_n 0, 1) := by decide +kernel
theorem dX12_init_166 : decode cX12_init 166 = .ok (.sipush 800, 3) := by decide +kernel
theorem dX12_init_169 : decode cX12_init 169 = .ok (.newarray .int, 2) := by decide +kernel
theorem dX12_init_171 : decode cX12_init 171 = .ok (.putfield 81, 3) := by decide +kernel
theorem dX12_init_174 : decode cX12_init 174 = .ok (.aload_n 0, 1) := by decide +kernel
theorem dX12_init_175 : decode cX12_init 175 = .ok (.sipush 800, 3) := by decide +kernel
theorem dX12_init_178 : decode cX12_init 178 = .ok (.newarray .int, 2) := by decide +kernel
theorem dX12_init_180 : decode cX12_init 180 = .ok (.putfield 84, 3) := by decide +kernel
theorem dX12_init_183 : decode cX12_init 183 = .ok (.aload_n 0, 1) := by decide +kernel
theorem dX12_init_184 : decode cX12_init 184 = .ok (.iconst 4, 1) := by decide +kernel
theorem dX12_init_185 : decode cX12_init 185 = .ok (.newarray .boolean, 2) := by decide +kernel
theorem dX12_init_187 : decode cX12_init 187 = .ok (.putfield 87, 3) := by decide +kernel
theorem dX12_init_190 : decode cX12_init 190 = .ok (.aload_n 0, 1) := by decide +kernel
theorem dX12_init_191 : decode cX12_init 191 = .ok (.bipush 64, 2) := by decide +kernel
theorem dX12_init_193 : decode cX12_init 193 = .ok (.newarray .int, 2) := by decide +kernel
theorem dX12_init_195 : decode cX12_init 195 = .ok (.putfield 91, 3) := by decide +kernel
theorem dX12_init_198 : decode cX12_init 198 = .ok (.aload_n 0, 1) := by decide +kernel
theorem dX12_init_199 : decode cX12_init 199 = .ok (.bipush 64, 2) := by decide +kernel
theorem dX12_init_201 : decode cX12_init 201 = .ok (.newarray .int, 2) := by decide +kernel
theorem dX12_init_203 : decode cX12_init 203 = .ok (.putfield 94, 3) := by decide +kernel
theorem dX12_init_206 : decode cX12_init 206 = .ok (.aload_n 0, 1) := by decide +kernel
theorem dX12_init_207 : decode cX12_init 207 = .ok (.bipush 64, 2) := by decide +kernel
theorem dX12_init_209 : decode cX12_init 209 = .ok (.newarray .int, 2) := by decide +kernel
theorem dX12_init_211 : decode cX12_init 211 = .ok (.putfield 97, 3) := by decide +kernel
theorem dX12_init_214 : decode cX12_init 214 = .ok (.aload_n 0, 1) := by decide +kernel
theorem dX12_init_215 : decode cX12_init 215 = .ok (.bipush 40, 2) := by decide +kernel
theorem dX12_init_217 : decode cX12_init 217 = .ok (.newarray .boolean, 2) := by decide +kernel
theorem dX12_init_219 : decode cX12_init 219 = .ok (.putfield 100, 3) := by decide +kernel
theorem dX12_init_222 : decode cX12_init 222 = .ok (.aload_n 0, 1) := by decide +kernel
theorem dX12_init_223 : decode cX12_init 223 = .ok (.bipush 20, 2) := by decide +kernel
theorem dX12_init_225 : decode cX12_init 225 = .ok (.newarray .int, 2) := by decide +kernel
theorem dX12_init_227 : decode cX12_init 227 = .ok (.putfield 103, 3) := by decide +kernel
theorem dX12_init_230 : decode cX12_init 230 = .ok (.aload_n 0, 1) := by decide +kernel
theorem dX12_init_231 : decode cX12_init 231 = .ok (.bipush 20, 2) := by decide +kernel
theorem dX12_init_233 : decode cX12_init 233 = .ok (.newarray .int, 2) := by decide +kernel
theorem dX12_init_235 : decode cX12_init 235 = .ok (.putfield 106, 3) := by decide +kernel
theorem dX12_init_238 : decode cX12_init 238 = .ok (.aload_n 0, 1) := by decide +kernel
theorem dX12_init_239 : decode cX12_init 239 = .ok (.bipush 20, 2) := by decide +kernel
theorem dX12_init_241 : decode cX12_init 241 = .ok (.newarray .int, 2) := by decide +kernel
theorem dX12_init_243 : decode cX12_init 243 = .ok (.putfield 109, 3) := by decide +kernel
theorem dX12_init_246 : decode cX12_init 246 = .ok (.aload_n 0, 1) := by decide +kernel
theorem dX12_init_247 : decode cX12_init 247 = .ok (.bipush 40, 2) := by decide +kernel
theorem dX12_init_249 : decode cX12_init 249 = .ok (.newarray .int, 2) := by decide +kernel
theorem dX12_init_251 : decode cX12_init 251 = .ok (.putfield 112, 3) := by decide +kernel
theorem dX12_init_254 : decode cX12_init 254 = .ok (.aload_n 0, 1) := by decide +kernel
theorem dX12_init_255 : decode cX12_init 255 = .ok (.bipush 64, 2) := by decide +kernel
theorem dX12_init_257 : decode cX12_init 257 = .ok (.newarray .int, 2) := by decide +kernel
theorem dX12_init_259 : decode cX12_init 259 = .ok (.putfield 115, 3) := by decide +kernel
theorem dX12_init_262 : decode cX12_init 262 = .ok (.aload_n 0, 1) := by decide +kernel
theorem dX12_init_263 : decode cX12_init 263 = .ok (.bipush 64, 2) := by decide +kernel
theorem dX12_init_265 : decode cX12_init 265 = .ok (.newarray .int, 2) := by decide +kernel
theorem dX12_init_267 : decode cX12_init 267 = .ok (.putfield 118, 3) := by decide +kernel
theorem dX12_init_270 : decode cX12_init 270 = .ok (.aload_n 0, 1) := by decide +kernel
theorem dX12_init_271 : decode cX12_init 271 = .ok (.bipush 60, 2) := by decide +kernel
theorem dX12_init_273 : decode cX12_init 273 = .ok (.newarray .int, 2) := by decide +kernel
theorem dX12_init_275 : decode cX12_init 275 = .ok (.putfield 121, 3) := by decide +kernel
theorem dX12_init_278 : decode cX12_init 278 = .ok (.aload_n 0, 1) := by decide +kernel
theorem dX12_init_279 : decode cX12_init 279 = .ok (.bipush 21, 2) := by decide +kernel
theorem dX12_init_281 : decode cX12_init 281 = .ok (.newarray .int, 2) := by decide +kernel
theorem dX12_init_283 : decode cX12_init 283 = .ok (.putfield 124, 3) := by decide +kernel
theorem dX12_init_286 : decode cX12_init 286 = .ok (.aload_n 0, 1) := by decide +kernel
theorem dX12_init_287 : decode cX12_init 287 = .ok (.iconst 4, 1) := by decide +kernel
theorem dX12_init_288 : decode cX12_init 288 = .ok (.newarray .int, 2) := by decide +kernel
theorem dX12_init_290 : decode cX12_init 290 = .ok (.putfield 127, 3) := by decide +kernel
theorem dX12_init_293 : decode cX12_init 293 = .ok (.aload_n 0, 1) := by decide +kernel
theorem dX12_init_294 : decode cX12_init 294 = .ok (.iconst 4, 1) := by decide +kernel
theorem dX12_init_295 : decode cX12_init 295 = .ok (.newarray .int, 2) := by decide +kernel
theorem dX12_init_297 : decode cX12_init 297 = .ok (.putfield 130, 3) := by decide +kernel
theorem dX12_init_300 : decode cX12_init 300 = .ok (.aload_n 0, 1) := by decide +kernel
theorem dX12_init_301 : decode cX12_init 301 = .ok (.iconst 4, 1) := by decide +kernel
theorem dX12_init_302 : decode cX12_init 302 = .ok (.newarray .int, 2) := by decide +kernel
theorem dX12_init_304 : decode cX12_init 304 = .ok (.putfield 133, 3) := by decide +kernel
theorem dX12_init_307 : decode cX12_init 307 = .ok (.iconst 0, 1) := by decide +kernel
theorem dX12_init_308 : decode cX12_init 308 = .ok (.istore_n 1, 1) := by decide +kernel
theorem dX12_init_309 : decode cX12_init 309 = .ok (.iload_n 1, 1) := by decide +kernel
theorem dX12_init_310 : decode cX12_init 310 = .ok (.iconst 4, 1) := by decide +kernel
theorem dX12_init_311 : decode cX12_init 311 = .ok (.if_icmp .ge 16, 3) := by decide +kernel
theorem dX12_init_314 : decode cX12_init 314 = .ok (.aload_n 0, 1) := by decide +kernel
theorem dX12_init_315 : decode cX12_init 315 = .ok (.getfield 130, 3) := by decide +kernel
theorem dX12_init_318 : decode cX12_init 318 = .ok (.iload_n 1, 1) := by decide +kernel
theorem dX12_init_319 : decode cX12_init 319 = .ok (.iconst 1, 1) := by decide +kernel
theorem dX12_init_320 : decode cX12_init 320 = .ok (.iastore, 1) := by decide +kernel
theorem dX12_init_321 : decode cX12_init 321 = .ok (.iinc 1 1, 3) := by decide +kernel
theorem dX12_init_324 : decode cX12_init 324 = .ok (.goto (-15), 3) := by decide +kernel
theorem dX12_init_327 : decode cX12_init 327 = .ok (.return_, 1) := by decide +kernel
set_option maxHeartbeats 4000000 in
set_option maxRecDepth 100000 in
theorem c_X12_init {P : PP} {a : Nat} {S : List Nat} (ha : a ∈ pL P) (haK : pK P a = 12) (hr : ∀ k, pR P a k = none) (hg : xAG (a :: S) P) (z : zG P) (hS : S = []) : CtrV yX12_init cX12_init 2 none ({ frames := 2, cells := 35, slots := 8708, locals := 128 } : Room) 35 8708 P [.ref a] (fun P2 => IM P2 a ∧ MW P2 a ∧ pI P2 a 2 = pI P a 2) := by
  subst hS
  have D0 := yDn.zero ha hg z hr
  refine enV (lv := [(0, .ref a)]) (by decide) (Nat.le_of_ble_eq_true rfl) rfl (fun E D cy C Ci0 ret => ?_)
  have Ci9 := Ci0 rfl
  refine g_aload_n C dX12_init_0 rfl 0 rfl ?_
  refine g_objInit C oi_X12_18 oi_inst oi_code (by decide) (by decide) (Nat.le_of_ble_eq_true rfl) dX12_init_1 ?_
  refine g_aload_n C dX12_init_4 rfl 0 rfl ?_
  refine g_sipush (v := 1000) C dX12_init_5 (by decide) ?_
  refine g_newI (N := 1000) C ac_int (by decide) rfl (by decide) (by decide) (by decide) dX12_init_8 (fun q455 h456 => ?_)
  refine g_putFR C fi_X12_14 Ci9 ⟨_, rfl, rfl⟩ rfl ((xExt.new (S := []) h456).1 _ D0.mem).1 (((xExt.new (S := []) h456).1 _ D0.mem).2.1.trans (D0.kind.trans haK)) dX12_init_10 ?_
  have D457 := D0.arr (k := 1) h456 (show shp (pK P a) 1 = some (13, 1000) by rw [haK]; rfl) (by decide) (by decide)
  generalize pSR (pNw P q455 13 1000) a 1 (some q455) = P458 at D457  ⊢
  refine g_aload_n C dX12_init_13 rfl 0 rfl ?_
  refine g_sipush (v := 1002) C dX12_init_14 (by decide) ?_
  refine g_newI (N := 1002) C ac_int (by decide) rfl (by decide) (by decide) (by decide) dX12_init_17 (fun q459 h460 => ?_)
  refine g_putFR C fi_X12_24 Ci9 ⟨_, rfl, rfl⟩ rfl ((xExt.new (S := []) h460).1 _ D457.mem).1 (((xExt.new (S := []) h460).1 _ D457.mem).2.1.trans (D457.kind.trans haK)) dX12_init_19 ?_
  have D461 := D457.arr (k := 4) h460 (show shp (pK P a) 4 = some (13, 1002) by rw [haK]; rfl) (by decide) (by decide)
  generalize pSR (pNw P458 q459 13 1002) a 4 (some q459) = P462 at D461  ⊢
  refine g_aload_n C dX12_init_22 rfl 0 rfl ?_
  refine g_sipush (v := 1002) C dX12_init_23 (by decide) ?_
  refine g_newI (N := 1002) C ac_int (by decide) rfl (by decide) (by decide) (by decide) dX12_init_26 (fun q463 h464 => ?_)
  refine g_putFR C fi_X12_27 Ci9 ⟨_, rfl, rfl⟩ rfl ((xExt.new (S := []) h464).1 _ D461.mem).1 (((xExt.new (S := []) h464).1 _ D461.mem).2.1.trans (D461.kind.trans haK)) dX12_init_28 ?_
  have D465 := D461.arr (k := 5) h464 (show shp (pK P a) 5 = some (13, 1002) by rw [haK]; rfl) (by decide) (by decide)
  generalize pSR (pNw P462 q463 13 1002) a 5 (some q463) = P466 at D465  ⊢
  refine g_aload_n C dX12_init_31 rfl 0 rfl ?_
  refine g_sipush (v := 1002) C dX12_init_32 (by decide) ?_
  refine g_newJ (N := 1002) C ac_long (by decide) rfl (by decide) (by decide) (by decide) dX12_init_35 (fun q467 h468 => ?_)
  refine g_putFR C fi_X12_30 Ci9 ⟨_, rfl, rfl⟩ rfl ((xExt.new (S := []) h468).1 _ D465.mem).1 (((xExt.new (S := []) h468).1 _ D465.mem).2.1.trans (D465.kind.trans haK)) dX12_init_37 ?_
  have D469 := D465.arr (k := 6) h468 (show shp (pK P a) 6 = some (14, 1002) by rw [haK]; rfl) (by decide) (by decide)
  generalize pSR (pNw P466 q467 14 1002) a 6 (some q467) = P470 at D469  ⊢
  refine g_aload_n C dX12_init_40 rfl 0 rfl ?_
  refine g_iconst (v := 4) C dX12_init_41 (by decide) ?_
  refine g_newJ (N := 4) C ac_long (by decide) rfl (by decide) (by decide) (by decide) dX12_init_42 (fun q471 h472 => ?_)
  have D473 := D469.newA (kd := 14) (n := 4) h472 (by decide) (by decide)
  have Q474 := yQ.new (n := 4) D469 h472
  generalize pNw P470 q471 14 4 = P475 at D473 Q474 ⊢
  refine g_dup C dX12_init_44 rfl ?_
  refine g_iconst (v := 0) C dX12_init_45 (by decide) ?_
  refine g_ldc2 (v := 765438) C kl_X12_34 dX12_init_46 ?_
  refine g_topl (fun y476 _ => ?_)
  refine g_last (j := 0) C Q474.1 Q474.2.1 (IX.litn (j := 0) Q474.2.2.1 rfl (by decide) (by decide)) dX12_init_49 ?_
  have D477 := D473.setJ (i := 0) (v := y476) Q474.2.2.2.1
  have Q478 := Q474.setJ (b := q471) (i := 0) (v := y476)
  generalize pSJ P475 q471 0 y476 = P479 at D477 Q478 ⊢
  refine g_dup C dX12_init_50 rfl ?_
  refine g_iconst (v := 1) C dX12_init_51 (by decide) ?_
  refine g_ldc2 (v := 11726208) C kl_X12_36 dX12_init_52 ?_
  refine g_topl (fun y480 _ => ?_)
  refine g_last (j := 1) C Q478.1 Q478.2.1 (IX.litn (j := 1) Q478.2.2.1 rfl (by decide) (by decide)) dX12_init_55 ?_
  have D481 := D477.setJ (i := 1) (v := y480) Q478.2.2.2.1
  have Q482 := Q478.setJ (b := q471) (i := 1) (v := y480)
  generalize pSJ P479 q471 1 y480 = P483 at D481 Q482 ⊢
  refine g_dup C dX12_init_56 rfl ?_
  refine g_iconst (v := 2) C dX12_init_57 (by decide) ?_
  refine g_ldc2 (v := 26801) C kl_X12_38 dX12_init_58 ?_
  refine g_topl (fun y484 _ => ?_)
  refine g_last (j := 2) C Q482.1 Q482.2.1 (IX.litn (j := 2) Q482.2.2.1 rfl (by decide) (by decide)) dX12_init_61 ?_
  have D485 := D481.setJ (i := 2) (v := y484) Q482.2.2.2.1
  have Q486 := Q482.setJ (b := q471) (i := 2) (v := y484)
  generalize pSJ P483 q471 2 y484 = P487 at D485 Q486 ⊢
  refine g_dup C dX12_init_62 rfl ?_
  refine g_iconst (v := 3) C dX12_init_63 (by decide) ?_
  refine g_ldc2 (v := 969301) C kl_X12_40 dX12_init_64 ?_
  refine g_topl (fun y488 _ => ?_)
  refine g_last (j := 3) C Q486.1 Q486.2.1 (IX.litn (j := 3) Q486.2.2.1 rfl (by decide) (by decide)) dX12_init_67 ?_
  have D489 := D485.setJ (i := 3) (v := y488) Q486.2.2.2.1
  have Q490 := Q486.setJ (b := q471) (i := 3) (v := y488)
  generalize pSJ P487 q471 3 y488 = P491 at D489 Q490 ⊢
  refine g_putFR C fi_X12_42 Ci9 ⟨_, rfl, rfl⟩ rfl D489.mem (D489.kind.trans haK) dX12_init_68 ?_
  have D492 := D489.put (k := 9) (show shp (pK P a) 9 = some (14, 4) by rw [haK]; rfl) Q490.1 Q490.2.1 Q490.2.2.1 Q490.2.2.2.1 Q490.2.2.2.2.1 (fun _ => Q490.2.2.2.2.2)
  generalize pSR P491 a 9 (some q471) = P493 at D492 ⊢
  refine g_aload_n C dX12_init_71 rfl 0 rfl ?_
  refine g_iconst (v := 2) C dX12_init_72 (by decide) ?_
  refine g_newI (N := 2) C ac_int (by decide) rfl (by decide) (by decide) (by decide) dX12_init_73 (fun q494 h495 => ?_)
  refine g_putFR C fi_X12_45 Ci9 ⟨_, rfl, rfl⟩ rfl ((xExt.new (S := []) h495).1 _ D492.mem).1 (((xExt.new (S := []) h495).1 _ D492.mem).2.1.trans (D492.kind.trans haK)) dX12_init_75 ?_
  have D496 := D492.arr (k := 10) h495 (show shp (pK P a) 10 = some (13, 2) by rw [haK]; rfl) (by decide) (by decide)
  generalize pSR (pNw P493 q494 13 2) a 10 (some q494) = P497 at D496  ⊢
  refine g_aload_n C dX12_init_78 rfl 0 rfl ?_
  refine g_bipush (v := 32) C dX12_init_79 (by decide) ?_
  refine g_newI (N := 32) C ac_int (by decide) rfl (by decide) (by decide) (by decide) dX12_init_81 (fun q498 h499 => ?_)
  refine g_putFR C fi_X12_48 Ci9 ⟨_, rfl, rfl⟩ rfl ((xExt.new (S := []) h499).1 _ D496.mem).1 (((xExt.new (S := []) h499).1 _ D496.mem).2.1.trans (D496.kind.trans haK)) dX12_init_83 ?_
  have D500 := D496.arr (k := 11) h499 (show shp (pK P a) 11 = some (13, 32) by rw [haK]; rfl) (by decide) (by decide)
  generalize pSR (pNw P497 q498 13 32) a 11 (some q498) = P501 at D500  ⊢
  refine g_aload_n C dX12_init_86 rfl 0 rfl ?_
  refine g_bipush (v := 63) C dX12_init_87 (by decide) ?_
  refine g_newI (N := 63) C ac_int (by decide) rfl (by decide) (by decide) (by decide) dX12_init_89 (fun q502 h503 => ?_)
  refine g_putFR C fi_X12_51 Ci9 ⟨_, rfl, rfl⟩ rfl ((xExt.new (S := []) h503).1 _ D500.mem).1 (((xExt.new (S := []) h503).1 _ D500.mem).2.1.trans (D500.kind.trans haK)) dX12_init_91 ?_
  have D504 := D500.arr (k := 12) h503 (show shp (pK P a) 12 = some (13, 63) by rw [haK]; rfl) (by decide) (by decide)
  generalize pSR (pNw P501 q502 13 63) a 12 (some q502) = P505 at D504  ⊢
  refine g_aload_n C dX12_init_94 rfl 0 rfl ?_
  refine g_iconst (v := 3) C dX12_init_95 (by decide) ?_
  refine g_newI (N := 3) C ac_int (by decide) rfl (by decide) (by decide) (by decide) dX12_init_96 (fun q506 h507 => ?_)
  refine g_putFR C fi_X12_54 Ci9 ⟨_, rfl, rfl⟩ rfl ((xExt.new (S := []) h507).1 _ D504.mem).1 (((xExt.new (S := []) h507).1 _ D504.mem).2.1.trans (D504.kind.trans haK)) dX12_init_98 ?_
  have D508 := D504.arr (k := 13) h507 (show shp (pK P a) 13 = some (13, 3) by rw [haK]; rfl) (by decide) (by decide)
  generalize pSR (pNw P505 q506 13 3) a 13 (some q506) = P509 at D508  ⊢
  refine g_aload_n C dX12_init_101 rfl 0 rfl ?_
  refine g_iconst (v := 3) C dX12_init_102 (by decide) ?_
  refine g_newI (N := 3) C ac_int (by decide) rfl (by decide) (by decide) (by decide) dX12_init_103 (fun q510 h511 => ?_)
  refine g_putFR C fi_X12_57 Ci9 ⟨_, rfl, rfl⟩ rfl ((xExt.new (S := []) h511).1 _ D508.mem).1 (((xExt.new (S := []) h511).1 _ D508.mem).2.1.trans (D508.kind.trans haK)) dX12_init_105 ?_
  have D512 := D508.arr (k := 14) h511 (show shp (pK P a) 14 = some (13, 3) by rw [haK]; rfl) (by decide) (by decide)
  generalize pSR (pNw P509 q510 13 3) a 14 (some q510) = P513 at D512  ⊢
  refine g_aload_n C dX12_init_108 rfl 0 rfl ?_
  refine g_iconst (v := 3) C dX12_init_109 (by decide) ?_
  refine g_newI (N := 3) C ac_int (by decide) rfl (by decide) (by decide) (by decide) dX12_init_110 (fun q514 h515 => ?_)
  refine g_putFR C fi_X12_60 Ci9 ⟨_, rfl, rfl⟩ rfl ((xExt.new (S := []) h515).1 _ D512.mem).1 (((xExt.new (S := []) h515).1 _ D512.mem).2.1.trans (D512.kind.trans haK)) dX12_init_112 ?_
  have D516 := D512.arr (k := 15) h515 (show shp (pK P a) 15 = some (13, 3) by rw [haK]; rfl) (by decide) (by decide)
  generalize pSR (pNw P513 q514 13 3) a 15 (some q514) = P517 at D516  ⊢
  refine g_aload_n C dX12_init_115 rfl 0 rfl ?_
  refine g_bipush (v := 12) C dX12_init_116 (by decide) ?_
  refine g_newI (N := 12) C ac_int (by decide) rfl (by decide) (by decide) (by decide) dX12_init_118 (fun q518 h519 => ?_)
  refine g_putFR C fi_X12_63 Ci9 ⟨_, rfl, rfl⟩ rfl ((xExt.new (S := []) h519).1 _ D516.mem).1 (((xExt.new (S := []) h519).1 _ D516.mem).2.1.trans (D516.kind.trans haK)) dX12_init_120 ?_
  have D520 := D516.arr (k := 16) h519 (show shp (pK P a) 16 = some (13, 12) by rw [haK]; rfl) (by decide) (by decide)
  generalize pSR (pNw P517 q518 13 12) a 16 (some q518) = P521 at D520  ⊢
  refine g_aload_n C dX12_init_123 rfl 0 rfl ?_
  refine g_iconst (v := 3) C dX12_init_124 (by decide) ?_
  refine g_newI (N := 3) C ac_int (by decide) rfl (by decide) (by decide) (by decide) dX12_init_125 (fun q522 h523 => ?_)
  refine g_putFR C fi_X12_66 Ci9 ⟨_, rfl, rfl⟩ rfl ((xExt.new (S := []) h523).1 _ D520.mem).1 (((xExt.new (S := []) h523).1 _ D520.mem).2.1.trans (D520.kind.trans haK)) dX12_init_127 ?_
  have D524 := D520.arr (k := 17) h523 (show shp (pK P a) 17 = some (13, 3) by rw [haK]; rfl) (by decide) (by decide)
  generalize pSR (pNw P521 q522 13 3) a 17 (some q522) = P525 at D524  ⊢
  refine g_aload_n C dX12_init_130 rfl 0 rfl ?_
  refine g_bipush (v := 20) C dX12_init_131 (by decide) ?_
  refine g_newI (N := 20) C ac_int (by decide) rfl (by decide) (by decide) (by decide) dX12_init_133 (fun q526 h527 => ?_)
  refine g_putFR C fi_X12_69 Ci9 ⟨_, rfl, rfl⟩ rfl ((xExt.new (S := []) h527).1 _ D524.mem).1 (((xExt.new (S := []) h527).1 _ D524.mem).2.1.trans (D524.kind.trans haK)) dX12_init_135 ?_
  have D528 := D524.arr (k := 20) h527 (show shp (pK P a) 20 = some (13, 20) by rw [haK]; rfl) (by decide) (by decide)
  generalize pSR (pNw P525 q526 13 20) a 20 (some q526) = P529 at D528  ⊢
  refine g_aload_n C dX12_init_138 rfl 0 rfl ?_
  refine g_sipush (v := 800) C dX12_init_139 (by decide) ?_
  refine g_newI (N := 800) C ac_int (by decide) rfl (by decide) (by decide) (by decide) dX12_init_142 (fun q530 h531 => ?_)
  refine g_putFR C fi_X12_72 Ci9 ⟨_, rfl, rfl⟩ rfl ((xExt.new (S := []) h531).1 _ D528.mem).1 (((xExt.new (S := []) h531).1 _ D528.mem).2.1.trans (D528.kind.trans haK)) dX12_init_144 ?_
  have D532 := D528.arr (k := 21) h531 (show shp (pK P a) 21 = some (13, 800) by rw [haK]; rfl) (by decide) (by decide)
  generalize pSR (pNw P529 q530 13 800) a 21 (some q530) = P533 at D532  ⊢
  refine g_aload_n C dX12_init_147 rfl 0 rfl ?_
  refine g_sipush (v := 800) C dX12_init_148 (by decide) ?_
  refine g_newI (N := 800) C ac_int (by decide) rfl (by decide) (by decide) (by decide) dX12_init_151 (fun q534 h535 => ?_)
  refine g_putFR C fi_X12_75 Ci9 ⟨_, rfl, rfl⟩ rfl ((xExt.new (S := []) h535).1 _ D532.mem).1 (((xExt.new (S := []) h535).1 _ D532.mem).2.1.trans (D532.kind.trans haK)) dX12_init_153 ?_
  have D536 := D532.arr (k := 22) h535 (show shp (pK P a) 22 = some (13, 800) by rw [haK]; rfl) (by decide) (by decide)
  generalize pSR (pNw P533 q534 13 800) a 22 (some q534) = P537 at D536  ⊢
  refine g_aload_n C dX12_init_156 rfl 0 rfl ?_
  refine g_sipush (v := 800) C dX12_init_157 (by decide) ?_
  refine g_newI (N := 800) C ac_int (by decide) rfl (by decide) (by decide) (by decide) dX12_init_160 (fun q538 h539 => ?_)
  refine g_putFR C fi_X12_78 Ci9 ⟨_, rfl, rfl⟩ rfl ((xExt.new (S := []) h539).1 _ D536.mem).1 (((xExt.new (S := []) h539).1 _ D536.mem).2.1.trans (D536.kind.trans haK)) dX12_init_162 ?_
  have D540 := D536.arr (k := 23) h539 (show shp (pK P a) 23 = some (13, 800) by rw [haK]; rfl) (by decide) (by decide)
  generalize pSR (pNw P537 q538 13 800) a 23 (some q538) = P541 at D540  ⊢
  refine g_aload_n C dX12_init_165 rfl 0 rfl ?_
  refine g_sipush (v := 800) C dX12_init_166 (by decide) ?_
  refine g_newI (N := 800) C ac_int (by decide) rfl (by decide) (by decide) (by decide) dX12_init_169 (fun q542 h543 => ?_)
  refine g_putFR C fi_X12_81 Ci9 ⟨_, rfl, rfl⟩ rfl ((xExt.new (S := []) h543).1 _ D540.mem).1 (((xExt.new (S := []) h543).1 _ D540.mem).2.1.trans (D540.kind.trans haK)) dX12_init_171 ?_
  have D544 := D540.arr (k := 24) h543 (show shp (pK P a) 24 = some (13, 800) by rw [haK]; rfl) (by decide) (by decide)
  generalize pSR (pNw P541 q542 13 800) a 24 (some q542) = P545 at D544  ⊢
  refine g_aload_n C dX12_init_174 rfl 0 rfl ?_
  refine g_sipush (v := 800) C dX12_init_175 (by decide) ?_
  refine g_newI (N := 800) C ac_int (by decide) rfl (by decide) (by decide) (by decide) dX12_init_178 (fun q546 h547 => ?_)
  refine g_putFR C fi_X12_84 Ci9 ⟨_, rfl, rfl⟩ rfl ((xExt.new (S := []) h547).1 _ D544.mem).1 (((xExt.new (S := []) h547).1 _ D544.mem).2.1.trans (D544.kind.trans haK)) dX12_init_180 ?_
  have D548 := D544.arr (k := 25) h547 (show shp (pK P a) 25 = some (13, 800) by rw [haK]; rfl) (by decide) (by decide)
  generalize pSR (pNw P545 q546 13 800) a 25 (some q546) = P549 at D548  ⊢
  refine g_aload_n C dX12_init_183 rfl 0 rfl ?_
  refine g_iconst (v := 4) C dX12_init_184 (by decide) ?_
  refine g_newZ (N := 4) C ac_boolean (by decide) rfl (by decide) (by decide) (by decide) dX12_init_185 (fun q550 h551 => ?_)
  refine g_putFR C fi_X12_87 Ci9 ⟨_, rfl, rfl⟩ rfl ((xExt.new (S := []) h551).1 _ D548.mem).1 (((xExt.new (S := []) h551).1 _ D548.mem).2.1.trans (D548.kind.trans haK)) dX12_init_187 ?_
  have D552 := D548.arr (k := 26) h551 (show shp (pK P a) 26 = some (15, 4) by rw [haK]; rfl) (by decide) (by decide)
  generalize pSR (pNw P549 q550 15 4) a 26 (some q550) = P553 at D552  ⊢
  refine g_aload_n C dX12_init_190 rfl 0 rfl ?_
  refine g_bipush (v := 64) C dX12_init_191 (by decide) ?_
  refine g_newI (N := 64) C ac_int (by decide) rfl (by decide) (by decide) (by decide) dX12_init_193 (fun q554 h555 => ?_)
  refine g_putFR C fi_X12_91 Ci9 ⟨_, rfl, rfl⟩ rfl ((xExt.new (S := []) h555).1 _ D552.mem).1 (((xExt.new (S := []) h555).1 _ D552.mem).2.1.trans (D552.kind.trans haK)) dX12_init_195 ?_
  have D556 := D552.arr (k := 29) h555 (show shp (pK P a) 29 = some (13, 64) by rw [haK]; rfl) (by decide) (by decide)
  generalize pSR (pNw P553 q554 13 64) a 29 (some q554) = P557 at D556  ⊢
  refine g_aload_n C dX12_init_198 rfl 0 rfl ?_
  refine g_bipush (v := 64) C dX12_init_199 (by decide) ?_
  refine g_newI (N := 64) C ac_int (by decide) rfl (by decide) (by decide) (by decide) dX12_init_201 (fun q558 h559 => ?_)
  refine g_putFR C fi_X12_94 Ci9 ⟨_, rfl, rfl⟩ rfl ((xExt.new (S := []) h559).1 _ D556.mem).1 (((xExt.new (S := []) h559).1 _ D556.mem).2.1.trans (D556.kind.trans haK)) dX12_init_203 ?_
  have D560 := D556.arr (k := 30) h559 (show shp (pK P a) 30 = some (13, 64) by rw [haK]; rfl) (by decide) (by decide)
  generalize pSR (pNw P557 q558 13 64) a 30 (some q558) = P561 at D560  ⊢
  refine g_aload_n C dX12_init_206 rfl 0 rfl ?_
  refine g_bipush (v := 64) C dX12_init_207 (by decide) ?_
  refine g_newI (N := 64) C ac_int (by decide) rfl (by decide) (by decide) (by decide) dX12_init_209 (fun q562 h563 => ?_)
  refine g_putFR C fi_X12_97 Ci9 ⟨_, rfl, rfl⟩ rfl ((xExt.new (S := []) h563).1 _ D560.mem).1 (((xExt.new (S := []) h563).1 _ D560.mem).2.1.trans (D560.kind.trans haK)) dX12_init_211 ?_
  have D564 := D560.arr (k := 31) h563 (show shp (pK P a) 31 = some (13, 64) by rw [haK]; rfl) (by decide) (by decide)
  generalize pSR (pNw P561 q562 13 64) a 31 (some q562) = P565 at D564  ⊢
  refine g_aload_n C dX12_init_214 rfl 0 rfl ?_
  refine g_bipush (v := 40) C dX12_init_215 (by decide) ?_
  refine g_newZ (N := 40) C ac_boolean (by decide) rfl (by decide) (by decide) (by decide) dX12_init_217 (fun q566 h567 => ?_)
  refine g_putFR C fi_X12_100 Ci9 ⟨_, rfl, rfl⟩ rfl ((xExt.new (S := []) h567).1 _ D564.mem).1 (((xExt.new (S := []) h567).1 _ D564.mem).2.1.trans (D564.kind.trans haK)) dX12_init_219 ?_
  have D568 := D564.arr (k := 32) h567 (show shp (pK P a) 32 = some (15, 40) by rw [haK]; rfl) (by decide) (by decide)
  generalize pSR (pNw P565 q566 15 40) a 32 (some q566) = P569 at D568  ⊢
  refine g_aload_n C dX12_init_222 rfl 0 rfl ?_
  refine g_bipush (v := 20) C dX12_init_223 (by decide) ?_
  refine g_newI (N := 20) C ac_int (by decide) rfl (by decide) (by decide) (by decide) dX12_init_225 (fun q570 h571 => ?_)
  refine g_putFR C fi_X12_103 Ci9 ⟨_, rfl, rfl⟩ rfl ((xExt.new (S := []) h571).1 _ D568.mem).1 (((xExt.new (S := []) h571).1 _ D568.mem).2.1.trans (D568.kind.trans haK)) dX12_init_227 ?_
  have D572 := D568.arr (k := 34) h571 (show shp (pK P a) 34 = some (13, 20) by rw [haK]; rfl) (by decide) (by decide)
  generalize pSR (pNw P569 q570 13 20) a 34 (some q570) = P573 at D572  ⊢
  refine g_aload_n C dX12_init_230 rfl 0 rfl ?_
  refine g_bipush (v := 20) C dX12_init_231 (by decide) ?_
  refine g_newI (N := 20) C ac_int (by decide) rfl (by decide) (by decide) (by decide) dX12_init_233 (fun q574 h575 => ?_)
  refine g_putFR C fi_X12_106 Ci9 ⟨_, rfl, rfl⟩ rfl ((xExt.new (S := []) h575).1 _ D572.mem).1 (((xExt.new (S := []) h575).1 _ D572.mem).2.1.trans (D572.kind.trans haK)) dX12_init_235 ?_
  have D576 := D572.arr (k := 37) h575 (show shp (pK P a) 37 = some (13, 20) by rw [haK]; rfl) (by decide) (by decide)
  generalize pSR (pNw P573 q574 13 20) a 37 (some q574) = P577 at D576  ⊢
  refine g_aload_n C dX12_init_238 rfl 0 rfl ?_
  refine g_bipush (v := 20) C dX12_init_239 (by decide) ?_
  refine g_newI (N := 20) C ac_int (by decide) rfl (by decide) (by decide) (by decide) dX12_init_241 (fun q578 h579 => ?_)
  refine g_putFR C fi_X12_109 Ci9 ⟨_, rfl, rfl⟩ rfl ((xExt.new (S := []) h579).1 _ D576.mem).1 (((xExt.new (S := []) h579).1 _ D576.mem).2.1.trans (D576.kind.trans haK)) dX12_init_243 ?_
  have D580 := D576.arr (k := 38) h579 (show shp (pK P a) 38 = some (13, 20) by rw [haK]; rfl) (by decide) (by decide)
  generalize pSR (pNw P577 q578 13 20) a 38 (some q578) = P581 at D580  ⊢
  refine g_aload_n C dX12_init_246 rfl 0 rfl ?_
  refine g_bipush (v := 40) C dX12_init_247 (by decide) ?_
  refine g_newI (N := 40) C ac_int (by decide) rfl (by decide) (by decide) (by decide) dX12_init_249 (fun q582 h583 => ?_)
  refine g_putFR C fi_X12_112 Ci9 ⟨_, rfl, rfl⟩ rfl ((xExt.new (S := []) h583).1 _ D580.mem).1 (((xExt.new (S := []) h583).1 _ D580.mem).2.1.trans (D580.kind.trans haK)) dX12_init_251 ?_
  have D584 := D580.arr (k := 40) h583 (show shp (pK P a) 40 = some (13, 40) by rw [haK]; rfl) (by decide) (by decide)
  generalize pSR (pNw P581 q582 13 40) a 40 (some q582) = P585 at D584  ⊢
  refine g_aload_n C dX12_init_254 rfl 0 rfl ?_
  refine g_bipush (v := 64) C dX12_init_255 (by decide) ?_
  refine g_newI (N := 64) C ac_int (by decide) rfl (by decide) (by decide) (by decide) dX12_init_257 (fun q586 h587 => ?_)
  refine g_putFR C fi_X12_115 Ci9 ⟨_, rfl, rfl⟩ rfl ((xExt.new (S := []) h587).1 _ D584.mem).1 (((xExt.new (S := []) h587).1 _ D584.mem).2.1.trans (D584.kind.trans haK)) dX12_init_259 ?_
  have D588 := D584.arr (k := 41) h587 (show shp (pK P a) 41 = some (13, 64) by rw [haK]; rfl) (by decide) (by decide)
  generalize pSR (pNw P585 q586 13 64) a 41 (some q586) = P589 at D588  ⊢
  refine g_aload_n C dX12_init_262 rfl 0 rfl ?_
  refine g_bipush (v := 64) C dX12_init_263 (by decide) ?_
  refine g_newI (N := 64) C ac_int (by decide) rfl (by decide) (by decide) (by decide) dX12_init_265 (fun q590 h591 => ?_)
  refine g_putFR C fi_X12_118 Ci9 ⟨_, rfl, rfl⟩ rfl ((xExt.new (S := []) h591).1 _ D588.mem).1 (((xExt.new (S := []) h591).1 _ D588.mem).2.1.trans (D588.kind.trans haK)) dX12_init_267 ?_
  have D592 := D588.arr (k := 42) h591 (show shp (pK P a) 42 = some (13, 64) by rw [haK]; rfl) (by decide) (by decide)
  generalize pSR (pNw P589 q590 13 64) a 42 (some q590) = P593 at D592  ⊢
  refine g_aload_n C dX12_init_270 rfl 0 rfl ?_
  refine g_bipush (v := 60) C dX12_init_271 (by decide) ?_
  refine g_newI (N := 60) C ac_int (by decide) rfl (by decide) (by decide) (by decide) dX12_init_273 (fun q594 h595 => ?_)
  refine g_putFR C fi_X12_121 Ci9 ⟨_, rfl, rfl⟩ rfl ((xExt.new (S := []) h595).1 _ D592.mem).1 (((xExt.new (S := []) h595).1 _ D592.mem).2.1.trans (D592.kind.trans haK)) dX12_init_275 ?_
  have D596 := D592.arr (k := 43) h595 (show shp (pK P a) 43 = some (13, 60) by rw [haK]; rfl) (by decide) (by decide)
  generalize pSR (pNw P593 q594 13 60) a 43 (some q594) = P597 at D596  ⊢
  refine g_aload_n C dX12_init_278 rfl 0 rfl ?_
  refine g_bipush (v := 21) C dX12_init_279 (by decide) ?_
  refine g_newI (N := 21) C ac_int (by decide) rfl (by decide) (by decide) (by decide) dX12_init_281 (fun q598 h599 => ?_)
  refine g_putFR C fi_X12_124 Ci9 ⟨_, rfl, rfl⟩ rfl ((xExt.new (S := []) h599).1 _ D596.mem).1 (((xExt.new (S := []) h599).1 _ D596.mem).2.1.trans (D596.kind.trans haK)) dX12_init_283 ?_
  have D600 := D596.arr (k := 44) h599 (show shp (pK P a) 44 = some (13, 21) by rw [haK]; rfl) (by decide) (by decide)
  generalize pSR (pNw P597 q598 13 21) a 44 (some q598) = P601 at D600  ⊢
  refine g_aload_n C dX12_init_286 rfl 0 rfl ?_
  refine g_iconst (v := 4) C dX12_init_287 (by decide) ?_
  refine g_newI (N := 4) C ac_int (by decide) rfl (by decide) (by decide) (by decide) dX12_init_288 (fun q602 h603 => ?_)
  refine g_putFR C fi_X12_127 Ci9 ⟨_, rfl, rfl⟩ rfl ((xExt.new (S := []) h603).1 _ D600.mem).1 (((xExt.new (S := []) h603).1 _ D600.mem).2.1.trans (D600.kind.trans haK)) dX12_init_290 ?_
  have D604 := D600.arr (k := 45) h603 (show shp (pK P a) 45 = some (13, 4) by rw [haK]; rfl) (by decide) (by decide)
  generalize pSR (pNw P601 q602 13 4) a 45 (some q602) = P605 at D604  ⊢
  refine g_aload_n C dX12_init_293 rfl 0 rfl ?_
  refine g_iconst (v := 4) C dX12_init_294 (by decide) ?_
  refine g_newI (N := 4) C ac_int (by decide) rfl (by decide) (by decide) (by decide) dX12_init_295 (fun q606 h607 => ?_)
  refine g_putFR C fi_X12_130 Ci9 ⟨_, rfl, rfl⟩ rfl ((xExt.new (S := []) h607).1 _ D604.mem).1 (((xExt.new (S := []) h607).1 _ D604.mem).2.1.trans (D604.kind.trans haK)) dX12_init_297 ?_
  have e609 : pR (pSR (pNw P605 q606 13 4) a 46 (some q606)) a 46 = some q606 := R_put
  have D608 := D604.arr (k := 46) h607 (show shp (pK P a) 46 = some (13, 4) by rw [haK]; rfl) (by decide) (by decide)
  generalize pSR (pNw P605 q606 13 4) a 46 (some q606) = P610 at D608 e609 ⊢
  refine g_aload_n C dX12_init_300 rfl 0 rfl ?_
  refine g_iconst (v := 4) C dX12_init_301 (by decide) ?_
  refine g_newI (N := 4) C ac_int (by decide) rfl (by decide) (by decide) (by decide) dX12_init_302 (fun q611 h612 => ?_)
  refine g_putFR C fi_X12_133 Ci9 ⟨_, rfl, rfl⟩ rfl ((xExt.new (S := []) h612).1 _ D608.mem).1 (((xExt.new (S := []) h612).1 _ D608.mem).2.1.trans (D608.kind.trans haK)) dX12_init_304 ?_
  have e614 := R_keep (k := 47) (kd := 13) (n := 4) (v := some q611) h612 D608.mem (by decide) e609
  have D613 := D608.arr (k := 47) h612 (show shp (pK P a) 47 = some (13, 4) by rw [haK]; rfl) (by decide) (by decide)
  generalize pSR (pNw P610 q611 13 4) a 47 (some q611) = P615 at D613 e614 ⊢
  refine g_iconst (v := 0) C dX12_init_307 (by decide) ?_
  refine g_istore_n (lv' := [(1, .int 0), (0, .ref a)]) C dX12_init_308 rfl (by decide) rfl ?_
  have hq := fd_at D613 haK (by decide) (k := 46) rfl e614
  refine g_pp (P2 := pWI P615 (pI P615) (pJ P615)) (pc2 := 309) (cs2 := 35) (sl2 := 8708) (pWI_self _) (by decide) (by decide) (by decide) ?_
  have lp621 : ∀ (n623 i616 : Nat), i616 + n623 = 4 → ∀ (I617 : Nat → Nat → Int32), ((∀ j, j < i616 → I617 q606 j = 1) ∧ ∀ b, b ≠ q606 → I617 b = pI P615 b) → G E ({ frames := 2, cells := 35, slots := 8708, locals := 128 } : Room) D cy 2 (pWI P615 I617 (pJ P615)) 35 8708 309 [(1, .int (nI i616)), (0, .ref a)] [] := by
    intro n623
    induction n623 with
    | zero =>
      intro i616 hi618 I617 hv619
      have ei620 : (nI i616).toInt = (i616 : Int) := ti_nI (by omega)
      refine g_iload_n C dX12_init_309 rfl 0 rfl ?_
      refine g_iconst (v := 4) C dX12_init_310 (by decide) ?_
      refine b_icmp_ge C 327 dX12_init_311 (by decide) (fun h624 => ?_) (fun h624 => ?_)
      · have h624 : 4 ≤ (nI i616).toInt := h624
        exact ret _ _ _ _ _ dX12_init_327 (by decide) (by decide) (IM.made D613 haK (kin (by decide +kernel)) e614 hv619.2)
      · have h624 : (nI i616).toInt < 4 := h624
        omega
    | succ n623 ih622 =>
      intro i616 hi618 I617 hv619
      have ei620 : (nI i616).toInt = (i616 : Int) := ti_nI (by omega)
      refine g_iload_n C dX12_init_309 rfl 0 rfl ?_
      refine g_iconst (v := 4) C dX12_init_310 (by decide) ?_
      refine b_icmp_ge C 327 dX12_init_311 (by decide) (fun h625 => ?_) (fun h625 => ?_)
      · have h625 : 4 ≤ (nI i616).toInt := h625
        omega
      · have h625 : (nI i616).toInt < 4 := h625
        refine g_aload_n C dX12_init_314 rfl 1 rfl ?_
        refine g_getR C fi_X12_130 rfl (W_fld e614) (W_mem D613.mem) (W_kind (D613.kind.trans haK)) dX12_init_315 ?_
        refine g_iload_n C dX12_init_318 rfl 0 rfl ?_
        refine g_iconst (v := 1) C dX12_init_319 (by decide) ?_
        refine g_iast (j := i616) C (W_mem hq.1) (W_kind hq.2.1) (IX.inn (W_len hq.2.2) (by omega) (by decide)) dX12_init_320 ?_
        obtain ⟨I626, eI626⟩ : ∃ I9, I9 = va_up I617 q606 (va_up (I617 q606) i616 1) := ⟨_, rfl⟩
        rw [pSI_pWI, ← eI626]
        have h627 : (∀ j, j < i616 + 1 → I626 q606 j = 1) ∧ ∀ b, b ≠ q606 → I626 b = pI P615 b := ⟨fun j hj => by rw [eI626]; by_cases ej : j = i616 <;> simp [va_up, ej] <;> exact hv619.1 j (by omega), fun b hb => by rw [eI626, up_ne hb]; exact hv619.2 b hb⟩
        refine g_iinc (v := (nI (i616 + 1))) (lv' := [(1, .int (nI (i616 + 1))), (0, .ref a)]) C dX12_init_321 0 rfl (nI_1 _) (by decide) rfl ?_
        refine g_goto C 309 dX12_init_324 (by decide) ?_
        exact ih622 (i616 + 1) (by omega) _ (h627)
  exact lp621 4 0 rfl _ (⟨fun j hj => absurd hj (by omega), fun b _ => rfl⟩)
