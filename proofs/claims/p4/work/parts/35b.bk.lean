def sgb (c : Int32) : Prop := c = 10 ∨ (32 ≤ c.toInt ∧ c.toInt ≤ 126)
noncomputable def stc (c : Int32) (n : Nat) : Nat := by
  classical
  exact if sgb c ∧ n < 1000 then n + 1 else n
theorem stc_yes {c : Int32} {n : Nat} (h : sgb c) (h2 : n < 1000) : stc c n = n + 1 := by simp [stc, h, h2]
theorem stc_no {c : Int32} {n : Nat} (h : sgb c → 1000 ≤ n) : stc c n = n := by
  unfold stc
  rw [if_neg (fun q => by have := h q.1; omega)]
theorem stc_le {c : Int32} {n : Nat} (h : n ≤ 1000) : stc c n ≤ 1000 := by
  unfold stc
  split
  · rename_i q; omega
  · exact h
noncomputable def cnt (f : Int32 → Int32) : Nat → Nat → Nat
  | 0, n => n
  | j + 1, n => cnt f j (stc (f (nI (8 * j))) n)
theorem cnt_le {f : Int32 → Int32} : ∀ (j : Nat) {n : Nat}, n ≤ 1000 → cnt f j n ≤ 1000
  | 0, _, h => h
  | j + 1, _, h => cnt_le j (stc_le h)
theorem cnt_congr {f g : Int32 → Int32} : ∀ (j : Nat) {n : Nat}, (∀ i, i < j → f (nI (8 * i)) = g (nI (8 * i))) → cnt f j n = cnt g j n
  | 0, _, _ => rfl
  | j + 1, _, h => by
    unfold cnt
    rw [h j (by omega)]
    exact cnt_congr j (fun i hi => h i (by omega))
def shf (j : Nat) : Int32 := nI (8 * j) + (-8)
theorem shf_s (j : Nat) : shf (j + 1) = nI (8 * j) := by
  unfold shf
  rw [show 8 * (j + 1) = 8 * j + 8 by omega, ← nI_add, Int32.add_assoc, show nI 8 + (-8) = 0 from rfl, Int32.add_zero]
def byU (v : Int64) (s : Int32) : Int32 := ((v.toUInt64 >>> (s.toInt64.toUInt64 &&& Int64.toUInt64 63)).toInt64).toInt32 &&& 255
def byS (v : Int64) (s : Int32) : Int32 := (v >>> (s.toInt64 &&& 63)).toInt32 &&& 255
theorem bq2 (V : BitVec 64) {s s1 s2 : Nat} (h1 : s1 = s) (h2 : s2 = s) (hs : s ≤ 56) : (V.ushiftRight s1).signExtend 32 &&& 255#32 = (V.sshiftRight s2).signExtend 32 &&& 255#32 := by
  subst h1
  subst h2
  apply BitVec.eq_of_getLsbD_eq
  intro j hj
  rw [BitVec.getLsbD_and, BitVec.getLsbD_and]
  by_cases h8 : j < 8
  · congr 1
    rw [BitVec.getLsbD_signExtend, BitVec.getLsbD_signExtend, if_pos (by omega), if_pos (by omega), BitVec.getLsbD_sshiftRight]
    have e : (V.ushiftRight s2).getLsbD j = V.getLsbD (s2 + j) := BitVec.getLsbD_ushiftRight ..
    rw [e]
    simp [show ¬ 64 ≤ j by omega, show s2 + j < 64 by omega]
  · have e : (255#32).getLsbD j = false := by
      rw [BitVec.getLsbD_ofNat, Nat.testBit_lt_two_pow (Nat.lt_of_lt_of_le (show 255 < 2 ^ 8 by decide) (Nat.pow_le_pow_right (by decide) (by omega)))]
      simp
    rw [e, Bool.and_false, Bool.and_false]
theorem by_eq (v : Int64) (i : Nat) (hi : i < 8) : byU v (nI (8 * i)) = byS v (nI (8 * i)) := by
  unfold byU byS
  rcases (show i = 0 ∨ i = 1 ∨ i = 2 ∨ i = 3 ∨ i = 4 ∨ i = 5 ∨ i = 6 ∨ i = 7 by omega) with rfl | rfl | rfl | rfl | rfl | rfl | rfl | rfl
  · have h1 : (((nI (8 * 0)).toInt64.toUInt64 &&& Int64.toUInt64 63).toBitVec % 64).toNat = 0 := by decide
    have h2 : (((nI (8 * 0)).toInt64 &&& 63).toBitVec.smod 64).toNat = 0 := by decide
    exact Int32.toBitVec_inj.mp (bq2 v.toBitVec h1 h2 (by omega))
  · have h1 : (((nI (8 * 1)).toInt64.toUInt64 &&& Int64.toUInt64 63).toBitVec % 64).toNat = 8 := by decide
    have h2 : (((nI (8 * 1)).toInt64 &&& 63).toBitVec.smod 64).toNat = 8 := by decide
    exact Int32.toBitVec_inj.mp (bq2 v.toBitVec h1 h2 (by omega))
  · have h1 : (((nI (8 * 2)).toInt64.toUInt64 &&& Int64.toUInt64 63).toBitVec % 64).toNat = 16 := by decide
    have h2 : (((nI (8 * 2)).toInt64 &&& 63).toBitVec.smod 64).toNat = 16 := by decide
    exact Int32.toBitVec_inj.mp (bq2 v.toBitVec h1 h2 (by omega))
  · have h1 : (((nI (8 * 3)).toInt64.toUInt64 &&& Int64.toUInt64 63).toBitVec % 64).toNat = 24 := by decide
    have h2 : (((nI (8 * 3)).toInt64 &&& 63).toBitVec.smod 64).toNat = 24 := by decide
    exact Int32.toBitVec_inj.mp (bq2 v.toBitVec h1 h2 (by omega))
  · have h1 : (((nI (8 * 4)).toInt64.toUInt64 &&& Int64.toUInt64 63).toBitVec % 64).toNat = 32 := by decide
    have h2 : (((nI (8 * 4)).toInt64 &&& 63).toBitVec.smod 64).toNat = 32 := by decide
    exact Int32.toBitVec_inj.mp (bq2 v.toBitVec h1 h2 (by omega))
  · have h1 : (((nI (8 * 5)).toInt64.toUInt64 &&& Int64.toUInt64 63).toBitVec % 64).toNat = 40 := by decide
    have h2 : (((nI (8 * 5)).toInt64 &&& 63).toBitVec.smod 64).toNat = 40 := by decide
    exact Int32.toBitVec_inj.mp (bq2 v.toBitVec h1 h2 (by omega))
  · have h1 : (((nI (8 * 6)).toInt64.toUInt64 &&& Int64.toUInt64 63).toBitVec % 64).toNat = 48 := by decide
    have h2 : (((nI (8 * 6)).toInt64 &&& 63).toBitVec.smod 64).toNat = 48 := by decide
    exact Int32.toBitVec_inj.mp (bq2 v.toBitVec h1 h2 (by omega))
  · have h1 : (((nI (8 * 7)).toInt64.toUInt64 &&& Int64.toUInt64 63).toBitVec % 64).toNat = 56 := by decide
    have h2 : (((nI (8 * 7)).toInt64 &&& 63).toBitVec.smod 64).toNat = 56 := by decide
    exact Int32.toBitVec_inj.mp (bq2 v.toBitVec h1 h2 (by omega))
theorem cnt_eq (v : Int64) (n : Nat) : cnt (byU v) 8 n = cnt (byS v) 8 n := cnt_congr 8 (fun i hi => by_eq v i hi)
/-- the numbers stay, but for the array ar, and the field f of a -/
def FR (P : PP) (a ar f : Nat) (I2 : Nat → Nat → Int32) : Prop := (∀ b, b ≠ a → b ≠ ar → I2 b = pI P b) ∧ ∀ k, k ≠ f → I2 a k = pI P a k
theorem FR.rf {P : PP} {a ar f : Nat} : FR P a ar f (pI P) := ⟨fun _ _ _ => rfl, fun _ _ => rfl⟩
theorem FR.arr {P : PP} {a ar f j : Nat} {v : Int32} {I2 : Nat → Nat → Int32} (h : FR P a ar f I2) (hne : a ≠ ar) : FR P a ar f (va_up I2 ar (va_up (I2 ar) j v)) :=
  ⟨fun b h1 h2 => by rw [up_ne h2]; exact h.1 b h1 h2, fun k hk => by rw [up_ne hne]; exact h.2 k hk⟩
theorem FR.fld {P : PP} {a ar f : Nat} {v : Int32} {I2 : Nat → Nat → Int32} (h : FR P a ar f I2) : FR P a ar f (va_up I2 a (va_up (I2 a) f v)) :=
  ⟨fun b h1 h2 => by rw [up_ne h1]; exact h.1 b h1 h2, fun k hk => by rw [up_self, up_ne hk]; exact h.2 k hk⟩
noncomputable def cz (f : Int32 → Int32) (z : Int) : Int := ((cnt f 8 z.toNat : Nat) : Int)
theorem cz_eq (v : Int64) (z : Int) : cz (byU v) z = cz (byS v) z := by unfold cz; rw [cnt_eq]
theorem nI_frm {x : Int32} (h : 0 ≤ x.toInt ∧ x.toInt ≤ 1000) : x = nI x.toInt.toNat := Int32.toInt_inj.mp (by rw [ti_nI (by omega)]; omega)
theorem FR.iv {P : PP} {a ar f c : Nat} {I2 : Nat → Nat → Int32} (I : IV P) (ha : At P a c) (hr : pK P ar = 13) (h : FR P a ar f I2) (hv : rgOk c f (I2 a f)) : IV (pWI P I2 (pJ P)) := by
  refine ⟨fun b hb _ => (I.1 b hb List.not_mem_nil).ext (S := [a, ar]) (P2 := pWI P I2 (pJ P)) ⟨fun b hb => ⟨hb, rfl, rfl⟩, fun b _ hs => ⟨h.1 b (fun e => hs (e ▸ List.mem_cons_self)) (fun e => hs (e ▸ List.mem_cons_of_mem _ List.mem_cons_self)), rfl, rfl⟩⟩ hb rfl, fun b hb k => ?_, fun b hb hk j z hz => I.2.2 b hb hk j z hz⟩
  show rgOk (pK P b) k (I2 b k)
  by_cases e : b = a
  · subst e
    by_cases ek : k = f
    · subst ek; rw [ha.2]; exact hv
    · rw [h.2 k ek]; exact I.2.1 b hb k
  · by_cases e2 : b = ar
    · subst e2; rw [hr]; exact rgOk.none (rgT_arr (by decide))
    · rw [h.1 b e e2]; exact I.2.1 b hb k
theorem FR.ek {P : PP} {a ar f c : Nat} {I2 : Nat → Nat → Int32} (ha : At P a c) (hr : pK P ar = 13) (h : FR P a ar f I2) {ks : List Nat} (h1 : c ∈ ks) (h2 : 13 ∈ ks) : EK ks P (pWI P I2 (pJ P)) :=
  ⟨fun b hb => ⟨hb, rfl, rfl⟩, fun b _ hk => h.1 b (fun e => hk (by rw [e, ha.2]; exact h1)) (fun e => hk (by rw [e, hr]; exact h2)), fun _ _ _ => rfl⟩
theorem FR.im {P : PP} {a ar : Nat} {I2 : Nat → Nat → Int32} (I : IM P a) (e1 : pR P a 1 = some ar) (h : FR P a ar 2 I2) (hr : pK P ar = 13) (hv : rgOk 12 2 (I2 a 2)) : IM (pWI P I2 (pJ P)) a := by
  have hn : ∀ f b, f ≠ 1 → pR P a f = some b → b ≠ ar := fun f b hf e z => hf (I.2.2.1 f 1 ar (z ▸ e) e1)
  refine ⟨FR.iv I.1 I.2.1 hr h hv, I.2.1, I.2.2.1, fun f b e j lo hi hh => ?_, fun b e => ?_⟩
  · show lo ≤ (I2 b j).toInt ∧ (I2 b j).toInt ≤ hi
    have hb := I.apart (arT_shp hh) e
    have hf : f ≠ 1 := fun z => by subst z; cases hh
    rw [h.1 b hb (hn f b hf e)]
    exact I.2.2.2.1 f b e j lo hi hh
  · show (I2 b 1000).toInt = 0
    rw [h.1 b (I.apart (f := 4) rfl e) (hn 4 b (by decide) e)]
    exact I.2.2.2.2 b e
theorem FR.em {P : PP} {a ar : Nat} {I2 : Nat → Nat → Int32} (I : IM P a) (e1 : pR P a 1 = some ar) (h : FR P a ar 2 I2) : EM [1, 2] a P (pWI P I2 (pJ P)) := by
  refine ⟨fun b hb => ⟨hb, rfl, rfl⟩, fun _ _ _ => rfl, fun k hk => h.2 k (fun z => hk (by rw [z]; decide)), fun f hf hs b e => ?_⟩
  exact h.1 b (I.apart hs e) (fun z => hf (by rw [I.2.2.1 f 1 ar (z ▸ e) e1]; decide))
theorem CtrV.imp {y : MethodName} {yc : ByteArray} {mL : Nat} {ret : Option FieldType} {rm : Room} {mc ms : Nat} {P : PP} {av : List Value} {post post' : PP → Prop} (h : CtrV y yc mL ret rm mc ms P av post) (hi : ∀ U, post U → post' U) : CtrV y yc mL ret rm mc ms P av post' := by
  intro l D cy sz p e ha hc hk s m args below hf happ hP hK
  obtain ⟨n, o, h1, h2, h3, ⟨⟨u, ho, hp, hA⟩, hF⟩, L, hL1, hL2⟩ := h l D cy sz p e ha hc hk s m args below hf happ hP hK
  exact ⟨n, o, h1, h2, h3, ⟨⟨u, ho, hi _ hp, hA⟩, hF⟩, L, hL1, hL2⟩
set_option maxHeartbeats 4000000 in
set_option maxRecDepth 100000 in
theorem c_X9_takeEight {P : PP} {a n : Nat} {v : Int64} (ha : a ∈ pL P) (haK : pK P a = 9) (oka : xOk P a) (hn : n ≤ 1000) (hz : pI P a 1 = nI n) : CtrV yX9_takeEight cX9_takeEight 5 none ({ frames := 1, cells := 0, slots := 0, locals := 64 } : Room) 0 0 P [.ref a, .long v] (fun P2 => ∃ ar I2, pR P a 0 = some ar ∧ pK P ar = 13 ∧ P2 = pWI P I2 (pJ P) ∧ FR P a ar 1 I2 ∧ I2 a 1 = nI (cnt (byU v) 8 n)) := by
  refine enV (lv := [(0, .ref a), (1, .long v)]) (by decide) (Nat.le_of_ble_eq_true rfl) rfl (fun E D cy C Ci0 ret => ?_)
  refine g_bipush (v := 56) C dX9_takeEight_0 (by decide) ?_
  refine g_istore_n (lv' := [(3, .int 56), (0, .ref a), (1, .long v)]) C dX9_takeEight_2 rfl (by decide) rfl ?_
  obtain ⟨ar, har⟩ := xFd.at oka haK 0 13 1000 rfl
  have hne : a ≠ ar := fun e => by have h1 := har.2.2.1; rw [← e, haK] at h1; omega
  have lp : ∀ (j n1 : Nat) (I2 : Nat → Nat → Int32), j ≤ 8 → n1 ≤ 1000 → I2 a 1 = nI n1 → cnt (byU v) j n1 = cnt (byU v) 8 n → FR P a ar 1 I2 → G E ({ frames := 1, cells := 0, slots := 0, locals := 64 } : Room) D cy 5 (pWI P I2 (pJ P)) 0 0 3 [(3, .int (shf j)), (0, .ref a), (1, .long v)] [] := by
    intro j
    induction j with
    | zero =>
      intro n1 I2 hj h1 h2 h3 h4
      have es : (shf 0).toInt = -8 := by decide
      refine g_iload_n C dX9_takeEight_3 rfl 0 rfl ?_
      refine b_if_lt C 75 dX9_takeEight_4 (by decide) (fun h524 => ?_) (fun h524 => ?_)
      · have h524 : (shf 0).toInt < 0 := h524
        exact ret _ _ _ _ _ dX9_takeEight_75 (by decide) (by decide) (⟨ar, I2, har.1, har.2.2.1, rfl, h4, h2.trans (congrArg nI h3)⟩)
      · have h524 : 0 ≤ (shf 0).toInt := h524
        omega
    | succ j ih =>
      intro n1 I2 hj h1 h2 h3 h4
      rw [shf_s]
      have es : (nI (8 * j)).toInt = ((8 * j : Nat) : Int) := ti_nI (by omega)
      have en : (nI n1).toInt = (n1 : Int) := ti_nI (by omega)
      refine g_iload_n C dX9_takeEight_3 rfl 0 rfl ?_
      refine b_if_lt C 75 dX9_takeEight_4 (by decide) (fun h525 => ?_) (fun h525 => ?_)
      · have h525 : (nI (8 * j)).toInt < 0 := h525
        omega
      · have h525 : 0 ≤ (nI (8 * j)).toInt := h525
        refine g_lload_n C dX9_takeEight_7 rfl 2 rfl ?_
        refine g_iload_n C dX9_takeEight_8 rfl 0 rfl ?_
        obtain ⟨x526, ex526⟩ : ∃ z : Int64, z = (Int64.toUInt64 v >>> ((Int32.toInt64 (nI (8 * j))).toUInt64 &&& Int64.toUInt64 63)).toInt64 := ⟨_, rfl⟩
        refine g_lushr (v := x526) C dX9_takeEight_9 ex526.symm ?_
        refine g_l2i (v := Int64.toInt32 x526) C dX9_takeEight_10 rfl ?_
        refine g_sipush (v := 255) C dX9_takeEight_11 (by decide) ?_
        refine g_iand C dX9_takeEight_14 ?_
        refine g_topi (fun x527 ex527 => ?_)
        refine g_istore (lv' := [(4, .int x527), (3, .int (nI (8 * j))), (0, .ref a), (1, .long v)]) C dX9_takeEight_15 (by decide) rfl ?_
        have hc : x527 = byU v (nI (8 * j)) := by rw [ex527, ex526]; rfl
        refine g_iload C dX9_takeEight_17 0 rfl ?_
        refine g_bipush (v := 10) C dX9_takeEight_19 (by decide) ?_
        refine b_icmp_eq C 38 dX9_takeEight_21 (by decide) (fun h528 => ?_) (fun h528 => ?_)
        · have h528 : x527 = 10 := h528
          refine g_aload_n C dX9_takeEight_38 rfl 2 rfl ?_
          refine g_getI C fi_X9_15 (by decide) ha haK dX9_takeEight_39 ?_
          rw [show pI (pWI P I2 (pJ P)) a 1 = (nI n1) from h2]
          refine g_sipush (v := 1000) C dX9_takeEight_42 (by decide) ?_
          refine b_icmp_ge C 69 dX9_takeEight_45 (by decide) (fun h529 => ?_) (fun h529 => ?_)
          · have h529 : 1000 ≤ (nI n1).toInt := h529
            refine g_iinc (v := shf j) (lv' := [(3, .int (shf j)), (4, .int x527), (0, .ref a), (1, .long v)]) C dX9_takeEight_69 1 rfl rfl (by decide) rfl ?_
            refine g_goto C 3 dX9_takeEight_72 (by decide) ?_
            refine g_lv (lv' := [(3, .int (shf j)), (0, .ref a), (1, .long v)]) [0, 2, 3] rfl ?_
            exact ih n1 I2 (by omega) (by omega) h2 (by rw [← h3]; show cnt (byU v) j _ = cnt (byU v) j (stc (byU v (nI (8 * j))) n1); rw [← hc, stc_no (fun h9 => by rcases h9 with h8 | h8 <;> first | exact absurd h8 (by assumption) | omega)]) h4
          · have h529 : (nI n1).toInt < 1000 := h529
            refine g_aload_n C dX9_takeEight_48 rfl 2 rfl ?_
            refine g_getR C fi_X9_9 rfl (har.1) ha haK dX9_takeEight_49 ?_
            refine g_aload_n C dX9_takeEight_52 rfl 2 rfl ?_
            refine g_getI C fi_X9_15 (by decide) ha haK dX9_takeEight_53 ?_
            rw [show pI (pWI P I2 (pJ P)) a 1 = (nI n1) from h2]
            refine g_iload C dX9_takeEight_56 0 rfl ?_
            refine g_iast (j := n1) C har.2.1 har.2.2.1 (IX.inn har.2.2.2 (by omega) (by decide)) dX9_takeEight_58 ?_
            obtain ⟨I530, eI530⟩ : ∃ I9, I9 = va_up I2 ar (va_up (I2 ar) n1 x527) := ⟨_, rfl⟩
            rw [show (pSI (pWI P I2 (pJ P)) ar n1 x527) = pWI P I530 (pJ P) by rw [eI530]; rfl]
            have h531 : I530 a 1 = nI n1 := by rw [eI530, up_ne hne]; exact h2
            have h532 : FR P a ar 1 I530 := by rw [eI530]; exact h4.arr hne
            refine g_aload_n C dX9_takeEight_59 rfl 2 rfl ?_
            refine g_dup C dX9_takeEight_60 rfl ?_
            refine g_getI C fi_X9_15 (by decide) ha haK dX9_takeEight_61 ?_
            rw [show pI (pWI P I530 (pJ P)) a 1 = (nI n1) from h531]
            refine g_iconst (v := 1) C dX9_takeEight_64 (by decide) ?_
            refine g_iadd C dX9_takeEight_65 ?_
            rw [nI_1]
            refine g_putI C fi_X9_15 rfl ha haK dX9_takeEight_66 ?_
            obtain ⟨I533, eI533⟩ : ∃ I9, I9 = va_up I530 a (va_up (I530 a) 1 (nI (n1 + 1))) := ⟨_, rfl⟩
            rw [show (pSI (pWI P I530 (pJ P)) a 1 (nI (n1 + 1))) = pWI P I533 (pJ P) by rw [eI533]; rfl]
            have h534 : I533 a 1 = nI (n1 + 1) := by rw [eI533, up_self, up_self]
            have h535 : FR P a ar 1 I533 := by rw [eI533]; exact h532.fld
            refine g_iinc (v := shf j) (lv' := [(3, .int (shf j)), (4, .int x527), (0, .ref a), (1, .long v)]) C dX9_takeEight_69 1 rfl rfl (by decide) rfl ?_
            refine g_goto C 3 dX9_takeEight_72 (by decide) ?_
            refine g_lv (lv' := [(3, .int (shf j)), (0, .ref a), (1, .long v)]) [0, 2, 3] rfl ?_
            exact ih (n1 + 1) I533 (by omega) (by omega) h534 (by rw [← h3]; show cnt (byU v) j _ = cnt (byU v) j (stc (byU v (nI (8 * j))) n1); rw [← hc, stc_yes (by first | (exact Or.inl (by assumption)) | (exact Or.inr ⟨by omega, by omega⟩)) (by omega)]) h535
        · have h528 : ¬ x527 = 10 := h528
          refine g_iload C dX9_takeEight_24 0 rfl ?_
          refine g_bipush (v := 32) C dX9_takeEight_26 (by decide) ?_
          refine b_icmp_lt C 69 dX9_takeEight_28 (by decide) (fun h536 => ?_) (fun h536 => ?_)
          · have h536 : x527.toInt < 32 := h536
            refine g_iinc (v := shf j) (lv' := [(3, .int (shf j)), (4, .int x527), (0, .ref a), (1, .long v)]) C dX9_takeEight_69 1 rfl rfl (by decide) rfl ?_
            refine g_goto C 3 dX9_takeEight_72 (by decide) ?_
            refine g_lv (lv' := [(3, .int (shf j)), (0, .ref a), (1, .long v)]) [0, 2, 3] rfl ?_
            exact ih n1 I2 (by omega) (by omega) h2 (by rw [← h3]; show cnt (byU v) j _ = cnt (byU v) j (stc (byU v (nI (8 * j))) n1); rw [← hc, stc_no (fun h9 => by rcases h9 with h8 | h8 <;> first | exact absurd h8 (by assumption) | omega)]) h4
          · have h536 : 32 ≤ x527.toInt := h536
            refine g_iload C dX9_takeEight_31 0 rfl ?_
            refine g_bipush (v := 126) C dX9_takeEight_33 (by decide) ?_
            refine b_icmp_gt C 69 dX9_takeEight_35 (by decide) (fun h537 => ?_) (fun h537 => ?_)
            · have h537 : 126 < x527.toInt := h537
              refine g_iinc (v := shf j) (lv' := [(3, .int (shf j)), (4, .int x527), (0, .ref a), (1, .long v)]) C dX9_takeEight_69 1 rfl rfl (by decide) rfl ?_
              refine g_goto C 3 dX9_takeEight_72 (by decide) ?_
              refine g_lv (lv' := [(3, .int (shf j)), (0, .ref a), (1, .long v)]) [0, 2, 3] rfl ?_
              exact ih n1 I2 (by omega) (by omega) h2 (by rw [← h3]; show cnt (byU v) j _ = cnt (byU v) j (stc (byU v (nI (8 * j))) n1); rw [← hc, stc_no (fun h9 => by rcases h9 with h8 | h8 <;> first | exact absurd h8 (by assumption) | omega)]) h4
            · have h537 : x527.toInt ≤ 126 := h537
              refine g_aload_n C dX9_takeEight_38 rfl 2 rfl ?_
              refine g_getI C fi_X9_15 (by decide) ha haK dX9_takeEight_39 ?_
              rw [show pI (pWI P I2 (pJ P)) a 1 = (nI n1) from h2]
              refine g_sipush (v := 1000) C dX9_takeEight_42 (by decide) ?_
              refine b_icmp_ge C 69 dX9_takeEight_45 (by decide) (fun h538 => ?_) (fun h538 => ?_)
              · have h538 : 1000 ≤ (nI n1).toInt := h538
                refine g_iinc (v := shf j) (lv' := [(3, .int (shf j)), (4, .int x527), (0, .ref a), (1, .long v)]) C dX9_takeEight_69 1 rfl rfl (by decide) rfl ?_
                refine g_goto C 3 dX9_takeEight_72 (by decide) ?_
                refine g_lv (lv' := [(3, .int (shf j)), (0, .ref a), (1, .long v)]) [0, 2, 3] rfl ?_
                exact ih n1 I2 (by omega) (by omega) h2 (by rw [← h3]; show cnt (byU v) j _ = cnt (byU v) j (stc (byU v (nI (8 * j))) n1); rw [← hc, stc_no (fun h9 => by rcases h9 with h8 | h8 <;> first | exact absurd h8 (by assumption) | omega)]) h4
              · have h538 : (nI n1).toInt < 1000 := h538
                refine g_aload_n C dX9_takeEight_48 rfl 2 rfl ?_
                refine g_getR C fi_X9_9 rfl (har.1) ha haK dX9_takeEight_49 ?_
                refine g_aload_n C dX9_takeEight_52 rfl 2 rfl ?_
                refine g_getI C fi_X9_15 (by decide) ha haK dX9_takeEight_53 ?_
                rw [show pI (pWI P I2 (pJ P)) a 1 = (nI n1) from h2]
                refine g_iload C dX9_takeEight_56 0 rfl ?_
                refine g_iast (j := n1) C har.2.1 har.2.2.1 (IX.inn har.2.2.2 (by omega) (by decide)) dX9_takeEight_58 ?_
                obtain ⟨I539, eI539⟩ : ∃ I9, I9 = va_up I2 ar (va_up (I2 ar) n1 x527) := ⟨_, rfl⟩
                rw [show (pSI (pWI P I2 (pJ P)) ar n1 x527) = pWI P I539 (pJ P) by rw [eI539]; rfl]
                have h540 : I539 a 1 = nI n1 := by rw [eI539, up_ne hne]; exact h2
                have h541 : FR P a ar 1 I539 := by rw [eI539]; exact h4.arr hne
                refine g_aload_n C dX9_takeEight_59 rfl 2 rfl ?_
                refine g_dup C dX9_takeEight_60 rfl ?_
                refine g_getI C fi_X9_15 (by decide) ha haK dX9_takeEight_61 ?_
                rw [show pI (pWI P I539 (pJ P)) a 1 = (nI n1) from h540]
                refine g_iconst (v := 1) C dX9_takeEight_64 (by decide) ?_
                refine g_iadd C dX9_takeEight_65 ?_
                rw [nI_1]
                refine g_putI C fi_X9_15 rfl ha haK dX9_takeEight_66 ?_
                obtain ⟨I542, eI542⟩ : ∃ I9, I9 = va_up I539 a (va_up (I539 a) 1 (nI (n1 + 1))) := ⟨_, rfl⟩
                rw [show (pSI (pWI P I539 (pJ P)) a 1 (nI (n1 + 1))) = pWI P I542 (pJ P) by rw [eI542]; rfl]
                have h543 : I542 a 1 = nI (n1 + 1) := by rw [eI542, up_self, up_self]
                have h544 : FR P a ar 1 I542 := by rw [eI542]; exact h541.fld
                refine g_iinc (v := shf j) (lv' := [(3, .int (shf j)), (4, .int x527), (0, .ref a), (1, .long v)]) C dX9_takeEight_69 1 rfl rfl (by decide) rfl ?_
                refine g_goto C 3 dX9_takeEight_72 (by decide) ?_
                refine g_lv (lv' := [(3, .int (shf j)), (0, .ref a), (1, .long v)]) [0, 2, 3] rfl ?_
                exact ih (n1 + 1) I542 (by omega) (by omega) h543 (by rw [← h3]; show cnt (byU v) j _ = cnt (byU v) j (stc (byU v (nI (8 * j))) n1); rw [← hc, stc_yes (by first | (exact Or.inl (by assumption)) | (exact Or.inr ⟨by omega, by omega⟩)) (by omega)]) h544
  exact lp 8 n _ (by omega) hn hz rfl FR.rf
set_option maxHeartbeats 4000000 in
set_option maxRecDepth 100000 in
theorem c_X12_lay {P : PP} {a n : Nat} {v : Int64} (ha : a ∈ pL P) (haK : pK P a = 12) (oka : xOk P a) (hn : n ≤ 1000) (hz : pI P a 2 = nI n) : CtrV yX12_lay cX12_lay 5 none ({ frames := 1, cells := 0, slots := 0, locals := 64 } : Room) 0 0 P [.ref a, .long v] (fun P2 => ∃ ar I2, pR P a 1 = some ar ∧ pK P ar = 13 ∧ P2 = pWI P I2 (pJ P) ∧ FR P a ar 2 I2 ∧ I2 a 2 = nI (cnt (byS v) 8 n)) := by
  refine enV (lv := [(0, .ref a), (1, .long v)]) (by decide) (Nat.le_of_ble_eq_true rfl) rfl (fun E D cy C Ci0 ret => ?_)
  refine g_bipush (v := 56) C dX12_lay_0 (by decide) ?_
  refine g_istore_n (lv' := [(3, .int 56), (0, .ref a), (1, .long v)]) C dX12_lay_2 rfl (by decide) rfl ?_
  obtain ⟨ar, har⟩ := xFd.at oka haK 1 13 1000 rfl
  have hne : a ≠ ar := fun e => by have h1 := har.2.2.1; rw [← e, haK] at h1; omega
  have lp : ∀ (j n1 : Nat) (I2 : Nat → Nat → Int32), j ≤ 8 → n1 ≤ 1000 → I2 a 2 = nI n1 → cnt (byS v) j n1 = cnt (byS v) 8 n → FR P a ar 2 I2 → G E ({ frames := 1, cells := 0, slots := 0, locals := 64 } : Room) D cy 5 (pWI P I2 (pJ P)) 0 0 3 [(3, .int (shf j)), (0, .ref a), (1, .long v)] [] := by
    intro j
    induction j with
    | zero =>
      intro n1 I2 hj h1 h2 h3 h4
      have es : (shf 0).toInt = -8 := by decide
      refine g_iload_n C dX12_lay_3 rfl 0 rfl ?_
      refine b_if_lt C 75 dX12_lay_4 (by decide) (fun h545 => ?_) (fun h545 => ?_)
      · have h545 : (shf 0).toInt < 0 := h545
        exact ret _ _ _ _ _ dX12_lay_75 (by decide) (by decide) (⟨ar, I2, har.1, har.2.2.1, rfl, h4, h2.trans (congrArg nI h3)⟩)
      · have h545 : 0 ≤ (shf 0).toInt := h545
        omega
    | succ j ih =>
      intro n1 I2 hj h1 h2 h3 h4
      rw [shf_s]
      have es : (nI (8 * j)).toInt = ((8 * j : Nat) : Int) := ti_nI (by omega)
      have en : (nI n1).toInt = (n1 : Int) := ti_nI (by omega)
      refine g_iload_n C dX12_lay_3 rfl 0 rfl ?_
      refine b_if_lt C 75 dX12_lay_4 (by decide) (fun h546 => ?_) (fun h546 => ?_)
      · have h546 : (nI (8 * j)).toInt < 0 := h546
        omega
      · have h546 : 0 ≤ (nI (8 * j)).toInt := h546
        refine g_lload_n C dX12_lay_7 rfl 2 rfl ?_
        refine g_iload_n C dX12_lay_8 rfl 0 rfl ?_
        obtain ⟨x547, ex547⟩ : ∃ z : Int64, z = v >>> (Int32.toInt64 (nI (8 * j)) &&& 63) := ⟨_, rfl⟩
        refine g_lshr (v := x547) C dX12_lay_9 ex547.symm ?_
        refine g_l2i (v := Int64.toInt32 x547) C dX12_lay_10 rfl ?_
        refine g_sipush (v := 255) C dX12_lay_11 (by decide) ?_
        refine g_iand C dX12_lay_14 ?_
        refine g_topi (fun x548 ex548 => ?_)
        refine g_istore (lv' := [(4, .int x548), (3, .int (nI (8 * j))), (0, .ref a), (1, .long v)]) C dX12_lay_15 (by decide) rfl ?_
        have hc : x548 = byS v (nI (8 * j)) := by rw [ex548, ex547]; rfl
        refine g_iload C dX12_lay_17 0 rfl ?_
        refine g_bipush (v := 10) C dX12_lay_19 (by decide) ?_
        refine b_icmp_eq C 38 dX12_lay_21 (by decide) (fun h549 => ?_) (fun h549 => ?_)
        · have h549 : x548 = 10 := h549
          refine g_aload_n C dX12_lay_38 rfl 2 rfl ?_
          refine g_getI C fi_X12_11 (by decide) ha haK dX12_lay_39 ?_
          rw [show pI (pWI P I2 (pJ P)) a 2 = (nI n1) from h2]
          refine g_sipush (v := 1000) C dX12_lay_42 (by decide) ?_
          refine b_icmp_ge C 69 dX12_lay_45 (by decide) (fun h550 => ?_) (fun h550 => ?_)
          · have h550 : 1000 ≤ (nI n1).toInt := h550
            refine g_iinc (v := shf j) (lv' := [(3, .int (shf j)), (4, .int x548), (0, .ref a), (1, .long v)]) C dX12_lay_69 1 rfl rfl (by decide) rfl ?_
            refine g_goto C 3 dX12_lay_72 (by decide) ?_
            refine g_lv (lv' := [(3, .int (shf j)), (0, .ref a), (1, .long v)]) [0, 2, 3] rfl ?_
            exact ih n1 I2 (by omega) (by omega) h2 (by rw [← h3]; show cnt (byS v) j _ = cnt (byS v) j (stc (byS v (nI (8 * j))) n1); rw [← hc, stc_no (fun h9 => by rcases h9 with h8 | h8 <;> first | exact absurd h8 (by assumption) | omega)]) h4
          · have h550 : (nI n1).toInt < 1000 := h550
            refine g_aload_n C dX12_lay_48 rfl 2 rfl ?_
            refine g_getR C fi_X12_14 rfl (har.1) ha haK dX12_lay_49 ?_
            refine g_aload_n C dX12_lay_52 rfl 2 rfl ?_
            refine g_getI C fi_X12_11 (by decide) ha haK dX12_lay_53 ?_
            rw [show pI (pWI P I2 (pJ P)) a 2 = (nI n1) from h2]
            refine g_iload C dX12_lay_56 0 rfl ?_
            refine g_iast (j := n1) C har.2.1 har.2.2.1 (IX.inn har.2.2.2 (by omega) (by decide)) dX12_lay_58 ?_
            obtain ⟨I551, eI551⟩ : ∃ I9, I9 = va_up I2 ar (va_up (I2 ar) n1 x548) := ⟨_, rfl⟩
            rw [show (pSI (pWI P I2 (pJ P)) ar n1 x548) = pWI P I551 (pJ P) by rw [eI551]; rfl]
            have h552 : I551 a 2 = nI n1 := by rw [eI551, up_ne hne]; exact h2
            have h553 : FR P a ar 2 I551 := by rw [eI551]; exact h4.arr hne
            refine g_aload_n C dX12_lay_59 rfl 2 rfl ?_
            refine g_dup C dX12_lay_60 rfl ?_
            refine g_getI C fi_X12_11 (by decide) ha haK dX12_lay_61 ?_
            rw [show pI (pWI P I551 (pJ P)) a 2 = (nI n1) from h552]
            refine g_iconst (v := 1) C dX12_lay_64 (by decide) ?_
            refine g_iadd C dX12_lay_65 ?_
            rw [nI_1]
            refine g_putI C fi_X12_11 rfl ha haK dX12_lay_66 ?_
            obtain ⟨I554, eI554⟩ : ∃ I9, I9 = va_up I551 a (va_up (I551 a) 2 (nI (n1 + 1))) := ⟨_, rfl⟩
            rw [show (pSI (pWI P I551 (pJ P)) a 2 (nI (n1 + 1))) = pWI P I554 (pJ P) by rw [eI554]; rfl]
            have h555 : I554 a 2 = nI (n1 + 1) := by rw [eI554, up_self, up_self]
            have h556 : FR P a ar 2 I554 := by rw [eI554]; exact h553.fld
            refine g_iinc (v := shf j) (lv' := [(3, .int (shf j)), (4, .int x548), (0, .ref a), (1, .long v)]) C dX12_lay_69 1 rfl rfl (by decide) rfl ?_
            refine g_goto C 3 dX12_lay_72 (by decide) ?_
            refine g_lv (lv' := [(3, .int (shf j)), (0, .ref a), (1, .long v)]) [0, 2, 3] rfl ?_
            exact ih (n1 + 1) I554 (by omega) (by omega) h555 (by rw [← h3]; show cnt (byS v) j _ = cnt (byS v) j (stc (byS v (nI (8 * j))) n1); rw [← hc, stc_yes (by first | (exact Or.inl (by assumption)) | (exact Or.inr ⟨by omega, by omega⟩)) (by omega)]) h556
        · have h549 : ¬ x548 = 10 := h549
          refine g_iload C dX12_lay_24 0 rfl ?_
          refine g_bipush (v := 32) C dX12_lay_26 (by decide) ?_
          refine b_icmp_lt C 69 dX12_lay_28 (by decide) (fun h557 => ?_) (fun h557 => ?_)
          · have h557 : x548.toInt < 32 := h557
            refine g_iinc (v := shf j) (lv' := [(3, .int (shf j)), (4, .int x548), (0, .ref a), (1, .long v)]) C dX12_lay_69 1 rfl rfl (by decide) rfl ?_
            refine g_goto C 3 dX12_lay_72 (by decide) ?_
            refine g_lv (lv' := [(3, .int (shf j)), (0, .ref a), (1, .long v)]) [0, 2, 3] rfl ?_
            exact ih n1 I2 (by omega) (by omega) h2 (by rw [← h3]; show cnt (byS v) j _ = cnt (byS v) j (stc (byS v (nI (8 * j))) n1); rw [← hc, stc_no (fun h9 => by rcases h9 with h8 | h8 <;> first | exact absurd h8 (by assumption) | omega)]) h4
          · have h557 : 32 ≤ x548.toInt := h557
            refine g_iload C dX12_lay_31 0 rfl ?_
            refine g_bipush (v := 126) C dX12_lay_33 (by decide) ?_
            refine b_icmp_gt C 69 dX12_lay_35 (by decide) (fun h558 => ?_) (fun h558 => ?_)
            · have h558 : 126 < x548.toInt := h558
              refine g_iinc (v := shf j) (lv' := [(3, .int (shf j)), (4, .int x548), (0, .ref a), (1, .long v)]) C dX12_lay_69 1 rfl rfl (by decide) rfl ?_
              refine g_goto C 3 dX12_lay_72 (by decide) ?_
              refine g_lv (lv' := [(3, .int (shf j)), (0, .ref a), (1, .long v)]) [0, 2, 3] rfl ?_
              exact ih n1 I2 (by omega) (by omega) h2 (by rw [← h3]; show cnt (byS v) j _ = cnt (byS v) j (stc (byS v (nI (8 * j))) n1); rw [← hc, stc_no (fun h9 => by rcases h9 with h8 | h8 <;> first | exact absurd h8 (by assumption) | omega)]) h4
            · have h558 : x548.toInt ≤ 126 := h558
              refine g_aload_n C dX12_lay_38 rfl 2 rfl ?_
              refine g_getI C fi_X12_11 (by decide) ha haK dX12_lay_39 ?_
              rw [show pI (pWI P I2 (pJ P)) a 2 = (nI n1) from h2]
              refine g_sipush (v := 1000) C dX12_lay_42 (by decide) ?_
              refine b_icmp_ge C 69 dX12_lay_45 (by decide) (fun h559 => ?_) (fun h559 => ?_)
              · have h559 : 1000 ≤ (nI n1).toInt := h559
                refine g_iinc (v := shf j) (lv' := [(3, .int (shf j)), (4, .int x548), (0, .ref a), (1, .long v)]) C dX12_lay_69 1 rfl rfl (by decide) rfl ?_
                refine g_goto C 3 dX12_lay_72 (by decide) ?_
                refine g_lv (lv' := [(3, .int (shf j)), (0, .ref a), (1, .long v)]) [0, 2, 3] rfl ?_
                exact ih n1 I2 (by omega) (by omega) h2 (by rw [← h3]; show cnt (byS v) j _ = cnt (byS v) j (stc (byS v (nI (8 * j))) n1); rw [← hc, stc_no (fun h9 => by rcases h9 with h8 | h8 <;> first | exact absurd h8 (by assumption) | omega)]) h4
              · have h559 : (nI n1).toInt < 1000 := h559
                refine g_aload_n C dX12_lay_48 rfl 2 rfl ?_
                refine g_getR C fi_X12_14 rfl (har.1) ha haK dX12_lay_49 ?_
                refine g_aload_n C dX12_lay_52 rfl 2 rfl ?_
                refine g_getI C fi_X12_11 (by decide) ha haK dX12_lay_53 ?_
                rw [show pI (pWI P I2 (pJ P)) a 2 = (nI n1) from h2]
                refine g_iload C dX12_lay_56 0 rfl ?_
                refine g_iast (j := n1) C har.2.1 har.2.2.1 (IX.inn har.2.2.2 (by omega) (by decide)) dX12_lay_58 ?_
                obtain ⟨I560, eI560⟩ : ∃ I9, I9 = va_up I2 ar (va_up (I2 ar) n1 x548) := ⟨_, rfl⟩
                rw [show (pSI (pWI P I2 (pJ P)) ar n1 x548) = pWI P I560 (pJ P) by rw [eI560]; rfl]
                have h561 : I560 a 2 = nI n1 := by rw [eI560, up_ne hne]; exact h2
                have h562 : FR P a ar 2 I560 := by rw [eI560]; exact h4.arr hne
                refine g_aload_n C dX12_lay_59 rfl 2 rfl ?_
                refine g_dup C dX12_lay_60 rfl ?_
                refine g_getI C fi_X12_11 (by decide) ha haK dX12_lay_61 ?_
                rw [show pI (pWI P I560 (pJ P)) a 2 = (nI n1) from h561]
                refine g_iconst (v := 1) C dX12_lay_64 (by decide) ?_
                refine g_iadd C dX12_lay_65 ?_
                rw [nI_1]
                refine g_putI C fi_X12_11 rfl ha haK dX12_lay_66 ?_
                obtain ⟨I563, eI563⟩ : ∃ I9, I9 = va_up I560 a (va_up (I560 a) 2 (nI (n1 + 1))) := ⟨_, rfl⟩
                rw [show (pSI (pWI P I560 (pJ P)) a 2 (nI (n1 + 1))) = pWI P I563 (pJ P) by rw [eI563]; rfl]
                have h564 : I563 a 2 = nI (n1 + 1) := by rw [eI563, up_self, up_self]
                have h565 : FR P a ar 2 I563 := by rw [eI563]; exact h562.fld
                refine g_iinc (v := shf j) (lv' := [(3, .int (shf j)), (4, .int x548), (0, .ref a), (1, .long v)]) C dX12_lay_69 1 rfl rfl (by decide) rfl ?_
                refine g_goto C 3 dX12_lay_72 (by decide) ?_
                refine g_lv (lv' := [(3, .int (shf j)), (0, .ref a), (1, .long v)]) [0, 2, 3] rfl ?_
                exact ih (n1 + 1) I563 (by omega) (by omega) h564 (by rw [← h3]; show cnt (byS v) j _ = cnt (byS v) j (stc (byS v (nI (8 * j))) n1); rw [← hc, stc_yes (by first | (exact Or.inl (by assumption)) | (exact Or.inr ⟨by omega, by omega⟩)) (by omega)]) h565
  exact lp 8 n _ (by omega) hn hz rfl FR.rf
theorem s_X9_takeEight_E {P : PP} {a0 : Nat} {a1 : Int64} (I : IV P) (ha0 : At P a0 9) : CtrV yX9_takeEight cX9_takeEight 5 none ({ frames := 1, cells := 0, slots := 0, locals := 64 } : Room) 0 0 P [.ref a0, .long a1] (fun P2 => IV P2 ∧ EK [9, 13] P P2 ∧ ((pI P2 a0 1).toInt = cz (byU a1) (pI P a0 1).toInt)) := by
  have hg := I.rg ha0 1 rfl
  refine CtrV.imp (c_X9_takeEight (n := (pI P a0 1).toInt.toNat) ha0.1 ha0.2 (I.1 a0 ha0.1 List.not_mem_nil) (by omega) (nI_frm hg)) (fun U h => ?_)
  obtain ⟨ar, I2, h1, h2, rfl, h3, h4⟩ := h
  have hc : cnt (byU a1) 8 (pI P a0 1).toInt.toNat ≤ 1000 := cnt_le 8 (by omega)
  have e : (I2 a0 1).toInt = cz (byU a1) (pI P a0 1).toInt := by rw [h4, ti_nI (by omega)]; rfl
  exact ⟨h3.iv I ha0 h2 (rgOk.of rfl (by rw [e]; unfold cz; omega)), h3.ek ha0 h2 (by decide) (by decide), e⟩
theorem s_X12_lay_E {P : PP} {a0 : Nat} {a1 : Int64} (I : IM P a0) (hW : MW P a0) : CtrV yX12_lay cX12_lay 5 none ({ frames := 1, cells := 0, slots := 0, locals := 64 } : Room) 0 0 P [.ref a0, .long a1] (fun P2 => IM P2 a0 ∧ EM [1, 2] a0 P P2 ∧ MW P2 a0 ∧ ((pI P2 a0 2).toInt = cz (byS a1) (pI P a0 2).toInt)) := by
  have ha0 := I.2.1
  have hg := I.rg ha0 2 rfl
  refine CtrV.imp (c_X12_lay (n := (pI P a0 2).toInt.toNat) ha0.1 ha0.2 (I.1.1 a0 ha0.1 List.not_mem_nil) (by omega) (nI_frm hg)) (fun U h => ?_)
  obtain ⟨ar, I2, h1, h2, rfl, h3, h4⟩ := h
  have hc : cnt (byS a1) 8 (pI P a0 2).toInt.toNat ≤ 1000 := cnt_le 8 (by omega)
  have e : (I2 a0 2).toInt = cz (byS a1) (pI P a0 2).toInt := by rw [h4, ti_nI (by omega)]; rfl
  have M2 : EM [1, 2] a0 P (pWI P I2 (pJ P)) := h3.em I h1
  exact ⟨h3.im I h1 h2 (rgOk.of rfl (by rw [e]; unfold cz; omega)), M2, hW.keep I M2 (by decide) (by decide) (by decide) (by decide), e⟩
/-- the tape of the class's reader has the length z -/
def TL (P : PP) (x : Nat) (z : Int) : Prop := ∀ r t, pR P x 7 = some r → pR P r 0 = some t → (pI P t 1).toInt = z
theorem TL.of {P : PP} {x r t : Nat} {z : Int} (g1 : pR P x 7 = some r) (g2 : pR P r 0 = some t) (w : (pI P t 1).toInt = z) : TL P x z := by
  intro r9 t9 e1 e2
  rw [g1] at e1; cases e1
  rw [g2] at e2; cases e2
  exact w
theorem TL.ex {P : PP} {x : Nat} (I : IV P) (hx : At P x 11) : ∃ z, TL P x z := by
  obtain ⟨r, e1, h1⟩ := I.fld hx 7 4 0 rfl
  obtain ⟨t, e2, h2⟩ := I.fld h1.at 0 9 0 rfl
  exact ⟨_, TL.of e1 e2 rfl⟩
theorem TL.at {P : PP} {x r t : Nat} {z : Int} (h : TL P x z) (g1 : pR P x 7 = some r) (g2 : pR P r 0 = some t) : (pI P t 1).toInt = z := h r t g1 g2
theorem TL.keep {ks : List Nat} {P P2 : PP} {x : Nat} {z : Int} (h : TL P x z) (I : IV P) (hx : At P x 11) (X : EK ks P P2) (h9 : 9 ∉ ks) : TL P2 x z := by
  obtain ⟨r, e1, h1⟩ := I.fld hx 7 4 0 rfl
  obtain ⟨t, e2, h2⟩ := I.fld h1.at 0 9 0 rfl
  exact TL.of (X.ref hx (by decide) e1) (X.ref h1.at (by decide) e2) (by rw [X.keep h2.at h9 1]; exact h.at e1 e2)
theorem TL.cast {P : PP} {x : Nat} {z z2 : Int} (h : TL P x z) (e : z2 = z) : TL P x z2 := e ▸ h
theorem TL.kM {P Q Q2 : PP} {x m : Nat} {fs : List Nat} (h : TL P x (pI Q m 2).toInt) (X : EM fs m Q Q2) (h2 : 2 ∉ fs) : TL P x (pI Q2 m 2).toInt := h.cast (X.keepF 2 h2)
theorem TL.start {P : PP} {x : Nat} {v : Int32} (I : IV P) (hx : At P x 11) (h0 : ∀ b, b ∈ pL P → pK P b = 9 → pI P b 1 = 0) (hv : v = 0) : TL P x v.toInt := by
  obtain ⟨r, e1, h1⟩ := I.fld hx 7 4 0 rfl
  obtain ⟨t, e2, h2⟩ := I.fld h1.at 0 9 0 rfl
  exact TL.of e1 e2 (by rw [h0 t h2.1 h2.2.1, hv])
theorem cz3 {f g h : Int32 → Int32} {z y1 y2 y3 : Int} (h1 : y1 = cz f z) (h2 : y2 = cz g y1) (h3 : y3 = cz h y2) : y3 = cz h (cz g (cz f z)) := by rw [h3, h2, h1]
set_option maxHeartbeats 4000000 in
set_option maxRecDepth 100000 in
theorem s_X11_feed_E {P : PP} {a0 : Nat} {a1 : Int64} {a2 : Int64} {a3 : Int64} (I : IV P) (ha0 : At P a0 11) : CtrI yX11_feed cX11_feed 8 (some Jvm.ClassFile.FieldType.int) ({ frames := 2, cells := 0, slots := 0, locals := 128 } : Room) 0 0 P [.ref a0, .long a1, .long a2, .long a3] (fun r P2 => IV P2 ∧ EK [9, 13] P P2 ∧ (∀ z9, TL P a0 z9 → TL P2 a0 r.toInt ∧ r.toInt = cz (byU a3) (cz (byU a2) (cz (byU a1) z9))) ∧ (0 ≤ r.toInt ∧ r.toInt ≤ 1000)) := by
  refine enI (lv := [(0, .ref a0), (1, .long a1), (3, .long a2), (5, .long a3)]) (by decide) (Nat.le_of_ble_eq_true rfl) rfl (fun E D cy C Ci0 ret => ?_)
  refine g_aload_n C dX11_feed_0 rfl 0 rfl ?_
  obtain ⟨b35258, e35259, h35260⟩ := I.fld (ha0) 7 4 0 rfl
  refine g_getR C fi_X11_41 rfl e35259 (ha0).1 (ha0).2 dX11_feed_1 ?_
  obtain ⟨b35261, e35262, h35263⟩ := I.fld (h35260.at) 0 9 0 rfl
  refine g_getR C fi_X11_111 rfl e35262 (h35260.at).1 (h35260.at).2 dX11_feed_4 ?_
  refine g_astore (lv' := [(7, .ref b35261), (0, .ref a0), (1, .long a1), (3, .long a2), (5, .long a3)]) C dX11_feed_7 (by decide) rfl ?_
  refine g_aload C dX11_feed_9 0 rfl ?_
  refine g_lload_n C dX11_feed_11 rfl 2 rfl ?_
  refine g_callVV (rest := []) C mv_X11_115 [.long a1] (s_X9_takeEight_E I h35263.at) (h35263.at).1 (h35263.at).2 rfl rfl (by decide) (Nat.le_of_ble_eq_true rfl) (by decide) dX11_feed_12 (fun Y35265 h35266 => ?_)
  obtain ⟨Iy35267, Xy35268, p35269⟩ := h35266
  have Xz35270 : EK [9, 13] P Y35265 := Xy35268.mono (by decide)
  have e35271 := Xy35268.ref ha0 (by decide) e35259
  have e35272 := Xy35268.ref (h35260.at) (by decide) e35262
  have h35273 := Xy35268.at ha0
  have h35274 := Xy35268.ar h35260
  have h35275 := Xy35268.ar h35263
  have p35269 : (pI Y35265 b35261 1).toInt = cz (byU a1) (pI P b35261 1).toInt := p35269
  refine g_aload C dX11_feed_15 0 rfl ?_
  refine g_lload_n C dX11_feed_17 rfl 3 rfl ?_
  refine g_callVV (rest := []) C mv_X11_115 [.long a2] (s_X9_takeEight_E Iy35267 h35275.at) (h35275.at).1 (h35275.at).2 rfl rfl (by decide) (Nat.le_of_ble_eq_true rfl) (by decide) dX11_feed_18 (fun Y35277 h35278 => ?_)
  obtain ⟨Iy35279, Xy35280, p35281⟩ := h35278
  have Xz35282 : EK [9, 13] P Y35277 := Xz35270.tr (Xy35280.mono (by decide))
  have e35283 := Xy35280.ref h35273 (by decide) e35271
  have e35284 := Xy35280.ref (h35274.at) (by decide) e35272
  have h35285 := Xy35280.at h35273
  have h35286 := Xy35280.ar h35274
  have h35287 := Xy35280.ar h35275
  have p35281 : (pI Y35277 b35261 1).toInt = cz (byU a2) (pI Y35265 b35261 1).toInt := p35281
  refine g_aload C dX11_feed_21 0 rfl ?_
  refine g_lload C dX11_feed_23 4 rfl ?_
  refine g_callVV (rest := []) C mv_X11_115 [.long a3] (s_X9_takeEight_E Iy35279 h35287.at) (h35287.at).1 (h35287.at).2 rfl rfl (by decide) (Nat.le_of_ble_eq_true rfl) (by decide) dX11_feed_25 (fun Y35289 h35290 => ?_)
  obtain ⟨Iy35291, Xy35292, p35293⟩ := h35290
  have Xz35294 : EK [9, 13] P Y35289 := Xz35282.tr (Xy35292.mono (by decide))
  have e35295 := Xy35292.ref h35285 (by decide) e35283
  have e35296 := Xy35292.ref (h35286.at) (by decide) e35284
  have h35297 := Xy35292.at h35285
  have h35298 := Xy35292.ar h35286
  have h35299 := Xy35292.ar h35287
  have p35293 : (pI Y35289 b35261 1).toInt = cz (byU a3) (pI Y35277 b35261 1).toInt := p35293
  refine g_aload C dX11_feed_28 0 rfl ?_
  refine g_getI C fi_X11_121 (by decide) (h35299.at).1 (h35299.at).2 dX11_feed_30 ?_
  have h35300 := Iy35291.rg (h35299.at) 1 rfl
  exact ret _ _ _ _ _ _ dX11_feed_33 rfl (by decide) (by decide) ⟨Iy35291, Xz35294, (fun z9 h9 => ⟨TL.of e35295 e35296 rfl, cz3 (p35269.trans (congrArg (cz (byU a1)) (h9.at e35259 e35262))) p35281 p35293⟩), (by omega)⟩
set_option maxHeartbeats 4000000 in
set_option maxRecDepth 100000 in
theorem s_X12_feed_E {P : PP} {a0 : Nat} {a1 : Int64} {a2 : Int64} {a3 : Int64} (I : IM P a0) (hW : MW P a0) : CtrI yX12_feed cX12_feed 7 (some Jvm.ClassFile.FieldType.int) ({ frames := 2, cells := 0, slots := 0, locals := 128 } : Room) 0 0 P [.ref a0, .long a1, .long a2, .long a3] (fun r P2 => IM P2 a0 ∧ EM [0, 1, 2] a0 P P2 ∧ MW P2 a0 ∧ (r.toInt = cz (byS a3) (cz (byS a2) (cz (byS a1) (pI P a0 2).toInt)) ∧ (pI P2 a0 2).toInt = r.toInt) ∧ (0 ≤ r.toInt ∧ r.toInt ≤ 1000)) := by
  refine enI (lv := [(0, .ref a0), (1, .long a1), (3, .long a2), (5, .long a3)]) (by decide) (Nat.le_of_ble_eq_true rfl) rfl (fun E D cy C Ci0 ret => ?_)
  have ha0 := I.2.1
  refine g_aload_n C dX12_feed_0 rfl 0 rfl ?_
  refine g_iconst (v := 0) C dX12_feed_1 (by decide) ?_
  refine g_putI C fi_X12_1 rfl (ha0).1 (ha0).2 dX12_feed_2 ?_
  refine gqW (ks := [0]) (I.setI (rgOk.of rfl (by decide))) (EM.setI I (by decide)) (fun Y35340 Iy35341 Xy35342 w35343  => ?_)
  have w35343 : (pI Y35340 a0 0).toInt = 0 := w35343
  have W35344 := hW.keep I Xy35342 (by decide) (by decide) (by decide) (by decide)
  have Xz35345 : EM [0, 1, 2] a0 P Y35340 := Xy35342.mono (by decide)
  have h35346 := Xy35342.at ha0
  have p35347 : (pI Y35340 a0 2).toInt = (pI P a0 2).toInt := Xy35342.keepF 2 (by decide)
  refine g_aload_n C dX12_feed_5 rfl 0 rfl ?_
  refine g_lload_n C dX12_feed_6 rfl 1 rfl ?_
  refine g_callVV (rest := []) C mv_X12_7 [.long a1] (s_X12_lay_E Iy35341 W35344) (h35346).1 (h35346).2 rfl rfl (by decide) (Nat.le_of_ble_eq_true rfl) (by decide) dX12_feed_7 (fun Y35349 h35350 => ?_)
  obtain ⟨Iy35351, Xy35352, W35353, p35354⟩ := h35350
  have q35355 := Xy35352.keepF 0 (by decide)
  have Xz35356 : EM [0, 1, 2] a0 P Y35349 := EM.tr ha0 Xz35345 (Xy35352.mono (by decide))
  have h35357 := Xy35352.at h35346
  have p35354 : (pI Y35349 a0 2).toInt = cz (byS a1) (pI Y35340 a0 2).toInt := p35354
  refine g_aload_n C dX12_feed_10 rfl 0 rfl ?_
  refine g_lload_n C dX12_feed_11 rfl 2 rfl ?_
  refine g_callVV (rest := []) C mv_X12_7 [.long a2] (s_X12_lay_E Iy35351 W35353) (h35357).1 (h35357).2 rfl rfl (by decide) (Nat.le_of_ble_eq_true rfl) (by decide) dX12_feed_12 (fun Y35359 h35360 => ?_)
  obtain ⟨Iy35361, Xy35362, W35363, p35364⟩ := h35360
  have q35365 := Xy35362.keepF 0 (by decide)
  have Xz35366 : EM [0, 1, 2] a0 P Y35359 := EM.tr ha0 Xz35356 (Xy35362.mono (by decide))
  have h35367 := Xy35362.at h35357
  have p35364 : (pI Y35359 a0 2).toInt = cz (byS a2) (pI Y35349 a0 2).toInt := p35364
  refine g_aload_n C dX12_feed_15 rfl 0 rfl ?_
  refine g_lload C dX12_feed_16 3 rfl ?_
  refine g_callVV (rest := []) C mv_X12_7 [.long a3] (s_X12_lay_E Iy35361 W35363) (h35367).1 (h35367).2 rfl rfl (by decide) (Nat.le_of_ble_eq_true rfl) (by decide) dX12_feed_18 (fun Y35369 h35370 => ?_)
  obtain ⟨Iy35371, Xy35372, W35373, p35374⟩ := h35370
  have q35375 := Xy35372.keepF 0 (by decide)
  have Xz35376 : EM [0, 1, 2] a0 P Y35369 := EM.tr ha0 Xz35366 (Xy35372.mono (by decide))
  have h35377 := Xy35372.at h35367
  have p35374 : (pI Y35369 a0 2).toInt = cz (byS a3) (pI Y35359 a0 2).toInt := p35374
  refine g_aload_n C dX12_feed_21 rfl 0 rfl ?_
  refine g_getI C fi_X12_11 (by decide) (h35377).1 (h35377).2 dX12_feed_22 ?_
  have h35378 := Iy35371.rg (h35377) 2 rfl
  exact ret _ _ _ _ _ _ dX12_feed_25 rfl (by decide) (by decide) ⟨Iy35371, Xz35376, W35373, (⟨cz3 (p35354.trans (congrArg (cz (byS a1)) p35347)) p35364 p35374, rfl⟩), (by omega)⟩
set_option maxHeartbeats 4000000 in
set_option maxRecDepth 100000 in
theorem s_X11_draw_E {P : PP} {a0 : Nat} {a1 : Int32} (I : IV P) (ha0 : At P a0 11) : CtrI yX11_draw cX11_draw 3 (some Jvm.ClassFile.FieldType.int) ({ frames := 8, cells := 0, slots := 0, locals := 512 } : Room) 0 0 P [.ref a0, .int a1] (fun r P2 => IV P2 ∧ EK [3, 9, 13, 15] P P2 ∧ (TL P2 a0 0) ∧ (-1 ≤ r.toInt ∧ r.toInt ≤ 16005)) := by
  refine enI (lv := [(0, .ref a0), (1, .int a1)]) (by decide) (Nat.le_of_ble_eq_true rfl) rfl (fun E D cy C Ci0 ret => ?_)
  have J59 : ∀ (P59 : PP) (v59_2 : Int32), (IV P59) → (EK [3, 9, 13, 15] P P59) → (-1 ≤ v59_2.toInt ∧ v59_2.toInt ≤ 16005) → G E ({ frames := 8, cells := 0, slots := 0, locals := 512 } : Room) D cy 3 P59 0 0 59 [(0, .ref a0), (2, .int v59_2)] [] := by
    intro P59 v59_2 I59 X59 hv59_2
    have h35454 := X59.at ha0
    refine g_aload_n C dX11_draw_59 rfl 0 rfl ?_
    obtain ⟨b35455, e35456, h35457⟩ := I59.fld (h35454) 7 4 0 rfl
    refine g_getR C fi_X11_41 rfl e35456 (h35454).1 (h35454).2 dX11_draw_60 ?_
    obtain ⟨b35458, e35459, h35460⟩ := I59.fld (h35457.at) 0 9 0 rfl
    refine g_getR C fi_X11_111 rfl e35459 (h35457.at).1 (h35457.at).2 dX11_draw_63 ?_
    refine g_iconst (v := 0) C dX11_draw_66 (by decide) ?_
    refine g_putI C fi_X11_121 rfl (h35460.at).1 (h35460.at).2 dX11_draw_67 ?_
    refine gpW (ks := [9]) (I59.setI (h35460.at) (rgOk.of rfl (by decide))) (EK.setI (h35460.at).2 (by decide)) (fun Y35461 Iy35462 Xy35463 w35464 w35465 => ?_)
    have w35465 : (pI Y35461 b35458 1).toInt = 0 := w35465
    have Xz35466 : EK [3, 9, 13, 15] P Y35461 := X59.tr (Xy35463.mono (by decide))
    have e35467 := Xy35463.ref h35454 (by decide) e35456
    have e35468 := Xy35463.ref (h35457.at) (by decide) e35459
    have h35469 := Xy35463.at h35454
    have h35470 := Xy35463.ar h35457
    have h35471 := Xy35463.ar h35460
    refine g_iload_n C dX11_draw_70 rfl 1 rfl ?_
    exact ret _ _ _ _ _ _ dX11_draw_71 rfl (by decide) (by decide) ⟨Iy35462, Xz35466, (TL.of e35467 e35468 (by omega)), (by omega)⟩
  refine g_iconst (v := (-1)) C dX11_draw_0 (by decide) ?_
  refine g_istore_n (lv' := [(2, .int (-1)), (0, .ref a0), (1, .int a1)]) C dX11_draw_1 rfl (by decide) rfl ?_
  refine g_aload_n C dX11_draw_2 rfl 1 rfl ?_
  refine g_iload_n C dX11_draw_3 rfl 2 rfl ?_
  refine g_callVI (rest := []) C mv_X11_97 [.int a1] (s_X11_isTold I ha0) (ha0).1 (ha0).2 rfl rfl (by decide) (Nat.le_of_ble_eq_true rfl) (by decide) dX11_draw_4 (fun r35472 Y35473 h35474 => ?_)
  obtain ⟨rfl, h35474⟩ := h35474
  obtain ⟨h35474, hi35475⟩ := h35474
  have hi35475 : r35472.toInt = 0 ∨ (((0 : Int) ≤ a1.toInt ∧ a1.toInt ≤ (1 : Int))) := hi35475
  have h35474 : 0 ≤ r35472.toInt ∧ r35472.toInt ≤ 1 := h35474
  refine b_if_eq C 59 dX11_draw_7 (by decide) (fun h35476 => ?_) (fun h35476 => ?_)
  · have h35476 : r35472.toInt = 0 := congrArg Int32.toInt h35476
    clear hi35475
    refine g_lv (lv' := [(0, .ref a0), (2, .int (-1))]) [1, 0] rfl ?_
    exact J59 P (-1) I EK.rf (by decide)
  · have h35476 : r35472.toInt ≠ 0 := ti_ne h35476
    replace hi35475 := hi35475.resolve_left (by omega)
    refine g_aload_n C dX11_draw_10 rfl 1 rfl ?_
    refine g_iload_n C dX11_draw_11 rfl 2 rfl ?_
    refine g_callVI (rest := []) C mv_X11_105 [.int a1] (s_X11_isTouched I ha0) (ha0).1 (ha0).2 rfl rfl (by decide) (Nat.le_of_ble_eq_true rfl) (by decide) dX11_draw_12 (fun r35477 Y35478 h35479 => ?_)
    obtain ⟨rfl, h35479⟩ := h35479
    have h35479 : 0 ≤ r35477.toInt ∧ r35477.toInt ≤ 1 := h35479
    refine b_if_ne C 59 dX11_draw_15 (by decide) (fun h35480 => ?_) (fun h35480 => ?_)
    · have h35480 : r35477.toInt ≠ 0 := ti_ne h35480
      refine g_lv (lv' := [(0, .ref a0), (2, .int (-1))]) [1, 0] rfl ?_
      exact J59 P (-1) I EK.rf (by decide)
    · have h35480 : r35477.toInt = 0 := congrArg Int32.toInt h35480
      refine g_aload_n C dX11_draw_18 rfl 1 rfl ?_
      obtain ⟨b35481, e35482, h35483⟩ := I.fld (ha0) 7 4 0 rfl
      refine g_getR C fi_X11_41 rfl e35482 (ha0).1 (ha0).2 dX11_draw_19 ?_
      refine g_aload_n C dX11_draw_22 rfl 1 rfl ?_
      obtain ⟨b35484, e35485, h35486⟩ := I.fld (ha0) 0 17 2 rfl
      refine g_getR C fi_X11_11 rfl e35485 (ha0).1 (ha0).2 dX11_draw_23 ?_
      refine g_iload_n C dX11_draw_26 rfl 2 rfl ?_
      obtain ⟨b35487, e35488, h35489⟩ := I.elm h35486 (by decide) (a1.toInt.toNat) (by omega)
      refine g_aldR C h35486.1 h35486.2.1 (by decide) (ix_in h35486.2.2 (by omega)) e35488 dX11_draw_27 ?_
      refine g_getI C fi_X11_100 (by decide) (h35489).1 (h35489).2 dX11_draw_28 ?_
      have h35490 := I.rg (h35489) 5 rfl
      refine g_callVI (rest := []) C mv_X11_124 [.int (pI P b35487 5)] (s_X4_faultFor I h35483.at) (h35483.at).1 (h35483.at).2 rfl rfl (by decide) (Nat.le_of_ble_eq_true rfl) (by decide) dX11_draw_31 (fun r35491 Y35492 h35493 => ?_)
      obtain ⟨Iy35494, Xy35495, h35493⟩ := h35493
      have q35496 := Xy35495.keep h35489 (by decide) 5
      have Xz35497 : EK [3, 9, 13, 15] P Y35492 := Xy35495.mono (by decide)
      have e35498 := Xy35495.ref ha0 (by decide) e35482
      have h35499 := Xy35495.at ha0
      have h35500 := Xy35495.ar h35483
      have h35493 : 0 ≤ r35491.toInt ∧ r35491.toInt ≤ 16005 := h35493
      refine g_istore_n (lv' := [(2, .int r35491), (0, .ref a0), (1, .int a1)]) C dX11_draw_34 rfl (by decide) rfl ?_
      refine g_iload_n C dX11_draw_35 rfl 0 rfl ?_
      refine b_if_ne C 59 dX11_draw_36 (by decide) (fun h35501 => ?_) (fun h35501 => ?_)
      · have h35501 : r35491.toInt ≠ 0 := ti_ne h35501
        refine g_lv (lv' := [(0, .ref a0), (2, .int r35491)]) [1, 0] rfl ?_
        exact J59 Y35492 r35491 Iy35494 Xz35497 (by omega)
      · have h35501 : r35491.toInt = 0 := congrArg Int32.toInt h35501
        refine g_aload_n C dX11_draw_39 rfl 1 rfl ?_
        obtain ⟨b35502, e35503, h35504⟩ := Iy35494.fld (h35499) 0 17 2 rfl
        refine g_getR C fi_X11_11 rfl e35503 (h35499).1 (h35499).2 dX11_draw_40 ?_
        refine g_iload_n C dX11_draw_43 rfl 2 rfl ?_
        obtain ⟨b35505, e35506, h35507⟩ := Iy35494.elm h35504 (by decide) (a1.toInt.toNat) (by omega)
        refine g_aldR C h35504.1 h35504.2.1 (by decide) (ix_in h35504.2.2 (by omega)) e35506 dX11_draw_44 ?_
        refine g_aload_n C dX11_draw_45 rfl 1 rfl ?_
        refine g_getR C fi_X11_41 rfl e35498 (h35499).1 (h35499).2 dX11_draw_46 ?_
        obtain ⟨b35508, e35509, h35510⟩ := Iy35494.fld (h35500.at) 1 3 0 rfl
        refine g_getR C fi_X11_128 rfl e35509 (h35500.at).1 (h35500.at).2 dX11_draw_49 ?_
        refine g_callVV (rest := []) C mv_X11_132 [.ref b35508] (s_X1_changeDraw Iy35494 h35507 h35510.at) (h35507).1 (h35507).2 rfl rfl (by decide) (Nat.le_of_ble_eq_true rfl) (by decide) dX11_draw_52 (fun Y35512 h35513 => ?_)
        obtain ⟨Iy35514, Xy35515⟩ := h35513
        have Xz35516 : EK [3, 9, 13, 15] P Y35512 := Xz35497.tr (Xy35515.mono (by decide))
        have e35517 := Xy35515.ref h35499 (by decide) e35498
        have h35518 := Xy35515.at h35499
        have h35519 := Xy35515.ar h35500
        refine g_aload_n C dX11_draw_55 rfl 1 rfl ?_
        refine g_callVV (rest := []) C mv_X11_94 [] (s_X11_forgetMarks Iy35514 h35518) (h35518).1 (h35518).2 rfl rfl (by decide) (Nat.le_of_ble_eq_true rfl) (by decide) dX11_draw_56 (fun Y35521 h35522 => ?_)
        obtain ⟨Iy35523, Xy35524⟩ := h35522
        have Xz35525 : EK [3, 9, 13, 15] P Y35521 := Xz35516.tr (Xy35524.mono (by decide))
        have e35526 := Xy35524.ref h35518 (by decide) e35517
        have h35527 := Xy35524.at h35518
        have h35528 := Xy35524.ar h35519
        refine g_lv (lv' := [(0, .ref a0), (2, .int r35491)]) [1, 0] rfl ?_
        exact J59 Y35521 r35491 Iy35523 Xz35525 (by omega)
set_option maxHeartbeats 4000000 in
set_option maxRecDepth 100000 in
theorem s_X12_cutAll_E {P : PP} {a0 : Nat} (I : IM P a0) (hW : MW P a0) : CtrV yX12_cutAll cX12_cutAll 7 none ({ frames := 3, cells := 0, slots := 0, locals := 192 } : Room) 0 0 P [.ref a0] (fun P2 => IM P2 a0 ∧ EM [2, 3, 4, 5, 7, 8] a0 P P2 ∧ MW P2 a0 ∧ ((pI P2 a0 2).toInt = 0)) := by
  refine enV (lv := [(0, .ref a0)]) (by decide) (Nat.le_of_ble_eq_true rfl) rfl (fun E D cy C Ci0 ret => ?_)
  have ha0 := I.2.1
  have J17 : ∀ (n17 : Nat) (P17 : PP) (v17_1 : Int32) (v17_2 : Int32), (1000 - v17_2.toInt).toNat < n17 → (IM P17 a0) → (EM [2, 3, 4, 5, 7, 8] a0 P P17) → (MW P17 a0) → (0 ≤ v17_1.toInt ∧ v17_1.toInt ≤ 1000) → (0 ≤ v17_2.toInt ∧ v17_2.toInt ≤ 1000) → (0 ≤ (pI P17 a0 2).toInt ∧ (pI P17 a0 2).toInt ≤ 0) → (v17_1.toInt ≤ v17_2.toInt) → G E ({ frames := 3, cells := 0, slots := 0, locals := 192 } : Room) D cy 7 P17 0 0 17 [(0, .ref a0), (1, .int v17_1), (2, .int v17_2)] [] := by
    intro n17
    induction n17 with
    | zero => intro P17 v17_1 v17_2 hm17 I17 X17 W17 hv17_1 hv17_2 hq17_0 rel17_0; omega
    | succ n17 ih17 =>
      intro P17 v17_1 v17_2 hm17 I17 X17 W17 hv17_1 hv17_2 hq17_0 rel17_0
      have h46826 := X17.at ha0
      have J265 : ∀ (P265 : PP) (v265_2 : Int32) (l265_5 : Int64), (IM P265 a0) → (EM [2, 3, 4, 5, 7, 8] a0 P P265) → (MW P265 a0) → (0 ≤ v265_2.toInt ∧ v265_2.toInt ≤ 1000) → (0 ≤ (pI P265 a0 2).toInt ∧ (pI P265 a0 2).toInt ≤ 0) → (1 ≤ (pI P265 a0 3).toInt ∧ (pI P265 a0 3).toInt ≤ 1000) → (∀ b, pR P265 a0 4 = some b → 1 ≤ (pI P265 b (v17_1.toInt.toNat)).toInt ∧ (pI P265 b (v17_1.toInt.toNat)).toInt ≤ 4) → (∀ b, pR P265 a0 5 = some b → 0 ≤ (pI P265 b (v17_1.toInt.toNat)).toInt ∧ (pI P265 b (v17_1.toInt.toNat)).toInt ≤ 999) → (v17_1.toInt < v265_2.toInt) → (v17_2.toInt < v265_2.toInt) → G E ({ frames := 3, cells := 0, slots := 0, locals := 192 } : Room) D cy 7 P265 0 0 265 [(0, .ref a0), (1, .int v17_1), (2, .int v265_2), (5, .long l265_5)] [] := by
        intro P265 v265_2 l265_5 I265 X265 W265 hv265_2 hq265_0 hq265_1 hq265_2 hq265_3 rel265_0 rel265_1
        have h46827 := X265.at ha0
        obtain ⟨b46828, e46829, h46830⟩ := I265.fld (h46827) 4 13 1002 rfl
        have hq265_2 := hq265_2 b46828 e46829
        obtain ⟨b46831, e46832, h46833⟩ := I265.fld (h46827) 5 13 1002 rfl
        have hq265_3 := hq265_3 b46831 e46832
        refine g_aload_n C dX12_cutAll_265 rfl 0 rfl ?_
        obtain ⟨b46834, e46835, h46836⟩ := I265.fld (h46827) 6 14 1002 rfl
        refine g_getR C fi_X12_30 rfl e46835 (h46827).1 (h46827).2 dX12_cutAll_266 ?_
        refine g_iload_n C dX12_cutAll_269 rfl 1 rfl ?_
        refine g_lload C dX12_cutAll_270 3 rfl ?_
        refine g_last (j := (v17_1.toInt.toNat)) C h46836.1 h46836.2.1 (ix_in h46836.2.2 (by omega)) dX12_cutAll_272 ?_
        refine gq (ks := []) (I265.setJ) (EM.setJ) (fun Y46837 Iy46838 Xy46839 => ?_)
        have q46840 := Xy46839.keepF 2 (by decide)
        have q46841 := Xy46839.keepF 3 (by decide)
        have q46842 := Xy46839.keepA e46829 (by decide) rfl (v17_1.toInt.toNat)
        have q46843 := Xy46839.keepA e46832 (by decide) rfl (v17_1.toInt.toNat)
        have W46844 := W265.keep I265 Xy46839 (by decide) (by decide) (by decide) (by decide)
        have Xz46845 : EM [2, 3, 4, 5, 7, 8] a0 P Y46837 := EM.tr ha0 X265 (Xy46839.mono (by decide))
        have e46846 := Xy46839.ref h46827 (by decide) e46829
        have e46847 := Xy46839.ref h46827 (by decide) e46832
        have h46848 := Xy46839.at h46827
        have h46849 := Xy46839.ar h46830
        have h46850 := Xy46839.ar h46833
        refine s_iinc (lv0 := [(0, .ref a0), (2, .int v265_2), (5, .long l265_5)]) (m := 1) C dX12_cutAll_273 1 rfl (by decide) rfl (by decide) (by omega) (fun z46851 h46852 => ?_)
        have h46852 : z46851.toInt = v17_1.toInt + 1 := h46852
        refine g_goto C 17 dX12_cutAll_276 (by decide) ?_
        refine g_lv (lv' := [(0, .ref a0), (1, .int z46851), (2, .int v265_2)]) [1, 0, 2] rfl ?_
        exact ih17 Y46837 z46851 v265_2 (by omega) Iy46838 Xz46845 W46844 (by omega) (by omega) (by omega) (by show z46851.toInt ≤ v265_2.toInt; omega)
      have J261 : ∀ (P261 : PP) (l261_5 : Int64) (v261_s0 : Int32) (b261_s2 : Nat), (IM P261 a0) → (EM [2, 3, 4, 5, 7, 8] a0 P P261) → (MW P261 a0) → (0 ≤ v17_2.toInt ∧ v17_2.toInt ≤ 999) → (3 ≤ v261_s0.toInt ∧ v261_s0.toInt ≤ 4) → (Ar P261 b261_s2 13 1002) → (pR P261 a0 4 = some b261_s2) → (0 ≤ (pI P261 a0 2).toInt ∧ (pI P261 a0 2).toInt ≤ 0) → (1 ≤ (pI P261 a0 3).toInt ∧ (pI P261 a0 3).toInt ≤ 1000) → (∀ b, pR P261 a0 5 = some b → 0 ≤ (pI P261 b (v17_1.toInt.toNat)).toInt ∧ (pI P261 b (v17_1.toInt.toNat)).toInt ≤ 999) → (v17_1.toInt ≤ v17_2.toInt) → (v17_2.toInt = v17_2.toInt) → G E ({ frames := 3, cells := 0, slots := 0, locals := 192 } : Room) D cy 7 P261 0 0 261 [(0, .ref a0), (1, .int v17_1), (2, .int v17_2), (5, .long l261_5)] [.int v261_s0, .int v17_1, .ref b261_s2] := by
        intro P261 l261_5 v261_s0 b261_s2 I261 X261 W261 hv261_2 hv261_s0 hb261_s2 eb261_s2 hq261_0 hq261_1 hq261_2 rel261_0 rel261_1
        have h46853 := X261.at ha0
        obtain ⟨b46854, e46855, h46856⟩ := I261.fld (h46853) 5 13 1002 rfl
        have hq261_2 := hq261_2 b46854 e46855
        refine g_iast (j := (v17_1.toInt.toNat)) C hb261_s2.1 hb261_s2.2.1 (ix_in hb261_s2.2.2 (by omega)) dX12_cutAll_261 ?_
        refine gqW (ks := [4]) (I261.setA eb261_s2 hb261_s2 (by decide) (arOk.of rfl (by omega))) (EM.setA I261 eb261_s2 rfl (by decide)) (fun Y46857 Iy46858 Xy46859 w46860  => ?_)
        have w46860 : (pI Y46857 b261_s2 (v17_1.toInt.toNat)).toInt = v261_s0.toInt := w46860
        have q46861 := Xy46859.keepF 2 (by decide)
        have q46862 := Xy46859.keepF 3 (by decide)
        have q46863 := Xy46859.keepA e46855 (by decide) rfl (v17_1.toInt.toNat)
        have W46864 := W261.keep I261 Xy46859 (by decide) (by decide) (by decide) (by decide)
        have Xz46865 : EM [2, 3, 4, 5, 7, 8] a0 P Y46857 := EM.tr ha0 X261 (Xy46859.mono (by decide))
        have e46866 := Xy46859.ref h46853 (by decide) eb261_s2
        have e46867 := Xy46859.ref h46853 (by decide) e46855
        have h46868 := Xy46859.at h46853
        have h46869 := Xy46859.ar hb261_s2
        have h46870 := Xy46859.ar h46856
        refine s_iinc (lv0 := [(0, .ref a0), (1, .int v17_1), (5, .long l261_5)]) (m := 1) C dX12_cutAll_262 2 rfl (by decide) rfl (by decide) (by omega) (fun z46871 h46872 => ?_)
        have h46872 : z46871.toInt = v17_2.toInt + 1 := h46872
        refine g_lv (lv' := [(0, .ref a0), (1, .int v17_1), (2, .int z46871), (5, .long l261_5)]) [1, 2, 0, 3] rfl ?_
        exact J265 Y46857 z46871 l261_5 Iy46858 Xz46865 W46864 (by omega) (by omega) (by omega) (fun b9 e9 => by rw [e46866] at e9; cases e9; omega) (fun b9 e9 => by rw [e46867] at e9; cases e9; omega) (by show v17_1.toInt < z46871.toInt; omega) (by show v17_2.toInt < z46871.toInt; omega)
      have J236 : ∀ (P236 : PP) (v236_2 : Int32) (l236_5 : Int64) (v236_s0 : Int32) (b236_s2 : Nat), (IM P236 a0) → (EM [2, 3, 4, 5, 7, 8] a0 P P236) → (MW P236 a0) → (0 ≤ v236_2.toInt ∧ v236_2.toInt ≤ 1000) → (2 ≤ v236_s0.toInt ∧ v236_s0.toInt ≤ 4) → (Ar P236 b236_s2 13 1002) → (pR P236 a0 4 = some b236_s2) → (0 ≤ (pI P236 a0 2).toInt ∧ (pI P236 a0 2).toInt ≤ 0) → (1 ≤ (pI P236 a0 3).toInt ∧ (pI P236 a0 3).toInt ≤ 1000) → (∀ b, pR P236 a0 5 = some b → 0 ≤ (pI P236 b (v17_1.toInt.toNat)).toInt ∧ (pI P236 b (v17_1.toInt.toNat)).toInt ≤ 999) → (v17_1.toInt < v236_2.toInt) → (v17_2.toInt < v236_2.toInt) → G E ({ frames := 3, cells := 0, slots := 0, locals := 192 } : Room) D cy 7 P236 0 0 236 [(0, .ref a0), (1, .int v17_1), (2, .int v236_2), (5, .long l236_5)] [.int v236_s0, .int v17_1, .ref b236_s2] := by
        intro P236 v236_2 l236_5 v236_s0 b236_s2 I236 X236 W236 hv236_2 hv236_s0 hb236_s2 eb236_s2 hq236_0 hq236_1 hq236_2 rel236_0 rel236_1
        have h46873 := X236.at ha0
        obtain ⟨b46874, e46875, h46876⟩ := I236.fld (h46873) 5 13 1002 rfl
        have hq236_2 := hq236_2 b46874 e46875
        refine g_iast (j := (v17_1.toInt.toNat)) C hb236_s2.1 hb236_s2.2.1 (ix_in hb236_s2.2.2 (by omega)) dX12_cutAll_236 ?_
        refine gqW (ks := [4]) (I236.setA eb236_s2 hb236_s2 (by decide) (arOk.of rfl (by omega))) (EM.setA I236 eb236_s2 rfl (by decide)) (fun Y46877 Iy46878 Xy46879 w46880  => ?_)
        have w46880 : (pI Y46877 b236_s2 (v17_1.toInt.toNat)).toInt = v236_s0.toInt := w46880
        have q46881 := Xy46879.keepF 2 (by decide)
        have q46882 := Xy46879.keepF 3 (by decide)
        have q46883 := Xy46879.keepA e46875 (by decide) rfl (v17_1.toInt.toNat)
        have W46884 := W236.keep I236 Xy46879 (by decide) (by decide) (by decide) (by decide)
        have Xz46885 : EM [2, 3, 4, 5, 7, 8] a0 P Y46877 := EM.tr ha0 X236 (Xy46879.mono (by decide))
        have e46886 := Xy46879.ref h46873 (by decide) eb236_s2
        have e46887 := Xy46879.ref h46873 (by decide) e46875
        have h46888 := Xy46879.at h46873
        have h46889 := Xy46879.ar hb236_s2
        have h46890 := Xy46879.ar h46876
        refine g_goto C 265 dX12_cutAll_237 (by decide) ?_
        exact J265 Y46877 v236_2 l236_5 Iy46878 Xz46885 W46884 (by omega) (by omega) (by omega) (fun b9 e9 => by rw [e46886] at e9; cases e9; omega) (fun b9 e9 => by rw [e46887] at e9; cases e9; omega) (by show v17_1.toInt < v236_2.toInt; omega) (by show v17_2.toInt < v236_2.toInt; omega)
      have J218 : ∀ (P218 : PP) (v218_2 : Int32) (l218_5 : Int64), (IM P218 a0) → (EM [2, 3, 4, 5, 7, 8] a0 P P218) → (MW P218 a0) → (0 ≤ v218_2.toInt ∧ v218_2.toInt ≤ 1000) → (0 ≤ v17_2.toInt ∧ v17_2.toInt ≤ 999) → (0 ≤ (pI P218 a0 2).toInt ∧ (pI P218 a0 2).toInt ≤ 0) → (1 ≤ (pI P218 a0 3).toInt ∧ (pI P218 a0 3).toInt ≤ 1000) → (∀ b, pR P218 a0 5 = some b → 0 ≤ (pI P218 b (v17_1.toInt.toNat)).toInt ∧ (pI P218 b (v17_1.toInt.toNat)).toInt ≤ 999) → (v17_1.toInt ≤ v17_2.toInt) → (v17_2.toInt < v218_2.toInt) → (v17_2.toInt < v218_2.toInt) → G E ({ frames := 3, cells := 0, slots := 0, locals := 192 } : Room) D cy 7 P218 0 0 218 [(0, .ref a0), (1, .int v17_1), (2, .int v218_2), (4, .int v17_2), (5, .long l218_5)] [] := by
        intro P218 v218_2 l218_5 I218 X218 W218 hv218_2 hv218_4 hq218_0 hq218_1 hq218_2 rel218_0 rel218_1 rel218_2
        have h46891 := X218.at ha0
        obtain ⟨b46892, e46893, h46894⟩ := I218.fld (h46891) 5 13 1002 rfl
        have hq218_2 := hq218_2 b46892 e46893
        refine g_aload_n C dX12_cutAll_218 rfl 0 rfl ?_
        obtain ⟨b46895, e46896, h46897⟩ := I218.fld (h46891) 4 13 1002 rfl
        refine g_getR C fi_X12_24 rfl e46896 (h46891).1 (h46891).2 dX12_cutAll_219 ?_
        refine g_iload_n C dX12_cutAll_222 rfl 1 rfl ?_
        refine g_iload_n C dX12_cutAll_223 rfl 2 rfl ?_
        refine g_iload C dX12_cutAll_224 3 rfl ?_
        refine s_isub C dX12_cutAll_226 (by show -2147483648 ≤ v218_2.toInt - v17_2.toInt ∧ v218_2.toInt - v17_2.toInt ≤ 2147483647; omega) (fun z46898 h46899 => ?_)
        have h46899 : z46898.toInt = v218_2.toInt - v17_2.toInt := h46899
        refine g_iconst (v := 4) C dX12_cutAll_227 (by decide) ?_
        refine b_icmp_le C 235 dX12_cutAll_228 (by decide) (fun h46900 => ?_) (fun h46900 => ?_)
        · have h46900 : z46898.toInt ≤ 4 := h46900
          refine g_iconst (v := 2) C dX12_cutAll_235 (by decide) ?_
          refine g_lv (lv' := [(0, .ref a0), (1, .int v17_1), (2, .int v218_2), (5, .long l218_5)]) [0, 1, 2, 4] rfl ?_
          exact J236 P218 v218_2 l218_5 2 b46895 I218 X218 W218 (by omega) (by decide) h46897 e46896 (by omega) (by omega) (fun b9 e9 => by rw [e46893] at e9; cases e9; omega) (by show v17_1.toInt < v218_2.toInt; omega) (by show v17_2.toInt < v218_2.toInt; omega)
        · have h46900 : 4 < z46898.toInt := h46900
          refine g_iconst (v := 4) C dX12_cutAll_231 (by decide) ?_
          refine g_goto C 236 dX12_cutAll_232 (by decide) ?_
          refine g_lv (lv' := [(0, .ref a0), (1, .int v17_1), (2, .int v218_2), (5, .long l218_5)]) [0, 1, 2, 4] rfl ?_
          exact J236 P218 v218_2 l218_5 4 b46895 I218 X218 W218 (by omega) (by decide) h46897 e46896 (by omega) (by omega) (fun b9 e9 => by rw [e46893] at e9; cases e9; omega) (by show v17_1.toInt < v218_2.toInt; omega) (by show v17_2.toInt < v218_2.toInt; omega)
      have J159 : ∀ (n159 : Nat) (P159 : PP) (v159_2 : Int32) (l159_5 : Int64), (1000 - v159_2.toInt).toNat < n159 → (IM P159 a0) → (EM [2, 3, 4, 5, 7, 8] a0 P P159) → (MW P159 a0) → (0 ≤ v159_2.toInt ∧ v159_2.toInt ≤ 1000) → (0 ≤ v17_2.toInt ∧ v17_2.toInt ≤ 999) → (0 ≤ (pI P159 a0 2).toInt ∧ (pI P159 a0 2).toInt ≤ 0) → (1 ≤ (pI P159 a0 3).toInt ∧ (pI P159 a0 3).toInt ≤ 1000) → (∀ b, pR P159 a0 5 = some b → 0 ≤ (pI P159 b (v17_1.toInt.toNat)).toInt ∧ (pI P159 b (v17_1.toInt.toNat)).toInt ≤ 999) → (v17_1.toInt ≤ v17_2.toInt) → (∀ b91, pR P159 a0 1 = some b91 → v17_2.toInt < v159_2.toInt ∨ (v17_2.toInt = v159_2.toInt ∧ v159_2.toInt < (pI P159 a0 3).toInt ∧ 48 ≤ (pI P159 b91 (v159_2.toInt.toNat)).toInt ∧ (pI P159 b91 (v159_2.toInt.toNat)).toInt ≤ 57)) → (v17_2.toInt = v17_2.toInt) → G E ({ frames := 3, cells := 0, slots := 0, locals := 192 } : Room) D cy 7 P159 0 0 159 [(0, .ref a0), (1, .int v17_1), (2, .int v159_2), (4, .int v17_2), (5, .long l159_5)] [] := by
        intro n159
        induction n159 with
        | zero => intro P159 v159_2 l159_5 hm159 I159 X159 W159 hv159_2 hv159_4 hq159_0 hq159_1 hq159_2 rel159_0 rel159_1 rel159_2; omega
        | succ n159 ih159 =>
          intro P159 v159_2 l159_5 hm159 I159 X159 W159 hv159_2 hv159_4 hq159_0 hq159_1 hq159_2 rel159_0 rel159_1 rel159_2
          have h46901 := X159.at ha0
          obtain ⟨b46902, e46903, h46904⟩ := I159.fld (h46901) 5 13 1002 rfl
          have hq159_2 := hq159_2 b46902 e46903
          obtain ⟨b46905, e46906, h46907⟩ := I159.fld (h46901) 1 13 1000 rfl
          have rel159_1 := rel159_1 b46905 e46906
          have J210 : ∀ (l210_s0 : Int64), (0 ≤ v159_2.toInt ∧ v159_2.toInt ≤ 999) → (0 ≤ v17_2.toInt ∧ v17_2.toInt ≤ 999) → (0 ≤ (pI P159 a0 2).toInt ∧ (pI P159 a0 2).toInt ≤ 0) → (1 ≤ (pI P159 a0 3).toInt ∧ (pI P159 a0 3).toInt ≤ 1000) → (∀ b, pR P159 a0 1 = some b → 48 ≤ (pI P159 b (v159_2.toInt.toNat)).toInt ∧ (pI P159 b (v159_2.toInt.toNat)).toInt ≤ 57) → (∀ b, pR P159 a0 5 = some b → 0 ≤ (pI P159 b (v17_1.toInt.toNat)).toInt ∧ (pI P159 b (v17_1.toInt.toNat)).toInt ≤ 999) → (v17_1.toInt ≤ v17_2.toInt) → (v17_2.toInt ≤ v159_2.toInt) → (v17_2.toInt = v17_2.toInt) → G E ({ frames := 3, cells := 0, slots := 0, locals := 192 } : Room) D cy 7 P159 0 0 210 [(0, .ref a0), (1, .int v17_1), (2, .int v159_2), (4, .int v17_2)] [.long l210_s0] := by
            intro l210_s0 hv210_2 hv210_4 hq210_0 hq210_1 hq210_2 hq210_3 rel210_0 rel210_1 rel210_2
            have h46908 := X159.at ha0
            obtain ⟨b46909, e46910, h46911⟩ := I159.fld (h46908) 1 13 1000 rfl
            have hq210_2 := hq210_2 b46909 e46910
            obtain ⟨b46912, e46913, h46914⟩ := I159.fld (h46908) 5 13 1002 rfl
            have hq210_3 := hq210_3 b46912 e46913
            refine g_lstore (lv' := [(5, .long l210_s0), (0, .ref a0), (1, .int v17_1), (2, .int v159_2), (4, .int v17_2)]) C dX12_cutAll_210 (by decide) rfl ?_
            refine s_iinc (lv0 := [(5, .long l210_s0), (0, .ref a0), (1, .int v17_1), (4, .int v17_2)]) (m := 1) C dX12_cutAll_212 3 rfl (by decide) rfl (by decide) (by omega) (fun z46915 h46916 => ?_)
            have h46916 : z46915.toInt = v159_2.toInt + 1 := h46916
            refine g_goto C 159 dX12_cutAll_215 (by decide) ?_
            refine g_lv (lv' := [(0, .ref a0), (1, .int v17_1), (2, .int z46915), (4, .int v17_2), (5, .long l210_s0)]) [2, 3, 0, 4, 1] rfl ?_
            exact ih159 P159 z46915 l210_s0 (by omega) I159 X159 W159 (by omega) (by omega) (by omega) (by omega) (fun b9 e9 => by rw [e46913] at e9; cases e9; omega) (by show v17_1.toInt ≤ v17_2.toInt; omega) (by intro b91 e91; rw [e46910] at e91; cases e91; show v17_2.toInt < z46915.toInt ∨ (v17_2.toInt = z46915.toInt ∧ z46915.toInt < (pI P159 a0 3).toInt ∧ 48 ≤ (pI P159 b46909 (z46915.toInt.toNat)).toInt ∧ (pI P159 b46909 (z46915.toInt.toNat)).toInt ≤ 57); omega) (by show v17_2.toInt = v17_2.toInt; omega)
          refine g_iload_n C dX12_cutAll_159 rfl 2 rfl ?_
          refine g_aload_n C dX12_cutAll_160 rfl 0 rfl ?_
          refine g_getI C fi_X12_140 (by decide) (h46901).1 (h46901).2 dX12_cutAll_161 ?_
          refine b_icmp_ge C 218 dX12_cutAll_164 (by decide) (fun h46917 => ?_) (fun h46917 => ?_)
          · have h46917 : (pI P159 a0 3).toInt ≤ v159_2.toInt := h46917
            exact J218 P159 v159_2 l159_5 I159 X159 W159 (by omega) (by omega) (by omega) (by omega) (fun b9 e9 => by rw [e46903] at e9; cases e9; omega) (by show v17_1.toInt ≤ v17_2.toInt; omega) (by show v17_2.toInt < v159_2.toInt; omega) (by show v17_2.toInt < v159_2.toInt; omega)
          · have h46917 : v159_2.toInt < (pI P159 a0 3).toInt := h46917
            refine g_aload_n C dX12_cutAll_167 rfl 0 rfl ?_
            refine g_getR C fi_X12_14 rfl e46906 (h46901).1 (h46901).2 dX12_cutAll_168 ?_
            refine g_iload_n C dX12_cutAll_171 rfl 2 rfl ?_
            refine g_iald (j := (v159_2.toInt.toNat)) C h46907.1 h46907.2.1 (ix_in h46907.2.2 (by omega)) dX12_cutAll_172 ?_
            refine g_callSI (b := 0) (ci := 0) (rest := []) C ms_X12_149 [.int (pI P159 b46905 (v159_2.toInt.toNat))] (s_X12_isDigit I159.1) rfl rfl (by decide) (Nat.le_of_ble_eq_true rfl) (by decide) dX12_cutAll_173 (fun r46918 Y46919 h46920 => ?_)
            obtain ⟨rfl, h46920⟩ := h46920
            obtain ⟨h46920, hi46921, hi46922⟩ := h46920
            have hi46921 : r46918.toInt = 0 ∨ (((48 : Int) ≤ (pI P159 b46905 (v159_2.toInt.toNat)).toInt ∧ (pI P159 b46905 (v159_2.toInt.toNat)).toInt ≤ (57 : Int))) := hi46921
            have hi46922 : r46918.toInt ≠ 0 ∨ (pI P159 b46905 (v159_2.toInt.toNat)).toInt < 48 ∨ 57 < (pI P159 b46905 (v159_2.toInt.toNat)).toInt := hi46922
            have h46920 : 0 ≤ r46918.toInt ∧ r46918.toInt ≤ 1 := h46920
            refine b_if_eq C 218 dX12_cutAll_176 (by decide) (fun h46923 => ?_) (fun h46923 => ?_)
            · have h46923 : r46918.toInt = 0 := congrArg Int32.toInt h46923
              clear hi46921
              exact J218 P159 v159_2 l159_5 I159 X159 W159 (by omega) (by omega) (by omega) (by omega) (fun b9 e9 => by rw [e46903] at e9; cases e9; omega) (by show v17_1.toInt ≤ v17_2.toInt; omega) (by show v17_2.toInt < v159_2.toInt; omega) (by show v17_2.toInt < v159_2.toInt; omega)
            · have h46923 : r46918.toInt ≠ 0 := ti_ne h46923
              replace hi46921 := hi46921.resolve_left (by omega)
              refine g_iload_n C dX12_cutAll_179 rfl 2 rfl ?_
              refine g_iload C dX12_cutAll_180 3 rfl ?_
              refine s_isub C dX12_cutAll_182 (by show -2147483648 ≤ v159_2.toInt - v17_2.toInt ∧ v159_2.toInt - v17_2.toInt ≤ 2147483647; omega) (fun z46924 h46925 => ?_)
              have h46925 : z46924.toInt = v159_2.toInt - v17_2.toInt := h46925
              refine g_iconst (v := 4) C dX12_cutAll_183 (by decide) ?_
              refine b_icmp_ge C 208 dX12_cutAll_184 (by decide) (fun h46926 => ?_) (fun h46926 => ?_)
              · have h46926 : 4 ≤ z46924.toInt := h46926
                refine g_lload C dX12_cutAll_208 4 rfl ?_
                refine g_lv (lv' := [(0, .ref a0), (1, .int v17_1), (2, .int v159_2), (4, .int v17_2)]) [0, 1, 2, 3] rfl ?_
                exact J210 l159_5 (by omega) (by omega) (by omega) (by omega) (fun b9 e9 => by rw [e46906] at e9; cases e9; omega) (fun b9 e9 => by rw [e46903] at e9; cases e9; omega) (by show v17_1.toInt ≤ v17_2.toInt; omega) (by show v17_2.toInt ≤ v159_2.toInt; omega) (by show v17_2.toInt = v17_2.toInt; omega)
              · have h46926 : z46924.toInt < 4 := h46926
                refine g_ldc2 (v := 10) C kl_X12_152 dX12_cutAll_187 ?_
                refine g_topl (fun l46927 el46927 => ?_)
                have hz_l46927 : ¬ l46927 = 0 := by rw [el46927]; decide
                refine g_lload C dX12_cutAll_190 4 rfl ?_
                refine a_lmul C dX12_cutAll_192 (fun l46928 => ?_)
                refine g_aload_n C dX12_cutAll_193 rfl 0 rfl ?_
                refine g_getR C fi_X12_14 rfl e46906 (h46901).1 (h46901).2 dX12_cutAll_194 ?_
                refine g_iload_n C dX12_cutAll_197 rfl 2 rfl ?_
                refine g_iald (j := (v159_2.toInt.toNat)) C h46907.1 h46907.2.1 (ix_in h46907.2.2 (by omega)) dX12_cutAll_198 ?_
                refine a_i2l C dX12_cutAll_199 (fun l46929 => ?_)
                refine a_ladd C dX12_cutAll_200 (fun l46930 => ?_)
                refine g_ldc2 (v := 48) C kl_X12_154 dX12_cutAll_201 ?_
                refine g_topl (fun l46931 el46931 => ?_)
                have hz_l46931 : ¬ l46931 = 0 := by rw [el46931]; decide
                refine a_lsub C dX12_cutAll_204 (fun l46932 => ?_)
                refine g_goto C 210 dX12_cutAll_205 (by decide) ?_
                refine g_lv (lv' := [(0, .ref a0), (1, .int v17_1), (2, .int v159_2), (4, .int v17_2)]) [0, 1, 2, 3] rfl ?_
                exact J210 l46932 (by omega) (by omega) (by omega) (by omega) (fun b9 e9 => by rw [e46906] at e9; cases e9; omega) (fun b9 e9 => by rw [e46903] at e9; cases e9; omega) (by show v17_1.toInt ≤ v17_2.toInt; omega) (by show v17_2.toInt ≤ v159_2.toInt; omega) (by show v17_2.toInt = v17_2.toInt; omega)
      have J148 : ∀ (P148 : PP) (v148_2 : Int32) (l148_5 : Int64) (v148_s0 : Int32) (b148_s2 : Nat), (IM P148 a0) → (EM [2, 3, 4, 5, 7, 8] a0 P P148) → (MW P148 a0) → (0 ≤ v148_2.toInt ∧ v148_2.toInt ≤ 1000) → (1 ≤ v148_s0.toInt ∧ v148_s0.toInt ≤ 4) → (Ar P148 b148_s2 13 1002) → (pR P148 a0 4 = some b148_s2) → (0 ≤ (pI P148 a0 2).toInt ∧ (pI P148 a0 2).toInt ≤ 0) → (1 ≤ (pI P148 a0 3).toInt ∧ (pI P148 a0 3).toInt ≤ 1000) → (∀ b, pR P148 a0 5 = some b → 0 ≤ (pI P148 b (v17_1.toInt.toNat)).toInt ∧ (pI P148 b (v17_1.toInt.toNat)).toInt ≤ 999) → (v17_1.toInt < v148_2.toInt) → (v17_2.toInt < v148_2.toInt) → G E ({ frames := 3, cells := 0, slots := 0, locals := 192 } : Room) D cy 7 P148 0 0 148 [(0, .ref a0), (1, .int v17_1), (2, .int v148_2), (5, .long l148_5)] [.int v148_s0, .int v17_1, .ref b148_s2] := by
        intro P148 v148_2 l148_5 v148_s0 b148_s2 I148 X148 W148 hv148_2 hv148_s0 hb148_s2 eb148_s2 hq148_0 hq148_1 hq148_2 rel148_0 rel148_1
        have h46933 := X148.at ha0
        obtain ⟨b46934, e46935, h46936⟩ := I148.fld (h46933) 5 13 1002 rfl
        have hq148_2 := hq148_2 b46934 e46935
        refine g_iast (j := (v17_1.toInt.toNat)) C hb148_s2.1 hb148_s2.2.1 (ix_in hb148_s2.2.2 (by omega)) dX12_cutAll_148 ?_
        refine gqW (ks := [4]) (I148.setA eb148_s2 hb148_s2 (by decide) (arOk.of rfl (by omega))) (EM.setA I148 eb148_s2 rfl (by decide)) (fun Y46937 Iy46938 Xy46939 w46940  => ?_)
        have w46940 : (pI Y46937 b148_s2 (v17_1.toInt.toNat)).toInt = v148_s0.toInt := w46940
        have q46941 := Xy46939.keepF 2 (by decide)
        have q46942 := Xy46939.keepF 3 (by decide)
        have q46943 := Xy46939.keepA e46935 (by decide) rfl (v17_1.toInt.toNat)
        have W46944 := W148.keep I148 Xy46939 (by decide) (by decide) (by decide) (by decide)
        have Xz46945 : EM [2, 3, 4, 5, 7, 8] a0 P Y46937 := EM.tr ha0 X148 (Xy46939.mono (by decide))
        have e46946 := Xy46939.ref h46933 (by decide) eb148_s2
        have e46947 := Xy46939.ref h46933 (by decide) e46935
        have h46948 := Xy46939.at h46933
        have h46949 := Xy46939.ar hb148_s2
        have h46950 := Xy46939.ar h46936
        refine g_goto C 265 dX12_cutAll_149 (by decide) ?_
        exact J265 Y46937 v148_2 l148_5 Iy46938 Xz46945 W46944 (by omega) (by omega) (by omega) (fun b9 e9 => by rw [e46946] at e9; cases e9; omega) (fun b9 e9 => by rw [e46947] at e9; cases e9; omega) (by show v17_1.toInt < v148_2.toInt; omega) (by show v17_2.toInt < v148_2.toInt; omega)
      have J129 : ∀ (P129 : PP) (v129_2 : Int32) (l129_5 : Int64), (IM P129 a0) → (EM [2, 3, 4, 5, 7, 8] a0 P P129) → (MW P129 a0) → (0 ≤ v129_2.toInt ∧ v129_2.toInt ≤ 1000) → (0 ≤ v17_2.toInt ∧ v17_2.toInt ≤ 999) → (0 ≤ (pI P129 a0 2).toInt ∧ (pI P129 a0 2).toInt ≤ 0) → (1 ≤ (pI P129 a0 3).toInt ∧ (pI P129 a0 3).toInt ≤ 1000) → (∀ b, pR P129 a0 5 = some b → 0 ≤ (pI P129 b (v17_1.toInt.toNat)).toInt ∧ (pI P129 b (v17_1.toInt.toNat)).toInt ≤ 999) → (v17_1.toInt ≤ v17_2.toInt) → (v17_2.toInt < v129_2.toInt) → (v17_2.toInt < v129_2.toInt) → G E ({ frames := 3, cells := 0, slots := 0, locals := 192 } : Room) D cy 7 P129 0 0 129 [(0, .ref a0), (1, .int v17_1), (2, .int v129_2), (4, .int v17_2), (5, .long l129_5)] [] := by
        intro P129 v129_2 l129_5 I129 X129 W129 hv129_2 hv129_4 hq129_0 hq129_1 hq129_2 rel129_0 rel129_1 rel129_2
        have h46951 := X129.at ha0
        obtain ⟨b46952, e46953, h46954⟩ := I129.fld (h46951) 5 13 1002 rfl
        have hq129_2 := hq129_2 b46952 e46953
        refine g_aload_n C dX12_cutAll_129 rfl 0 rfl ?_
        obtain ⟨b46955, e46956, h46957⟩ := I129.fld (h46951) 4 13 1002 rfl
        refine g_getR C fi_X12_24 rfl e46956 (h46951).1 (h46951).2 dX12_cutAll_130 ?_
        refine g_iload_n C dX12_cutAll_133 rfl 1 rfl ?_
        refine g_iload_n C dX12_cutAll_134 rfl 2 rfl ?_
        refine g_iload C dX12_cutAll_135 3 rfl ?_
        refine s_isub C dX12_cutAll_137 (by show -2147483648 ≤ v129_2.toInt - v17_2.toInt ∧ v129_2.toInt - v17_2.toInt ≤ 2147483647; omega) (fun z46958 h46959 => ?_)
        have h46959 : z46958.toInt = v129_2.toInt - v17_2.toInt := h46959
        refine g_bipush (v := 8) C dX12_cutAll_138 (by decide) ?_
        refine b_icmp_le C 147 dX12_cutAll_140 (by decide) (fun h46960 => ?_) (fun h46960 => ?_)
        · have h46960 : z46958.toInt ≤ 8 := h46960
          refine g_iconst (v := 1) C dX12_cutAll_147 (by decide) ?_
          refine g_lv (lv' := [(0, .ref a0), (1, .int v17_1), (2, .int v129_2), (5, .long l129_5)]) [0, 1, 2, 4] rfl ?_
          exact J148 P129 v129_2 l129_5 1 b46955 I129 X129 W129 (by omega) (by decide) h46957 e46956 (by omega) (by omega) (fun b9 e9 => by rw [e46953] at e9; cases e9; omega) (by show v17_1.toInt < v129_2.toInt; omega) (by show v17_2.toInt < v129_2.toInt; omega)
        · have h46960 : 8 < z46958.toInt := h46960
          refine g_iconst (v := 4) C dX12_cutAll_143 (by decide) ?_
          refine g_goto C 148 dX12_cutAll_144 (by decide) ?_
          refine g_lv (lv' := [(0, .ref a0), (1, .int v17_1), (2, .int v129_2), (5, .long l129_5)]) [0, 1, 2, 4] rfl ?_
          exact J148 P129 v129_2 l129_5 4 b46955 I129 X129 W129 (by omega) (by decide) h46957 e46956 (by omega) (by omega) (fun b9 e9 => by rw [e46953] at e9; cases e9; omega) (by show v17_1.toInt < v129_2.toInt; omega) (by show v17_2.toInt < v129_2.toInt; omega)
      have J70 : ∀ (n70 : Nat) (P70 : PP) (v70_2 : Int32) (l70_5 : Int64), (1000 - v70_2.toInt).toNat < n70 → (IM P70 a0) → (EM [2, 3, 4, 5, 7, 8] a0 P P70) → (MW P70 a0) → (0 ≤ v70_2.toInt ∧ v70_2.toInt ≤ 1000) → (0 ≤ v17_2.toInt ∧ v17_2.toInt ≤ 999) → (0 ≤ (pI P70 a0 2).toInt ∧ (pI P70 a0 2).toInt ≤ 0) → (1 ≤ (pI P70 a0 3).toInt ∧ (pI P70 a0 3).toInt ≤ 1000) → (∀ b, pR P70 a0 5 = some b → 0 ≤ (pI P70 b (v17_1.toInt.toNat)).toInt ∧ (pI P70 b (v17_1.toInt.toNat)).toInt ≤ 999) → (v17_1.toInt ≤ v17_2.toInt) → (∀ b91, pR P70 a0 1 = some b91 → v17_2.toInt < v70_2.toInt ∨ (v17_2.toInt = v70_2.toInt ∧ v70_2.toInt < (pI P70 a0 3).toInt ∧ 97 ≤ (pI P70 b91 (v70_2.toInt.toNat)).toInt ∧ (pI P70 b91 (v70_2.toInt.toNat)).toInt ≤ 122)) → (v17_2.toInt = v17_2.toInt) → G E ({ frames := 3, cells := 0, slots := 0, locals := 192 } : Room) D cy 7 P70 0 0 70 [(0, .ref a0), (1, .int v17_1), (2, .int v70_2), (4, .int v17_2), (5, .long l70_5)] [] := by
        intro n70
        induction n70 with
        | zero => intro P70 v70_2 l70_5 hm70 I70 X70 W70 hv70_2 hv70_4 hq70_0 hq70_1 hq70_2 rel70_0 rel70_1 rel70_2; omega
        | succ n70 ih70 =>
          intro P70 v70_2 l70_5 hm70 I70 X70 W70 hv70_2 hv70_4 hq70_0 hq70_1 hq70_2 rel70_0 rel70_1 rel70_2
          have h46961 := X70.at ha0
          obtain ⟨b46962, e46963, h46964⟩ := I70.fld (h46961) 5 13 1002 rfl
          have hq70_2 := hq70_2 b46962 e46963
          obtain ⟨b46965, e46966, h46967⟩ := I70.fld (h46961) 1 13 1000 rfl
          have rel70_1 := rel70_1 b46965 e46966
          have J121 : ∀ (l121_s0 : Int64), (0 ≤ v70_2.toInt ∧ v70_2.toInt ≤ 999) → (0 ≤ v17_2.toInt ∧ v17_2.toInt ≤ 999) → (0 ≤ (pI P70 a0 2).toInt ∧ (pI P70 a0 2).toInt ≤ 0) → (1 ≤ (pI P70 a0 3).toInt ∧ (pI P70 a0 3).toInt ≤ 1000) → (∀ b, pR P70 a0 1 = some b → 97 ≤ (pI P70 b (v70_2.toInt.toNat)).toInt ∧ (pI P70 b (v70_2.toInt.toNat)).toInt ≤ 122) → (∀ b, pR P70 a0 5 = some b → 0 ≤ (pI P70 b (v17_1.toInt.toNat)).toInt ∧ (pI P70 b (v17_1.toInt.toNat)).toInt ≤ 999) → (v17_1.toInt ≤ v17_2.toInt) → (v17_2.toInt ≤ v70_2.toInt) → (v17_2.toInt = v17_2.toInt) → G E ({ frames := 3, cells := 0, slots := 0, locals := 192 } : Room) D cy 7 P70 0 0 121 [(0, .ref a0), (1, .int v17_1), (2, .int v70_2), (4, .int v17_2)] [.long l121_s0] := by
            intro l121_s0 hv121_2 hv121_4 hq121_0 hq121_1 hq121_2 hq121_3 rel121_0 rel121_1 rel121_2
            have h46968 := X70.at ha0
            obtain ⟨b46969, e46970, h46971⟩ := I70.fld (h46968) 1 13 1000 rfl
            have hq121_2 := hq121_2 b46969 e46970
            obtain ⟨b46972, e46973, h46974⟩ := I70.fld (h46968) 5 13 1002 rfl
            have hq121_3 := hq121_3 b46972 e46973
            refine g_lstore (lv' := [(5, .long l121_s0), (0, .ref a0), (1, .int v17_1), (2, .int v70_2), (4, .int v17_2)]) C dX12_cutAll_121 (by decide) rfl ?_
            refine s_iinc (lv0 := [(5, .long l121_s0), (0, .ref a0), (1, .int v17_1), (4, .int v17_2)]) (m := 1) C dX12_cutAll_123 3 rfl (by decide) rfl (by decide) (by omega) (fun z46975 h46976 => ?_)
            have h46976 : z46975.toInt = v70_2.toInt + 1 := h46976
            refine g_goto C 70 dX12_cutAll_126 (by decide) ?_
            refine g_lv (lv' := [(0, .ref a0), (1, .int v17_1), (2, .int z46975), (4, .int v17_2), (5, .long l121_s0)]) [2, 3, 0, 4, 1] rfl ?_
            exact ih70 P70 z46975 l121_s0 (by omega) I70 X70 W70 (by omega) (by omega) (by omega) (by omega) (fun b9 e9 => by rw [e46973] at e9; cases e9; omega) (by show v17_1.toInt ≤ v17_2.toInt; omega) (by intro b91 e91; rw [e46970] at e91; cases e91; show v17_2.toInt < z46975.toInt ∨ (v17_2.toInt = z46975.toInt ∧ z46975.toInt < (pI P70 a0 3).toInt ∧ 97 ≤ (pI P70 b46969 (z46975.toInt.toNat)).toInt ∧ (pI P70 b46969 (z46975.toInt.toNat)).toInt ≤ 122); omega) (by show v17_2.toInt = v17_2.toInt; omega)
          refine g_iload_n C dX12_cutAll_70 rfl 2 rfl ?_
          refine g_aload_n C dX12_cutAll_71 rfl 0 rfl ?_
          refine g_getI C fi_X12_140 (by decide) (h46961).1 (h46961).2 dX12_cutAll_72 ?_
          refine b_icmp_ge C 129 dX12_cutAll_75 (by decide) (fun h46977 => ?_) (fun h46977 => ?_)
          · have h46977 : (pI P70 a0 3).toInt ≤ v70_2.toInt := h46977
            exact J129 P70 v70_2 l70_5 I70 X70 W70 (by omega) (by omega) (by omega) (by omega) (fun b9 e9 => by rw [e46963] at e9; cases e9; omega) (by show v17_1.toInt ≤ v17_2.toInt; omega) (by show v17_2.toInt < v70_2.toInt; omega) (by show v17_2.toInt < v70_2.toInt; omega)
          · have h46977 : v70_2.toInt < (pI P70 a0 3).toInt := h46977
            refine g_aload_n C dX12_cutAll_78 rfl 0 rfl ?_
            refine g_getR C fi_X12_14 rfl e46966 (h46961).1 (h46961).2 dX12_cutAll_79 ?_
            refine g_iload_n C dX12_cutAll_82 rfl 2 rfl ?_
            refine g_iald (j := (v70_2.toInt.toNat)) C h46967.1 h46967.2.1 (ix_in h46967.2.2 (by omega)) dX12_cutAll_83 ?_
            refine g_callSI (b := 0) (ci := 0) (rest := []) C ms_X12_136 [.int (pI P70 b46965 (v70_2.toInt.toNat))] (s_X12_isLetter I70.1) rfl rfl (by decide) (Nat.le_of_ble_eq_true rfl) (by decide) dX12_cutAll_84 (fun r46978 Y46979 h46980 => ?_)
            obtain ⟨rfl, h46980⟩ := h46980
            obtain ⟨h46980, hi46981, hi46982⟩ := h46980
            have hi46981 : r46978.toInt = 0 ∨ (((97 : Int) ≤ (pI P70 b46965 (v70_2.toInt.toNat)).toInt ∧ (pI P70 b46965 (v70_2.toInt.toNat)).toInt ≤ (122 : Int))) := hi46981
            have hi46982 : r46978.toInt ≠ 0 ∨ (pI P70 b46965 (v70_2.toInt.toNat)).toInt < 97 ∨ 122 < (pI P70 b46965 (v70_2.toInt.toNat)).toInt := hi46982
            have h46980 : 0 ≤ r46978.toInt ∧ r46978.toInt ≤ 1 := h46980
            refine b_if_eq C 129 dX12_cutAll_87 (by decide) (fun h46983 => ?_) (fun h46983 => ?_)
            · have h46983 : r46978.toInt = 0 := congrArg Int32.toInt h46983
              clear hi46981
              exact J129 P70 v70_2 l70_5 I70 X70 W70 (by omega) (by omega) (by omega) (by omega) (fun b9 e9 => by rw [e46963] at e9; cases e9; omega) (by show v17_1.toInt ≤ v17_2.toInt; omega) (by show v17_2.toInt < v70_2.toInt; omega) (by show v17_2.toInt < v70_2.toInt; omega)
            · have h46983 : r46978.toInt ≠ 0 := ti_ne h46983
              replace hi46981 := hi46981.resolve_left (by omega)
              refine g_iload_n C dX12_cutAll_90 rfl 2 rfl ?_
              refine g_iload C dX12_cutAll_91 3 rfl ?_
              refine s_isub C dX12_cutAll_93 (by show -2147483648 ≤ v70_2.toInt - v17_2.toInt ∧ v70_2.toInt - v17_2.toInt ≤ 2147483647; omega) (fun z46984 h46985 => ?_)
              have h46985 : z46984.toInt = v70_2.toInt - v17_2.toInt := h46985
              refine g_bipush (v := 8) C dX12_cutAll_94 (by decide) ?_
              refine b_icmp_ge C 119 dX12_cutAll_96 (by decide) (fun h46986 => ?_) (fun h46986 => ?_)
              · have h46986 : 8 ≤ z46984.toInt := h46986
                refine g_lload C dX12_cutAll_119 4 rfl ?_
                refine g_lv (lv' := [(0, .ref a0), (1, .int v17_1), (2, .int v70_2), (4, .int v17_2)]) [0, 1, 2, 3] rfl ?_
                exact J121 l70_5 (by omega) (by omega) (by omega) (by omega) (fun b9 e9 => by rw [e46966] at e9; cases e9; omega) (fun b9 e9 => by rw [e46963] at e9; cases e9; omega) (by show v17_1.toInt ≤ v17_2.toInt; omega) (by show v17_2.toInt ≤ v70_2.toInt; omega) (by show v17_2.toInt = v17_2.toInt; omega)
              · have h46986 : z46984.toInt < 8 := h46986
                refine g_ldc2 (v := 37) C kl_X12_143 dX12_cutAll_99 ?_
                refine g_topl (fun l46987 el46987 => ?_)
                have hz_l46987 : ¬ l46987 = 0 := by rw [el46987]; decide
                refine g_lload C dX12_cutAll_102 4 rfl ?_
                refine a_lmul C dX12_cutAll_104 (fun l46988 => ?_)
                refine g_aload_n C dX12_cutAll_105 rfl 0 rfl ?_
                refine g_getR C fi_X12_14 rfl e46966 (h46961).1 (h46961).2 dX12_cutAll_106 ?_
                refine g_iload_n C dX12_cutAll_109 rfl 2 rfl ?_
                refine g_iald (j := (v70_2.toInt.toNat)) C h46967.1 h46967.2.1 (ix_in h46967.2.2 (by omega)) dX12_cutAll_110 ?_
                refine g_callSI (b := 0) (ci := 0) (rest := [.long l46988]) C ms_X12_145 [.int (pI P70 b46965 (v70_2.toInt.toNat))] (s_X12_rank I70.1) rfl rfl (by decide) (Nat.le_of_ble_eq_true rfl) (by decide) dX12_cutAll_111 (fun r46989 Y46990 h46991 => ?_)
                obtain ⟨rfl, h46991⟩ := h46991
                have h46991 : True := h46991
                refine a_i2l C dX12_cutAll_114 (fun l46992 => ?_)
                refine a_ladd C dX12_cutAll_115 (fun l46993 => ?_)
                refine g_goto C 121 dX12_cutAll_116 (by decide) ?_
                refine g_lv (lv' := [(0, .ref a0), (1, .int v17_1), (2, .int v70_2), (4, .int v17_2)]) [0, 1, 2, 3] rfl ?_
                exact J121 l46993 (by omega) (by omega) (by omega) (by omega) (fun b9 e9 => by rw [e46966] at e9; cases e9; omega) (fun b9 e9 => by rw [e46963] at e9; cases e9; omega) (by show v17_1.toInt ≤ v17_2.toInt; omega) (by show v17_2.toInt ≤ v70_2.toInt; omega) (by show v17_2.toInt = v17_2.toInt; omega)
      have J44 : (0 ≤ v17_2.toInt ∧ v17_2.toInt ≤ 999) → (0 ≤ (pI P17 a0 2).toInt ∧ (pI P17 a0 2).toInt ≤ 0) → (1 ≤ (pI P17 a0 3).toInt ∧ (pI P17 a0 3).toInt ≤ 1000) → G E ({ frames := 3, cells := 0, slots := 0, locals := 192 } : Room) D cy 7 P17 0 0 44 [(0, .ref a0), (1, .int v17_1), (2, .int v17_2)] [] := by
        intro hv44_2 hq44_0 hq44_1
        have h46994 := X17.at ha0
        refine s_iinc (lv0 := [(0, .ref a0), (1, .int v17_1)]) (m := 1) C dX12_cutAll_44 2 rfl (by decide) rfl (by decide) (by omega) (fun z46995 h46996 => ?_)
        have h46996 : z46995.toInt = v17_2.toInt + 1 := h46996
        refine g_goto C 17 dX12_cutAll_47 (by decide) ?_
        refine g_lv (lv' := [(0, .ref a0), (1, .int v17_1), (2, .int z46995)]) [1, 2, 0] rfl ?_
        exact ih17 P17 v17_1 z46995 (by omega) I17 X17 W17 (by omega) (by omega) (by omega) (by show v17_1.toInt ≤ z46995.toInt; omega)
      refine g_iload_n C dX12_cutAll_17 rfl 2 rfl ?_
      refine g_aload_n C dX12_cutAll_18 rfl 0 rfl ?_
      refine g_getI C fi_X12_140 (by decide) (h46826).1 (h46826).2 dX12_cutAll_19 ?_
      have h46997 := I17.rg (h46826) 3 rfl
      refine b_icmp_ge C 279 dX12_cutAll_22 (by decide) (fun h46998 => ?_) (fun h46998 => ?_)
      · have h46998 : (pI P17 a0 3).toInt ≤ v17_2.toInt := h46998
        refine g_aload_n C dX12_cutAll_279 rfl 0 rfl ?_
        obtain ⟨b46999, e47000, h47001⟩ := I17.fld (h46826) 4 13 1002 rfl
        refine g_getR C fi_X12_24 rfl e47000 (h46826).1 (h46826).2 dX12_cutAll_280 ?_
        refine g_iload_n C dX12_cutAll_283 rfl 1 rfl ?_
        refine g_iconst (v := 0) C dX12_cutAll_284 (by decide) ?_
        refine g_iast (j := (v17_1.toInt.toNat)) C h47001.1 h47001.2.1 (ix_in h47001.2.2 (by omega)) dX12_cutAll_285 ?_
        refine gqW (ks := [4]) (I17.setA e47000 h47001 (by decide) (arOk.of rfl (by decide))) (EM.setA I17 e47000 rfl (by decide)) (fun Y47002 Iy47003 Xy47004 w47005  => ?_)
        have w47005 : (pI Y47002 b46999 (v17_1.toInt.toNat)).toInt = 0 := w47005
        have q47006 := Xy47004.keepF 2 (by decide)
        have q47007 := Xy47004.keepF 3 (by decide)
        have W47008 := W17.keep I17 Xy47004 (by decide) (by decide) (by decide) (by decide)
        have Xz47009 : EM [2, 3, 4, 5, 7, 8] a0 P Y47002 := EM.tr ha0 X17 (Xy47004.mono (by decide))
        have e47010 := Xy47004.ref h46826 (by decide) e47000
        have h47011 := Xy47004.at h46826
        have h47012 := Xy47004.ar h47001
        refine g_aload_n C dX12_cutAll_286 rfl 0 rfl ?_
        obtain ⟨b47013, e47014, h47015⟩ := Iy47003.fld (h47011) 5 13 1002 rfl
        refine g_getR C fi_X12_27 rfl e47014 (h47011).1 (h47011).2 dX12_cutAll_287 ?_
        refine g_iload_n C dX12_cutAll_290 rfl 1 rfl ?_
        refine g_aload_n C dX12_cutAll_291 rfl 0 rfl ?_
        refine g_getI C fi_X12_140 (by decide) (h47011).1 (h47011).2 dX12_cutAll_292 ?_
        refine g_iast (j := (v17_1.toInt.toNat)) C h47015.1 h47015.2.1 (ix_in h47015.2.2 (by omega)) dX12_cutAll_295 ?_
        refine gqW (ks := [5]) (Iy47003.setA e47014 h47015 (by decide) (arOk.of rfl (by omega))) (EM.setA Iy47003 e47014 rfl (by decide)) (fun Y47016 Iy47017 Xy47018 w47019  => ?_)
        have w47019 : (pI Y47016 b47013 (v17_1.toInt.toNat)).toInt = (pI Y47002 a0 3).toInt := w47019
        have q47020 := Xy47018.keepF 2 (by decide)
        have q47021 := Xy47018.keepF 3 (by decide)
        have q47022 := Xy47018.keepA e47010 (by decide) rfl (v17_1.toInt.toNat)
        have W47023 := W47008.keep Iy47003 Xy47018 (by decide) (by decide) (by decide) (by decide)
        have Xz47024 : EM [2, 3, 4, 5, 7, 8] a0 P Y47016 := EM.tr ha0 Xz47009 (Xy47018.mono (by decide))
        have e47025 := Xy47018.ref h47011 (by decide) e47010
        have e47026 := Xy47018.ref h47011 (by decide) e47014
        have h47027 := Xy47018.at h47011
        have h47028 := Xy47018.ar h47012
        have h47029 := Xy47018.ar h47015
        refine g_aload_n C dX12_cutAll_296 rfl 0 rfl ?_
        refine g_iconst (v := 0) C dX12_cutAll_297 (by decide) ?_
        refine g_putI C fi_X12_159 rfl (h47027).1 (h47027).2 dX12_cutAll_298 ?_
        refine gqW (ks := [7]) (Iy47017.setI (rgOk.of rfl (by decide))) (EM.setI Iy47017 (by decide)) (fun Y47030 Iy47031 Xy47032 w47033  => ?_)
        have w47033 : (pI Y47030 a0 7).toInt = 0 := w47033
        have q47034 := Xy47032.keepF 2 (by decide)
        have q47035 := Xy47032.keepF 3 (by decide)
        have q47036 := Xy47032.keepA e47025 (by decide) rfl (v17_1.toInt.toNat)
        have q47037 := Xy47032.keepA e47026 (by decide) rfl (v17_1.toInt.toNat)
        have W47038 := W47023.keep Iy47017 Xy47032 (by decide) (by decide) (by decide) (by decide)
        have Xz47039 : EM [2, 3, 4, 5, 7, 8] a0 P Y47030 := EM.tr ha0 Xz47024 (Xy47032.mono (by decide))
        have e47040 := Xy47032.ref h47027 (by decide) e47025
        have e47041 := Xy47032.ref h47027 (by decide) e47026
        have h47042 := Xy47032.at h47027
        have h47043 := Xy47032.ar h47028
        have h47044 := Xy47032.ar h47029
        refine g_aload_n C dX12_cutAll_301 rfl 0 rfl ?_
        refine g_iconst (v := 0) C dX12_cutAll_302 (by decide) ?_
        refine g_putI C fi_X12_162 rfl (h47042).1 (h47042).2 dX12_cutAll_303 ?_
        refine gqW (ks := [8]) (Iy47031.setI (rgOk.of rfl (by decide))) (EM.setI Iy47031 (by decide)) (fun Y47045 Iy47046 Xy47047 w47048  => ?_)
        have w47048 : (pI Y47045 a0 8).toInt = 0 := w47048
        have q47049 := Xy47047.keepF 2 (by decide)
        have q47050 := Xy47047.keepF 3 (by decide)
        have q47051 := Xy47047.keepA e47040 (by decide) rfl (v17_1.toInt.toNat)
        have q47052 := Xy47047.keepA e47041 (by decide) rfl (v17_1.toInt.toNat)
        have q47053 := Xy47047.keepF 7 (by decide)
        have W47054 := W47038.keep Iy47031 Xy47047 (by decide) (by decide) (by decide) (by decide)
        have Xz47055 : EM [2, 3, 4, 5, 7, 8] a0 P Y47045 := EM.tr ha0 Xz47039 (Xy47047.mono (by decide))
        have e47056 := Xy47047.ref h47042 (by decide) e47040
        have e47057 := Xy47047.ref h47042 (by decide) e47041
        have h47058 := Xy47047.at h47042
        have h47059 := Xy47047.ar h47043
        have h47060 := Xy47047.ar h47044
        exact ret _ _ _ _ _ dX12_cutAll_306 (by decide) (by decide) ⟨Iy47046, Xz47055, W47054, (by show (pI Y47045 a0 2).toInt = 0; omega)⟩
      · have h46998 : v17_2.toInt < (pI P17 a0 3).toInt := h46998
        refine g_aload_n C dX12_cutAll_25 rfl 0 rfl ?_
        obtain ⟨b47061, e47062, h47063⟩ := I17.fld (h46826) 1 13 1000 rfl
        refine g_getR C fi_X12_14 rfl e47062 (h46826).1 (h46826).2 dX12_cutAll_26 ?_
        refine g_iload_n C dX12_cutAll_29 rfl 2 rfl ?_
        refine g_iald (j := (v17_2.toInt.toNat)) C h47063.1 h47063.2.1 (ix_in h47063.2.2 (by omega)) dX12_cutAll_30 ?_
        refine g_topi (fun z47064 h47065 => ?_)
        have h47065 : z47064.toInt = (pI P17 b47061 (v17_2.toInt.toNat)).toInt := congrArg Int32.toInt h47065
        refine g_istore_n (lv' := [(3, .int z47064), (0, .ref a0), (1, .int v17_1), (2, .int v17_2)]) C dX12_cutAll_31 rfl (by decide) rfl ?_
        refine g_iload_n C dX12_cutAll_32 rfl 0 rfl ?_
        refine g_bipush (v := 10) C dX12_cutAll_33 (by decide) ?_
        have u47067 := ti_rng z47064
        refine b_icmp_eq C 44 dX12_cutAll_35 (by decide) (fun h47066 => ?_) (fun h47066 => ?_)
        · have h47066 : z47064.toInt = 10 := congrArg Int32.toInt h47066
          refine g_lv (lv' := [(0, .ref a0), (1, .int v17_1), (2, .int v17_2)]) [1, 2, 3] rfl ?_
          exact J44 (by omega) (by omega) (by omega)
        · have h47066 : z47064.toInt ≠ 10 := ti_ne h47066
          refine g_iload_n C dX12_cutAll_38 rfl 0 rfl ?_
          refine g_bipush (v := 32) C dX12_cutAll_39 (by decide) ?_
          have u47069 := ti_rng z47064
          refine b_icmp_ne C 50 dX12_cutAll_41 (by decide) (fun h47068 => ?_) (fun h47068 => ?_)
          · have h47068 : z47064.toInt ≠ 32 := ti_ne h47068
            refine g_iload_n C dX12_cutAll_50 rfl 3 rfl ?_
            refine g_istore (lv' := [(4, .int v17_2), (3, .int z47064), (0, .ref a0), (1, .int v17_1), (2, .int v17_2)]) C dX12_cutAll_51 (by decide) rfl ?_
            refine g_lconst (v := 0) C dX12_cutAll_53 (by decide) ?_
            refine g_lstore (lv' := [(5, .long 0), (4, .int v17_2), (3, .int z47064), (0, .ref a0), (1, .int v17_1), (2, .int v17_2)]) C dX12_cutAll_54 (by decide) rfl ?_
            refine g_aload_n C dX12_cutAll_56 rfl 3 rfl ?_
            obtain ⟨b47070, e47071, h47072⟩ := I17.fld (h46826) 5 13 1002 rfl
            refine g_getR C fi_X12_27 rfl e47071 (h46826).1 (h46826).2 dX12_cutAll_57 ?_
            refine g_iload_n C dX12_cutAll_60 rfl 4 rfl ?_
            refine g_iload_n C dX12_cutAll_61 rfl 5 rfl ?_
            refine g_iast (j := (v17_1.toInt.toNat)) C h47072.1 h47072.2.1 (ix_in h47072.2.2 (by omega)) dX12_cutAll_62 ?_
            refine gqW (ks := [5]) (I17.setA e47071 h47072 (by decide) (arOk.of rfl (by omega))) (EM.setA I17 e47071 rfl (by decide)) (fun Y47073 Iy47074 Xy47075 w47076  => ?_)
            have w47076 : (pI Y47073 b47070 (v17_1.toInt.toNat)).toInt = v17_2.toInt := w47076
            have q47077 := Xy47075.keepF 2 (by decide)
            have q47078 := Xy47075.keepF 3 (by decide)
            have q47079 := Xy47075.keepA e47062 (by decide) rfl (v17_2.toInt.toNat)
            have W47080 := W17.keep I17 Xy47075 (by decide) (by decide) (by decide) (by decide)
            have Xz47081 : EM [2, 3, 4, 5, 7, 8] a0 P Y47073 := EM.tr ha0 X17 (Xy47075.mono (by decide))
            have e47082 := Xy47075.ref h46826 (by decide) e47062
            have e47083 := Xy47075.ref h46826 (by decide) e47071
            have h47084 := Xy47075.at h46826
            have h47085 := Xy47075.ar h47063
            have h47086 := Xy47075.ar h47072
            refine g_iload_n C dX12_cutAll_63 rfl 2 rfl ?_
            refine g_callSI (b := 0) (ci := 0) (rest := []) C ms_X12_136 [.int z47064] (s_X12_isLetter Iy47074.1) rfl rfl (by decide) (Nat.le_of_ble_eq_true rfl) (by decide) dX12_cutAll_64 (fun r47087 Y47088 h47089 => ?_)
            obtain ⟨rfl, h47089⟩ := h47089
            obtain ⟨h47089, hi47090, hi47091⟩ := h47089
            have hi47090 : r47087.toInt = 0 ∨ (((97 : Int) ≤ z47064.toInt ∧ z47064.toInt ≤ (122 : Int))) := hi47090
            have hi47091 : r47087.toInt ≠ 0 ∨ z47064.toInt < 97 ∨ 122 < z47064.toInt := hi47091
            have h47089 : 0 ≤ r47087.toInt ∧ r47087.toInt ≤ 1 := h47089
            refine b_if_eq C 152 dX12_cutAll_67 (by decide) (fun h47092 => ?_) (fun h47092 => ?_)
            · have h47092 : r47087.toInt = 0 := congrArg Int32.toInt h47092
              clear hi47090
              refine g_iload_n C dX12_cutAll_152 rfl 2 rfl ?_
              refine g_callSI (b := 0) (ci := 0) (rest := []) C ms_X12_149 [.int z47064] (s_X12_isDigit Iy47074.1) rfl rfl (by decide) (Nat.le_of_ble_eq_true rfl) (by decide) dX12_cutAll_153 (fun r47093 Y47094 h47095 => ?_)
              obtain ⟨rfl, h47095⟩ := h47095
              obtain ⟨h47095, hi47096, hi47097⟩ := h47095
              have hi47096 : r47093.toInt = 0 ∨ (((48 : Int) ≤ z47064.toInt ∧ z47064.toInt ≤ (57 : Int))) := hi47096
              have hi47097 : r47093.toInt ≠ 0 ∨ z47064.toInt < 48 ∨ 57 < z47064.toInt := hi47097
              have h47095 : 0 ≤ r47093.toInt ∧ r47093.toInt ≤ 1 := h47095
              refine b_if_eq C 240 dX12_cutAll_156 (by decide) (fun h47098 => ?_) (fun h47098 => ?_)
              · have h47098 : r47093.toInt = 0 := congrArg Int32.toInt h47098
                clear hi47096
                refine g_iload_n C dX12_cutAll_240 rfl 2 rfl ?_
                refine a_i2l C dX12_cutAll_241 (fun l47099 => ?_)
                refine g_lstore (lv' := [(5, .long l47099), (4, .int v17_2), (3, .int z47064), (0, .ref a0), (1, .int v17_1), (2, .int v17_2)]) C dX12_cutAll_242 (by decide) rfl ?_
                refine g_aload_n C dX12_cutAll_244 rfl 3 rfl ?_
                obtain ⟨b47100, e47101, h47102⟩ := Iy47074.fld (h47084) 4 13 1002 rfl
                refine g_getR C fi_X12_24 rfl e47101 (h47084).1 (h47084).2 dX12_cutAll_245 ?_
                refine g_iload_n C dX12_cutAll_248 rfl 4 rfl ?_
                refine g_iload_n C dX12_cutAll_249 rfl 2 rfl ?_
                refine g_callSI (b := 0) (ci := 0) (rest := [.int v17_1, .ref b47100]) C ms_X12_156 [.int z47064] (s_X12_isSignOf Iy47074.1) rfl rfl (by decide) (Nat.le_of_ble_eq_true rfl) (by decide) dX12_cutAll_250 (fun r47103 Y47104 h47105 => ?_)
                obtain ⟨rfl, h47105⟩ := h47105
                obtain ⟨h47105, hi47106⟩ := h47105
                have hi47106 : r47103.toInt = 0 ∨ (((59 : Int) ≤ z47064.toInt ∧ z47064.toInt ≤ (59 : Int))) := hi47106
                have h47105 : 0 ≤ r47103.toInt ∧ r47103.toInt ≤ 1 := h47105
                refine b_if_eq C 260 dX12_cutAll_253 (by decide) (fun h47107 => ?_) (fun h47107 => ?_)
                · have h47107 : r47103.toInt = 0 := congrArg Int32.toInt h47107
                  clear hi47106
                  refine g_iconst (v := 4) C dX12_cutAll_260 (by decide) ?_
                  refine g_lv (lv' := [(0, .ref a0), (1, .int v17_1), (2, .int v17_2), (5, .long l47099)]) [3, 4, 5, 0] rfl ?_
                  exact J261 Y47073 l47099 4 b47100 Iy47074 Xz47081 W47080 (by omega) (by decide) h47102 e47101 (by omega) (by omega) (fun b9 e9 => by rw [e47083] at e9; cases e9; omega) (by show v17_1.toInt ≤ v17_2.toInt; omega) (by show v17_2.toInt = v17_2.toInt; omega)
                · have h47107 : r47103.toInt ≠ 0 := ti_ne h47107
                  replace hi47106 := hi47106.resolve_left (by omega)
                  refine g_iconst (v := 3) C dX12_cutAll_256 (by decide) ?_
                  refine g_goto C 261 dX12_cutAll_257 (by decide) ?_
                  refine g_lv (lv' := [(0, .ref a0), (1, .int v17_1), (2, .int v17_2), (5, .long l47099)]) [3, 4, 5, 0] rfl ?_
                  exact J261 Y47073 l47099 3 b47100 Iy47074 Xz47081 W47080 (by omega) (by decide) h47102 e47101 (by omega) (by omega) (fun b9 e9 => by rw [e47083] at e9; cases e9; omega) (by show v17_1.toInt ≤ v17_2.toInt; omega) (by show v17_2.toInt = v17_2.toInt; omega)
              · have h47098 : r47093.toInt ≠ 0 := ti_ne h47098
                replace hi47096 := hi47096.resolve_left (by omega)
                refine g_lv (lv' := [(0, .ref a0), (1, .int v17_1), (2, .int v17_2), (4, .int v17_2), (5, .long 0)]) [3, 4, 5, 1, 0] rfl ?_
                exact J159 _ Y47073 v17_2 0 (Nat.lt_succ_self _) Iy47074 Xz47081 W47080 (by omega) (by omega) (by omega) (by omega) (fun b9 e9 => by rw [e47083] at e9; cases e9; omega) (by show v17_1.toInt ≤ v17_2.toInt; omega) (by intro b91 e91; rw [e47082] at e91; cases e91; show v17_2.toInt < v17_2.toInt ∨ (v17_2.toInt = v17_2.toInt ∧ v17_2.toInt < (pI Y47073 a0 3).toInt ∧ 48 ≤ (pI Y47073 b47061 (v17_2.toInt.toNat)).toInt ∧ (pI Y47073 b47061 (v17_2.toInt.toNat)).toInt ≤ 57); omega) (by show v17_2.toInt = v17_2.toInt; omega)
            · have h47092 : r47087.toInt ≠ 0 := ti_ne h47092
              replace hi47090 := hi47090.resolve_left (by omega)
              refine g_lv (lv' := [(0, .ref a0), (1, .int v17_1), (2, .int v17_2), (4, .int v17_2), (5, .long 0)]) [3, 4, 5, 1, 0] rfl ?_
              exact J70 _ Y47073 v17_2 0 (Nat.lt_succ_self _) Iy47074 Xz47081 W47080 (by omega) (by omega) (by omega) (by omega) (fun b9 e9 => by rw [e47083] at e9; cases e9; omega) (by show v17_1.toInt ≤ v17_2.toInt; omega) (by intro b91 e91; rw [e47082] at e91; cases e91; show v17_2.toInt < v17_2.toInt ∨ (v17_2.toInt = v17_2.toInt ∧ v17_2.toInt < (pI Y47073 a0 3).toInt ∧ 97 ≤ (pI Y47073 b47061 (v17_2.toInt.toNat)).toInt ∧ (pI Y47073 b47061 (v17_2.toInt.toNat)).toInt ≤ 122); omega) (by show v17_2.toInt = v17_2.toInt; omega)
          · have h47068 : z47064.toInt = 32 := congrArg Int32.toInt h47068
            refine g_lv (lv' := [(0, .ref a0), (1, .int v17_1), (2, .int v17_2)]) [1, 2, 3] rfl ?_
            exact J44 (by omega) (by omega) (by omega)
  refine g_aload_n C dX12_cutAll_0 rfl 0 rfl ?_
  refine g_aload_n C dX12_cutAll_1 rfl 0 rfl ?_
  refine g_getI C fi_X12_11 (by decide) (ha0).1 (ha0).2 dX12_cutAll_2 ?_
  have h47108 := I.rg (ha0) 2 rfl
  refine g_putI C fi_X12_140 rfl (ha0).1 (ha0).2 dX12_cutAll_5 ?_
  refine gqW (ks := [3]) (I.setI (rgOk.of rfl (by omega))) (EM.setI I (by decide)) (fun Y47109 Iy47110 Xy47111 w47112  => ?_)
  have w47112 : (pI Y47109 a0 3).toInt = (pI P a0 2).toInt := w47112
  have q47113 := Xy47111.keepF 2 (by decide)
  have W47114 := hW.keep I Xy47111 (by decide) (by decide) (by decide) (by decide)
  have Xz47115 : EM [2, 3, 4, 5, 7, 8] a0 P Y47109 := Xy47111.mono (by decide)
  have h47116 := Xy47111.at ha0
  refine g_aload_n C dX12_cutAll_8 rfl 0 rfl ?_
  refine g_iconst (v := 0) C dX12_cutAll_9 (by decide) ?_
  refine g_putI C fi_X12_11 rfl (h47116).1 (h47116).2 dX12_cutAll_10 ?_
  refine gqW (ks := [2]) (Iy47110.setI (rgOk.of rfl (by decide))) (EM.setI Iy47110 (by decide)) (fun Y47117 Iy47118 Xy47119 w47120  => ?_)
  have w47120 : (pI Y47117 a0 2).toInt = 0 := w47120
  have q47121 := Xy47119.keepF 3 (by decide)
  have W47122 := W47114.keep Iy47110 Xy47119 (by decide) (by decide) (by decide) (by decide)
  have Xz47123 : EM [2, 3, 4, 5, 7, 8] a0 P Y47117 := EM.tr ha0 Xz47115 (Xy47119.mono (by decide))
  have h47124 := Xy47119.at h47116
  refine g_iconst (v := 0) C dX12_cutAll_13 (by decide) ?_
  refine g_istore_n (lv' := [(1, .int 0), (0, .ref a0)]) C dX12_cutAll_14 rfl (by decide) rfl ?_
  refine g_iconst (v := 0) C dX12_cutAll_15 (by decide) ?_
  refine g_istore_n (lv' := [(2, .int 0), (1, .int 0), (0, .ref a0)]) C dX12_cutAll_16 rfl (by decide) rfl ?_
  refine g_lv (lv' := [(0, .ref a0), (1, .int 0), (2, .int 0)]) [2, 1, 0] rfl ?_
  exact J17 _ Y47117 0 0 (Nat.lt_succ_self _) Iy47118 Xz47123 W47122 (by decide) (by decide) (by omega) (by show 0 ≤ 0; omega)
set_option maxHeartbeats 4000000 in
set_option maxRecDepth 100000 in
theorem s_X12_draw_E {P : PP} {a0 : Nat} {a1 : Int32} (I : IM P a0) (hW : MW P a0) : CtrI yX12_draw cX12_draw 3 (some Jvm.ClassFile.FieldType.int) ({ frames := 5, cells := 0, slots := 0, locals := 320 } : Room) 0 0 P [.ref a0, .int a1] (fun r P2 => IM P2 a0 ∧ EM [0, 2, 3, 4, 5, 7, 8, 12, 13, 14, 15, 16, 17, 18, 26] a0 P P2 ∧ MW P2 a0 ∧ ((pI P2 a0 2).toInt = 0) ∧ (-1 ≤ r.toInt ∧ r.toInt ≤ 16005)) := by
  refine enI (lv := [(0, .ref a0), (1, .int a1)]) (by decide) (Nat.le_of_ble_eq_true rfl) rfl (fun E D cy C Ci0 ret => ?_)
  have ha0 := I.2.1
  have J198 : ∀ (P198 : PP), (IM P198 a0) → (EM [0, 2, 3, 4, 5, 7, 8, 12, 13, 14, 15, 16, 17, 18, 26] a0 P P198) → (MW P198 a0) → (0 ≤ (pI P198 a0 0).toInt ∧ (pI P198 a0 0).toInt ≤ 0) → (1 ≤ (pI P198 a0 18).toInt ∧ (pI P198 a0 18).toInt ≤ 16) → (0 ≤ (pI P198 a0 2).toInt ∧ (pI P198 a0 2).toInt ≤ 0) → (0 ≤ (pI P198 a0 8).toInt ∧ (pI P198 a0 8).toInt ≤ 16005) → (∀ b, pR P198 a0 10 = some b → 1 ≤ (pI P198 b (a1.toInt.toNat)).toInt ∧ (pI P198 b (a1.toInt.toNat)).toInt ≤ 16) → G E ({ frames := 5, cells := 0, slots := 0, locals := 320 } : Room) D cy 3 P198 0 0 198 [(0, .ref a0)] [] := by
    intro P198 I198 X198 W198 hq198_0 hq198_1 hq198_2 hq198_3 hq198_4
    have h48114 := X198.at ha0
    obtain ⟨b48115, e48116, h48117⟩ := I198.fld (h48114) 10 13 2 rfl
    have hq198_4 := hq198_4 b48115 e48116
    refine g_aload_n C dX12_draw_198 rfl 0 rfl ?_
    refine g_getI C fi_X12_162 (by decide) (h48114).1 (h48114).2 dX12_draw_199 ?_
    exact ret _ _ _ _ _ _ dX12_draw_202 rfl (by decide) (by decide) ⟨I198, X198, W198, (by show (pI P198 a0 2).toInt = 0; omega), (by omega)⟩
  have J152 : ∀ (n152 : Nat) (P152 : PP) (v152_2 : Int32), (4 - v152_2.toInt).toNat < n152 → (IM P152 a0) → (EM [0, 2, 3, 4, 5, 7, 8, 12, 13, 14, 15, 16, 17, 18, 26] a0 P P152) → (MW P152 a0) → (0 ≤ a1.toInt ∧ a1.toInt ≤ 1) → (0 ≤ v152_2.toInt ∧ v152_2.toInt ≤ 4) → (0 ≤ (pI P152 a0 0).toInt ∧ (pI P152 a0 0).toInt ≤ 0) → (1 ≤ (pI P152 a0 18).toInt ∧ (pI P152 a0 18).toInt ≤ 16) → (0 ≤ (pI P152 a0 2).toInt ∧ (pI P152 a0 2).toInt ≤ 0) → (0 ≤ (pI P152 a0 8).toInt ∧ (pI P152 a0 8).toInt ≤ 0) → (∀ b, pR P152 a0 10 = some b → 1 ≤ (pI P152 b (a1.toInt.toNat)).toInt ∧ (pI P152 b (a1.toInt.toNat)).toInt ≤ 16) → (∀ b, pR P152 a0 14 = some b → 1 ≤ (pI P152 b (a1.toInt.toNat)).toInt ∧ (pI P152 b (a1.toInt.toNat)).toInt ≤ 9) → G E ({ frames := 5, cells := 0, slots := 0, locals := 320 } : Room) D cy 3 P152 0 0 152 [(0, .ref a0), (1, .int a1), (2, .int v152_2)] [] := by
    intro n152
    induction n152 with
    | zero => intro P152 v152_2 hm152 I152 X152 W152 hv152_1 hv152_2 hq152_0 hq152_1 hq152_2 hq152_3 hq152_4 hq152_5; omega
    | succ n152 ih152 =>
      intro P152 v152_2 hm152 I152 X152 W152 hv152_1 hv152_2 hq152_0 hq152_1 hq152_2 hq152_3 hq152_4 hq152_5
      have h48118 := X152.at ha0
      obtain ⟨b48119, e48120, h48121⟩ := I152.fld (h48118) 10 13 2 rfl
      have hq152_4 := hq152_4 b48119 e48120
      obtain ⟨b48122, e48123, h48124⟩ := I152.fld (h48118) 14 13 3 rfl
      have hq152_5 := hq152_5 b48122 e48123
      refine g_iload_n C dX12_draw_152 rfl 2 rfl ?_
      refine g_iconst (v := 4) C dX12_draw_153 (by decide) ?_
      refine b_icmp_ge C 182 dX12_draw_154 (by decide) (fun h48125 => ?_) (fun h48125 => ?_)
      · have h48125 : 4 ≤ v152_2.toInt := h48125
        refine g_aload_n C dX12_draw_182 rfl 0 rfl ?_
        obtain ⟨b48126, e48127, h48128⟩ := I152.fld (h48118) 17 13 3 rfl
        refine g_getR C fi_X12_66 rfl e48127 (h48118).1 (h48118).2 dX12_draw_183 ?_
        refine g_iload_n C dX12_draw_186 rfl 1 rfl ?_
        refine g_aload_n C dX12_draw_187 rfl 0 rfl ?_
        refine g_getR C fi_X12_66 rfl e48127 (h48118).1 (h48118).2 dX12_draw_188 ?_
        refine g_iconst (v := 2) C dX12_draw_191 (by decide) ?_
        refine g_iald (j := 2) C h48128.1 h48128.2.1 (IX.litn (j := 2) h48128.2.2 rfl (by decide) (by decide)) dX12_draw_192 ?_
        refine g_iast (j := (a1.toInt.toNat)) C h48128.1 h48128.2.1 (ix_in h48128.2.2 (by omega)) dX12_draw_193 ?_
        refine gqW (ks := [17]) (I152.setA e48127 h48128 (by decide) (arOk.none rfl)) (EM.setA I152 e48127 rfl (by decide)) (fun Y48129 Iy48130 Xy48131 w48132  => ?_)
        have w48132 : (pI Y48129 b48126 (a1.toInt.toNat)).toInt = (pI P152 b48126 2).toInt := w48132
        have q48133 := Xy48131.keepF 0 (by decide)
        have q48134 := Xy48131.keepF 18 (by decide)
        have q48135 := Xy48131.keepF 2 (by decide)
        have q48136 := Xy48131.keepF 8 (by decide)
        have q48137 := Xy48131.keepA e48120 (by decide) rfl (a1.toInt.toNat)
        have q48138 := Xy48131.keepA e48123 (by decide) rfl (a1.toInt.toNat)
        have W48139 := W152.keep I152 Xy48131 (by decide) (by decide) (by decide) (by decide)
        have Xz48140 : EM [0, 2, 3, 4, 5, 7, 8, 12, 13, 14, 15, 16, 17, 18, 26] a0 P Y48129 := EM.tr ha0 X152 (Xy48131.mono (by decide))
        have e48141 := Xy48131.ref h48118 (by decide) e48120
        have e48142 := Xy48131.ref h48118 (by decide) e48123
        have e48143 := Xy48131.ref h48118 (by decide) e48127
        have h48144 := Xy48131.at h48118
        have h48145 := Xy48131.ar h48121
        have h48146 := Xy48131.ar h48124
        have h48147 := Xy48131.ar h48128
        refine g_aload_n C dX12_draw_194 rfl 0 rfl ?_
        refine g_callVV (rest := []) C mv_X12_189 [] (s_X12_forgetsMarks Iy48130 W48139) (h48144).1 (h48144).2 rfl rfl (by decide) (Nat.le_of_ble_eq_true rfl) (by decide) dX12_draw_195 (fun Y48149 h48150 => ?_)
        obtain ⟨Iy48151, Xy48152, W48153⟩ := h48150
        have q48154 := Xy48152.keepF 0 (by decide)
        have q48155 := Xy48152.keepF 18 (by decide)
        have q48156 := Xy48152.keepF 2 (by decide)
        have q48157 := Xy48152.keepF 8 (by decide)
        have q48158 := Xy48152.keepA e48141 (by decide) rfl (a1.toInt.toNat)
        have q48159 := Xy48152.keepA e48142 (by decide) rfl (a1.toInt.toNat)
        have q48160 := Xy48152.keepA e48143 (by decide) rfl (a1.toInt.toNat)
        have Xz48161 : EM [0, 2, 3, 4, 5, 7, 8, 12, 13, 14, 15, 16, 17, 18, 26] a0 P Y48149 := EM.tr ha0 Xz48140 (Xy48152.mono (by decide))
        have e48162 := Xy48152.ref h48144 (by decide) e48141
        have e48163 := Xy48152.ref h48144 (by decide) e48142
        have e48164 := Xy48152.ref h48144 (by decide) e48143
        have h48165 := Xy48152.at h48144
        have h48166 := Xy48152.ar h48145
        have h48167 := Xy48152.ar h48146
        have h48168 := Xy48152.ar h48147
        refine g_lv (lv' := [(0, .ref a0)]) [0] rfl ?_
        exact J198 Y48149 Iy48151 Xz48161 W48153 (by omega) (by omega) (by omega) (by omega) (fun b9 e9 => by rw [e48162] at e9; cases e9; omega)
      · have h48125 : v152_2.toInt < 4 := h48125
        refine g_aload_n C dX12_draw_157 rfl 0 rfl ?_
        obtain ⟨b48169, e48170, h48171⟩ := I152.fld (h48118) 16 13 12 rfl
        refine g_getR C fi_X12_63 rfl e48170 (h48118).1 (h48118).2 dX12_draw_158 ?_
        refine g_iconst (v := 4) C dX12_draw_161 (by decide) ?_
        refine g_iload_n C dX12_draw_162 rfl 1 rfl ?_
        refine s_imul C dX12_draw_163 (by show -2147483648 ≤ 4 * a1.toInt ∧ 4 * a1.toInt ≤ 2147483647; omega) (fun z48172 h48173 => ?_)
        have h48173 : z48172.toInt = 4 * a1.toInt := h48173
        refine g_iload_n C dX12_draw_164 rfl 2 rfl ?_
        refine s_iadd C dX12_draw_165 (by show -2147483648 ≤ z48172.toInt + v152_2.toInt ∧ z48172.toInt + v152_2.toInt ≤ 2147483647; omega) (fun z48174 h48175 => ?_)
        have h48175 : z48174.toInt = z48172.toInt + v152_2.toInt := h48175
        refine g_aload_n C dX12_draw_166 rfl 0 rfl ?_
        refine g_getR C fi_X12_63 rfl e48170 (h48118).1 (h48118).2 dX12_draw_167 ?_
        refine g_bipush (v := 8) C dX12_draw_170 (by decide) ?_
        refine g_iload_n C dX12_draw_172 rfl 2 rfl ?_
        refine s_iadd C dX12_draw_173 (by show -2147483648 ≤ 8 + v152_2.toInt ∧ 8 + v152_2.toInt ≤ 2147483647; omega) (fun z48176 h48177 => ?_)
        have h48177 : z48176.toInt = 8 + v152_2.toInt := h48177
        refine g_iald (j := (z48176.toInt.toNat)) C h48171.1 h48171.2.1 (ix_in h48171.2.2 (by omega)) dX12_draw_174 ?_
        refine g_iast (j := (z48174.toInt.toNat)) C h48171.1 h48171.2.1 (ix_in h48171.2.2 (by omega)) dX12_draw_175 ?_
        refine gqW (ks := [16]) (I152.setA e48170 h48171 (by decide) (arOk.none rfl)) (EM.setA I152 e48170 rfl (by decide)) (fun Y48178 Iy48179 Xy48180 w48181  => ?_)
        have w48181 : (pI Y48178 b48169 (z48174.toInt.toNat)).toInt = (pI P152 b48169 (z48176.toInt.toNat)).toInt := w48181
        have q48182 := Xy48180.keepF 0 (by decide)
        have q48183 := Xy48180.keepF 18 (by decide)
        have q48184 := Xy48180.keepF 2 (by decide)
        have q48185 := Xy48180.keepF 8 (by decide)
        have q48186 := Xy48180.keepA e48120 (by decide) rfl (a1.toInt.toNat)
        have q48187 := Xy48180.keepA e48123 (by decide) rfl (a1.toInt.toNat)
        have W48188 := W152.keep I152 Xy48180 (by decide) (by decide) (by decide) (by decide)
        have Xz48189 : EM [0, 2, 3, 4, 5, 7, 8, 12, 13, 14, 15, 16, 17, 18, 26] a0 P Y48178 := EM.tr ha0 X152 (Xy48180.mono (by decide))
        have e48190 := Xy48180.ref h48118 (by decide) e48120
        have e48191 := Xy48180.ref h48118 (by decide) e48123
        have e48192 := Xy48180.ref h48118 (by decide) e48170
        have h48193 := Xy48180.at h48118
        have h48194 := Xy48180.ar h48121
        have h48195 := Xy48180.ar h48124
        have h48196 := Xy48180.ar h48171
        refine s_iinc (lv0 := [(0, .ref a0), (1, .int a1)]) (m := 1) C dX12_draw_176 2 rfl (by decide) rfl (by decide) (by omega) (fun z48197 h48198 => ?_)
        have h48198 : z48197.toInt = v152_2.toInt + 1 := h48198
        refine g_goto C 152 dX12_draw_179 (by decide) ?_
        refine g_lv (lv' := [(0, .ref a0), (1, .int a1), (2, .int z48197)]) [1, 2, 0] rfl ?_
        exact ih152 Y48178 z48197 (by omega) Iy48179 Xz48189 W48188 (by omega) (by omega) (by omega) (by omega) (by omega) (by omega) (fun b9 e9 => by rw [e48190] at e9; cases e9; omega) (fun b9 e9 => by rw [e48191] at e9; cases e9; omega)
  have J82 : ∀ (n82 : Nat) (P82 : PP) (v82_2 : Int32), (21 - v82_2.toInt).toNat < n82 → (IM P82 a0) → (EM [0, 2, 3, 4, 5, 7, 8, 12, 13, 14, 15, 16, 17, 18, 26] a0 P P82) → (MW P82 a0) → (0 ≤ a1.toInt ∧ a1.toInt ≤ 1) → (0 ≤ v82_2.toInt ∧ v82_2.toInt ≤ 21) → (0 ≤ (pI P82 a0 0).toInt ∧ (pI P82 a0 0).toInt ≤ 0) → (1 ≤ (pI P82 a0 18).toInt ∧ (pI P82 a0 18).toInt ≤ 16) → (0 ≤ (pI P82 a0 2).toInt ∧ (pI P82 a0 2).toInt ≤ 0) → (0 ≤ (pI P82 a0 8).toInt ∧ (pI P82 a0 8).toInt ≤ 0) → (∀ b, pR P82 a0 10 = some b → 1 ≤ (pI P82 b (a1.toInt.toNat)).toInt ∧ (pI P82 b (a1.toInt.toNat)).toInt ≤ 16) → (∀ b, pR P82 a0 14 = some b → 1 ≤ (pI P82 b 2).toInt ∧ (pI P82 b 2).toInt ≤ 9) → G E ({ frames := 5, cells := 0, slots := 0, locals := 320 } : Room) D cy 3 P82 0 0 82 [(0, .ref a0), (1, .int a1), (2, .int v82_2)] [] := by
    intro n82
    induction n82 with
    | zero => intro P82 v82_2 hm82 I82 X82 W82 hv82_1 hv82_2 hq82_0 hq82_1 hq82_2 hq82_3 hq82_4 hq82_5; omega
    | succ n82 ih82 =>
      intro P82 v82_2 hm82 I82 X82 W82 hv82_1 hv82_2 hq82_0 hq82_1 hq82_2 hq82_3 hq82_4 hq82_5
      have h48199 := X82.at ha0
      obtain ⟨b48200, e48201, h48202⟩ := I82.fld (h48199) 10 13 2 rfl
      have hq82_4 := hq82_4 b48200 e48201
      obtain ⟨b48203, e48204, h48205⟩ := I82.fld (h48199) 14 13 3 rfl
      have hq82_5 := hq82_5 b48203 e48204
      refine g_iload_n C dX12_draw_82 rfl 2 rfl ?_
      refine g_bipush (v := 21) C dX12_draw_83 (by decide) ?_
      refine b_icmp_ge C 114 dX12_draw_85 (by decide) (fun h48206 => ?_) (fun h48206 => ?_)
      · have h48206 : 21 ≤ v82_2.toInt := h48206
        refine g_aload_n C dX12_draw_114 rfl 0 rfl ?_
        obtain ⟨b48207, e48208, h48209⟩ := I82.fld (h48199) 13 13 3 rfl
        refine g_getR C fi_X12_54 rfl e48208 (h48199).1 (h48199).2 dX12_draw_115 ?_
        refine g_iload_n C dX12_draw_118 rfl 1 rfl ?_
        refine g_aload_n C dX12_draw_119 rfl 0 rfl ?_
        refine g_getR C fi_X12_54 rfl e48208 (h48199).1 (h48199).2 dX12_draw_120 ?_
        refine g_iconst (v := 2) C dX12_draw_123 (by decide) ?_
        refine g_iald (j := 2) C h48209.1 h48209.2.1 (IX.litn (j := 2) h48209.2.2 rfl (by decide) (by decide)) dX12_draw_124 ?_
        refine g_iast (j := (a1.toInt.toNat)) C h48209.1 h48209.2.1 (ix_in h48209.2.2 (by omega)) dX12_draw_125 ?_
        refine gqW (ks := [13]) (I82.setA e48208 h48209 (by decide) (arOk.none rfl)) (EM.setA I82 e48208 rfl (by decide)) (fun Y48210 Iy48211 Xy48212 w48213  => ?_)
        have w48213 : (pI Y48210 b48207 (a1.toInt.toNat)).toInt = (pI P82 b48207 2).toInt := w48213
        have q48214 := Xy48212.keepF 0 (by decide)
        have q48215 := Xy48212.keepF 18 (by decide)
        have q48216 := Xy48212.keepF 2 (by decide)
        have q48217 := Xy48212.keepF 8 (by decide)
        have q48218 := Xy48212.keepA e48201 (by decide) rfl (a1.toInt.toNat)
        have q48219 := Xy48212.keepA e48204 (by decide) rfl 2
        have W48220 := W82.keep I82 Xy48212 (by decide) (by decide) (by decide) (by decide)
        have Xz48221 : EM [0, 2, 3, 4, 5, 7, 8, 12, 13, 14, 15, 16, 17, 18, 26] a0 P Y48210 := EM.tr ha0 X82 (Xy48212.mono (by decide))
        have e48222 := Xy48212.ref h48199 (by decide) e48201
        have e48223 := Xy48212.ref h48199 (by decide) e48204
        have e48224 := Xy48212.ref h48199 (by decide) e48208
        have h48225 := Xy48212.at h48199
        have h48226 := Xy48212.ar h48202
        have h48227 := Xy48212.ar h48205
        have h48228 := Xy48212.ar h48209
        refine g_aload_n C dX12_draw_126 rfl 0 rfl ?_
        refine g_getR C fi_X12_57 rfl e48223 (h48225).1 (h48225).2 dX12_draw_127 ?_
        refine g_iload_n C dX12_draw_130 rfl 1 rfl ?_
        refine g_aload_n C dX12_draw_131 rfl 0 rfl ?_
        refine g_getR C fi_X12_57 rfl e48223 (h48225).1 (h48225).2 dX12_draw_132 ?_
        refine g_iconst (v := 2) C dX12_draw_135 (by decide) ?_
        refine g_iald (j := 2) C h48227.1 h48227.2.1 (IX.litn (j := 2) h48227.2.2 rfl (by decide) (by decide)) dX12_draw_136 ?_
        refine g_iast (j := (a1.toInt.toNat)) C h48227.1 h48227.2.1 (ix_in h48227.2.2 (by omega)) dX12_draw_137 ?_
        refine gqX (ks := [14]) (W := (fun Y9 => MW Y9 a0)) (Iy48211.setA e48223 h48227 (by decide) (arOk.of rfl (by omega))) (EM.setA Iy48211 e48223 rfl (by decide)) (W48220.set14 Iy48211 e48223 (by first | exact Or.inl (by omega) | exact Or.inr (by omega))) (fun Y48229 Iy48230 Xy48231 w48232 W48233 => ?_)
        have w48232 : (pI Y48229 b48203 (a1.toInt.toNat)).toInt = (pI Y48210 b48203 2).toInt := w48232
        have q48234 := Xy48231.keepF 0 (by decide)
        have q48235 := Xy48231.keepF 18 (by decide)
        have q48236 := Xy48231.keepF 2 (by decide)
        have q48237 := Xy48231.keepF 8 (by decide)
        have q48238 := Xy48231.keepA e48222 (by decide) rfl (a1.toInt.toNat)
        have q48239 := Xy48231.keepA e48224 (by decide) rfl (a1.toInt.toNat)
        have Xz48240 : EM [0, 2, 3, 4, 5, 7, 8, 12, 13, 14, 15, 16, 17, 18, 26] a0 P Y48229 := EM.tr ha0 Xz48221 (Xy48231.mono (by decide))
        have e48241 := Xy48231.ref h48225 (by decide) e48222
        have e48242 := Xy48231.ref h48225 (by decide) e48223
        have e48243 := Xy48231.ref h48225 (by decide) e48224
        have h48244 := Xy48231.at h48225
        have h48245 := Xy48231.ar h48226
        have h48246 := Xy48231.ar h48227
        have h48247 := Xy48231.ar h48228
        refine g_aload_n C dX12_draw_138 rfl 0 rfl ?_
        obtain ⟨b48248, e48249, h48250⟩ := Iy48230.fld (h48244) 15 13 3 rfl
        refine g_getR C fi_X12_60 rfl e48249 (h48244).1 (h48244).2 dX12_draw_139 ?_
        refine g_iload_n C dX12_draw_142 rfl 1 rfl ?_
        refine g_aload_n C dX12_draw_143 rfl 0 rfl ?_
        refine g_getR C fi_X12_60 rfl e48249 (h48244).1 (h48244).2 dX12_draw_144 ?_
        refine g_iconst (v := 2) C dX12_draw_147 (by decide) ?_
        refine g_iald (j := 2) C h48250.1 h48250.2.1 (IX.litn (j := 2) h48250.2.2 rfl (by decide) (by decide)) dX12_draw_148 ?_
        have h48251 := Iy48230.arr e48249 rfl 2
        refine g_iast (j := (a1.toInt.toNat)) C h48250.1 h48250.2.1 (ix_in h48250.2.2 (by omega)) dX12_draw_149 ?_
        refine gqW (ks := [15]) (Iy48230.setA e48249 h48250 (by decide) (arOk.of rfl (by omega))) (EM.setA Iy48230 e48249 rfl (by decide)) (fun Y48252 Iy48253 Xy48254 w48255  => ?_)
        have w48255 : (pI Y48252 b48248 (a1.toInt.toNat)).toInt = (pI Y48229 b48248 2).toInt := w48255
        have q48256 := Xy48254.keepF 0 (by decide)
        have q48257 := Xy48254.keepF 18 (by decide)
        have q48258 := Xy48254.keepF 2 (by decide)
        have q48259 := Xy48254.keepF 8 (by decide)
        have q48260 := Xy48254.keepA e48241 (by decide) rfl (a1.toInt.toNat)
        have q48261 := Xy48254.keepA e48243 (by decide) rfl (a1.toInt.toNat)
        have q48262 := Xy48254.keepA e48242 (by decide) rfl (a1.toInt.toNat)
        have W48263 := W48233.keep Iy48230 Xy48254 (by decide) (by decide) (by decide) (by decide)
        have Xz48264 : EM [0, 2, 3, 4, 5, 7, 8, 12, 13, 14, 15, 16, 17, 18, 26] a0 P Y48252 := EM.tr ha0 Xz48240 (Xy48254.mono (by decide))
        have e48265 := Xy48254.ref h48244 (by decide) e48241
        have e48266 := Xy48254.ref h48244 (by decide) e48242
        have e48267 := Xy48254.ref h48244 (by decide) e48243
        have e48268 := Xy48254.ref h48244 (by decide) e48249
        have h48269 := Xy48254.at h48244
        have h48270 := Xy48254.ar h48245
        have h48271 := Xy48254.ar h48246
        have h48272 := Xy48254.ar h48247
        have h48273 := Xy48254.ar h48250
        refine g_iconst (v := 0) C dX12_draw_150 (by decide) ?_
        refine g_istore_n (lv' := [(2, .int 0), (0, .ref a0), (1, .int a1)]) C dX12_draw_151 rfl (by decide) rfl ?_
        refine g_lv (lv' := [(0, .ref a0), (1, .int a1), (2, .int 0)]) [1, 2, 0] rfl ?_
        exact J152 _ Y48252 0 (Nat.lt_succ_self _) Iy48253 Xz48264 W48263 (by omega) (by decide) (by omega) (by omega) (by omega) (by omega) (fun b9 e9 => by rw [e48265] at e9; cases e9; omega) (fun b9 e9 => by rw [e48266] at e9; cases e9; omega)
      · have h48206 : v82_2.toInt < 21 := h48206
        refine g_aload_n C dX12_draw_88 rfl 0 rfl ?_
        obtain ⟨b48274, e48275, h48276⟩ := I82.fld (h48199) 12 13 63 rfl
        refine g_getR C fi_X12_51 rfl e48275 (h48199).1 (h48199).2 dX12_draw_89 ?_
        refine g_bipush (v := 21) C dX12_draw_92 (by decide) ?_
        refine g_iload_n C dX12_draw_94 rfl 1 rfl ?_
        refine s_imul C dX12_draw_95 (by show -2147483648 ≤ 21 * a1.toInt ∧ 21 * a1.toInt ≤ 2147483647; omega) (fun z48277 h48278 => ?_)
        have h48278 : z48277.toInt = 21 * a1.toInt := h48278
        refine g_iload_n C dX12_draw_96 rfl 2 rfl ?_
        refine s_iadd C dX12_draw_97 (by show -2147483648 ≤ z48277.toInt + v82_2.toInt ∧ z48277.toInt + v82_2.toInt ≤ 2147483647; omega) (fun z48279 h48280 => ?_)
        have h48280 : z48279.toInt = z48277.toInt + v82_2.toInt := h48280
        refine g_aload_n C dX12_draw_98 rfl 0 rfl ?_
        refine g_getR C fi_X12_51 rfl e48275 (h48199).1 (h48199).2 dX12_draw_99 ?_
        refine g_bipush (v := 42) C dX12_draw_102 (by decide) ?_
        refine g_iload_n C dX12_draw_104 rfl 2 rfl ?_
        refine s_iadd C dX12_draw_105 (by show -2147483648 ≤ 42 + v82_2.toInt ∧ 42 + v82_2.toInt ≤ 2147483647; omega) (fun z48281 h48282 => ?_)
        have h48282 : z48281.toInt = 42 + v82_2.toInt := h48282
        refine g_iald (j := (z48281.toInt.toNat)) C h48276.1 h48276.2.1 (ix_in h48276.2.2 (by omega)) dX12_draw_106 ?_
        have h48283 := I82.arr e48275 rfl (z48281.toInt.toNat)
        refine g_iast (j := (z48279.toInt.toNat)) C h48276.1 h48276.2.1 (ix_in h48276.2.2 (by omega)) dX12_draw_107 ?_
        refine gqW (ks := [12]) (I82.setA e48275 h48276 (by decide) (arOk.of rfl (by omega))) (EM.setA I82 e48275 rfl (by decide)) (fun Y48284 Iy48285 Xy48286 w48287  => ?_)
        have w48287 : (pI Y48284 b48274 (z48279.toInt.toNat)).toInt = (pI P82 b48274 (z48281.toInt.toNat)).toInt := w48287
        have q48288 := Xy48286.keepF 0 (by decide)
        have q48289 := Xy48286.keepF 18 (by decide)
        have q48290 := Xy48286.keepF 2 (by decide)
        have q48291 := Xy48286.keepF 8 (by decide)
        have q48292 := Xy48286.keepA e48201 (by decide) rfl (a1.toInt.toNat)
        have q48293 := Xy48286.keepA e48204 (by decide) rfl 2
        have W48294 := W82.keep I82 Xy48286 (by decide) (by decide) (by decide) (by decide)
        have Xz48295 : EM [0, 2, 3, 4, 5, 7, 8, 12, 13, 14, 15, 16, 17, 18, 26] a0 P Y48284 := EM.tr ha0 X82 (Xy48286.mono (by decide))
        have e48296 := Xy48286.ref h48199 (by decide) e48201
        have e48297 := Xy48286.ref h48199 (by decide) e48204
        have e48298 := Xy48286.ref h48199 (by decide) e48275
        have h48299 := Xy48286.at h48199
        have h48300 := Xy48286.ar h48202
        have h48301 := Xy48286.ar h48205
        have h48302 := Xy48286.ar h48276
        refine s_iinc (lv0 := [(0, .ref a0), (1, .int a1)]) (m := 1) C dX12_draw_108 2 rfl (by decide) rfl (by decide) (by omega) (fun z48303 h48304 => ?_)
        have h48304 : z48303.toInt = v82_2.toInt + 1 := h48304
        refine g_goto C 82 dX12_draw_111 (by decide) ?_
        refine g_lv (lv' := [(0, .ref a0), (1, .int a1), (2, .int z48303)]) [1, 2, 0] rfl ?_
        exact ih82 Y48284 z48303 (by omega) Iy48285 Xz48295 W48294 (by omega) (by omega) (by omega) (by omega) (by omega) (by omega) (fun b9 e9 => by rw [e48296] at e9; cases e9; omega) (fun b9 e9 => by rw [e48297] at e9; cases e9; omega)
  have J73 : ∀ (P73 : PP), (IM P73 a0) → (EM [0, 2, 3, 4, 5, 7, 8, 12, 13, 14, 15, 16, 17, 18, 26] a0 P P73) → (MW P73 a0) → (0 ≤ a1.toInt ∧ a1.toInt ≤ 1) → (0 ≤ (pI P73 a0 0).toInt ∧ (pI P73 a0 0).toInt ≤ 0) → (1 ≤ (pI P73 a0 18).toInt ∧ (pI P73 a0 18).toInt ≤ 16) → (0 ≤ (pI P73 a0 2).toInt ∧ (pI P73 a0 2).toInt ≤ 0) → (0 ≤ (pI P73 a0 8).toInt ∧ (pI P73 a0 8).toInt ≤ 16005) → (∀ b, pR P73 a0 10 = some b → 1 ≤ (pI P73 b (a1.toInt.toNat)).toInt ∧ (pI P73 b (a1.toInt.toNat)).toInt ≤ 16) → (∀ b914, pR P73 a0 14 = some b914 → 1 ≤ (pI P73 a0 8).toInt ∨ 1 ≤ (pI P73 b914 2).toInt) → G E ({ frames := 5, cells := 0, slots := 0, locals := 320 } : Room) D cy 3 P73 0 0 73 [(0, .ref a0), (1, .int a1)] [] := by
    intro P73 I73 X73 W73 hv73_1 hq73_0 hq73_1 hq73_2 hq73_3 hq73_4 rel73_0
    have h48305 := X73.at ha0
    obtain ⟨b48306, e48307, h48308⟩ := I73.fld (h48305) 10 13 2 rfl
    have hq73_4 := hq73_4 b48306 e48307
    obtain ⟨b48309, e48310, h48311⟩ := I73.fld (h48305) 14 13 3 rfl
    have rel73_0 := rel73_0 b48309 e48310
    have h48312 := I73.arr e48310 rfl 2
    have h48313 := I73.rg h48305 7 rfl
    refine g_aload_n C dX12_draw_73 rfl 0 rfl ?_
    refine g_getI C fi_X12_162 (by decide) (h48305).1 (h48305).2 dX12_draw_74 ?_
    refine b_if_ne C 198 dX12_draw_77 (by decide) (fun h48314 => ?_) (fun h48314 => ?_)
    · have h48314 : (pI P73 a0 8).toInt ≠ 0 := ti_ne h48314
      refine g_lv (lv' := [(0, .ref a0)]) [0] rfl ?_
      exact J198 P73 I73 X73 W73 (by omega) (by omega) (by omega) (by omega) (fun b9 e9 => by rw [e48307] at e9; cases e9; omega)
    · have h48314 : (pI P73 a0 8).toInt = 0 := congrArg Int32.toInt h48314
      refine g_iconst (v := 0) C dX12_draw_80 (by decide) ?_
      refine g_istore_n (lv' := [(2, .int 0), (0, .ref a0), (1, .int a1)]) C dX12_draw_81 rfl (by decide) rfl ?_
      refine g_lv (lv' := [(0, .ref a0), (1, .int a1), (2, .int 0)]) [1, 2, 0] rfl ?_
      exact J82 _ P73 0 (Nat.lt_succ_self _) I73 X73 W73 (by omega) (by decide) (by omega) (by omega) (by omega) (by omega) (fun b9 e9 => by rw [e48307] at e9; cases e9; omega) (fun b9 e9 => by rw [e48310] at e9; cases e9; omega)
  have J47 : ∀ (n47 : Nat) (P47 : PP), (2 * (1000 - (pI P47 a0 7).toInt) + 1 - min 1 (pI P47 a0 8).toInt).toNat < n47 → (IM P47 a0) → (EM [0, 2, 3, 4, 5, 7, 8, 12, 13, 14, 15, 16, 17, 18, 26] a0 P P47) → (MW P47 a0) → (0 ≤ a1.toInt ∧ a1.toInt ≤ 1) → (0 ≤ (pI P47 a0 0).toInt ∧ (pI P47 a0 0).toInt ≤ 0) → (1 ≤ (pI P47 a0 18).toInt ∧ (pI P47 a0 18).toInt ≤ 16) → (0 ≤ (pI P47 a0 2).toInt ∧ (pI P47 a0 2).toInt ≤ 0) → (∀ b, pR P47 a0 10 = some b → 1 ≤ (pI P47 b (a1.toInt.toNat)).toInt ∧ (pI P47 b (a1.toInt.toNat)).toInt ≤ 16) → (∀ b914, pR P47 a0 14 = some b914 → 1 ≤ (pI P47 a0 8).toInt ∨ 1 ≤ (pI P47 b914 2).toInt) → G E ({ frames := 5, cells := 0, slots := 0, locals := 320 } : Room) D cy 3 P47 0 0 47 [(0, .ref a0), (1, .int a1)] [] := by
    intro n47
    induction n47 with
    | zero => intro P47 hm47 I47 X47 W47 hv47_1 hq47_0 hq47_1 hq47_2 hq47_3 rel47_0; omega
    | succ n47 ih47 =>
      intro P47 hm47 I47 X47 W47 hv47_1 hq47_0 hq47_1 hq47_2 hq47_3 rel47_0
      have h48315 := X47.at ha0
      obtain ⟨b48316, e48317, h48318⟩ := I47.fld (h48315) 10 13 2 rfl
      have hq47_3 := hq47_3 b48316 e48317
      have h48319 := I47.rg h48315 8 rfl
      obtain ⟨b48320, e48321, h48322⟩ := I47.fld (h48315) 14 13 3 rfl
      have rel47_0 := rel47_0 b48320 e48321
      have h48323 := I47.arr e48321 rfl 2
      have h48324 := I47.rg h48315 7 rfl
      refine g_aload_n C dX12_draw_47 rfl 0 rfl ?_
      refine g_getI C fi_X12_162 (by decide) (h48315).1 (h48315).2 dX12_draw_48 ?_
      refine b_if_ne C 73 dX12_draw_51 (by decide) (fun h48325 => ?_) (fun h48325 => ?_)
      · have h48325 : (pI P47 a0 8).toInt ≠ 0 := ti_ne h48325
        exact J73 P47 I47 X47 W47 (by omega) (by omega) (by omega) (by omega) (by omega) (fun b9 e9 => by rw [e48317] at e9; cases e9; omega) (by intro b914 e914; rw [e48321] at e914; cases e914; show 1 ≤ (pI P47 a0 8).toInt ∨ 1 ≤ (pI P47 b48320 2).toInt; omega)
      · have h48325 : (pI P47 a0 8).toInt = 0 := congrArg Int32.toInt h48325
        refine g_aload_n C dX12_draw_54 rfl 0 rfl ?_
        obtain ⟨b48326, e48327, h48328⟩ := I47.fld (h48315) 4 13 1002 rfl
        refine g_getR C fi_X12_24 rfl e48327 (h48315).1 (h48315).2 dX12_draw_55 ?_
        refine g_aload_n C dX12_draw_58 rfl 0 rfl ?_
        refine g_getI C fi_X12_159 (by decide) (h48315).1 (h48315).2 dX12_draw_59 ?_
        refine g_iald (j := ((pI P47 a0 7).toInt.toNat)) C h48328.1 h48328.2.1 (ix_in h48328.2.2 (by omega)) dX12_draw_62 ?_
        have h48329 := I47.arr e48327 rfl ((pI P47 a0 7).toInt.toNat)
        refine b_if_eq C 73 dX12_draw_63 (by decide) (fun h48330 => ?_) (fun h48330 => ?_)
        · have h48330 : (pI P47 b48326 ((pI P47 a0 7).toInt.toNat)).toInt = 0 := congrArg Int32.toInt h48330
          exact J73 P47 I47 X47 W47 (by omega) (by omega) (by omega) (by omega) (by omega) (fun b9 e9 => by rw [e48317] at e9; cases e9; omega) (by intro b914 e914; rw [e48321] at e914; cases e914; show 1 ≤ (pI P47 a0 8).toInt ∨ 1 ≤ (pI P47 b48320 2).toInt; omega)
        · have h48330 : (pI P47 b48326 ((pI P47 a0 7).toInt.toNat)).toInt ≠ 0 := ti_ne h48330
          refine g_aload_n C dX12_draw_66 rfl 0 rfl ?_
          refine g_callVV (rest := []) C mv_X12_205 [] (s_X12_readLine I47 (fun b9 e9 => by rw [e48321] at e9; cases e9; show 1 ≤ (pI P47 b48320 2).toInt ∧ (pI P47 b48320 2).toInt ≤ 9; omega) W47) (h48315).1 (h48315).2 rfl rfl (by decide) (Nat.le_of_ble_eq_true rfl) (by decide) dX12_draw_67 (fun Y48332 h48333 => ?_)
          obtain ⟨Iy48334, Xy48335, W48336, p48337, p48338, p48339, p48340⟩ := h48333
          have p48337 : 1 ≤ (pI Y48332 a0 8).toInt ∨ (pI P47 a0 7).toInt < (pI Y48332 a0 7).toInt := p48337
          have p48338 : (pI P47 a0 7).toInt ≤ (pI Y48332 a0 7).toInt := p48338
          have p48339 : (pI P47 a0 8).toInt ≤ (pI Y48332 a0 8).toInt := p48339
          have q48341 := Xy48335.keepF 0 (by decide)
          have q48342 := Xy48335.keepF 18 (by decide)
          have q48343 := Xy48335.keepF 2 (by decide)
          have q48344 := Xy48335.keepA e48317 (by decide) rfl (a1.toInt.toNat)
          have Xz48345 : EM [0, 2, 3, 4, 5, 7, 8, 12, 13, 14, 15, 16, 17, 18, 26] a0 P Y48332 := EM.tr ha0 X47 (Xy48335.mono (by decide))
          have e48346 := Xy48335.ref h48315 (by decide) e48317
          have h48347 := Xy48335.at h48315
          have h48348 := Xy48335.ar h48318
          obtain ⟨b48349, e48350, h48351⟩ := Iy48334.fld (h48347) 14 13 3 rfl
          have p48340 : 1 ≤ (pI Y48332 a0 8).toInt ∨ 1 ≤ (pI Y48332 b48349 2).toInt := p48340 b48349 e48350
          have h48352 := Iy48334.arr e48350 rfl 2
          have h48353 := Iy48334.rg h48347 7 rfl
          have h48354 := Iy48334.rg h48347 8 rfl
          have h48355 := Iy48334.rg h48347 7 rfl
          have h48356 := Iy48334.rg h48347 8 rfl
          have h48357 := Iy48334.rg h48347 7 rfl
          have h48358 := Iy48334.rg h48347 8 rfl
          have h48359 := Iy48334.rg h48347 7 rfl
          have h48360 := Iy48334.rg h48347 8 rfl
          refine g_goto C 47 dX12_draw_70 (by decide) ?_
          exact ih47 Y48332 (by omega) Iy48334 Xz48345 W48336 (by omega) (by omega) (by omega) (by omega) (fun b9 e9 => by rw [e48346] at e9; cases e9; omega) (by intro b914 e914; rw [e48350] at e914; cases e914; show 1 ≤ (pI Y48332 a0 8).toInt ∨ 1 ≤ (pI Y48332 b48349 2).toInt; omega)
  have J21 : ∀ (P21 : PP), (IM P21 a0) → (EM [0, 2, 3, 4, 5, 7, 8, 12, 13, 14, 15, 16, 17, 18, 26] a0 P P21) → (MW P21 a0) → (0 ≤ (pI P21 a0 0).toInt ∧ (pI P21 a0 0).toInt ≤ 0) → G E ({ frames := 5, cells := 0, slots := 0, locals := 320 } : Room) D cy 3 P21 0 0 21 [(0, .ref a0)] [] := by
    intro P21 I21 X21 W21 hq21_0
    have h48361 := X21.at ha0
    refine g_aload_n C dX12_draw_21 rfl 0 rfl ?_
    refine g_iconst (v := 0) C dX12_draw_22 (by decide) ?_
    refine g_putI C fi_X12_11 rfl (h48361).1 (h48361).2 dX12_draw_23 ?_
    refine gqW (ks := [2]) (I21.setI (rgOk.of rfl (by decide))) (EM.setI I21 (by decide)) (fun Y48362 Iy48363 Xy48364 w48365  => ?_)
    have w48365 : (pI Y48362 a0 2).toInt = 0 := w48365
    have q48366 := Xy48364.keepF 0 (by decide)
    have W48367 := W21.keep I21 Xy48364 (by decide) (by decide) (by decide) (by decide)
    have Xz48368 : EM [0, 2, 3, 4, 5, 7, 8, 12, 13, 14, 15, 16, 17, 18, 26] a0 P Y48362 := EM.tr ha0 X21 (Xy48364.mono (by decide))
    have h48369 := Xy48364.at h48361
    refine g_iconst (v := (-1)) C dX12_draw_26 (by decide) ?_
    exact ret _ _ _ _ _ _ dX12_draw_27 rfl (by decide) (by decide) ⟨Iy48363, Xz48368, W48367, (by show (pI Y48362 a0 2).toInt = 0; omega), (by decide)⟩
  refine g_aload_n C dX12_draw_0 rfl 0 rfl ?_
  refine g_iconst (v := 0) C dX12_draw_1 (by decide) ?_
  refine g_putI C fi_X12_1 rfl (ha0).1 (ha0).2 dX12_draw_2 ?_
  refine gqW (ks := [0]) (I.setI (rgOk.of rfl (by decide))) (EM.setI I (by decide)) (fun Y48370 Iy48371 Xy48372 w48373  => ?_)
  have w48373 : (pI Y48370 a0 0).toInt = 0 := w48373
  have W48374 := hW.keep I Xy48372 (by decide) (by decide) (by decide) (by decide)
  have Xz48375 : EM [0, 2, 3, 4, 5, 7, 8, 12, 13, 14, 15, 16, 17, 18, 26] a0 P Y48370 := Xy48372.mono (by decide)
  have h48376 := Xy48372.at ha0
  refine g_aload_n C dX12_draw_5 rfl 0 rfl ?_
  refine g_iload_n C dX12_draw_6 rfl 1 rfl ?_
  refine g_callVI (rest := []) C mv_X12_192 [.int a1] (s_X12_isBook Iy48371 W48374) (h48376).1 (h48376).2 rfl rfl (by decide) (Nat.le_of_ble_eq_true rfl) (by decide) dX12_draw_7 (fun r48377 Y48378 h48379 => ?_)
  obtain ⟨rfl, h48379⟩ := h48379
  obtain ⟨h48379, hi48380, hi48381⟩ := h48379
  have hi48380 : r48377.toInt = 0 ∨ (((0 : Int) ≤ a1.toInt ∧ a1.toInt ≤ (1 : Int))) := hi48380
  have h48379 : 0 ≤ r48377.toInt ∧ r48377.toInt ≤ 1 := h48379
  refine b_if_eq C 21 dX12_draw_10 (by decide) (fun h48382 => ?_) (fun h48382 => ?_)
  · have h48382 : r48377.toInt = 0 := congrArg Int32.toInt h48382
    clear hi48380
    refine g_lv (lv' := [(0, .ref a0)]) [0] rfl ?_
    exact J21 Y48370 Iy48371 Xz48375 W48374 (by omega)
  · have h48382 : r48377.toInt ≠ 0 := ti_ne h48382
    replace hi48380 := hi48380.resolve_left (by omega)
    obtain ⟨b48383, e48384, h48385⟩ := Iy48371.fld (h48376) 10 13 2 rfl
    have hi48381 := (hi48381.resolve_left (by omega)) b48383 e48384
    have hi48381 : 0 < (pI Y48370 b48383 (a1.toInt.toNat)).toInt := hi48381
    have h48386 := Iy48371.arr e48384 rfl (a1.toInt.toNat)
    refine g_aload_n C dX12_draw_13 rfl 0 rfl ?_
    refine g_iload_n C dX12_draw_14 rfl 1 rfl ?_
    refine g_callVI (rest := []) C mv_X12_196 [.int a1] (s_X12_isOut Iy48371 W48374) (h48376).1 (h48376).2 rfl rfl (by decide) (Nat.le_of_ble_eq_true rfl) (by decide) dX12_draw_15 (fun r48387 Y48388 h48389 => ?_)
    obtain ⟨rfl, h48389⟩ := h48389
    have h48389 : 0 ≤ r48387.toInt ∧ r48387.toInt ≤ 1 := h48389
    refine b_if_eq C 28 dX12_draw_18 (by decide) (fun h48390 => ?_) (fun h48390 => ?_)
    · have h48390 : r48387.toInt = 0 := congrArg Int32.toInt h48390
      refine g_aload_n C dX12_draw_28 rfl 0 rfl ?_
      refine g_callVV (rest := []) C mv_X12_199 [] (s_X12_cutAll_E Iy48371 W48374) (h48376).1 (h48376).2 rfl rfl (by decide) (Nat.le_of_ble_eq_true rfl) (by decide) dX12_draw_29 (fun Y48392 h48393 => ?_)
      obtain ⟨Iy48394, Xy48395, W48396, p48397⟩ := h48393
      have p48397 : (pI Y48392 a0 2).toInt = 0 := p48397
      have q48398 := Xy48395.keepF 0 (by decide)
      have q48399 := Xy48395.keepA e48384 (by decide) rfl (a1.toInt.toNat)
      have Xz48400 : EM [0, 2, 3, 4, 5, 7, 8, 12, 13, 14, 15, 16, 17, 18, 26] a0 P Y48392 := EM.tr ha0 Xz48375 (Xy48395.mono (by decide))
      have e48401 := Xy48395.ref h48376 (by decide) e48384
      have h48402 := Xy48395.at h48376
      have h48403 := Xy48395.ar h48385
      have h48404 := Iy48394.rg h48402 2 rfl
      refine g_aload_n C dX12_draw_32 rfl 0 rfl ?_
      refine g_iconst (v := 2) C dX12_draw_33 (by decide) ?_
      refine g_callVV (rest := []) C mv_X12_182 [.int 2] (s_X12_forgetsDraw Iy48394 (by decide) W48396) (h48402).1 (h48402).2 rfl rfl (by decide) (Nat.le_of_ble_eq_true rfl) (by decide) dX12_draw_34 (fun Y48406 h48407 => ?_)
      obtain ⟨Iy48408, Xy48409, W48410, p48411⟩ := h48407
      obtain ⟨b48412, e48413, h48414⟩ := Iy48394.fld (h48402) 14 13 3 rfl
      have p48411 := p48411 b48412 e48413
      have p48411 : (pI Y48406 b48412 2).toInt = 1 := p48411
      have h48415 := Iy48394.arr e48413 rfl 2
      have q48416 := Xy48409.keepF 0 (by decide)
      have q48417 := Xy48409.keepA e48401 (by decide) rfl (a1.toInt.toNat)
      have q48418 := Xy48409.keepF 2 (by decide)
      have Xz48419 : EM [0, 2, 3, 4, 5, 7, 8, 12, 13, 14, 15, 16, 17, 18, 26] a0 P Y48406 := EM.tr ha0 Xz48400 (Xy48409.mono (by decide))
      have e48420 := Xy48409.ref h48402 (by decide) e48401
      have e48421 := Xy48409.ref h48402 (by decide) e48413
      have h48422 := Xy48409.at h48402
      have h48423 := Xy48409.ar h48403
      have h48424 := Xy48409.ar h48414
      refine g_aload_n C dX12_draw_37 rfl 0 rfl ?_
      refine g_aload_n C dX12_draw_38 rfl 0 rfl ?_
      refine g_getR C fi_X12_45 rfl e48420 (h48422).1 (h48422).2 dX12_draw_39 ?_
      refine g_iload_n C dX12_draw_42 rfl 1 rfl ?_
      refine g_iald (j := (a1.toInt.toNat)) C h48423.1 h48423.2.1 (ix_in h48423.2.2 (by omega)) dX12_draw_43 ?_
      refine g_putI C fi_X12_202 rfl (h48422).1 (h48422).2 dX12_draw_44 ?_
      refine gqW (ks := [18]) (Iy48408.setI (rgOk.of rfl (by omega))) (EM.setI Iy48408 (by decide)) (fun Y48425 Iy48426 Xy48427 w48428  => ?_)
      have w48428 : (pI Y48425 a0 18).toInt = (pI Y48406 b48383 (a1.toInt.toNat)).toInt := w48428
      have q48429 := Xy48427.keepA e48421 (by decide) rfl 2
      have q48430 := Xy48427.keepF 0 (by decide)
      have q48431 := Xy48427.keepA e48420 (by decide) rfl (a1.toInt.toNat)
      have q48432 := Xy48427.keepF 2 (by decide)
      have W48433 := W48410.keep Iy48408 Xy48427 (by decide) (by decide) (by decide) (by decide)
      have Xz48434 : EM [0, 2, 3, 4, 5, 7, 8, 12, 13, 14, 15, 16, 17, 18, 26] a0 P Y48425 := EM.tr ha0 Xz48419 (Xy48427.mono (by decide))
      have e48435 := Xy48427.ref h48422 (by decide) e48420
      have e48436 := Xy48427.ref h48422 (by decide) e48421
      have h48437 := Xy48427.at h48422
      have h48438 := Xy48427.ar h48423
      have h48439 := Xy48427.ar h48424
      exact J47 _ Y48425 (Nat.lt_succ_self _) Iy48426 Xz48434 W48433 (by omega) (by omega) (by omega) (by omega) (fun b9 e9 => by rw [e48435] at e9; cases e9; omega) (by intro b914 e914; rw [e48436] at e914; cases e914; show 1 ≤ (pI Y48425 a0 8).toInt ∨ 1 ≤ (pI Y48425 b48412 2).toInt; omega)
    · have h48390 : r48387.toInt ≠ 0 := ti_ne h48390
      refine g_lv (lv' := [(0, .ref a0)]) [0] rfl ?_
      exact J21 Y48370 Iy48371 Xz48375 W48374 (by omega)
