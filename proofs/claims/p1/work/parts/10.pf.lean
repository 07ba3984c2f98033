def sgb (c : Int32) : Prop := c = 10 ∨ (32 ≤ c.toInt ∧ c.toInt ≤ 126)
noncomputable def stc (c : Int32) (n : Nat) : Nat := by
  classical
  exact if sgb c ∧ n < 1000 then n + 1 else n
theorem stc_yes {c : Int32} {n : Nat} (h : sgb c) (h2 : n < 1000) : stc c n = n + 1 := by simp [stc, h, h2]
theorem stc_no {c : Int32} {n : Nat} (h : sgb c → 1000 ≤ n) : stc c n = n := by
  unfold stc
  rw [if_neg (fun q => by have := h q.1; omega)]
theorem stc_le {c : Int32} {n : Nat} (h : n ≤ 1000) : stc c n ≤ 1000 := by
  unfold stc
  split
  · rename_i q; omega
  · exact h
noncomputable def cnt (f : Int32 → Int32) : Nat → Nat → Nat
  | 0, n => n
  | j + 1, n => cnt f j (stc (f (nI (8 * j))) n)
theorem cnt_le {f : Int32 → Int32} : ∀ (j : Nat) {n : Nat}, n ≤ 1000 → cnt f j n ≤ 1000
  | 0, _, h => h
  | j + 1, _, h => cnt_le j (stc_le h)
theorem cnt_congr {f g : Int32 → Int32} : ∀ (j : Nat) {n : Nat}, (∀ i, i < j → f (nI (8 * i)) = g (nI (8 * i))) → cnt f j n = cnt g j n
  | 0, _, _ => rfl
  | j + 1, _, h => by
    unfold cnt
    rw [h j (by omega)]
    exact cnt_congr j (fun i hi => h i (by omega))
def shf (j : Nat) : Int32 := nI (8 * j) + (-8)
theorem shf_s (j : Nat) : shf (j + 1) = nI (8 * j) := by
  unfold shf
  rw [show 8 * (j + 1) = 8 * j + 8 by omega, ← nI_add, Int32.add_assoc, show nI 8 + (-8) = 0 from rfl, Int32.add_zero]
def byU (v : Int64) (s : Int32) : Int32 := ((v.toUInt64 >>> (s.toInt64.toUInt64 &&& Int64.toUInt64 63)).toInt64).toInt32 &&& 255
def byS (v : Int64) (s : Int32) : Int32 := (v >>> (s.toInt64 &&& 63)).toInt32 &&& 255
theorem dX9_takeEight_0 : decode cX9_takeEight 0 = .ok (.bipush 56, 2) := by decide +kernel
theorem dX9_takeEight_2 : decode cX9_takeEight 2 = .ok (.istore_n 3, 1) := by decide +kernel
theorem dX9_takeEight_3 : decode cX9_takeEight 3 = .ok (.iload_n 3, 1) := by decide +kernel
theorem dX9_takeEight_4 : decode cX9_takeEight 4 = .ok (.ifCond .lt 71, 3) := by decide +kernel
theorem dX9_takeEight_7 : decode cX9_takeEight 7 = .ok (.lload_n 1, 1) := by decide +kernel
theorem dX9_takeEight_8 : decode cX9_takeEight 8 = .ok (.iload_n 3, 1) := by decide +kernel
theorem dX9_takeEight_9 : decode cX9_takeEight 9 = .ok (.lushr, 1) := by decide +kernel
theorem dX9_takeEight_10 : decode cX9_takeEight 10 = .ok (.l2i, 1) := by decide +kernel
theorem dX9_takeEight_11 : decode cX9_takeEight 11 = .ok (.sipush 255, 3) := by decide +kernel
theorem dX9_takeEight_14 : decode cX9_takeEight 14 = .ok (.iand, 1) := by decide +kernel
theorem dX9_takeEight_15 : decode cX9_takeEight 15 = .ok (.istore 4, 2) := by decide +kernel
theorem dX9_takeEight_17 : decode cX9_takeEight 17 = .ok (.iload 4, 2) := by decide +kernel
theorem dX9_takeEight_19 : decode cX9_takeEight 19 = .ok (.bipush 10, 2) := by decide +kernel
theorem dX9_takeEight_21 : decode cX9_takeEight 21 = .ok (.if_icmp .eq 17, 3) := by decide +kernel
theorem dX9_takeEight_24 : decode cX9_takeEight 24 = .ok (.iload 4, 2) := by decide +kernel
theorem dX9_takeEight_26 : decode cX9_takeEight 26 = .ok (.bipush 32, 2) := by decide +kernel
theorem dX9_takeEight_28 : decode cX9_takeEight 28 = .ok (.if_icmp .lt 41, 3) := by decide +kernel
theorem dX9_takeEight_31 : decode cX9_takeEight 31 = .ok (.iload 4, 2) := by decide +kernel
theorem dX9_takeEight_33 : decode cX9_takeEight 33 = .ok (.bipush 126, 2) := by decide +kernel
theorem dX9_takeEight_35 : decode cX9_takeEight 35 = .ok (.if_icmp .gt 34, 3) := by decide +kernel
theorem dX9_takeEight_38 : decode cX9_takeEight 38 = .ok (.aload_n 0, 1) := by decide +kernel
theorem dX9_takeEight_39 : decode cX9_takeEight 39 = .ok (.getfield 15, 3) := by decide +kernel
theorem dX9_takeEight_42 : decode cX9_takeEight 42 = .ok (.sipush 1000, 3) := by decide +kernel
theorem dX9_takeEight_45 : decode cX9_takeEight 45 = .ok (.if_icmp .ge 24, 3) := by decide +kernel
theorem dX9_takeEight_48 : decode cX9_takeEight 48 = .ok (.aload_n 0, 1) := by decide +kernel
theorem dX9_takeEight_49 : decode cX9_takeEight 49 = .ok (.getfield 9, 3) := by decide +kernel
theorem dX9_takeEight_52 : decode cX9_takeEight 52 = .ok (.aload_n 0, 1) := by decide +kernel
theorem dX9_takeEight_53 : decode cX9_takeEight 53 = .ok (.getfield 15, 3) := by decide +kernel
theorem dX9_takeEight_56 : decode cX9_takeEight 56 = .ok (.iload 4, 2) := by decide +kernel
theorem dX9_takeEight_58 : decode cX9_takeEight 58 = .ok (.iastore, 1) := by decide +kernel
theorem dX9_takeEight_59 : decode cX9_takeEight 59 = .ok (.aload_n 0, 1) := by decide +kernel
theorem dX9_takeEight_60 : decode cX9_takeEight 60 = .ok (.dup, 1) := by decide +kernel
theorem dX9_takeEight_61 : decode cX9_takeEight 61 = .ok (.getfield 15, 3) := by decide +kernel
theorem dX9_takeEight_64 : decode cX9_takeEight 64 = .ok (.iconst 1, 1) := by decide +kernel
theorem dX9_takeEight_65 : decode cX9_takeEight 65 = .ok (.iadd, 1) := by decide +kernel
theorem dX9_takeEight_66 : decode cX9_takeEight 66 = .ok (.putfield 15, 3) := by decide +kernel
theorem dX9_takeEight_69 : decode cX9_takeEight 69 = .ok (.iinc 3 (-8), 3) := by decide +kernel
theorem dX9_takeEight_72 : decode cX9_takeEight 72 = .ok (.goto (-69), 3) := by decide +kernel
theorem dX9_takeEight_75 : decode cX9_takeEight 75 = .ok (.return_, 1) := by decide +kernel
set_option maxHeartbeats 4000000 in
set_option maxRecDepth 100000 in
theorem c_X9_takeEight {P : PP} {a n : Nat} {v : Int64} (ha : a ∈ pL P) (haK : pK P a = 9) (oka : xOk P a) (hn : n ≤ 1000) (hz : pI P a 1 = nI n) : CtrV yX9_takeEight cX9_takeEight 5 none ({ frames := 1, cells := 0, slots := 0, locals := 64 } : Room) 0 0 P [.ref a, .long v] (fun P2 => ∃ I2, P2 = pWI P I2 (pJ P) ∧ I2 a 1 = nI (cnt (byU v) 8 n)) := by
  refine enV (lv := [(0, .ref a), (1, .long v)]) (by decide) (Nat.le_of_ble_eq_true rfl) rfl (fun E D cy C Ci0 ret => ?_)
  refine g_bipush (v := 56) C dX9_takeEight_0 (by decide) ?_
  refine g_istore_n (lv' := [(3, .int 56), (0, .ref a), (1, .long v)]) C dX9_takeEight_2 rfl (by decide) rfl ?_
  obtain ⟨ar, har⟩ := xFd.at oka haK 0 13 1000 rfl
  have hne : a ≠ ar := fun e => by have h1 := har.2.2.1; rw [← e, haK] at h1; omega
  have lp : ∀ (j n1 : Nat) (I2 : Nat → Nat → Int32), j ≤ 8 → n1 ≤ 1000 → I2 a 1 = nI n1 → cnt (byU v) j n1 = cnt (byU v) 8 n → G E ({ frames := 1, cells := 0, slots := 0, locals := 64 } : Room) D cy 5 (pWI P I2 (pJ P)) 0 0 3 [(3, .int (shf j)), (0, .ref a), (1, .long v)] [] := by
    intro j
    induction j with
    | zero =>
      intro n1 I2 hj h1 h2 h3
      have es : (shf 0).toInt = -8 := by decide
      refine g_iload_n C dX9_takeEight_3 rfl 0 rfl ?_
      refine b_if_lt C 75 dX9_takeEight_4 (by decide) (fun h522 => ?_) (fun h522 => ?_)
      · have h522 : (shf 0).toInt < 0 := h522
        exact ret _ _ _ _ _ dX9_takeEight_75 (by decide) (by decide) (⟨_, rfl, h2.trans (congrArg nI h3)⟩)
      · have h522 : 0 ≤ (shf 0).toInt := h522
        omega
    | succ j ih =>
      intro n1 I2 hj h1 h2 h3
      rw [shf_s]
      have es : (nI (8 * j)).toInt = ((8 * j : Nat) : Int) := ti_nI (by omega)
      have en : (nI n1).toInt = (n1 : Int) := ti_nI (by omega)
      refine g_iload_n C dX9_takeEight_3 rfl 0 rfl ?_
      refine b_if_lt C 75 dX9_takeEight_4 (by decide) (fun h523 => ?_) (fun h523 => ?_)
      · have h523 : (nI (8 * j)).toInt < 0 := h523
        omega
      · have h523 : 0 ≤ (nI (8 * j)).toInt := h523
        refine g_lload_n C dX9_takeEight_7 rfl 2 rfl ?_
        refine g_iload_n C dX9_takeEight_8 rfl 0 rfl ?_
        obtain ⟨x524, ex524⟩ : ∃ z : Int64, z = (Int64.toUInt64 v >>> ((Int32.toInt64 (nI (8 * j))).toUInt64 &&& Int64.toUInt64 63)).toInt64 := ⟨_, rfl⟩
        refine g_lushr (v := x524) C dX9_takeEight_9 ex524.symm ?_
        refine g_l2i (v := Int64.toInt32 x524) C dX9_takeEight_10 rfl ?_
        refine g_sipush (v := 255) C dX9_takeEight_11 (by decide) ?_
        refine g_iand C dX9_takeEight_14 ?_
        refine g_topi (fun x525 ex525 => ?_)
        refine g_istore (lv' := [(4, .int x525), (3, .int (nI (8 * j))), (0, .ref a), (1, .long v)]) C dX9_takeEight_15 (by decide) rfl ?_
        have hc : x525 = byU v (nI (8 * j)) := by rw [ex525, ex524]; rfl
        refine g_iload C dX9_takeEight_17 0 rfl ?_
        refine g_bipush (v := 10) C dX9_takeEight_19 (by decide) ?_
        refine b_icmp_eq C 38 dX9_takeEight_21 (by decide) (fun h526 => ?_) (fun h526 => ?_)
        · have h526 : x525 = 10 := h526
          refine g_aload_n C dX9_takeEight_38 rfl 2 rfl ?_
          refine g_getI C fi_X9_15 (by decide) ha haK dX9_takeEight_39 ?_
          rw [show pI (pWI P I2 (pJ P)) a 1 = (nI n1) from h2]
          refine g_sipush (v := 1000) C dX9_takeEight_42 (by decide) ?_
          refine b_icmp_ge C 69 dX9_takeEight_45 (by decide) (fun h527 => ?_) (fun h527 => ?_)
          · have h527 : 1000 ≤ (nI n1).toInt := h527
            refine g_iinc (v := shf j) (lv' := [(3, .int (shf j)), (4, .int x525), (0, .ref a), (1, .long v)]) C dX9_takeEight_69 1 rfl rfl (by decide) rfl ?_
            refine g_goto C 3 dX9_takeEight_72 (by decide) ?_
            refine g_lv (lv' := [(3, .int (shf j)), (0, .ref a), (1, .long v)]) [0, 2, 3] rfl ?_
            exact ih n1 I2 (by omega) (by omega) h2 (by rw [← h3]; show cnt (byU v) j _ = cnt (byU v) j (stc (byU v (nI (8 * j))) n1); rw [← hc, stc_no (fun h9 => by rcases h9 with h8 | h8 <;> first | exact absurd h8 (by assumption) | omega)])
          · have h527 : (nI n1).toInt < 1000 := h527
            refine g_aload_n C dX9_takeEight_48 rfl 2 rfl ?_
            refine g_getR C fi_X9_9 rfl (har.1) ha haK dX9_takeEight_49 ?_
            refine g_aload_n C dX9_takeEight_52 rfl 2 rfl ?_
            refine g_getI C fi_X9_15 (by decide) ha haK dX9_takeEight_53 ?_
            rw [show pI (pWI P I2 (pJ P)) a 1 = (nI n1) from h2]
            refine g_iload C dX9_takeEight_56 0 rfl ?_
            refine g_iast (j := n1) C har.2.1 har.2.2.1 (IX.inn har.2.2.2 (by omega) (by decide)) dX9_takeEight_58 ?_
            obtain ⟨I528, eI528⟩ : ∃ I9, I9 = va_up I2 ar (va_up (I2 ar) n1 x525) := ⟨_, rfl⟩
            rw [show (pSI (pWI P I2 (pJ P)) ar n1 x525) = pWI P I528 (pJ P) by rw [eI528]; rfl]
            have h529 : I528 a 1 = nI n1 := by rw [eI528, up_ne hne]; exact h2
            refine g_aload_n C dX9_takeEight_59 rfl 2 rfl ?_
            refine g_dup C dX9_takeEight_60 rfl ?_
            refine g_getI C fi_X9_15 (by decide) ha haK dX9_takeEight_61 ?_
            rw [show pI (pWI P I528 (pJ P)) a 1 = (nI n1) from h529]
            refine g_iconst (v := 1) C dX9_takeEight_64 (by decide) ?_
            refine g_iadd C dX9_takeEight_65 ?_
            rw [nI_1]
            refine g_putI C fi_X9_15 rfl ha haK dX9_takeEight_66 ?_
            obtain ⟨I530, eI530⟩ : ∃ I9, I9 = va_up I528 a (va_up (I528 a) 1 (nI (n1 + 1))) := ⟨_, rfl⟩
            rw [show (pSI (pWI P I528 (pJ P)) a 1 (nI (n1 + 1))) = pWI P I530 (pJ P) by rw [eI530]; rfl]
            have h531 : I530 a 1 = nI (n1 + 1) := by rw [eI530, up_self, up_self]
            refine g_iinc (v := shf j) (lv' := [(3, .int (shf j)), (4, .int x525), (0, .ref a), (1, .long v)]) C dX9_takeEight_69 1 rfl rfl (by decide) rfl ?_
            refine g_goto C 3 dX9_takeEight_72 (by decide) ?_
            refine g_lv (lv' := [(3, .int (shf j)), (0, .ref a), (1, .long v)]) [0, 2, 3] rfl ?_
            exact ih (n1 + 1) I530 (by omega) (by omega) h531 (by rw [← h3]; show cnt (byU v) j _ = cnt (byU v) j (stc (byU v (nI (8 * j))) n1); rw [← hc, stc_yes (by first | (exact Or.inl (by assumption)) | (exact Or.inr ⟨by omega, by omega⟩)) (by omega)])
        · have h526 : ¬ x525 = 10 := h526
          refine g_iload C dX9_takeEight_24 0 rfl ?_
          refine g_bipush (v := 32) C dX9_takeEight_26 (by decide) ?_
          refine b_icmp_lt C 69 dX9_takeEight_28 (by decide) (fun h532 => ?_) (fun h532 => ?_)
          · have h532 : x525.toInt < 32 := h532
            refine g_iinc (v := shf j) (lv' := [(3, .int (shf j)), (4, .int x525), (0, .ref a), (1, .long v)]) C dX9_takeEight_69 1 rfl rfl (by decide) rfl ?_
            refine g_goto C 3 dX9_takeEight_72 (by decide) ?_
            refine g_lv (lv' := [(3, .int (shf j)), (0, .ref a), (1, .long v)]) [0, 2, 3] rfl ?_
            exact ih n1 I2 (by omega) (by omega) h2 (by rw [← h3]; show cnt (byU v) j _ = cnt (byU v) j (stc (byU v (nI (8 * j))) n1); rw [← hc, stc_no (fun h9 => by rcases h9 with h8 | h8 <;> first | exact absurd h8 (by assumption) | omega)])
          · have h532 : 32 ≤ x525.toInt := h532
            refine g_iload C dX9_takeEight_31 0 rfl ?_
            refine g_bipush (v := 126) C dX9_takeEight_33 (by decide) ?_
            refine b_icmp_gt C 69 dX9_takeEight_35 (by decide) (fun h533 => ?_) (fun h533 => ?_)
            · have h533 : 126 < x525.toInt := h533
              refine g_iinc (v := shf j) (lv' := [(3, .int (shf j)), (4, .int x525), (0, .ref a), (1, .long v)]) C dX9_takeEight_69 1 rfl rfl (by decide) rfl ?_
              refine g_goto C 3 dX9_takeEight_72 (by decide) ?_
              refine g_lv (lv' := [(3, .int (shf j)), (0, .ref a), (1, .long v)]) [0, 2, 3] rfl ?_
              exact ih n1 I2 (by omega) (by omega) h2 (by rw [← h3]; show cnt (byU v) j _ = cnt (byU v) j (stc (byU v (nI (8 * j))) n1); rw [← hc, stc_no (fun h9 => by rcases h9 with h8 | h8 <;> first | exact absurd h8 (by assumption) | omega)])
            · have h533 : x525.toInt ≤ 126 := h533
              refine g_aload_n C dX9_takeEight_38 rfl 2 rfl ?_
              refine g_getI C fi_X9_15 (by decide) ha haK dX9_takeEight_39 ?_
              rw [show pI (pWI P I2 (pJ P)) a 1 = (nI n1) from h2]
              refine g_sipush (v := 1000) C dX9_takeEight_42 (by decide) ?_
              refine b_icmp_ge C 69 dX9_takeEight_45 (by decide) (fun h534 => ?_) (fun h534 => ?_)
              · have h534 : 1000 ≤ (nI n1).toInt := h534
                refine g_iinc (v := shf j) (lv' := [(3, .int (shf j)), (4, .int x525), (0, .ref a), (1, .long v)]) C dX9_takeEight_69 1 rfl rfl (by decide) rfl ?_
                refine g_goto C 3 dX9_takeEight_72 (by decide) ?_
                refine g_lv (lv' := [(3, .int (shf j)), (0, .ref a), (1, .long v)]) [0, 2, 3] rfl ?_
                exact ih n1 I2 (by omega) (by omega) h2 (by rw [← h3]; show cnt (byU v) j _ = cnt (byU v) j (stc (byU v (nI (8 * j))) n1); rw [← hc, stc_no (fun h9 => by rcases h9 with h8 | h8 <;> first | exact absurd h8 (by assumption) | omega)])
              · have h534 : (nI n1).toInt < 1000 := h534
                refine g_aload_n C dX9_takeEight_48 rfl 2 rfl ?_
                refine g_getR C fi_X9_9 rfl (har.1) ha haK dX9_takeEight_49 ?_
                refine g_aload_n C dX9_takeEight_52 rfl 2 rfl ?_
                refine g_getI C fi_X9_15 (by decide) ha haK dX9_takeEight_53 ?_
                rw [show pI (pWI P I2 (pJ P)) a 1 = (nI n1) from h2]
                refine g_iload C dX9_takeEight_56 0 rfl ?_
                refine g_iast (j := n1) C har.2.1 har.2.2.1 (IX.inn har.2.2.2 (by omega) (by decide)) dX9_takeEight_58 ?_
                obtain ⟨I535, eI535⟩ : ∃ I9, I9 = va_up I2 ar (va_up (I2 ar) n1 x525) := ⟨_, rfl⟩
                rw [show (pSI (pWI P I2 (pJ P)) ar n1 x525) = pWI P I535 (pJ P) by rw [eI535]; rfl]
                have h536 : I535 a 1 = nI n1 := by rw [eI535, up_ne hne]; exact h2
                refine g_aload_n C dX9_takeEight_59 rfl 2 rfl ?_
                refine g_dup C dX9_takeEight_60 rfl ?_
                refine g_getI C fi_X9_15 (by decide) ha haK dX9_takeEight_61 ?_
                rw [show pI (pWI P I535 (pJ P)) a 1 = (nI n1) from h536]
                refine g_iconst (v := 1) C dX9_takeEight_64 (by decide) ?_
                refine g_iadd C dX9_takeEight_65 ?_
                rw [nI_1]
                refine g_putI C fi_X9_15 rfl ha haK dX9_takeEight_66 ?_
                obtain ⟨I537, eI537⟩ : ∃ I9, I9 = va_up I535 a (va_up (I535 a) 1 (nI (n1 + 1))) := ⟨_, rfl⟩
                rw [show (pSI (pWI P I535 (pJ P)) a 1 (nI (n1 + 1))) = pWI P I537 (pJ P) by rw [eI537]; rfl]
                have h538 : I537 a 1 = nI (n1 + 1) := by rw [eI537, up_self, up_self]
                refine g_iinc (v := shf j) (lv' := [(3, .int (shf j)), (4, .int x525), (0, .ref a), (1, .long v)]) C dX9_takeEight_69 1 rfl rfl (by decide) rfl ?_
                refine g_goto C 3 dX9_takeEight_72 (by decide) ?_
                refine g_lv (lv' := [(3, .int (shf j)), (0, .ref a), (1, .long v)]) [0, 2, 3] rfl ?_
                exact ih (n1 + 1) I537 (by omega) (by omega) h538 (by rw [← h3]; show cnt (byU v) j _ = cnt (byU v) j (stc (byU v (nI (8 * j))) n1); rw [← hc, stc_yes (by first | (exact Or.inl (by assumption)) | (exact Or.inr ⟨by omega, by omega⟩)) (by omega)])
  exact lp 8 n _ (by omega) hn hz rfl
theorem dX12_lay_0 : decode cX12_lay 0 = .ok (.bipush 56, 2) := by decide +kernel
theorem dX12_lay_2 : decode cX12_lay 2 = .ok (.istore_n 3, 1) := by decide +kernel
theorem dX12_lay_3 : decode cX12_lay 3 = .ok (.iload_n 3, 1) := by decide +kernel
theorem dX12_lay_4 : decode cX12_lay 4 = .ok (.ifCond .lt 71, 3) := by decide +kernel
theorem dX12_lay_7 : decode cX12_lay 7 = .ok (.lload_n 1, 1) := by decide +kernel
theorem dX12_lay_8 : decode cX12_lay 8 = .ok (.iload_n 3, 1) := by decide +kernel
theorem dX12_lay_9 : decode cX12_lay 9 = .ok (.lshr, 1) := by decide +kernel
theorem dX12_lay_10 : decode cX12_lay 10 = .ok (.l2i, 1) := by decide +kernel
theorem dX12_lay_11 : decode cX12_lay 11 = .ok (.sipush 255, 3) := by decide +kernel
theorem dX12_lay_14 : decode cX12_lay 14 = .ok (.iand, 1) := by decide +kernel
theorem dX12_lay_15 : decode cX12_lay 15 = .ok (.istore 4, 2) := by decide +kernel
theorem dX12_lay_17 : decode cX12_lay 17 = .ok (.iload 4, 2) := by decide +kernel
theorem dX12_lay_19 : decode cX12_lay 19 = .ok (.bipush 10, 2) := by decide +kernel
theorem dX12_lay_21 : decode cX12_lay 21 = .ok (.if_icmp .eq 17, 3) := by decide +kernel
theorem dX12_lay_24 : decode cX12_lay 24 = .ok (.iload 4, 2) := by decide +kernel
theorem dX12_lay_26 : decode cX12_lay 26 = .ok (.bipush 32, 2) := by decide +kernel
theorem dX12_lay_28 : decode cX12_lay 28 = .ok (.if_icmp .lt 41, 3) := by decide +kernel
theorem dX12_lay_31 : decode cX12_lay 31 = .ok (.iload 4, 2) := by decide +kernel
theorem dX12_lay_33 : decode cX12_lay 33 = .ok (.bipush 126, 2) := by decide +kernel
theorem dX12_lay_35 : decode cX12_lay 35 = .ok (.if_icmp .gt 34, 3) := by decide +kernel
theorem dX12_lay_38 : decode cX12_lay 38 = .ok (.aload_n 0, 1) := by decide +kernel
theorem dX12_lay_39 : decode cX12_lay 39 = .ok (.getfield 11, 3) := by decide +kernel
theorem dX12_lay_42 : decode cX12_lay 42 = .ok (.sipush 1000, 3) := by decide +kernel
theorem dX12_lay_45 : decode cX12_lay 45 = .ok (.if_icmp .ge 24, 3) := by decide +kernel
theorem dX12_lay_48 : decode cX12_lay 48 = .ok (.aload_n 0, 1) := by decide +kernel
theorem dX12_lay_49 : decode cX12_lay 49 = .ok (.getfield 14, 3) := by decide +kernel
theorem dX12_lay_52 : decode cX12_lay 52 = .ok (.aload_n 0, 1) := by decide +kernel
theorem dX12_lay_53 : decode cX12_lay 53 = .ok (.getfield 11, 3) := by decide +kernel
theorem dX12_lay_56 : decode cX12_lay 56 = .ok (.iload 4, 2) := by decide +kernel
theorem dX12_lay_58 : decode cX12_lay 58 = .ok (.iastore, 1) := by decide +kernel
theorem dX12_lay_59 : decode cX12_lay 59 = .ok (.aload_n 0, 1) := by decide +kernel
theorem dX12_lay_60 : decode cX12_lay 60 = .ok (.dup, 1) := by decide +kernel
theorem dX12_lay_61 : decode cX12_lay 61 = .ok (.getfield 11, 3) := by decide +kernel
theorem dX12_lay_64 : decode cX12_lay 64 = .ok (.iconst 1, 1) := by decide +kernel
theorem dX12_lay_65 : decode cX12_lay 65 = .ok (.iadd, 1) := by decide +kernel
theorem dX12_lay_66 : decode cX12_lay 66 = .ok (.putfield 11, 3) := by decide +kernel
theorem dX12_lay_69 : decode cX12_lay 69 = .ok (.iinc 3 (-8), 3) := by decide +kernel
theorem dX12_lay_72 : decode cX12_lay 72 = .ok (.goto (-69), 3) := by decide +kernel
theorem dX12_lay_75 : decode cX12_lay 75 = .ok (.return_, 1) := by decide +kernel
set_option maxHeartbeats 4000000 in
set_option maxRecDepth 100000 in
theorem c_X12_lay {P : PP} {a n : Nat} {v : Int64} (ha : a ∈ pL P) (haK : pK P a = 12) (oka : xOk P a) (hn : n ≤ 1000) (hz : pI P a 2 = nI n) : CtrV yX12_lay cX12_lay 5 none ({ frames := 1, cells := 0, slots := 0, locals := 64 } : Room) 0 0 P [.ref a, .long v] (fun P2 => ∃ I2, P2 = pWI P I2 (pJ P) ∧ I2 a 2 = nI (cnt (byS v) 8 n)) := by
  refine enV (lv := [(0, .ref a), (1, .long v)]) (by decide) (Nat.le_of_ble_eq_true rfl) rfl (fun E D cy C Ci0 ret => ?_)
  refine g_bipush (v := 56) C dX12_lay_0 (by decide) ?_
  refine g_istore_n (lv' := [(3, .int 56), (0, .ref a), (1, .long v)]) C dX12_lay_2 rfl (by decide) rfl ?_
  obtain ⟨ar, har⟩ := xFd.at oka haK 1 13 1000 rfl
  have hne : a ≠ ar := fun e => by have h1 := har.2.2.1; rw [← e, haK] at h1; omega
  have lp : ∀ (j n1 : Nat) (I2 : Nat → Nat → Int32), j ≤ 8 → n1 ≤ 1000 → I2 a 2 = nI n1 → cnt (byS v) j n1 = cnt (byS v) 8 n → G E ({ frames := 1, cells := 0, slots := 0, locals := 64 } : Room) D cy 5 (pWI P I2 (pJ P)) 0 0 3 [(3, .int (shf j)), (0, .ref a), (1, .long v)] [] := by
    intro j
    induction j with
    | zero =>
      intro n1 I2 hj h1 h2 h3
      have es : (shf 0).toInt = -8 := by decide
      refine g_iload_n C dX12_lay_3 rfl 0 rfl ?_
      refine b_if_lt C 75 dX12_lay_4 (by decide) (fun h539 => ?_) (fun h539 => ?_)
      · have h539 : (shf 0).toInt < 0 := h539
        exact ret _ _ _ _ _ dX12_lay_75 (by decide) (by decide) (⟨_, rfl, h2.trans (congrArg nI h3)⟩)
      · have h539 : 0 ≤ (shf 0).toInt := h539
        omega
    | succ j ih =>
      intro n1 I2 hj h1 h2 h3
      rw [shf_s]
      have es : (nI (8 * j)).toInt = ((8 * j : Nat) : Int) := ti_nI (by omega)
      have en : (nI n1).toInt = (n1 : Int) := ti_nI (by omega)
      refine g_iload_n C dX12_lay_3 rfl 0 rfl ?_
      refine b_if_lt C 75 dX12_lay_4 (by decide) (fun h540 => ?_) (fun h540 => ?_)
      · have h540 : (nI (8 * j)).toInt < 0 := h540
        omega
      · have h540 : 0 ≤ (nI (8 * j)).toInt := h540
        refine g_lload_n C dX12_lay_7 rfl 2 rfl ?_
        refine g_iload_n C dX12_lay_8 rfl 0 rfl ?_
        obtain ⟨x541, ex541⟩ : ∃ z : Int64, z = v >>> (Int32.toInt64 (nI (8 * j)) &&& 63) := ⟨_, rfl⟩
        refine g_lshr (v := x541) C dX12_lay_9 ex541.symm ?_
        refine g_l2i (v := Int64.toInt32 x541) C dX12_lay_10 rfl ?_
        refine g_sipush (v := 255) C dX12_lay_11 (by decide) ?_
        refine g_iand C dX12_lay_14 ?_
        refine g_topi (fun x542 ex542 => ?_)
        refine g_istore (lv' := [(4, .int x542), (3, .int (nI (8 * j))), (0, .ref a), (1, .long v)]) C dX12_lay_15 (by decide) rfl ?_
        have hc : x542 = byS v (nI (8 * j)) := by rw [ex542, ex541]; rfl
        refine g_iload C dX12_lay_17 0 rfl ?_
        refine g_bipush (v := 10) C dX12_lay_19 (by decide) ?_
        refine b_icmp_eq C 38 dX12_lay_21 (by decide) (fun h543 => ?_) (fun h543 => ?_)
        · have h543 : x542 = 10 := h543
          refine g_aload_n C dX12_lay_38 rfl 2 rfl ?_
          refine g_getI C fi_X12_11 (by decide) ha haK dX12_lay_39 ?_
          rw [show pI (pWI P I2 (pJ P)) a 2 = (nI n1) from h2]
          refine g_sipush (v := 1000) C dX12_lay_42 (by decide) ?_
          refine b_icmp_ge C 69 dX12_lay_45 (by decide) (fun h544 => ?_) (fun h544 => ?_)
          · have h544 : 1000 ≤ (nI n1).toInt := h544
            refine g_iinc (v := shf j) (lv' := [(3, .int (shf j)), (4, .int x542), (0, .ref a), (1, .long v)]) C dX12_lay_69 1 rfl rfl (by decide) rfl ?_
            refine g_goto C 3 dX12_lay_72 (by decide) ?_
            refine g_lv (lv' := [(3, .int (shf j)), (0, .ref a), (1, .long v)]) [0, 2, 3] rfl ?_
            exact ih n1 I2 (by omega) (by omega) h2 (by rw [← h3]; show cnt (byS v) j _ = cnt (byS v) j (stc (byS v (nI (8 * j))) n1); rw [← hc, stc_no (fun h9 => by rcases h9 with h8 | h8 <;> first | exact absurd h8 (by assumption) | omega)])
          · have h544 : (nI n1).toInt < 1000 := h544
            refine g_aload_n C dX12_lay_48 rfl 2 rfl ?_
            refine g_getR C fi_X12_14 rfl (har.1) ha haK dX12_lay_49 ?_
            refine g_aload_n C dX12_lay_52 rfl 2 rfl ?_
            refine g_getI C fi_X12_11 (by decide) ha haK dX12_lay_53 ?_
            rw [show pI (pWI P I2 (pJ P)) a 2 = (nI n1) from h2]
            refine g_iload C dX12_lay_56 0 rfl ?_
            refine g_iast (j := n1) C har.2.1 har.2.2.1 (IX.inn har.2.2.2 (by omega) (by decide)) dX12_lay_58 ?_
            obtain ⟨I545, eI545⟩ : ∃ I9, I9 = va_up I2 ar (va_up (I2 ar) n1 x542) := ⟨_, rfl⟩
            rw [show (pSI (pWI P I2 (pJ P)) ar n1 x542) = pWI P I545 (pJ P) by rw [eI545]; rfl]
            have h546 : I545 a 2 = nI n1 := by rw [eI545, up_ne hne]; exact h2
            refine g_aload_n C dX12_lay_59 rfl 2 rfl ?_
            refine g_dup C dX12_lay_60 rfl ?_
            refine g_getI C fi_X12_11 (by decide) ha haK dX12_lay_61 ?_
            rw [show pI (pWI P I545 (pJ P)) a 2 = (nI n1) from h546]
            refine g_iconst (v := 1) C dX12_lay_64 (by decide) ?_
            refine g_iadd C dX12_lay_65 ?_
            rw [nI_1]
            refine g_putI C fi_X12_11 rfl ha haK dX12_lay_66 ?_
            obtain ⟨I547, eI547⟩ : ∃ I9, I9 = va_up I545 a (va_up (I545 a) 2 (nI (n1 + 1))) := ⟨_, rfl⟩
            rw [show (pSI (pWI P I545 (pJ P)) a 2 (nI (n1 + 1))) = pWI P I547 (pJ P) by rw [eI547]; rfl]
            have h548 : I547 a 2 = nI (n1 + 1) := by rw [eI547, up_self, up_self]
            refine g_iinc (v := shf j) (lv' := [(3, .int (shf j)), (4, .int x542), (0, .ref a), (1, .long v)]) C dX12_lay_69 1 rfl rfl (by decide) rfl ?_
            refine g_goto C 3 dX12_lay_72 (by decide) ?_
            refine g_lv (lv' := [(3, .int (shf j)), (0, .ref a), (1, .long v)]) [0, 2, 3] rfl ?_
            exact ih (n1 + 1) I547 (by omega) (by omega) h548 (by rw [← h3]; show cnt (byS v) j _ = cnt (byS v) j (stc (byS v (nI (8 * j))) n1); rw [← hc, stc_yes (by first | (exact Or.inl (by assumption)) | (exact Or.inr ⟨by omega, by omega⟩)) (by omega)])
        · have h543 : ¬ x542 = 10 := h543
          refine g_iload C dX12_lay_24 0 rfl ?_
          refine g_bipush (v := 32) C dX12_lay_26 (by decide) ?_
          refine b_icmp_lt C 69 dX12_lay_28 (by decide) (fun h549 => ?_) (fun h549 => ?_)
          · have h549 : x542.toInt < 32 := h549
            refine g_iinc (v := shf j) (lv' := [(3, .int (shf j)), (4, .int x542), (0, .ref a), (1, .long v)]) C dX12_lay_69 1 rfl rfl (by decide) rfl ?_
            refine g_goto C 3 dX12_lay_72 (by decide) ?_
            refine g_lv (lv' := [(3, .int (shf j)), (0, .ref a), (1, .long v)]) [0, 2, 3] rfl ?_
            exact ih n1 I2 (by omega) (by omega) h2 (by rw [← h3]; show cnt (byS v) j _ = cnt (byS v) j (stc (byS v (nI (8 * j))) n1); rw [← hc, stc_no (fun h9 => by rcases h9 with h8 | h8 <;> first | exact absurd h8 (by assumption) | omega)])
          · have h549 : 32 ≤ x542.toInt := h549
            refine g_iload C dX12_lay_31 0 rfl ?_
            refine g_bipush (v := 126) C dX12_lay_33 (by decide) ?_
            refine b_icmp_gt C 69 dX12_lay_35 (by decide) (fun h550 => ?_) (fun h550 => ?_)
            · have h550 : 126 < x542.toInt := h550
              refine g_iinc (v := shf j) (lv' := [(3, .int (shf j)), (4, .int x542), (0, .ref a), (1, .long v)]) C dX12_lay_69 1 rfl rfl (by decide) rfl ?_
              refine g_goto C 3 dX12_lay_72 (by decide) ?_
              refine g_lv (lv' := [(3, .int (shf j)), (0, .ref a), (1, .long v)]) [0, 2, 3] rfl ?_
              exact ih n1 I2 (by omega) (by omega) h2 (by rw [← h3]; show cnt (byS v) j _ = cnt (byS v) j (stc (byS v (nI (8 * j))) n1); rw [← hc, stc_no (fun h9 => by rcases h9 with h8 | h8 <;> first | exact absurd h8 (by assumption) | omega)])
            · have h550 : x542.toInt ≤ 126 := h550
              refine g_aload_n C dX12_lay_38 rfl 2 rfl ?_
              refine g_getI C fi_X12_11 (by decide) ha haK dX12_lay_39 ?_
              rw [show pI (pWI P I2 (pJ P)) a 2 = (nI n1) from h2]
              refine g_sipush (v := 1000) C dX12_lay_42 (by decide) ?_
              refine b_icmp_ge C 69 dX12_lay_45 (by decide) (fun h551 => ?_) (fun h551 => ?_)
              · have h551 : 1000 ≤ (nI n1).toInt := h551
                refine g_iinc (v := shf j) (lv' := [(3, .int (shf j)), (4, .int x542), (0, .ref a), (1, .long v)]) C dX12_lay_69 1 rfl rfl (by decide) rfl ?_
                refine g_goto C 3 dX12_lay_72 (by decide) ?_
                refine g_lv (lv' := [(3, .int (shf j)), (0, .ref a), (1, .long v)]) [0, 2, 3] rfl ?_
                exact ih n1 I2 (by omega) (by omega) h2 (by rw [← h3]; show cnt (byS v) j _ = cnt (byS v) j (stc (byS v (nI (8 * j))) n1); rw [← hc, stc_no (fun h9 => by rcases h9 with h8 | h8 <;> first | exact absurd h8 (by assumption) | omega)])
              · have h551 : (nI n1).toInt < 1000 := h551
                refine g_aload_n C dX12_lay_48 rfl 2 rfl ?_
                refine g_getR C fi_X12_14 rfl (har.1) ha haK dX12_lay_49 ?_
                refine g_aload_n C dX12_lay_52 rfl 2 rfl ?_
                refine g_getI C fi_X12_11 (by decide) ha haK dX12_lay_53 ?_
                rw [show pI (pWI P I2 (pJ P)) a 2 = (nI n1) from h2]
                refine g_iload C dX12_lay_56 0 rfl ?_
                refine g_iast (j := n1) C har.2.1 har.2.2.1 (IX.inn har.2.2.2 (by omega) (by decide)) dX12_lay_58 ?_
                obtain ⟨I552, eI552⟩ : ∃ I9, I9 = va_up I2 ar (va_up (I2 ar) n1 x542) := ⟨_, rfl⟩
                rw [show (pSI (pWI P I2 (pJ P)) ar n1 x542) = pWI P I552 (pJ P) by rw [eI552]; rfl]
                have h553 : I552 a 2 = nI n1 := by rw [eI552, up_ne hne]; exact h2
                refine g_aload_n C dX12_lay_59 rfl 2 rfl ?_
                refine g_dup C dX12_lay_60 rfl ?_
                refine g_getI C fi_X12_11 (by decide) ha haK dX12_lay_61 ?_
                rw [show pI (pWI P I552 (pJ P)) a 2 = (nI n1) from h553]
                refine g_iconst (v := 1) C dX12_lay_64 (by decide) ?_
                refine g_iadd C dX12_lay_65 ?_
                rw [nI_1]
                refine g_putI C fi_X12_11 rfl ha haK dX12_lay_66 ?_
                obtain ⟨I554, eI554⟩ : ∃ I9, I9 = va_up I552 a (va_up (I552 a) 2 (nI (n1 + 1))) := ⟨_, rfl⟩
                rw [show (pSI (pWI P I552 (pJ P)) a 2 (nI (n1 + 1))) = pWI P I554 (pJ P) by rw [eI554]; rfl]
                have h555 : I554 a 2 = nI (n1 + 1) := by rw [eI554, up_self, up_self]
                refine g_iinc (v := shf j) (lv' := [(3, .int (shf j)), (4, .int x542), (0, .ref a), (1, .long v)]) C dX12_lay_69 1 rfl rfl (by decide) rfl ?_
                refine g_goto C 3 dX12_lay_72 (by decide) ?_
                refine g_lv (lv' := [(3, .int (shf j)), (0, .ref a), (1, .long v)]) [0, 2, 3] rfl ?_
                exact ih (n1 + 1) I554 (by omega) (by omega) h555 (by rw [← h3]; show cnt (byS v) j _ = cnt (byS v) j (stc (byS v (nI (8 * j))) n1); rw [← hc, stc_yes (by first | (exact Or.inl (by assumption)) | (exact Or.inr ⟨by omega, by omega⟩)) (by omega)])
  exact lp 8 n _ (by omega) hn hz rfl
theorem dX11_feed_0 : decode cX11_feed 0 = .ok (.aload_n 0, 1) := by decide +kernel
theorem dX11_feed_1 : decode cX11_feed 1 = .ok (.getfield 41, 3) := by decide +kernel
theorem dX11_feed_4 : decode cX11_feed 4 = .ok (.getfield 111, 3) := by decide +kernel
theorem dX11_feed_7 : decode cX11_feed 7 = .ok (.astore 7, 2) := by decide +kernel
theorem dX11_feed_9 : decode cX11_feed 9 = .ok (.aload 7, 2) := by decide +kernel
theorem dX11_feed_11 : decode cX11_feed 11 = .ok (.lload_n 1, 1) := by decide +kernel
theorem dX11_feed_12 : decode cX11_feed 12 = .ok (.invokevirtual 115, 3) := by decide +kernel
theorem dX11_feed_15 : decode cX11_feed 15 = .ok (.aload 7, 2) := by decide +kernel
theorem dX11_feed_17 : decode cX11_feed 17 = .ok (.lload_n 3, 1) := by decide +kernel
theorem dX11_feed_18 : decode cX11_feed 18 = .ok (.invokevirtual 115, 3) := by decide +kernel
theorem dX11_feed_21 : decode cX11_feed 21 = .ok (.aload 7, 2) := by decide +kernel
theorem dX11_feed_23 : decode cX11_feed 23 = .ok (.lload 5, 2) := by decide +kernel
theorem dX11_feed_25 : decode cX11_feed 25 = .ok (.invokevirtual 115, 3) := by decide +kernel
theorem dX11_feed_28 : decode cX11_feed 28 = .ok (.aload 7, 2) := by decide +kernel
theorem dX11_feed_30 : decode cX11_feed 30 = .ok (.getfield 121, 3) := by decide +kernel
theorem dX11_feed_33 : decode cX11_feed 33 = .ok (.ireturn, 1) := by decide +kernel
set_option maxHeartbeats 4000000 in
set_option maxRecDepth 100000 in
theorem c_X11_feed {P : PP} {x : Nat} {a : Int64} {b : Int64} {c : Int64} (F : FC P x) : CtrI yX11_feed cX11_feed 8 (some Jvm.ClassFile.FieldType.int) ({ frames := 2, cells := 0, slots := 0, locals := 128 } : Room) 0 0 P [.ref x, .long a, .long b, .long c] (fun r _ => r = nI (cnt (byU c) 8 (cnt (byU b) 8 (cnt (byU a) 8 0)))) := by
  obtain ⟨hx, hxK, ok, z1, z6, z9, zt, zh, zm⟩ := F
  refine enI (lv := [(0, .ref x), (1, .long a), (3, .long b), (5, .long c)]) (by decide) (Nat.le_of_ble_eq_true rfl) rfl (fun E D cy C Ci0 ret => ?_)
  refine g_aload_n C dX11_feed_0 rfl 0 rfl ?_
  obtain ⟨b556, h557⟩ := xFd.at (ok x hx) hxK 7 4 0 rfl
  refine g_getR C fi_X11_41 rfl h557.1 hx hxK dX11_feed_1 ?_
  obtain ⟨b558, h559⟩ := xFd.at (ok b556 h557.2.1) h557.2.2.1 0 9 0 rfl
  refine g_getR C fi_X11_111 rfl h559.1 h557.2.1 h557.2.2.1 dX11_feed_4 ?_
  refine g_astore (lv' := [(7, .ref b558), (0, .ref x), (1, .long a), (3, .long b), (5, .long c)]) C dX11_feed_7 (by decide) rfl ?_
  refine g_aload C dX11_feed_9 0 rfl ?_
  refine g_lload_n C dX11_feed_11 rfl 2 rfl ?_
  refine g_callVV (rest := []) C mv_X11_115 [.long a] (c_X9_takeEight (n := 0) h559.2.1 h559.2.2.1 (ok b558 h559.2.1) (by decide) (z9 b558 h559.2.1 h559.2.2.1)) h559.2.1 h559.2.2.1 rfl rfl (by decide) (Nat.le_of_ble_eq_true rfl) (by decide) dX11_feed_12 (fun Q561 h562 => ?_)
  obtain ⟨I563, rfl, h562⟩ := h562
  refine g_aload C dX11_feed_15 0 rfl ?_
  refine g_lload_n C dX11_feed_17 rfl 3 rfl ?_
  refine g_callVV (rest := []) C mv_X11_115 [.long b] (c_X9_takeEight (n := (cnt (byU a) 8 0)) h559.2.1 h559.2.2.1 (ok b558 h559.2.1) (cnt_le 8 (by decide)) h562) h559.2.1 h559.2.2.1 rfl rfl (by decide) (Nat.le_of_ble_eq_true rfl) (by decide) dX11_feed_18 (fun Q565 h566 => ?_)
  obtain ⟨I567, rfl, h566⟩ := h566
  refine g_aload C dX11_feed_21 0 rfl ?_
  refine g_lload C dX11_feed_23 4 rfl ?_
  refine g_callVV (rest := []) C mv_X11_115 [.long c] (c_X9_takeEight (n := (cnt (byU b) 8 (cnt (byU a) 8 0))) h559.2.1 h559.2.2.1 (ok b558 h559.2.1) (cnt_le 8 (cnt_le 8 (by decide))) h566) h559.2.1 h559.2.2.1 rfl rfl (by decide) (Nat.le_of_ble_eq_true rfl) (by decide) dX11_feed_25 (fun Q569 h570 => ?_)
  obtain ⟨I571, rfl, h570⟩ := h570
  refine g_aload C dX11_feed_28 0 rfl ?_
  refine g_getI C fi_X11_121 (by decide) h559.2.1 h559.2.2.1 dX11_feed_30 ?_
  exact ret _ _ _ _ _ _ dX11_feed_33 rfl (by decide) (by decide) (h570)
theorem dX12_feed_0 : decode cX12_feed 0 = .ok (.aload_n 0, 1) := by decide +kernel
theorem dX12_feed_1 : decode cX12_feed 1 = .ok (.iconst 0, 1) := by decide +kernel
theorem dX12_feed_2 : decode cX12_feed 2 = .ok (.putfield 1, 3) := by decide +kernel
theorem dX12_feed_5 : decode cX12_feed 5 = .ok (.aload_n 0, 1) := by decide +kernel
theorem dX12_feed_6 : decode cX12_feed 6 = .ok (.lload_n 1, 1) := by decide +kernel
theorem dX12_feed_7 : decode cX12_feed 7 = .ok (.invokevirtual 7, 3) := by decide +kernel
theorem dX12_feed_10 : decode cX12_feed 10 = .ok (.aload_n 0, 1) := by decide +kernel
theorem dX12_feed_11 : decode cX12_feed 11 = .ok (.lload_n 3, 1) := by decide +kernel
theorem dX12_feed_12 : decode cX12_feed 12 = .ok (.invokevirtual 7, 3) := by decide +kernel
theorem dX12_feed_15 : decode cX12_feed 15 = .ok (.aload_n 0, 1) := by decide +kernel
theorem dX12_feed_16 : decode cX12_feed 16 = .ok (.lload 5, 2) := by decide +kernel
theorem dX12_feed_18 : decode cX12_feed 18 = .ok (.invokevirtual 7, 3) := by decide +kernel
theorem dX12_feed_21 : decode cX12_feed 21 = .ok (.aload_n 0, 1) := by decide +kernel
theorem dX12_feed_22 : decode cX12_feed 22 = .ok (.getfield 11, 3) := by decide +kernel
theorem dX12_feed_25 : decode cX12_feed 25 = .ok (.ireturn, 1) := by decide +kernel
set_option maxHeartbeats 4000000 in
set_option maxRecDepth 100000 in
theorem c_X12_feed {P : PP} {x : Nat} {a : Int64} {b : Int64} {c : Int64} (F : FM P x) : CtrI yX12_feed cX12_feed 7 (some Jvm.ClassFile.FieldType.int) ({ frames := 2, cells := 0, slots := 0, locals := 128 } : Room) 0 0 P [.ref x, .long a, .long b, .long c] (fun r _ => r = nI (cnt (byS c) 8 (cnt (byS b) 8 (cnt (byS a) 8 0)))) := by
  refine enI (lv := [(0, .ref x), (1, .long a), (3, .long b), (5, .long c)]) (by decide) (Nat.le_of_ble_eq_true rfl) rfl (fun E D cy C Ci0 ret => ?_)
  refine g_aload_n C dX12_feed_0 rfl 0 rfl ?_
  refine g_iconst (v := 0) C dX12_feed_1 (by decide) ?_
  refine g_putI C fi_X12_1 rfl F.1 F.2.1 dX12_feed_2 ?_
  have F := F.thrown (v := 0)
  generalize pSI P x 0 0 = P1 at F ⊢
  obtain ⟨hx, hxK, ok, inj, zp, zs, zm, zt, zo, zh⟩ := F
  refine g_aload_n C dX12_feed_5 rfl 0 rfl ?_
  refine g_lload_n C dX12_feed_6 rfl 1 rfl ?_
  refine g_callVV (rest := []) C mv_X12_7 [.long a] (c_X12_lay (n := 0) hx hxK (ok x hx) (by decide) zt) hx hxK rfl rfl (by decide) (Nat.le_of_ble_eq_true rfl) (by decide) dX12_feed_7 (fun Q573 h574 => ?_)
  obtain ⟨I575, rfl, h574⟩ := h574
  refine g_aload_n C dX12_feed_10 rfl 0 rfl ?_
  refine g_lload_n C dX12_feed_11 rfl 2 rfl ?_
  refine g_callVV (rest := []) C mv_X12_7 [.long b] (c_X12_lay (n := (cnt (byS a) 8 0)) hx hxK (ok x hx) (cnt_le 8 (by decide)) h574) hx hxK rfl rfl (by decide) (Nat.le_of_ble_eq_true rfl) (by decide) dX12_feed_12 (fun Q577 h578 => ?_)
  obtain ⟨I579, rfl, h578⟩ := h578
  refine g_aload_n C dX12_feed_15 rfl 0 rfl ?_
  refine g_lload C dX12_feed_16 3 rfl ?_
  refine g_callVV (rest := []) C mv_X12_7 [.long c] (c_X12_lay (n := (cnt (byS b) 8 (cnt (byS a) 8 0))) hx hxK (ok x hx) (cnt_le 8 (cnt_le 8 (by decide))) h578) hx hxK rfl rfl (by decide) (Nat.le_of_ble_eq_true rfl) (by decide) dX12_feed_18 (fun Q581 h582 => ?_)
  obtain ⟨I583, rfl, h582⟩ := h582
  refine g_aload_n C dX12_feed_21 rfl 0 rfl ?_
  refine g_getI C fi_X12_11 (by decide) hx hxK dX12_feed_22 ?_
  exact ret _ _ _ _ _ _ dX12_feed_25 rfl (by decide) (by decide) (h582)
