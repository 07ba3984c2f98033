theorem FM.other {P : PP} {x k b : Nat} {v : Int32} (F : FM P x) {f : Nat} {kd n : Nat} (hs : shp 12 f = some (kd, n)) (h13 : 13 ≤ kd) (hb : pR P x f = some b) : pI (pSI P x k v) b = pI P b := by
  obtain ⟨hx, hxK, ok, -⟩ := F
  obtain ⟨b2, h1, h2, h3, h4⟩ := xFd.at (ok x hx) hxK f kd n hs
  rw [hb] at h1; cases h1
  have hne : b ≠ x := fun e => by rw [e, hxK] at h3; omega
  simp [pSI, pI, va_up, hne]
theorem FM.thrown {P : PP} {x : Nat} {v : Int32} (F : FM P x) : FM (pSI P x 0 v) x := by
  have F0 := F
  obtain ⟨hx, hxK, ok, inj, zp, zs, zm, zt, zo, zh⟩ := F
  refine ⟨hx, hxK, ok, inj, fun b hb j => ?_, fun b hb j => ?_, fun b hb j => ?_, ?_, ?_, fun b hb j hj => ?_⟩
  · rw [F0.other (f := 10) rfl (by decide) hb]; exact zp b hb j
  · rw [F0.other (f := 20) rfl (by decide) hb]; exact zs b hb j
  · rw [F0.other (f := 26) rfl (by decide) hb]; exact zm b hb j
  · rw [← zt]; simp [pSI, pI, va_up]
  · rw [← zo]; simp [pSI, pI, va_up]
  · rw [F0.other (f := 46) rfl (by decide) hb]; exact zh b hb j hj
theorem dX12_within_0 : decode cX12_within 0 = .ok (.iload_n 0, 1) := by decide +kernel
theorem dX12_within_1 : decode cX12_within 1 = .ok (.iload_n 1, 1) := by decide +kernel
theorem dX12_within_2 : decode cX12_within 2 = .ok (.if_icmp .lt 12, 3) := by decide +kernel
theorem dX12_within_5 : decode cX12_within 5 = .ok (.iload_n 0, 1) := by decide +kernel
theorem dX12_within_6 : decode cX12_within 6 = .ok (.iload_n 2, 1) := by decide +kernel
theorem dX12_within_7 : decode cX12_within 7 = .ok (.if_icmp .gt 7, 3) := by decide +kernel
theorem dX12_within_10 : decode cX12_within 10 = .ok (.iconst 1, 1) := by decide +kernel
theorem dX12_within_11 : decode cX12_within 11 = .ok (.goto 4, 3) := by decide +kernel
theorem dX12_within_14 : decode cX12_within 14 = .ok (.iconst 0, 1) := by decide +kernel
theorem dX12_within_15 : decode cX12_within 15 = .ok (.ireturn, 1) := by decide +kernel
set_option maxHeartbeats 4000000 in
set_option maxRecDepth 100000 in
theorem c_X12_within {P : PP} {v : Int32} {a : Int32} {b : Int32}  : CtrI yX12_within cX12_within 3 (some Jvm.ClassFile.FieldType.boolean) ({ frames := 1, cells := 0, slots := 0, locals := 64 } : Room) 0 0 P [.int v, .int a, .int b] (fun r P2 => P = P2 ∧ ((r = 1 ∧ (a.toInt ≤ v.toInt ∧ v.toInt ≤ b.toInt)) ∨ (r = 0 ∧ ¬ (a.toInt ≤ v.toInt ∧ v.toInt ≤ b.toInt)))) := by
  refine enI (lv := [(0, .int v), (1, .int a), (2, .int b)]) (by decide) (Nat.le_of_ble_eq_true rfl) rfl (fun E D cy C Ci0 ret => ?_)
  refine g_iload_n C dX12_within_0 rfl 0 rfl ?_
  refine g_iload_n C dX12_within_1 rfl 1 rfl ?_
  refine b_icmp_lt C 14 dX12_within_2 (by decide) (fun h1 => ?_) (fun h1 => ?_)
  · have h1 : v.toInt < a.toInt := h1
    refine g_iconst (v := 0) C dX12_within_14 (by decide) ?_
    exact ret _ _ _ _ _ _ dX12_within_15 rfl (by decide) (by decide) (⟨rfl, Or.inr ⟨rfl, by first | omega | (intro h9; omega)⟩⟩)
  · have h1 : a.toInt ≤ v.toInt := h1
    refine g_iload_n C dX12_within_5 rfl 0 rfl ?_
    refine g_iload_n C dX12_within_6 rfl 2 rfl ?_
    refine b_icmp_gt C 14 dX12_within_7 (by decide) (fun h2 => ?_) (fun h2 => ?_)
    · have h2 : b.toInt < v.toInt := h2
      refine g_iconst (v := 0) C dX12_within_14 (by decide) ?_
      exact ret _ _ _ _ _ _ dX12_within_15 rfl (by decide) (by decide) (⟨rfl, Or.inr ⟨rfl, by first | omega | (intro h9; omega)⟩⟩)
    · have h2 : v.toInt ≤ b.toInt := h2
      refine g_iconst (v := 1) C dX12_within_10 (by decide) ?_
      refine g_goto C 15 dX12_within_11 (by decide) ?_
      exact ret _ _ _ _ _ _ dX12_within_15 rfl (by decide) (by decide) (⟨rfl, Or.inl ⟨rfl, by first | omega | (intro h9; omega)⟩⟩)
theorem dX12_isNumber_0 : decode cX12_isNumber 0 = .ok (.iload_n 0, 1) := by decide +kernel
theorem dX12_isNumber_1 : decode cX12_isNumber 1 = .ok (.iconst 0, 1) := by decide +kernel
theorem dX12_isNumber_2 : decode cX12_isNumber 2 = .ok (.sipush 9999, 3) := by decide +kernel
theorem dX12_isNumber_5 : decode cX12_isNumber 5 = .ok (.invokestatic 178, 3) := by decide +kernel
theorem dX12_isNumber_8 : decode cX12_isNumber 8 = .ok (.ireturn, 1) := by decide +kernel
set_option maxHeartbeats 4000000 in
set_option maxRecDepth 100000 in
theorem c_X12_isNumber {P : PP} {q : Int32}  : CtrI yX12_isNumber cX12_isNumber 1 (some Jvm.ClassFile.FieldType.boolean) ({ frames := 2, cells := 0, slots := 0, locals := 128 } : Room) 0 0 P [.int q] (fun r P2 => P = P2 ∧ ((r = 1 ∧ (0 ≤ q.toInt ∧ q.toInt ≤ 9999)) ∨ (r = 0 ∧ ¬ (0 ≤ q.toInt ∧ q.toInt ≤ 9999)))) := by
  refine enI (lv := [(0, .int q)]) (by decide) (Nat.le_of_ble_eq_true rfl) rfl (fun E D cy C Ci0 ret => ?_)
  refine g_iload_n C dX12_isNumber_0 rfl 0 rfl ?_
  refine g_iconst (v := 0) C dX12_isNumber_1 (by decide) ?_
  refine g_sipush (v := 9999) C dX12_isNumber_2 (by decide) ?_
  refine g_callSI (b := 0) (ci := 0) (rest := []) C ms_X12_178 [.int q, .int 0, .int 9999] (c_X12_within) rfl rfl (by decide) (by decide) (by decide) dX12_isNumber_5 (fun r3 Q4 h5 => ?_)
  obtain ⟨rfl, h5⟩ := h5
  rcases h5 with ⟨rfl, h5⟩ | ⟨rfl, h5⟩
  · have h5 : 0 ≤ q.toInt ∧ q.toInt ≤ 9999 := h5
    exact ret _ _ _ _ _ _ dX12_isNumber_8 rfl (by decide) (by decide) (⟨rfl, Or.inl ⟨rfl, by first | omega | (intro h9; omega)⟩⟩)
  · have h5 : ¬ (0 ≤ q.toInt ∧ q.toInt ≤ 9999) := h5
    exact ret _ _ _ _ _ _ dX12_isNumber_8 rfl (by decide) (by decide) (⟨rfl, Or.inr ⟨rfl, by first | omega | (intro h9; omega)⟩⟩)
theorem dX12_isQuarter_0 : decode cX12_isQuarter 0 = .ok (.iload_n 0, 1) := by decide +kernel
theorem dX12_isQuarter_1 : decode cX12_isQuarter 1 = .ok (.iconst 0, 1) := by decide +kernel
theorem dX12_isQuarter_2 : decode cX12_isQuarter 2 = .ok (.iconst 3, 1) := by decide +kernel
theorem dX12_isQuarter_3 : decode cX12_isQuarter 3 = .ok (.invokestatic 178, 3) := by decide +kernel
theorem dX12_isQuarter_6 : decode cX12_isQuarter 6 = .ok (.ireturn, 1) := by decide +kernel
set_option maxHeartbeats 4000000 in
set_option maxRecDepth 100000 in
theorem c_X12_isQuarter {P : PP} {q : Int32}  : CtrI yX12_isQuarter cX12_isQuarter 1 (some Jvm.ClassFile.FieldType.boolean) ({ frames := 2, cells := 0, slots := 0, locals := 128 } : Room) 0 0 P [.int q] (fun r P2 => P = P2 ∧ ((r = 1 ∧ (0 ≤ q.toInt ∧ q.toInt ≤ 3)) ∨ (r = 0 ∧ ¬ (0 ≤ q.toInt ∧ q.toInt ≤ 3)))) := by
  refine enI (lv := [(0, .int q)]) (by decide) (Nat.le_of_ble_eq_true rfl) rfl (fun E D cy C Ci0 ret => ?_)
  refine g_iload_n C dX12_isQuarter_0 rfl 0 rfl ?_
  refine g_iconst (v := 0) C dX12_isQuarter_1 (by decide) ?_
  refine g_iconst (v := 3) C dX12_isQuarter_2 (by decide) ?_
  refine g_callSI (b := 0) (ci := 0) (rest := []) C ms_X12_178 [.int q, .int 0, .int 3] (c_X12_within) rfl rfl (by decide) (by decide) (by decide) dX12_isQuarter_3 (fun r6 Q7 h8 => ?_)
  obtain ⟨rfl, h8⟩ := h8
  rcases h8 with ⟨rfl, h8⟩ | ⟨rfl, h8⟩
  · have h8 : 0 ≤ q.toInt ∧ q.toInt ≤ 3 := h8
    exact ret _ _ _ _ _ _ dX12_isQuarter_6 rfl (by decide) (by decide) (⟨rfl, Or.inl ⟨rfl, by first | omega | (intro h9; omega)⟩⟩)
  · have h8 : ¬ (0 ≤ q.toInt ∧ q.toInt ≤ 3) := h8
    exact ret _ _ _ _ _ _ dX12_isQuarter_6 rfl (by decide) (by decide) (⟨rfl, Or.inr ⟨rfl, by first | omega | (intro h9; omega)⟩⟩)
theorem dX12_isBook_0 : decode cX12_isBook 0 = .ok (.iload_n 1, 1) := by decide +kernel
theorem dX12_isBook_1 : decode cX12_isBook 1 = .ok (.iconst 0, 1) := by decide +kernel
theorem dX12_isBook_2 : decode cX12_isBook 2 = .ok (.iconst 1, 1) := by decide +kernel
theorem dX12_isBook_3 : decode cX12_isBook 3 = .ok (.invokestatic 178, 3) := by decide +kernel
theorem dX12_isBook_6 : decode cX12_isBook 6 = .ok (.ifCond .eq 16, 3) := by decide +kernel
theorem dX12_isBook_9 : decode cX12_isBook 9 = .ok (.aload_n 0, 1) := by decide +kernel
theorem dX12_isBook_10 : decode cX12_isBook 10 = .ok (.getfield 45, 3) := by decide +kernel
theorem dX12_isBook_13 : decode cX12_isBook 13 = .ok (.iload_n 1, 1) := by decide +kernel
theorem dX12_isBook_14 : decode cX12_isBook 14 = .ok (.iaload, 1) := by decide +kernel
theorem dX12_isBook_15 : decode cX12_isBook 15 = .ok (.ifCond .le 7, 3) := by decide +kernel
theorem dX12_isBook_22 : decode cX12_isBook 22 = .ok (.iconst 0, 1) := by decide +kernel
theorem dX12_isBook_23 : decode cX12_isBook 23 = .ok (.ireturn, 1) := by decide +kernel
set_option maxHeartbeats 4000000 in
set_option maxRecDepth 100000 in
theorem c_X12_isBook {P : PP} {x : Nat} {b : Int32} (F : FM P x) : CtrI yX12_isBook cX12_isBook 2 (some Jvm.ClassFile.FieldType.boolean) ({ frames := 3, cells := 0, slots := 0, locals := 192 } : Room) 0 0 P [.ref x, .int b] (fun r P2 => P = P2 ∧ r = 0) := by
  obtain ⟨hx, hxK, ok, inj, zp, zs, zm, zt, zo, zh⟩ := F
  refine enI (lv := [(0, .ref x), (1, .int b)]) (by decide) (Nat.le_of_ble_eq_true rfl) rfl (fun E D cy C Ci0 ret => ?_)
  refine g_iload_n C dX12_isBook_0 rfl 1 rfl ?_
  refine g_iconst (v := 0) C dX12_isBook_1 (by decide) ?_
  refine g_iconst (v := 1) C dX12_isBook_2 (by decide) ?_
  refine g_callSI (b := 0) (ci := 0) (rest := []) C ms_X12_178 [.int b, .int 0, .int 1] (c_X12_within) rfl rfl (by decide) (by decide) (by decide) dX12_isBook_3 (fun r9 Q10 h11 => ?_)
  obtain ⟨rfl, h11⟩ := h11
  rcases h11 with ⟨rfl, h11⟩ | ⟨rfl, h11⟩
  · have h11 : 0 ≤ b.toInt ∧ b.toInt ≤ 1 := h11
    refine b_if_eq C 22 dX12_isBook_6 (by decide) (fun h => absurd h (by decide)) (fun _ => ?_)
    refine g_aload_n C dX12_isBook_9 rfl 0 rfl ?_
    obtain ⟨b12, h13⟩ := xFd.at (ok x hx) hxK 10 13 2 rfl
    refine g_getR C fi_X12_45 rfl h13.1 hx hxK dX12_isBook_10 ?_
    refine g_iload_n C dX12_isBook_13 rfl 1 rfl ?_
    refine g_iald (j := (b.toInt.toNat)) C h13.2.1 h13.2.2.1 (IX.intn (i := b) h13.2.2.2 (by omega) (by omega)) dX12_isBook_14 ?_
    rw [show pI P b12 ((b.toInt.toNat)) = 0 from zp _ h13.1 _]
    refine b_if_le C 22 dX12_isBook_15 (by decide) (fun _ => ?_) (fun h => absurd h (by decide))
    refine g_iconst (v := 0) C dX12_isBook_22 (by decide) ?_
    exact ret _ _ _ _ _ _ dX12_isBook_23 rfl (by decide) (by decide) (⟨rfl, rfl⟩)
  · have h11 : ¬ (0 ≤ b.toInt ∧ b.toInt ≤ 1) := h11
    refine b_if_eq C 22 dX12_isBook_6 (by decide) (fun _ => ?_) (fun h => absurd h (by decide))
    refine g_iconst (v := 0) C dX12_isBook_22 (by decide) ?_
    exact ret _ _ _ _ _ _ dX12_isBook_23 rfl (by decide) (by decide) (⟨rfl, rfl⟩)
theorem dX12_isPaper_0 : decode cX12_isPaper 0 = .ok (.iload_n 1, 1) := by decide +kernel
theorem dX12_isPaper_1 : decode cX12_isPaper 1 = .ok (.invokestatic 278, 3) := by decide +kernel
theorem dX12_isPaper_4 : decode cX12_isPaper 4 = .ok (.ifCond .eq 21, 3) := by decide +kernel
theorem dX12_isPaper_7 : decode cX12_isPaper 7 = .ok (.iload_n 2, 1) := by decide +kernel
theorem dX12_isPaper_8 : decode cX12_isPaper 8 = .ok (.ifCond .lt 17, 3) := by decide +kernel
theorem dX12_isPaper_11 : decode cX12_isPaper 11 = .ok (.iload_n 2, 1) := by decide +kernel
theorem dX12_isPaper_12 : decode cX12_isPaper 12 = .ok (.aload_n 0, 1) := by decide +kernel
theorem dX12_isPaper_13 : decode cX12_isPaper 13 = .ok (.getfield 69, 3) := by decide +kernel
theorem dX12_isPaper_16 : decode cX12_isPaper 16 = .ok (.iload_n 1, 1) := by decide +kernel
theorem dX12_isPaper_17 : decode cX12_isPaper 17 = .ok (.iaload, 1) := by decide +kernel
theorem dX12_isPaper_18 : decode cX12_isPaper 18 = .ok (.if_icmp .ge 7, 3) := by decide +kernel
theorem dX12_isPaper_25 : decode cX12_isPaper 25 = .ok (.iconst 0, 1) := by decide +kernel
theorem dX12_isPaper_26 : decode cX12_isPaper 26 = .ok (.ireturn, 1) := by decide +kernel
set_option maxHeartbeats 4000000 in
set_option maxRecDepth 100000 in
theorem c_X12_isPaper {P : PP} {x : Nat} {q : Int32} {k : Int32} (F : FM P x) : CtrI yX12_isPaper cX12_isPaper 3 (some Jvm.ClassFile.FieldType.boolean) ({ frames := 4, cells := 0, slots := 0, locals := 256 } : Room) 0 0 P [.ref x, .int q, .int k] (fun r P2 => P = P2 ∧ r = 0) := by
  obtain ⟨hx, hxK, ok, inj, zp, zs, zm, zt, zo, zh⟩ := F
  refine enI (lv := [(0, .ref x), (1, .int q), (2, .int k)]) (by decide) (Nat.le_of_ble_eq_true rfl) rfl (fun E D cy C Ci0 ret => ?_)
  refine g_iload_n C dX12_isPaper_0 rfl 1 rfl ?_
  refine g_callSI (b := 0) (ci := 0) (rest := []) C ms_X12_278 [.int q] (c_X12_isQuarter) rfl rfl (by decide) (by decide) (by decide) dX12_isPaper_1 (fun r14 Q15 h16 => ?_)
  obtain ⟨rfl, h16⟩ := h16
  rcases h16 with ⟨rfl, h16⟩ | ⟨rfl, h16⟩
  · have h16 : 0 ≤ q.toInt ∧ q.toInt ≤ 3 := h16
    refine b_if_eq C 25 dX12_isPaper_4 (by decide) (fun h => absurd h (by decide)) (fun _ => ?_)
    refine g_iload_n C dX12_isPaper_7 rfl 2 rfl ?_
    refine b_if_lt C 25 dX12_isPaper_8 (by decide) (fun h17 => ?_) (fun h17 => ?_)
    · have h17 : k.toInt < 0 := h17
      refine g_iconst (v := 0) C dX12_isPaper_25 (by decide) ?_
      exact ret _ _ _ _ _ _ dX12_isPaper_26 rfl (by decide) (by decide) (⟨rfl, rfl⟩)
    · have h17 : 0 ≤ k.toInt := h17
      refine g_iload_n C dX12_isPaper_11 rfl 2 rfl ?_
      refine g_aload_n C dX12_isPaper_12 rfl 0 rfl ?_
      obtain ⟨b18, h19⟩ := xFd.at (ok x hx) hxK 20 13 20 rfl
      refine g_getR C fi_X12_69 rfl h19.1 hx hxK dX12_isPaper_13 ?_
      refine g_iload_n C dX12_isPaper_16 rfl 1 rfl ?_
      refine g_iald (j := (q.toInt.toNat)) C h19.2.1 h19.2.2.1 (IX.intn (i := q) h19.2.2.2 (by omega) (by omega)) dX12_isPaper_17 ?_
      rw [show pI P b18 ((q.toInt.toNat)) = 0 from zs _ h19.1 _]
      refine b_icmp_ge C 25 dX12_isPaper_18 (by decide) (fun h20 => ?_) (fun h20 => ?_)
      · have h20 : 0 ≤ k.toInt := h20
        refine g_iconst (v := 0) C dX12_isPaper_25 (by decide) ?_
        exact ret _ _ _ _ _ _ dX12_isPaper_26 rfl (by decide) (by decide) (⟨rfl, rfl⟩)
      · have h20 : k.toInt < 0 := h20
        omega
  · have h16 : ¬ (0 ≤ q.toInt ∧ q.toInt ≤ 3) := h16
    refine b_if_eq C 25 dX12_isPaper_4 (by decide) (fun _ => ?_) (fun h => absurd h (by decide))
    refine g_iconst (v := 0) C dX12_isPaper_25 (by decide) ?_
    exact ret _ _ _ _ _ _ dX12_isPaper_26 rfl (by decide) (by decide) (⟨rfl, rfl⟩)
theorem dX12_isAsked_0 : decode cX12_isAsked 0 = .ok (.iload_n 1, 1) := by decide +kernel
theorem dX12_isAsked_1 : decode cX12_isAsked 1 = .ok (.invokestatic 278, 3) := by decide +kernel
theorem dX12_isAsked_4 : decode cX12_isAsked 4 = .ok (.ifCond .eq 24, 3) := by decide +kernel
theorem dX12_isAsked_7 : decode cX12_isAsked 7 = .ok (.aload_n 0, 1) := by decide +kernel
theorem dX12_isAsked_8 : decode cX12_isAsked 8 = .ok (.iload_n 2, 1) := by decide +kernel
theorem dX12_isAsked_9 : decode cX12_isAsked 9 = .ok (.invokevirtual 192, 3) := by decide +kernel
theorem dX12_isAsked_12 : decode cX12_isAsked 12 = .ok (.ifCond .eq 16, 3) := by decide +kernel
theorem dX12_isAsked_28 : decode cX12_isAsked 28 = .ok (.iconst 0, 1) := by decide +kernel
theorem dX12_isAsked_29 : decode cX12_isAsked 29 = .ok (.ireturn, 1) := by decide +kernel
set_option maxHeartbeats 4000000 in
set_option maxRecDepth 100000 in
theorem c_X12_isAsked {P : PP} {x : Nat} {q : Int32} {b : Int32} {o : Int32} (F : FM P x) : CtrI yX12_isAsked cX12_isAsked 4 (some Jvm.ClassFile.FieldType.boolean) ({ frames := 4, cells := 0, slots := 0, locals := 256 } : Room) 0 0 P [.ref x, .int q, .int b, .int o] (fun r P2 => P = P2 ∧ r = 0) := by
  obtain ⟨hx, hxK, ok, inj, zp, zs, zm, zt, zo, zh⟩ := F
  refine enI (lv := [(0, .ref x), (1, .int q), (2, .int b), (3, .int o)]) (by decide) (Nat.le_of_ble_eq_true rfl) rfl (fun E D cy C Ci0 ret => ?_)
  refine g_iload_n C dX12_isAsked_0 rfl 1 rfl ?_
  refine g_callSI (b := 0) (ci := 0) (rest := []) C ms_X12_278 [.int q] (c_X12_isQuarter) rfl rfl (by decide) (by decide) (by decide) dX12_isAsked_1 (fun r21 Q22 h23 => ?_)
  obtain ⟨rfl, h23⟩ := h23
  rcases h23 with ⟨rfl, h23⟩ | ⟨rfl, h23⟩
  · have h23 : 0 ≤ q.toInt ∧ q.toInt ≤ 3 := h23
    refine b_if_eq C 28 dX12_isAsked_4 (by decide) (fun h => absurd h (by decide)) (fun _ => ?_)
    refine g_aload_n C dX12_isAsked_7 rfl 0 rfl ?_
    refine g_iload_n C dX12_isAsked_8 rfl 2 rfl ?_
    refine g_callVI (rest := []) C mv_X12_192 [.int b] (c_X12_isBook ⟨hx, hxK, ok, inj, zp, zs, zm, zt, zo, zh⟩) hx hxK rfl rfl (by decide) (by decide) (by decide) dX12_isAsked_9 (fun r24 Q25 h26 => ?_)
    obtain ⟨rfl, rfl⟩ := h26
    refine b_if_eq C 28 dX12_isAsked_12 (by decide) (fun _ => ?_) (fun h => absurd h (by decide))
    refine g_iconst (v := 0) C dX12_isAsked_28 (by decide) ?_
    exact ret _ _ _ _ _ _ dX12_isAsked_29 rfl (by decide) (by decide) (⟨rfl, rfl⟩)
  · have h23 : ¬ (0 ≤ q.toInt ∧ q.toInt ≤ 3) := h23
    refine b_if_eq C 28 dX12_isAsked_4 (by decide) (fun _ => ?_) (fun h => absurd h (by decide))
    refine g_iconst (v := 0) C dX12_isAsked_28 (by decide) ?_
    exact ret _ _ _ _ _ _ dX12_isAsked_29 rfl (by decide) (by decide) (⟨rfl, rfl⟩)
theorem dX12_areChances_0 : decode cX12_areChances 0 = .ok (.aload_n 0, 1) := by decide +kernel
theorem dX12_areChances_1 : decode cX12_areChances 1 = .ok (.iload_n 1, 1) := by decide +kernel
theorem dX12_areChances_2 : decode cX12_areChances 2 = .ok (.invokevirtual 192, 3) := by decide +kernel
theorem dX12_areChances_5 : decode cX12_areChances 5 = .ok (.ifCond .eq 26, 3) := by decide +kernel
theorem dX12_areChances_31 : decode cX12_areChances 31 = .ok (.iconst 0, 1) := by decide +kernel
theorem dX12_areChances_32 : decode cX12_areChances 32 = .ok (.ireturn, 1) := by decide +kernel
set_option maxHeartbeats 4000000 in
set_option maxRecDepth 100000 in
theorem c_X12_areChances {P : PP} {x : Nat} {q : Int32} {b : Int32} {o : Int32} (F : FM P x) : CtrI yX12_areChances cX12_areChances 4 (some Jvm.ClassFile.FieldType.boolean) ({ frames := 4, cells := 0, slots := 0, locals := 256 } : Room) 0 0 P [.ref x, .int q, .int b, .int o] (fun r P2 => P = P2 ∧ r = 0) := by
  obtain ⟨hx, hxK, ok, inj, zp, zs, zm, zt, zo, zh⟩ := F
  refine enI (lv := [(0, .ref x), (1, .int q), (2, .int b), (3, .int o)]) (by decide) (Nat.le_of_ble_eq_true rfl) rfl (fun E D cy C Ci0 ret => ?_)
  refine g_aload_n C dX12_areChances_0 rfl 0 rfl ?_
  refine g_iload_n C dX12_areChances_1 rfl 1 rfl ?_
  refine g_callVI (rest := []) C mv_X12_192 [.int q] (c_X12_isBook ⟨hx, hxK, ok, inj, zp, zs, zm, zt, zo, zh⟩) hx hxK rfl rfl (by decide) (by decide) (by decide) dX12_areChances_2 (fun r27 Q28 h29 => ?_)
  obtain ⟨rfl, rfl⟩ := h29
  refine b_if_eq C 31 dX12_areChances_5 (by decide) (fun _ => ?_) (fun h => absurd h (by decide))
  refine g_iconst (v := 0) C dX12_areChances_31 (by decide) ?_
  exact ret _ _ _ _ _ _ dX12_areChances_32 rfl (by decide) (by decide) (⟨rfl, rfl⟩)
theorem dX12_leaflet_0 : decode cX12_leaflet 0 = .ok (.aload_n 0, 1) := by decide +kernel
theorem dX12_leaflet_1 : decode cX12_leaflet 1 = .ok (.iconst 0, 1) := by decide +kernel
theorem dX12_leaflet_2 : decode cX12_leaflet 2 = .ok (.putfield 1, 3) := by decide +kernel
theorem dX12_leaflet_5 : decode cX12_leaflet 5 = .ok (.aload_n 0, 1) := by decide +kernel
theorem dX12_leaflet_6 : decode cX12_leaflet 6 = .ok (.iload_n 1, 1) := by decide +kernel
theorem dX12_leaflet_7 : decode cX12_leaflet 7 = .ok (.invokevirtual 192, 3) := by decide +kernel
theorem dX12_leaflet_10 : decode cX12_leaflet 10 = .ok (.ifCond .eq 19, 3) := by decide +kernel
theorem dX12_leaflet_29 : decode cX12_leaflet 29 = .ok (.iconst (-1), 1) := by decide +kernel
theorem dX12_leaflet_30 : decode cX12_leaflet 30 = .ok (.ireturn, 1) := by decide +kernel
set_option maxHeartbeats 4000000 in
set_option maxRecDepth 100000 in
theorem c_X12_leaflet {P : PP} {x : Nat} {p0 : Int32} {p1 : Int32} {p2 : Int32} (F : FM P x) : CtrI yX12_leaflet cX12_leaflet 5 (some Jvm.ClassFile.FieldType.int) ({ frames := 5, cells := 0, slots := 0, locals := 320 } : Room) 0 0 P [.ref x, .int p0, .int p1, .int p2] (fun r _ => r = -1) := by
  refine enI (lv := [(0, .ref x), (1, .int p0), (2, .int p1), (3, .int p2)]) (by decide) (Nat.le_of_ble_eq_true rfl) rfl (fun E D cy C Ci0 ret => ?_)
  refine g_aload_n C dX12_leaflet_0 rfl 0 rfl ?_
  refine g_iconst (v := 0) C dX12_leaflet_1 (by decide) ?_
  refine g_putI C fi_X12_1 rfl F.1 F.2.1 dX12_leaflet_2 ?_
  have F := F.thrown (v := 0)
  generalize pSI P x 0 0 = P1 at F ⊢
  obtain ⟨hx, hxK, ok, inj, zp, zs, zm, zt, zo, zh⟩ := F
  refine g_aload_n C dX12_leaflet_5 rfl 0 rfl ?_
  refine g_iload_n C dX12_leaflet_6 rfl 1 rfl ?_
  refine g_callVI (rest := []) C mv_X12_192 [.int p0] (c_X12_isBook ⟨hx, hxK, ok, inj, zp, zs, zm, zt, zo, zh⟩) hx hxK rfl rfl (by decide) (by decide) (by decide) dX12_leaflet_7 (fun r30 Q31 h32 => ?_)
  obtain ⟨rfl, rfl⟩ := h32
  refine b_if_eq C 29 dX12_leaflet_10 (by decide) (fun _ => ?_) (fun h => absurd h (by decide))
  refine g_iconst (v := (-1)) C dX12_leaflet_29 (by decide) ?_
  exact ret _ _ _ _ _ _ dX12_leaflet_30 rfl (by decide) (by decide) (rfl)
theorem dX12_told_0 : decode cX12_told 0 = .ok (.aload_n 0, 1) := by decide +kernel
theorem dX12_told_1 : decode cX12_told 1 = .ok (.iconst 0, 1) := by decide +kernel
theorem dX12_told_2 : decode cX12_told 2 = .ok (.putfield 1, 3) := by decide +kernel
theorem dX12_told_5 : decode cX12_told 5 = .ok (.aload_n 0, 1) := by decide +kernel
theorem dX12_told_6 : decode cX12_told 6 = .ok (.iload_n 1, 1) := by decide +kernel
theorem dX12_told_7 : decode cX12_told 7 = .ok (.invokevirtual 192, 3) := by decide +kernel
theorem dX12_told_10 : decode cX12_told 10 = .ok (.ifCond .eq 27, 3) := by decide +kernel
theorem dX12_told_37 : decode cX12_told 37 = .ok (.iconst (-1), 1) := by decide +kernel
theorem dX12_told_38 : decode cX12_told 38 = .ok (.ireturn, 1) := by decide +kernel
set_option maxHeartbeats 4000000 in
set_option maxRecDepth 100000 in
theorem c_X12_told {P : PP} {x : Nat} {p0 : Int32} {p1 : Int32} (F : FM P x) : CtrI yX12_told cX12_told 3 (some Jvm.ClassFile.FieldType.int) ({ frames := 5, cells := 0, slots := 0, locals := 320 } : Room) 0 0 P [.ref x, .int p0, .int p1] (fun r _ => r = -1) := by
  refine enI (lv := [(0, .ref x), (1, .int p0), (2, .int p1)]) (by decide) (Nat.le_of_ble_eq_true rfl) rfl (fun E D cy C Ci0 ret => ?_)
  refine g_aload_n C dX12_told_0 rfl 0 rfl ?_
  refine g_iconst (v := 0) C dX12_told_1 (by decide) ?_
  refine g_putI C fi_X12_1 rfl F.1 F.2.1 dX12_told_2 ?_
  have F := F.thrown (v := 0)
  generalize pSI P x 0 0 = P1 at F ⊢
  obtain ⟨hx, hxK, ok, inj, zp, zs, zm, zt, zo, zh⟩ := F
  refine g_aload_n C dX12_told_5 rfl 0 rfl ?_
  refine g_iload_n C dX12_told_6 rfl 1 rfl ?_
  refine g_callVI (rest := []) C mv_X12_192 [.int p0] (c_X12_isBook ⟨hx, hxK, ok, inj, zp, zs, zm, zt, zo, zh⟩) hx hxK rfl rfl (by decide) (by decide) (by decide) dX12_told_7 (fun r33 Q34 h35 => ?_)
  obtain ⟨rfl, rfl⟩ := h35
  refine b_if_eq C 37 dX12_told_10 (by decide) (fun _ => ?_) (fun h => absurd h (by decide))
  refine g_iconst (v := (-1)) C dX12_told_37 (by decide) ?_
  exact ret _ _ _ _ _ _ dX12_told_38 rfl (by decide) (by decide) (rfl)
theorem dX12_comes_0 : decode cX12_comes 0 = .ok (.aload_n 0, 1) := by decide +kernel
theorem dX12_comes_1 : decode cX12_comes 1 = .ok (.iconst 0, 1) := by decide +kernel
theorem dX12_comes_2 : decode cX12_comes 2 = .ok (.putfield 1, 3) := by decide +kernel
theorem dX12_comes_5 : decode cX12_comes 5 = .ok (.iload_n 1, 1) := by decide +kernel
theorem dX12_comes_6 : decode cX12_comes 6 = .ok (.invokestatic 278, 3) := by decide +kernel
theorem dX12_comes_9 : decode cX12_comes 9 = .ok (.ifCond .eq 39, 3) := by decide +kernel
theorem dX12_comes_12 : decode cX12_comes 12 = .ok (.aload_n 0, 1) := by decide +kernel
theorem dX12_comes_13 : decode cX12_comes 13 = .ok (.iload_n 2, 1) := by decide +kernel
theorem dX12_comes_14 : decode cX12_comes 14 = .ok (.invokevirtual 192, 3) := by decide +kernel
theorem dX12_comes_17 : decode cX12_comes 17 = .ok (.ifCond .eq 31, 3) := by decide +kernel
theorem dX12_comes_48 : decode cX12_comes 48 = .ok (.iconst (-1), 1) := by decide +kernel
theorem dX12_comes_49 : decode cX12_comes 49 = .ok (.ireturn, 1) := by decide +kernel
set_option maxHeartbeats 4000000 in
set_option maxRecDepth 100000 in
theorem c_X12_comes {P : PP} {x : Nat} {p0 : Int32} {p1 : Int32} {p2 : Int32} {p3 : Int32} (F : FM P x) : CtrI yX12_comes cX12_comes 6 (some Jvm.ClassFile.FieldType.int) ({ frames := 5, cells := 0, slots := 0, locals := 320 } : Room) 0 0 P [.ref x, .int p0, .int p1, .int p2, .int p3] (fun r _ => r = -1) := by
  refine enI (lv := [(0, .ref x), (1, .int p0), (2, .int p1), (3, .int p2), (4, .int p3)]) (by decide) (Nat.le_of_ble_eq_true rfl) rfl (fun E D cy C Ci0 ret => ?_)
  refine g_aload_n C dX12_comes_0 rfl 0 rfl ?_
  refine g_iconst (v := 0) C dX12_comes_1 (by decide) ?_
  refine g_putI C fi_X12_1 rfl F.1 F.2.1 dX12_comes_2 ?_
  have F := F.thrown (v := 0)
  generalize pSI P x 0 0 = P1 at F ⊢
  obtain ⟨hx, hxK, ok, inj, zp, zs, zm, zt, zo, zh⟩ := F
  refine g_iload_n C dX12_comes_5 rfl 1 rfl ?_
  refine g_callSI (b := 0) (ci := 0) (rest := []) C ms_X12_278 [.int p0] (c_X12_isQuarter) rfl rfl (by decide) (by decide) (by decide) dX12_comes_6 (fun r36 Q37 h38 => ?_)
  obtain ⟨rfl, h38⟩ := h38
  rcases h38 with ⟨rfl, h38⟩ | ⟨rfl, h38⟩
  · have h38 : 0 ≤ p0.toInt ∧ p0.toInt ≤ 3 := h38
    refine b_if_eq C 48 dX12_comes_9 (by decide) (fun h => absurd h (by decide)) (fun _ => ?_)
    refine g_aload_n C dX12_comes_12 rfl 0 rfl ?_
    refine g_iload_n C dX12_comes_13 rfl 2 rfl ?_
    refine g_callVI (rest := []) C mv_X12_192 [.int p1] (c_X12_isBook ⟨hx, hxK, ok, inj, zp, zs, zm, zt, zo, zh⟩) hx hxK rfl rfl (by decide) (by decide) (by decide) dX12_comes_14 (fun r39 Q40 h41 => ?_)
    obtain ⟨rfl, rfl⟩ := h41
    refine b_if_eq C 48 dX12_comes_17 (by decide) (fun _ => ?_) (fun h => absurd h (by decide))
    refine g_iconst (v := (-1)) C dX12_comes_48 (by decide) ?_
    exact ret _ _ _ _ _ _ dX12_comes_49 rfl (by decide) (by decide) (rfl)
  · have h38 : ¬ (0 ≤ p0.toInt ∧ p0.toInt ≤ 3) := h38
    refine b_if_eq C 48 dX12_comes_9 (by decide) (fun _ => ?_) (fun h => absurd h (by decide))
    refine g_iconst (v := (-1)) C dX12_comes_48 (by decide) ?_
    exact ret _ _ _ _ _ _ dX12_comes_49 rfl (by decide) (by decide) (rfl)
theorem dX12_slip_0 : decode cX12_slip 0 = .ok (.aload_n 0, 1) := by decide +kernel
theorem dX12_slip_1 : decode cX12_slip 1 = .ok (.iconst 0, 1) := by decide +kernel
theorem dX12_slip_2 : decode cX12_slip 2 = .ok (.putfield 1, 3) := by decide +kernel
theorem dX12_slip_5 : decode cX12_slip 5 = .ok (.iload_n 1, 1) := by decide +kernel
theorem dX12_slip_6 : decode cX12_slip 6 = .ok (.invokestatic 278, 3) := by decide +kernel
theorem dX12_slip_9 : decode cX12_slip 9 = .ok (.ifCond .eq 40, 3) := by decide +kernel
theorem dX12_slip_12 : decode cX12_slip 12 = .ok (.aload_n 0, 1) := by decide +kernel
theorem dX12_slip_13 : decode cX12_slip 13 = .ok (.iload_n 2, 1) := by decide +kernel
theorem dX12_slip_14 : decode cX12_slip 14 = .ok (.invokevirtual 192, 3) := by decide +kernel
theorem dX12_slip_17 : decode cX12_slip 17 = .ok (.ifCond .eq 32, 3) := by decide +kernel
theorem dX12_slip_49 : decode cX12_slip 49 = .ok (.iconst (-1), 1) := by decide +kernel
theorem dX12_slip_50 : decode cX12_slip 50 = .ok (.ireturn, 1) := by decide +kernel
set_option maxHeartbeats 4000000 in
set_option maxRecDepth 100000 in
theorem c_X12_slip {P : PP} {x : Nat} {p0 : Int32} {p1 : Int32} {p2 : Int32} {p3 : Int32} (F : FM P x) : CtrI yX12_slip cX12_slip 6 (some Jvm.ClassFile.FieldType.int) ({ frames := 5, cells := 0, slots := 0, locals := 320 } : Room) 0 0 P [.ref x, .int p0, .int p1, .int p2, .int p3] (fun r _ => r = -1) := by
  refine enI (lv := [(0, .ref x), (1, .int p0), (2, .int p1), (3, .int p2), (4, .int p3)]) (by decide) (Nat.le_of_ble_eq_true rfl) rfl (fun E D cy C Ci0 ret => ?_)
  refine g_aload_n C dX12_slip_0 rfl 0 rfl ?_
  refine g_iconst (v := 0) C dX12_slip_1 (by decide) ?_
  refine g_putI C fi_X12_1 rfl F.1 F.2.1 dX12_slip_2 ?_
  have F := F.thrown (v := 0)
  generalize pSI P x 0 0 = P1 at F ⊢
  obtain ⟨hx, hxK, ok, inj, zp, zs, zm, zt, zo, zh⟩ := F
  refine g_iload_n C dX12_slip_5 rfl 1 rfl ?_
  refine g_callSI (b := 0) (ci := 0) (rest := []) C ms_X12_278 [.int p0] (c_X12_isQuarter) rfl rfl (by decide) (by decide) (by decide) dX12_slip_6 (fun r42 Q43 h44 => ?_)
  obtain ⟨rfl, h44⟩ := h44
  rcases h44 with ⟨rfl, h44⟩ | ⟨rfl, h44⟩
  · have h44 : 0 ≤ p0.toInt ∧ p0.toInt ≤ 3 := h44
    refine b_if_eq C 49 dX12_slip_9 (by decide) (fun h => absurd h (by decide)) (fun _ => ?_)
    refine g_aload_n C dX12_slip_12 rfl 0 rfl ?_
    refine g_iload_n C dX12_slip_13 rfl 2 rfl ?_
    refine g_callVI (rest := []) C mv_X12_192 [.int p1] (c_X12_isBook ⟨hx, hxK, ok, inj, zp, zs, zm, zt, zo, zh⟩) hx hxK rfl rfl (by decide) (by decide) (by decide) dX12_slip_14 (fun r45 Q46 h47 => ?_)
    obtain ⟨rfl, rfl⟩ := h47
    refine b_if_eq C 49 dX12_slip_17 (by decide) (fun _ => ?_) (fun h => absurd h (by decide))
    refine g_iconst (v := (-1)) C dX12_slip_49 (by decide) ?_
    exact ret _ _ _ _ _ _ dX12_slip_50 rfl (by decide) (by decide) (rfl)
  · have h44 : ¬ (0 ≤ p0.toInt ∧ p0.toInt ≤ 3) := h44
    refine b_if_eq C 49 dX12_slip_9 (by decide) (fun _ => ?_) (fun h => absurd h (by decide))
    refine g_iconst (v := (-1)) C dX12_slip_49 (by decide) ?_
    exact ret _ _ _ _ _ _ dX12_slip_50 rfl (by decide) (by decide) (rfl)
theorem dX12_forged_0 : decode cX12_forged 0 = .ok (.aload_n 0, 1) := by decide +kernel
theorem dX12_forged_1 : decode cX12_forged 1 = .ok (.iconst 0, 1) := by decide +kernel
theorem dX12_forged_2 : decode cX12_forged 2 = .ok (.putfield 1, 3) := by decide +kernel
theorem dX12_forged_5 : decode cX12_forged 5 = .ok (.iload_n 1, 1) := by decide +kernel
theorem dX12_forged_6 : decode cX12_forged 6 = .ok (.invokestatic 278, 3) := by decide +kernel
theorem dX12_forged_9 : decode cX12_forged 9 = .ok (.ifCond .eq 45, 3) := by decide +kernel
theorem dX12_forged_12 : decode cX12_forged 12 = .ok (.aload_n 0, 1) := by decide +kernel
theorem dX12_forged_13 : decode cX12_forged 13 = .ok (.iload_n 2, 1) := by decide +kernel
theorem dX12_forged_14 : decode cX12_forged 14 = .ok (.invokevirtual 192, 3) := by decide +kernel
theorem dX12_forged_17 : decode cX12_forged 17 = .ok (.ifCond .eq 37, 3) := by decide +kernel
theorem dX12_forged_54 : decode cX12_forged 54 = .ok (.iconst 0, 1) := by decide +kernel
theorem dX12_forged_55 : decode cX12_forged 55 = .ok (.istore 6, 2) := by decide +kernel
theorem dX12_forged_57 : decode cX12_forged 57 = .ok (.iload 6, 2) := by decide +kernel
theorem dX12_forged_59 : decode cX12_forged 59 = .ok (.ifCond .eq 28, 3) := by decide +kernel
theorem dX12_forged_87 : decode cX12_forged 87 = .ok (.iconst (-1), 1) := by decide +kernel
theorem dX12_forged_88 : decode cX12_forged 88 = .ok (.ireturn, 1) := by decide +kernel
set_option maxHeartbeats 4000000 in
set_option maxRecDepth 100000 in
theorem c_X12_forged {P : PP} {x : Nat} {p0 : Int32} {p1 : Int32} {p2 : Int32} {p3 : Int32} {p4 : Int32} (F : FM P x) : CtrI yX12_forged cX12_forged 7 (some Jvm.ClassFile.FieldType.int) ({ frames := 5, cells := 0, slots := 0, locals := 320 } : Room) 0 0 P [.ref x, .int p0, .int p1, .int p2, .int p3, .int p4] (fun r _ => r = -1) := by
  refine enI (lv := [(0, .ref x), (1, .int p0), (2, .int p1), (3, .int p2), (4, .int p3), (5, .int p4)]) (by decide) (Nat.le_of_ble_eq_true rfl) rfl (fun E D cy C Ci0 ret => ?_)
  refine g_aload_n C dX12_forged_0 rfl 0 rfl ?_
  refine g_iconst (v := 0) C dX12_forged_1 (by decide) ?_
  refine g_putI C fi_X12_1 rfl F.1 F.2.1 dX12_forged_2 ?_
  have F := F.thrown (v := 0)
  generalize pSI P x 0 0 = P1 at F ⊢
  obtain ⟨hx, hxK, ok, inj, zp, zs, zm, zt, zo, zh⟩ := F
  refine g_iload_n C dX12_forged_5 rfl 1 rfl ?_
  refine g_callSI (b := 0) (ci := 0) (rest := []) C ms_X12_278 [.int p0] (c_X12_isQuarter) rfl rfl (by decide) (by decide) (by decide) dX12_forged_6 (fun r48 Q49 h50 => ?_)
  obtain ⟨rfl, h50⟩ := h50
  rcases h50 with ⟨rfl, h50⟩ | ⟨rfl, h50⟩
  · have h50 : 0 ≤ p0.toInt ∧ p0.toInt ≤ 3 := h50
    refine b_if_eq C 54 dX12_forged_9 (by decide) (fun h => absurd h (by decide)) (fun _ => ?_)
    refine g_aload_n C dX12_forged_12 rfl 0 rfl ?_
    refine g_iload_n C dX12_forged_13 rfl 2 rfl ?_
    refine g_callVI (rest := []) C mv_X12_192 [.int p1] (c_X12_isBook ⟨hx, hxK, ok, inj, zp, zs, zm, zt, zo, zh⟩) hx hxK rfl rfl (by decide) (by decide) (by decide) dX12_forged_14 (fun r51 Q52 h53 => ?_)
    obtain ⟨rfl, rfl⟩ := h53
    refine b_if_eq C 54 dX12_forged_17 (by decide) (fun _ => ?_) (fun h => absurd h (by decide))
    refine g_iconst (v := 0) C dX12_forged_54 (by decide) ?_
    refine g_istore (lv' := [(6, .int 0), (0, .ref x), (1, .int p0), (2, .int p1), (3, .int p2), (4, .int p3), (5, .int p4)]) C dX12_forged_55 (by decide) rfl ?_
    refine g_iload C dX12_forged_57 0 rfl ?_
    refine b_if_eq C 87 dX12_forged_59 (by decide) (fun _ => ?_) (fun h => absurd h (by decide))
    refine g_iconst (v := (-1)) C dX12_forged_87 (by decide) ?_
    exact ret _ _ _ _ _ _ dX12_forged_88 rfl (by decide) (by decide) (rfl)
  · have h50 : ¬ (0 ≤ p0.toInt ∧ p0.toInt ≤ 3) := h50
    refine b_if_eq C 54 dX12_forged_9 (by decide) (fun _ => ?_) (fun h => absurd h (by decide))
    refine g_iconst (v := 0) C dX12_forged_54 (by decide) ?_
    refine g_istore (lv' := [(6, .int 0), (0, .ref x), (1, .int p0), (2, .int p1), (3, .int p2), (4, .int p3), (5, .int p4)]) C dX12_forged_55 (by decide) rfl ?_
    refine g_iload C dX12_forged_57 0 rfl ?_
    refine b_if_eq C 87 dX12_forged_59 (by decide) (fun _ => ?_) (fun h => absurd h (by decide))
    refine g_iconst (v := (-1)) C dX12_forged_87 (by decide) ?_
    exact ret _ _ _ _ _ _ dX12_forged_88 rfl (by decide) (by decide) (rfl)
theorem dX12_peels_0 : decode cX12_peels 0 = .ok (.aload_n 0, 1) := by decide +kernel
theorem dX12_peels_1 : decode cX12_peels 1 = .ok (.iconst 0, 1) := by decide +kernel
theorem dX12_peels_2 : decode cX12_peels 2 = .ok (.putfield 1, 3) := by decide +kernel
theorem dX12_peels_5 : decode cX12_peels 5 = .ok (.aload_n 0, 1) := by decide +kernel
theorem dX12_peels_6 : decode cX12_peels 6 = .ok (.iload_n 1, 1) := by decide +kernel
theorem dX12_peels_7 : decode cX12_peels 7 = .ok (.iload_n 2, 1) := by decide +kernel
theorem dX12_peels_8 : decode cX12_peels 8 = .ok (.iload_n 3, 1) := by decide +kernel
theorem dX12_peels_9 : decode cX12_peels 9 = .ok (.invokevirtual 333, 3) := by decide +kernel
theorem dX12_peels_12 : decode cX12_peels 12 = .ok (.ifCond .eq 13, 3) := by decide +kernel
theorem dX12_peels_25 : decode cX12_peels 25 = .ok (.iconst (-1), 1) := by decide +kernel
theorem dX12_peels_26 : decode cX12_peels 26 = .ok (.ireturn, 1) := by decide +kernel
set_option maxHeartbeats 4000000 in
set_option maxRecDepth 100000 in
theorem c_X12_peels {P : PP} {x : Nat} {p0 : Int32} {p1 : Int32} {p2 : Int32} {p3 : Int32} (F : FM P x) : CtrI yX12_peels cX12_peels 8 (some Jvm.ClassFile.FieldType.int) ({ frames := 5, cells := 0, slots := 0, locals := 320 } : Room) 0 0 P [.ref x, .int p0, .int p1, .int p2, .int p3] (fun r _ => r = -1) := by
  refine enI (lv := [(0, .ref x), (1, .int p0), (2, .int p1), (3, .int p2), (4, .int p3)]) (by decide) (Nat.le_of_ble_eq_true rfl) rfl (fun E D cy C Ci0 ret => ?_)
  refine g_aload_n C dX12_peels_0 rfl 0 rfl ?_
  refine g_iconst (v := 0) C dX12_peels_1 (by decide) ?_
  refine g_putI C fi_X12_1 rfl F.1 F.2.1 dX12_peels_2 ?_
  have F := F.thrown (v := 0)
  generalize pSI P x 0 0 = P1 at F ⊢
  obtain ⟨hx, hxK, ok, inj, zp, zs, zm, zt, zo, zh⟩ := F
  refine g_aload_n C dX12_peels_5 rfl 0 rfl ?_
  refine g_iload_n C dX12_peels_6 rfl 1 rfl ?_
  refine g_iload_n C dX12_peels_7 rfl 2 rfl ?_
  refine g_iload_n C dX12_peels_8 rfl 3 rfl ?_
  refine g_callVI (rest := []) C mv_X12_333 [.int p0, .int p1, .int p2] (c_X12_isAsked ⟨hx, hxK, ok, inj, zp, zs, zm, zt, zo, zh⟩) hx hxK rfl rfl (by decide) (by decide) (by decide) dX12_peels_9 (fun r54 Q55 h56 => ?_)
  obtain ⟨rfl, rfl⟩ := h56
  refine b_if_eq C 25 dX12_peels_12 (by decide) (fun _ => ?_) (fun h => absurd h (by decide))
  refine g_iconst (v := (-1)) C dX12_peels_25 (by decide) ?_
  exact ret _ _ _ _ _ _ dX12_peels_26 rfl (by decide) (by decide) (rfl)
theorem dX12_solves_0 : decode cX12_solves 0 = .ok (.aload_n 0, 1) := by decide +kernel
theorem dX12_solves_1 : decode cX12_solves 1 = .ok (.iconst 0, 1) := by decide +kernel
theorem dX12_solves_2 : decode cX12_solves 2 = .ok (.putfield 1, 3) := by decide +kernel
theorem dX12_solves_5 : decode cX12_solves 5 = .ok (.aload_n 0, 1) := by decide +kernel
theorem dX12_solves_6 : decode cX12_solves 6 = .ok (.iload_n 1, 1) := by decide +kernel
theorem dX12_solves_7 : decode cX12_solves 7 = .ok (.iload_n 2, 1) := by decide +kernel
theorem dX12_solves_8 : decode cX12_solves 8 = .ok (.iload_n 3, 1) := by decide +kernel
theorem dX12_solves_9 : decode cX12_solves 9 = .ok (.invokevirtual 333, 3) := by decide +kernel
theorem dX12_solves_12 : decode cX12_solves 12 = .ok (.ifCond .eq 13, 3) := by decide +kernel
theorem dX12_solves_25 : decode cX12_solves 25 = .ok (.iconst (-1), 1) := by decide +kernel
theorem dX12_solves_26 : decode cX12_solves 26 = .ok (.ireturn, 1) := by decide +kernel
set_option maxHeartbeats 4000000 in
set_option maxRecDepth 100000 in
theorem c_X12_solves {P : PP} {x : Nat} {p0 : Int32} {p1 : Int32} {p2 : Int32} {p3 : Int32} (F : FM P x) : CtrI yX12_solves cX12_solves 5 (some Jvm.ClassFile.FieldType.int) ({ frames := 5, cells := 0, slots := 0, locals := 320 } : Room) 0 0 P [.ref x, .int p0, .int p1, .int p2, .int p3] (fun r _ => r = -1) := by
  refine enI (lv := [(0, .ref x), (1, .int p0), (2, .int p1), (3, .int p2), (4, .int p3)]) (by decide) (Nat.le_of_ble_eq_true rfl) rfl (fun E D cy C Ci0 ret => ?_)
  refine g_aload_n C dX12_solves_0 rfl 0 rfl ?_
  refine g_iconst (v := 0) C dX12_solves_1 (by decide) ?_
  refine g_putI C fi_X12_1 rfl F.1 F.2.1 dX12_solves_2 ?_
  have F := F.thrown (v := 0)
  generalize pSI P x 0 0 = P1 at F ⊢
  obtain ⟨hx, hxK, ok, inj, zp, zs, zm, zt, zo, zh⟩ := F
  refine g_aload_n C dX12_solves_5 rfl 0 rfl ?_
  refine g_iload_n C dX12_solves_6 rfl 1 rfl ?_
  refine g_iload_n C dX12_solves_7 rfl 2 rfl ?_
  refine g_iload_n C dX12_solves_8 rfl 3 rfl ?_
  refine g_callVI (rest := []) C mv_X12_333 [.int p0, .int p1, .int p2] (c_X12_isAsked ⟨hx, hxK, ok, inj, zp, zs, zm, zt, zo, zh⟩) hx hxK rfl rfl (by decide) (by decide) (by decide) dX12_solves_9 (fun r57 Q58 h59 => ?_)
  obtain ⟨rfl, rfl⟩ := h59
  refine b_if_eq C 25 dX12_solves_12 (by decide) (fun _ => ?_) (fun h => absurd h (by decide))
  refine g_iconst (v := (-1)) C dX12_solves_25 (by decide) ?_
  exact ret _ _ _ _ _ _ dX12_solves_26 rfl (by decide) (by decide) (rfl)
theorem dX12_read_0 : decode cX12_read 0 = .ok (.aload_n 0, 1) := by decide +kernel
theorem dX12_read_1 : decode cX12_read 1 = .ok (.iconst 0, 1) := by decide +kernel
theorem dX12_read_2 : decode cX12_read 2 = .ok (.putfield 1, 3) := by decide +kernel
theorem dX12_read_5 : decode cX12_read 5 = .ok (.iload_n 1, 1) := by decide +kernel
theorem dX12_read_6 : decode cX12_read 6 = .ok (.invokestatic 278, 3) := by decide +kernel
theorem dX12_read_9 : decode cX12_read 9 = .ok (.ifCond .eq 30, 3) := by decide +kernel
theorem dX12_read_12 : decode cX12_read 12 = .ok (.aload_n 0, 1) := by decide +kernel
theorem dX12_read_13 : decode cX12_read 13 = .ok (.iload_n 2, 1) := by decide +kernel
theorem dX12_read_14 : decode cX12_read 14 = .ok (.invokevirtual 192, 3) := by decide +kernel
theorem dX12_read_17 : decode cX12_read 17 = .ok (.ifCond .eq 22, 3) := by decide +kernel
theorem dX12_read_39 : decode cX12_read 39 = .ok (.iconst (-1), 1) := by decide +kernel
theorem dX12_read_40 : decode cX12_read 40 = .ok (.ireturn, 1) := by decide +kernel
set_option maxHeartbeats 4000000 in
set_option maxRecDepth 100000 in
theorem c_X12_read {P : PP} {x : Nat} {p0 : Int32} {p1 : Int32} {p2 : Int32} {p3 : Int32} (F : FM P x) : CtrI yX12_read cX12_read 5 (some Jvm.ClassFile.FieldType.int) ({ frames := 5, cells := 0, slots := 0, locals := 320 } : Room) 0 0 P [.ref x, .int p0, .int p1, .int p2, .int p3] (fun r _ => r = -1) := by
  refine enI (lv := [(0, .ref x), (1, .int p0), (2, .int p1), (3, .int p2), (4, .int p3)]) (by decide) (Nat.le_of_ble_eq_true rfl) rfl (fun E D cy C Ci0 ret => ?_)
  refine g_aload_n C dX12_read_0 rfl 0 rfl ?_
  refine g_iconst (v := 0) C dX12_read_1 (by decide) ?_
  refine g_putI C fi_X12_1 rfl F.1 F.2.1 dX12_read_2 ?_
  have F := F.thrown (v := 0)
  generalize pSI P x 0 0 = P1 at F ⊢
  obtain ⟨hx, hxK, ok, inj, zp, zs, zm, zt, zo, zh⟩ := F
  refine g_iload_n C dX12_read_5 rfl 1 rfl ?_
  refine g_callSI (b := 0) (ci := 0) (rest := []) C ms_X12_278 [.int p0] (c_X12_isQuarter) rfl rfl (by decide) (by decide) (by decide) dX12_read_6 (fun r60 Q61 h62 => ?_)
  obtain ⟨rfl, h62⟩ := h62
  rcases h62 with ⟨rfl, h62⟩ | ⟨rfl, h62⟩
  · have h62 : 0 ≤ p0.toInt ∧ p0.toInt ≤ 3 := h62
    refine b_if_eq C 39 dX12_read_9 (by decide) (fun h => absurd h (by decide)) (fun _ => ?_)
    refine g_aload_n C dX12_read_12 rfl 0 rfl ?_
    refine g_iload_n C dX12_read_13 rfl 2 rfl ?_
    refine g_callVI (rest := []) C mv_X12_192 [.int p1] (c_X12_isBook ⟨hx, hxK, ok, inj, zp, zs, zm, zt, zo, zh⟩) hx hxK rfl rfl (by decide) (by decide) (by decide) dX12_read_14 (fun r63 Q64 h65 => ?_)
    obtain ⟨rfl, rfl⟩ := h65
    refine b_if_eq C 39 dX12_read_17 (by decide) (fun _ => ?_) (fun h => absurd h (by decide))
    refine g_iconst (v := (-1)) C dX12_read_39 (by decide) ?_
    exact ret _ _ _ _ _ _ dX12_read_40 rfl (by decide) (by decide) (rfl)
  · have h62 : ¬ (0 ≤ p0.toInt ∧ p0.toInt ≤ 3) := h62
    refine b_if_eq C 39 dX12_read_9 (by decide) (fun _ => ?_) (fun h => absurd h (by decide))
    refine g_iconst (v := (-1)) C dX12_read_39 (by decide) ?_
    exact ret _ _ _ _ _ _ dX12_read_40 rfl (by decide) (by decide) (rfl)
theorem dX12_soon_0 : decode cX12_soon 0 = .ok (.aload_n 0, 1) := by decide +kernel
theorem dX12_soon_1 : decode cX12_soon 1 = .ok (.iconst 0, 1) := by decide +kernel
theorem dX12_soon_2 : decode cX12_soon 2 = .ok (.putfield 1, 3) := by decide +kernel
theorem dX12_soon_5 : decode cX12_soon 5 = .ok (.iload_n 1, 1) := by decide +kernel
theorem dX12_soon_6 : decode cX12_soon 6 = .ok (.invokestatic 278, 3) := by decide +kernel
theorem dX12_soon_9 : decode cX12_soon 9 = .ok (.ifCond .eq 30, 3) := by decide +kernel
theorem dX12_soon_12 : decode cX12_soon 12 = .ok (.aload_n 0, 1) := by decide +kernel
theorem dX12_soon_13 : decode cX12_soon 13 = .ok (.iload_n 2, 1) := by decide +kernel
theorem dX12_soon_14 : decode cX12_soon 14 = .ok (.invokevirtual 192, 3) := by decide +kernel
theorem dX12_soon_17 : decode cX12_soon 17 = .ok (.ifCond .eq 22, 3) := by decide +kernel
theorem dX12_soon_39 : decode cX12_soon 39 = .ok (.iconst (-1), 1) := by decide +kernel
theorem dX12_soon_40 : decode cX12_soon 40 = .ok (.ireturn, 1) := by decide +kernel
set_option maxHeartbeats 4000000 in
set_option maxRecDepth 100000 in
theorem c_X12_soon {P : PP} {x : Nat} {p0 : Int32} {p1 : Int32} {p2 : Int32} {p3 : Int32} (F : FM P x) : CtrI yX12_soon cX12_soon 6 (some Jvm.ClassFile.FieldType.int) ({ frames := 5, cells := 0, slots := 0, locals := 320 } : Room) 0 0 P [.ref x, .int p0, .int p1, .int p2, .int p3] (fun r _ => r = -1) := by
  refine enI (lv := [(0, .ref x), (1, .int p0), (2, .int p1), (3, .int p2), (4, .int p3)]) (by decide) (Nat.le_of_ble_eq_true rfl) rfl (fun E D cy C Ci0 ret => ?_)
  refine g_aload_n C dX12_soon_0 rfl 0 rfl ?_
  refine g_iconst (v := 0) C dX12_soon_1 (by decide) ?_
  refine g_putI C fi_X12_1 rfl F.1 F.2.1 dX12_soon_2 ?_
  have F := F.thrown (v := 0)
  generalize pSI P x 0 0 = P1 at F ⊢
  obtain ⟨hx, hxK, ok, inj, zp, zs, zm, zt, zo, zh⟩ := F
  refine g_iload_n C dX12_soon_5 rfl 1 rfl ?_
  refine g_callSI (b := 0) (ci := 0) (rest := []) C ms_X12_278 [.int p0] (c_X12_isQuarter) rfl rfl (by decide) (by decide) (by decide) dX12_soon_6 (fun r66 Q67 h68 => ?_)
  obtain ⟨rfl, h68⟩ := h68
  rcases h68 with ⟨rfl, h68⟩ | ⟨rfl, h68⟩
  · have h68 : 0 ≤ p0.toInt ∧ p0.toInt ≤ 3 := h68
    refine b_if_eq C 39 dX12_soon_9 (by decide) (fun h => absurd h (by decide)) (fun _ => ?_)
    refine g_aload_n C dX12_soon_12 rfl 0 rfl ?_
    refine g_iload_n C dX12_soon_13 rfl 2 rfl ?_
    refine g_callVI (rest := []) C mv_X12_192 [.int p1] (c_X12_isBook ⟨hx, hxK, ok, inj, zp, zs, zm, zt, zo, zh⟩) hx hxK rfl rfl (by decide) (by decide) (by decide) dX12_soon_14 (fun r69 Q70 h71 => ?_)
    obtain ⟨rfl, rfl⟩ := h71
    refine b_if_eq C 39 dX12_soon_17 (by decide) (fun _ => ?_) (fun h => absurd h (by decide))
    refine g_iconst (v := (-1)) C dX12_soon_39 (by decide) ?_
    exact ret _ _ _ _ _ _ dX12_soon_40 rfl (by decide) (by decide) (rfl)
  · have h68 : ¬ (0 ≤ p0.toInt ∧ p0.toInt ≤ 3) := h68
    refine b_if_eq C 39 dX12_soon_9 (by decide) (fun _ => ?_) (fun h => absurd h (by decide))
    refine g_iconst (v := (-1)) C dX12_soon_39 (by decide) ?_
    exact ret _ _ _ _ _ _ dX12_soon_40 rfl (by decide) (by decide) (rfl)
theorem dX12_slipped_0 : decode cX12_slipped 0 = .ok (.aload_n 0, 1) := by decide +kernel
theorem dX12_slipped_1 : decode cX12_slipped 1 = .ok (.iconst 0, 1) := by decide +kernel
theorem dX12_slipped_2 : decode cX12_slipped 2 = .ok (.putfield 1, 3) := by decide +kernel
theorem dX12_slipped_5 : decode cX12_slipped 5 = .ok (.aload_n 0, 1) := by decide +kernel
theorem dX12_slipped_6 : decode cX12_slipped 6 = .ok (.iload_n 1, 1) := by decide +kernel
theorem dX12_slipped_7 : decode cX12_slipped 7 = .ok (.iload_n 2, 1) := by decide +kernel
theorem dX12_slipped_8 : decode cX12_slipped 8 = .ok (.iload_n 3, 1) := by decide +kernel
theorem dX12_slipped_9 : decode cX12_slipped 9 = .ok (.invokevirtual 333, 3) := by decide +kernel
theorem dX12_slipped_12 : decode cX12_slipped 12 = .ok (.ifCond .eq 23, 3) := by decide +kernel
theorem dX12_slipped_35 : decode cX12_slipped 35 = .ok (.iconst (-1), 1) := by decide +kernel
theorem dX12_slipped_36 : decode cX12_slipped 36 = .ok (.ireturn, 1) := by decide +kernel
set_option maxHeartbeats 4000000 in
set_option maxRecDepth 100000 in
theorem c_X12_slipped {P : PP} {x : Nat} {p0 : Int32} {p1 : Int32} {p2 : Int32} {p3 : Int32} (F : FM P x) : CtrI yX12_slipped cX12_slipped 5 (some Jvm.ClassFile.FieldType.int) ({ frames := 5, cells := 0, slots := 0, locals := 320 } : Room) 0 0 P [.ref x, .int p0, .int p1, .int p2, .int p3] (fun r _ => r = -1) := by
  refine enI (lv := [(0, .ref x), (1, .int p0), (2, .int p1), (3, .int p2), (4, .int p3)]) (by decide) (Nat.le_of_ble_eq_true rfl) rfl (fun E D cy C Ci0 ret => ?_)
  refine g_aload_n C dX12_slipped_0 rfl 0 rfl ?_
  refine g_iconst (v := 0) C dX12_slipped_1 (by decide) ?_
  refine g_putI C fi_X12_1 rfl F.1 F.2.1 dX12_slipped_2 ?_
  have F := F.thrown (v := 0)
  generalize pSI P x 0 0 = P1 at F ⊢
  obtain ⟨hx, hxK, ok, inj, zp, zs, zm, zt, zo, zh⟩ := F
  refine g_aload_n C dX12_slipped_5 rfl 0 rfl ?_
  refine g_iload_n C dX12_slipped_6 rfl 1 rfl ?_
  refine g_iload_n C dX12_slipped_7 rfl 2 rfl ?_
  refine g_iload_n C dX12_slipped_8 rfl 3 rfl ?_
  refine g_callVI (rest := []) C mv_X12_333 [.int p0, .int p1, .int p2] (c_X12_isAsked ⟨hx, hxK, ok, inj, zp, zs, zm, zt, zo, zh⟩) hx hxK rfl rfl (by decide) (by decide) (by decide) dX12_slipped_9 (fun r72 Q73 h74 => ?_)
  obtain ⟨rfl, rfl⟩ := h74
  refine b_if_eq C 35 dX12_slipped_12 (by decide) (fun _ => ?_) (fun h => absurd h (by decide))
  refine g_iconst (v := (-1)) C dX12_slipped_35 (by decide) ?_
  exact ret _ _ _ _ _ _ dX12_slipped_36 rfl (by decide) (by decide) (rfl)
theorem dX12_right_0 : decode cX12_right 0 = .ok (.aload_n 0, 1) := by decide +kernel
theorem dX12_right_1 : decode cX12_right 1 = .ok (.iconst 0, 1) := by decide +kernel
theorem dX12_right_2 : decode cX12_right 2 = .ok (.putfield 1, 3) := by decide +kernel
theorem dX12_right_5 : decode cX12_right 5 = .ok (.aload_n 0, 1) := by decide +kernel
theorem dX12_right_6 : decode cX12_right 6 = .ok (.iload_n 1, 1) := by decide +kernel
theorem dX12_right_7 : decode cX12_right 7 = .ok (.iload_n 2, 1) := by decide +kernel
theorem dX12_right_8 : decode cX12_right 8 = .ok (.iload_n 3, 1) := by decide +kernel
theorem dX12_right_9 : decode cX12_right 9 = .ok (.invokevirtual 333, 3) := by decide +kernel
theorem dX12_right_12 : decode cX12_right 12 = .ok (.ifCond .eq 23, 3) := by decide +kernel
theorem dX12_right_35 : decode cX12_right 35 = .ok (.iconst (-1), 1) := by decide +kernel
theorem dX12_right_36 : decode cX12_right 36 = .ok (.ireturn, 1) := by decide +kernel
set_option maxHeartbeats 4000000 in
set_option maxRecDepth 100000 in
theorem c_X12_right {P : PP} {x : Nat} {p0 : Int32} {p1 : Int32} {p2 : Int32} {p3 : Int32} (F : FM P x) : CtrI yX12_right cX12_right 7 (some Jvm.ClassFile.FieldType.int) ({ frames := 5, cells := 0, slots := 0, locals := 320 } : Room) 0 0 P [.ref x, .int p0, .int p1, .int p2, .int p3] (fun r _ => r = -1) := by
  refine enI (lv := [(0, .ref x), (1, .int p0), (2, .int p1), (3, .int p2), (4, .int p3)]) (by decide) (Nat.le_of_ble_eq_true rfl) rfl (fun E D cy C Ci0 ret => ?_)
  refine g_aload_n C dX12_right_0 rfl 0 rfl ?_
  refine g_iconst (v := 0) C dX12_right_1 (by decide) ?_
  refine g_putI C fi_X12_1 rfl F.1 F.2.1 dX12_right_2 ?_
  have F := F.thrown (v := 0)
  generalize pSI P x 0 0 = P1 at F ⊢
  obtain ⟨hx, hxK, ok, inj, zp, zs, zm, zt, zo, zh⟩ := F
  refine g_aload_n C dX12_right_5 rfl 0 rfl ?_
  refine g_iload_n C dX12_right_6 rfl 1 rfl ?_
  refine g_iload_n C dX12_right_7 rfl 2 rfl ?_
  refine g_iload_n C dX12_right_8 rfl 3 rfl ?_
  refine g_callVI (rest := []) C mv_X12_333 [.int p0, .int p1, .int p2] (c_X12_isAsked ⟨hx, hxK, ok, inj, zp, zs, zm, zt, zo, zh⟩) hx hxK rfl rfl (by decide) (by decide) (by decide) dX12_right_9 (fun r75 Q76 h77 => ?_)
  obtain ⟨rfl, rfl⟩ := h77
  refine b_if_eq C 35 dX12_right_12 (by decide) (fun _ => ?_) (fun h => absurd h (by decide))
  refine g_iconst (v := (-1)) C dX12_right_35 (by decide) ?_
  exact ret _ _ _ _ _ _ dX12_right_36 rfl (by decide) (by decide) (rfl)
theorem dX12_doubles_0 : decode cX12_doubles 0 = .ok (.aload_n 0, 1) := by decide +kernel
theorem dX12_doubles_1 : decode cX12_doubles 1 = .ok (.iconst 0, 1) := by decide +kernel
theorem dX12_doubles_2 : decode cX12_doubles 2 = .ok (.putfield 1, 3) := by decide +kernel
theorem dX12_doubles_5 : decode cX12_doubles 5 = .ok (.aload_n 0, 1) := by decide +kernel
theorem dX12_doubles_6 : decode cX12_doubles 6 = .ok (.iload_n 1, 1) := by decide +kernel
theorem dX12_doubles_7 : decode cX12_doubles 7 = .ok (.iload_n 2, 1) := by decide +kernel
theorem dX12_doubles_8 : decode cX12_doubles 8 = .ok (.iload_n 3, 1) := by decide +kernel
theorem dX12_doubles_9 : decode cX12_doubles 9 = .ok (.invokevirtual 333, 3) := by decide +kernel
theorem dX12_doubles_12 : decode cX12_doubles 12 = .ok (.ifCond .ne 5, 3) := by decide +kernel
theorem dX12_doubles_15 : decode cX12_doubles 15 = .ok (.iconst (-1), 1) := by decide +kernel
theorem dX12_doubles_16 : decode cX12_doubles 16 = .ok (.ireturn, 1) := by decide +kernel
set_option maxHeartbeats 4000000 in
set_option maxRecDepth 100000 in
theorem c_X12_doubles {P : PP} {x : Nat} {p0 : Int32} {p1 : Int32} {p2 : Int32} (F : FM P x) : CtrI yX12_doubles cX12_doubles 8 (some Jvm.ClassFile.FieldType.int) ({ frames := 5, cells := 0, slots := 0, locals := 320 } : Room) 0 0 P [.ref x, .int p0, .int p1, .int p2] (fun r _ => r = -1) := by
  refine enI (lv := [(0, .ref x), (1, .int p0), (2, .int p1), (3, .int p2)]) (by decide) (Nat.le_of_ble_eq_true rfl) rfl (fun E D cy C Ci0 ret => ?_)
  refine g_aload_n C dX12_doubles_0 rfl 0 rfl ?_
  refine g_iconst (v := 0) C dX12_doubles_1 (by decide) ?_
  refine g_putI C fi_X12_1 rfl F.1 F.2.1 dX12_doubles_2 ?_
  have F := F.thrown (v := 0)
  generalize pSI P x 0 0 = P1 at F ⊢
  obtain ⟨hx, hxK, ok, inj, zp, zs, zm, zt, zo, zh⟩ := F
  refine g_aload_n C dX12_doubles_5 rfl 0 rfl ?_
  refine g_iload_n C dX12_doubles_6 rfl 1 rfl ?_
  refine g_iload_n C dX12_doubles_7 rfl 2 rfl ?_
  refine g_iload_n C dX12_doubles_8 rfl 3 rfl ?_
  refine g_callVI (rest := []) C mv_X12_333 [.int p0, .int p1, .int p2] (c_X12_isAsked ⟨hx, hxK, ok, inj, zp, zs, zm, zt, zo, zh⟩) hx hxK rfl rfl (by decide) (by decide) (by decide) dX12_doubles_9 (fun r78 Q79 h80 => ?_)
  obtain ⟨rfl, rfl⟩ := h80
  refine b_if_ne C 17 dX12_doubles_12 (by decide) (fun h => absurd h (by decide)) (fun _ => ?_)
  refine g_iconst (v := (-1)) C dX12_doubles_15 (by decide) ?_
  exact ret _ _ _ _ _ _ dX12_doubles_16 rfl (by decide) (by decide) (rfl)
theorem dX12_guard_0 : decode cX12_guard 0 = .ok (.aload_n 0, 1) := by decide +kernel
theorem dX12_guard_1 : decode cX12_guard 1 = .ok (.iconst 0, 1) := by decide +kernel
theorem dX12_guard_2 : decode cX12_guard 2 = .ok (.putfield 1, 3) := by decide +kernel
theorem dX12_guard_5 : decode cX12_guard 5 = .ok (.aload_n 0, 1) := by decide +kernel
theorem dX12_guard_6 : decode cX12_guard 6 = .ok (.iload_n 1, 1) := by decide +kernel
theorem dX12_guard_7 : decode cX12_guard 7 = .ok (.iload_n 2, 1) := by decide +kernel
theorem dX12_guard_8 : decode cX12_guard 8 = .ok (.iload_n 3, 1) := by decide +kernel
theorem dX12_guard_9 : decode cX12_guard 9 = .ok (.invokevirtual 333, 3) := by decide +kernel
theorem dX12_guard_12 : decode cX12_guard 12 = .ok (.ifCond .eq 13, 3) := by decide +kernel
theorem dX12_guard_25 : decode cX12_guard 25 = .ok (.iconst (-1), 1) := by decide +kernel
theorem dX12_guard_26 : decode cX12_guard 26 = .ok (.ireturn, 1) := by decide +kernel
set_option maxHeartbeats 4000000 in
set_option maxRecDepth 100000 in
theorem c_X12_guard {P : PP} {x : Nat} {p0 : Int32} {p1 : Int32} {p2 : Int32} {p3 : Int32} (F : FM P x) : CtrI yX12_guard cX12_guard 9 (some Jvm.ClassFile.FieldType.int) ({ frames := 5, cells := 0, slots := 0, locals := 320 } : Room) 0 0 P [.ref x, .int p0, .int p1, .int p2, .int p3] (fun r _ => r = -1) := by
  refine enI (lv := [(0, .ref x), (1, .int p0), (2, .int p1), (3, .int p2), (4, .int p3)]) (by decide) (Nat.le_of_ble_eq_true rfl) rfl (fun E D cy C Ci0 ret => ?_)
  refine g_aload_n C dX12_guard_0 rfl 0 rfl ?_
  refine g_iconst (v := 0) C dX12_guard_1 (by decide) ?_
  refine g_putI C fi_X12_1 rfl F.1 F.2.1 dX12_guard_2 ?_
  have F := F.thrown (v := 0)
  generalize pSI P x 0 0 = P1 at F ⊢
  obtain ⟨hx, hxK, ok, inj, zp, zs, zm, zt, zo, zh⟩ := F
  refine g_aload_n C dX12_guard_5 rfl 0 rfl ?_
  refine g_iload_n C dX12_guard_6 rfl 1 rfl ?_
  refine g_iload_n C dX12_guard_7 rfl 2 rfl ?_
  refine g_iload_n C dX12_guard_8 rfl 3 rfl ?_
  refine g_callVI (rest := []) C mv_X12_333 [.int p0, .int p1, .int p2] (c_X12_isAsked ⟨hx, hxK, ok, inj, zp, zs, zm, zt, zo, zh⟩) hx hxK rfl rfl (by decide) (by decide) (by decide) dX12_guard_9 (fun r81 Q82 h83 => ?_)
  obtain ⟨rfl, rfl⟩ := h83
  refine b_if_eq C 25 dX12_guard_12 (by decide) (fun _ => ?_) (fun h => absurd h (by decide))
  refine g_iconst (v := (-1)) C dX12_guard_25 (by decide) ?_
  exact ret _ _ _ _ _ _ dX12_guard_26 rfl (by decide) (by decide) (rfl)
theorem dX12_tocome_0 : decode cX12_tocome 0 = .ok (.aload_n 0, 1) := by decide +kernel
theorem dX12_tocome_1 : decode cX12_tocome 1 = .ok (.iconst 0, 1) := by decide +kernel
theorem dX12_tocome_2 : decode cX12_tocome 2 = .ok (.putfield 1, 3) := by decide +kernel
theorem dX12_tocome_5 : decode cX12_tocome 5 = .ok (.iload_n 1, 1) := by decide +kernel
theorem dX12_tocome_6 : decode cX12_tocome 6 = .ok (.invokestatic 278, 3) := by decide +kernel
theorem dX12_tocome_9 : decode cX12_tocome 9 = .ok (.ifCond .eq 20, 3) := by decide +kernel
theorem dX12_tocome_12 : decode cX12_tocome 12 = .ok (.aload_n 0, 1) := by decide +kernel
theorem dX12_tocome_13 : decode cX12_tocome 13 = .ok (.iload_n 2, 1) := by decide +kernel
theorem dX12_tocome_14 : decode cX12_tocome 14 = .ok (.invokevirtual 192, 3) := by decide +kernel
theorem dX12_tocome_17 : decode cX12_tocome 17 = .ok (.ifCond .eq 12, 3) := by decide +kernel
theorem dX12_tocome_29 : decode cX12_tocome 29 = .ok (.iconst (-1), 1) := by decide +kernel
theorem dX12_tocome_30 : decode cX12_tocome 30 = .ok (.ireturn, 1) := by decide +kernel
set_option maxHeartbeats 4000000 in
set_option maxRecDepth 100000 in
theorem c_X12_tocome {P : PP} {x : Nat} {p0 : Int32} {p1 : Int32} {p2 : Int32} (F : FM P x) : CtrI yX12_tocome cX12_tocome 6 (some Jvm.ClassFile.FieldType.int) ({ frames := 5, cells := 0, slots := 0, locals := 320 } : Room) 0 0 P [.ref x, .int p0, .int p1, .int p2] (fun r _ => r = -1) := by
  refine enI (lv := [(0, .ref x), (1, .int p0), (2, .int p1), (3, .int p2)]) (by decide) (Nat.le_of_ble_eq_true rfl) rfl (fun E D cy C Ci0 ret => ?_)
  refine g_aload_n C dX12_tocome_0 rfl 0 rfl ?_
  refine g_iconst (v := 0) C dX12_tocome_1 (by decide) ?_
  refine g_putI C fi_X12_1 rfl F.1 F.2.1 dX12_tocome_2 ?_
  have F := F.thrown (v := 0)
  generalize pSI P x 0 0 = P1 at F ⊢
  obtain ⟨hx, hxK, ok, inj, zp, zs, zm, zt, zo, zh⟩ := F
  refine g_iload_n C dX12_tocome_5 rfl 1 rfl ?_
  refine g_callSI (b := 0) (ci := 0) (rest := []) C ms_X12_278 [.int p0] (c_X12_isQuarter) rfl rfl (by decide) (by decide) (by decide) dX12_tocome_6 (fun r84 Q85 h86 => ?_)
  obtain ⟨rfl, h86⟩ := h86
  rcases h86 with ⟨rfl, h86⟩ | ⟨rfl, h86⟩
  · have h86 : 0 ≤ p0.toInt ∧ p0.toInt ≤ 3 := h86
    refine b_if_eq C 29 dX12_tocome_9 (by decide) (fun h => absurd h (by decide)) (fun _ => ?_)
    refine g_aload_n C dX12_tocome_12 rfl 0 rfl ?_
    refine g_iload_n C dX12_tocome_13 rfl 2 rfl ?_
    refine g_callVI (rest := []) C mv_X12_192 [.int p1] (c_X12_isBook ⟨hx, hxK, ok, inj, zp, zs, zm, zt, zo, zh⟩) hx hxK rfl rfl (by decide) (by decide) (by decide) dX12_tocome_14 (fun r87 Q88 h89 => ?_)
    obtain ⟨rfl, rfl⟩ := h89
    refine b_if_eq C 29 dX12_tocome_17 (by decide) (fun _ => ?_) (fun h => absurd h (by decide))
    refine g_iconst (v := (-1)) C dX12_tocome_29 (by decide) ?_
    exact ret _ _ _ _ _ _ dX12_tocome_30 rfl (by decide) (by decide) (rfl)
  · have h86 : ¬ (0 ≤ p0.toInt ∧ p0.toInt ≤ 3) := h86
    refine b_if_eq C 29 dX12_tocome_9 (by decide) (fun _ => ?_) (fun h => absurd h (by decide))
    refine g_iconst (v := (-1)) C dX12_tocome_29 (by decide) ?_
    exact ret _ _ _ _ _ _ dX12_tocome_30 rfl (by decide) (by decide) (rfl)
theorem dX12_chances_0 : decode cX12_chances 0 = .ok (.aload_n 0, 1) := by decide +kernel
theorem dX12_chances_1 : decode cX12_chances 1 = .ok (.iconst 0, 1) := by decide +kernel
theorem dX12_chances_2 : decode cX12_chances 2 = .ok (.putfield 1, 3) := by decide +kernel
theorem dX12_chances_5 : decode cX12_chances 5 = .ok (.aload_n 0, 1) := by decide +kernel
theorem dX12_chances_6 : decode cX12_chances 6 = .ok (.iload_n 1, 1) := by decide +kernel
theorem dX12_chances_7 : decode cX12_chances 7 = .ok (.iload_n 2, 1) := by decide +kernel
theorem dX12_chances_8 : decode cX12_chances 8 = .ok (.iload 4, 2) := by decide +kernel
theorem dX12_chances_10 : decode cX12_chances 10 = .ok (.invokevirtual 377, 3) := by decide +kernel
theorem dX12_chances_13 : decode cX12_chances 13 = .ok (.ifCond .eq 12, 3) := by decide +kernel
theorem dX12_chances_25 : decode cX12_chances 25 = .ok (.iconst (-1), 1) := by decide +kernel
theorem dX12_chances_26 : decode cX12_chances 26 = .ok (.ireturn, 1) := by decide +kernel
set_option maxHeartbeats 4000000 in
set_option maxRecDepth 100000 in
theorem c_X12_chances {P : PP} {x : Nat} {p0 : Int32} {p1 : Int32} {p2 : Int32} {p3 : Int32} (F : FM P x) : CtrI yX12_chances cX12_chances 5 (some Jvm.ClassFile.FieldType.int) ({ frames := 5, cells := 0, slots := 0, locals := 320 } : Room) 0 0 P [.ref x, .int p0, .int p1, .int p2, .int p3] (fun r _ => r = -1) := by
  refine enI (lv := [(0, .ref x), (1, .int p0), (2, .int p1), (3, .int p2), (4, .int p3)]) (by decide) (Nat.le_of_ble_eq_true rfl) rfl (fun E D cy C Ci0 ret => ?_)
  refine g_aload_n C dX12_chances_0 rfl 0 rfl ?_
  refine g_iconst (v := 0) C dX12_chances_1 (by decide) ?_
  refine g_putI C fi_X12_1 rfl F.1 F.2.1 dX12_chances_2 ?_
  have F := F.thrown (v := 0)
  generalize pSI P x 0 0 = P1 at F ⊢
  obtain ⟨hx, hxK, ok, inj, zp, zs, zm, zt, zo, zh⟩ := F
  refine g_aload_n C dX12_chances_5 rfl 0 rfl ?_
  refine g_iload_n C dX12_chances_6 rfl 1 rfl ?_
  refine g_iload_n C dX12_chances_7 rfl 2 rfl ?_
  refine g_iload C dX12_chances_8 4 rfl ?_
  refine g_callVI (rest := []) C mv_X12_377 [.int p0, .int p1, .int p3] (c_X12_areChances ⟨hx, hxK, ok, inj, zp, zs, zm, zt, zo, zh⟩) hx hxK rfl rfl (by decide) (by decide) (by decide) dX12_chances_10 (fun r90 Q91 h92 => ?_)
  obtain ⟨rfl, rfl⟩ := h92
  refine b_if_eq C 25 dX12_chances_13 (by decide) (fun _ => ?_) (fun h => absurd h (by decide))
  refine g_iconst (v := (-1)) C dX12_chances_25 (by decide) ?_
  exact ret _ _ _ _ _ _ dX12_chances_26 rfl (by decide) (by decide) (rfl)
theorem dX12_enough_0 : decode cX12_enough 0 = .ok (.aload_n 0, 1) := by decide +kernel
theorem dX12_enough_1 : decode cX12_enough 1 = .ok (.iconst 0, 1) := by decide +kernel
theorem dX12_enough_2 : decode cX12_enough 2 = .ok (.putfield 1, 3) := by decide +kernel
theorem dX12_enough_5 : decode cX12_enough 5 = .ok (.aload_n 0, 1) := by decide +kernel
theorem dX12_enough_6 : decode cX12_enough 6 = .ok (.iload_n 1, 1) := by decide +kernel
theorem dX12_enough_7 : decode cX12_enough 7 = .ok (.iload_n 2, 1) := by decide +kernel
theorem dX12_enough_8 : decode cX12_enough 8 = .ok (.iload_n 3, 1) := by decide +kernel
theorem dX12_enough_9 : decode cX12_enough 9 = .ok (.invokevirtual 377, 3) := by decide +kernel
theorem dX12_enough_12 : decode cX12_enough 12 = .ok (.ifCond .ne 5, 3) := by decide +kernel
theorem dX12_enough_15 : decode cX12_enough 15 = .ok (.iconst (-1), 1) := by decide +kernel
theorem dX12_enough_16 : decode cX12_enough 16 = .ok (.ireturn, 1) := by decide +kernel
set_option maxHeartbeats 4000000 in
set_option maxRecDepth 100000 in
theorem c_X12_enough {P : PP} {x : Nat} {p0 : Int32} {p1 : Int32} {p2 : Int32} {p3 : Int32} (F : FM P x) : CtrI yX12_enough cX12_enough 7 (some Jvm.ClassFile.FieldType.int) ({ frames := 5, cells := 0, slots := 0, locals := 320 } : Room) 0 0 P [.ref x, .int p0, .int p1, .int p2, .int p3] (fun r _ => r = -1) := by
  refine enI (lv := [(0, .ref x), (1, .int p0), (2, .int p1), (3, .int p2), (4, .int p3)]) (by decide) (Nat.le_of_ble_eq_true rfl) rfl (fun E D cy C Ci0 ret => ?_)
  refine g_aload_n C dX12_enough_0 rfl 0 rfl ?_
  refine g_iconst (v := 0) C dX12_enough_1 (by decide) ?_
  refine g_putI C fi_X12_1 rfl F.1 F.2.1 dX12_enough_2 ?_
  have F := F.thrown (v := 0)
  generalize pSI P x 0 0 = P1 at F ⊢
  obtain ⟨hx, hxK, ok, inj, zp, zs, zm, zt, zo, zh⟩ := F
  refine g_aload_n C dX12_enough_5 rfl 0 rfl ?_
  refine g_iload_n C dX12_enough_6 rfl 1 rfl ?_
  refine g_iload_n C dX12_enough_7 rfl 2 rfl ?_
  refine g_iload_n C dX12_enough_8 rfl 3 rfl ?_
  refine g_callVI (rest := []) C mv_X12_377 [.int p0, .int p1, .int p2] (c_X12_areChances ⟨hx, hxK, ok, inj, zp, zs, zm, zt, zo, zh⟩) hx hxK rfl rfl (by decide) (by decide) (by decide) dX12_enough_9 (fun r93 Q94 h95 => ?_)
  obtain ⟨rfl, rfl⟩ := h95
  refine b_if_ne C 17 dX12_enough_12 (by decide) (fun h => absurd h (by decide)) (fun _ => ?_)
  refine g_iconst (v := (-1)) C dX12_enough_15 (by decide) ?_
  exact ret _ _ _ _ _ _ dX12_enough_16 rfl (by decide) (by decide) (rfl)
theorem dX12_degree_0 : decode cX12_degree 0 = .ok (.aload_n 0, 1) := by decide +kernel
theorem dX12_degree_1 : decode cX12_degree 1 = .ok (.iconst 0, 1) := by decide +kernel
theorem dX12_degree_2 : decode cX12_degree 2 = .ok (.putfield 1, 3) := by decide +kernel
theorem dX12_degree_5 : decode cX12_degree 5 = .ok (.aload_n 0, 1) := by decide +kernel
theorem dX12_degree_6 : decode cX12_degree 6 = .ok (.iload_n 1, 1) := by decide +kernel
theorem dX12_degree_7 : decode cX12_degree 7 = .ok (.iload_n 2, 1) := by decide +kernel
theorem dX12_degree_8 : decode cX12_degree 8 = .ok (.iload 4, 2) := by decide +kernel
theorem dX12_degree_10 : decode cX12_degree 10 = .ok (.invokevirtual 377, 3) := by decide +kernel
theorem dX12_degree_13 : decode cX12_degree 13 = .ok (.ifCond .eq 12, 3) := by decide +kernel
theorem dX12_degree_25 : decode cX12_degree 25 = .ok (.iconst (-1), 1) := by decide +kernel
theorem dX12_degree_26 : decode cX12_degree 26 = .ok (.ireturn, 1) := by decide +kernel
set_option maxHeartbeats 4000000 in
set_option maxRecDepth 100000 in
theorem c_X12_degree {P : PP} {x : Nat} {p0 : Int32} {p1 : Int32} {p2 : Int32} {p3 : Int32} (F : FM P x) : CtrI yX12_degree cX12_degree 9 (some Jvm.ClassFile.FieldType.int) ({ frames := 5, cells := 0, slots := 0, locals := 320 } : Room) 0 0 P [.ref x, .int p0, .int p1, .int p2, .int p3] (fun r _ => r = -1) := by
  refine enI (lv := [(0, .ref x), (1, .int p0), (2, .int p1), (3, .int p2), (4, .int p3)]) (by decide) (Nat.le_of_ble_eq_true rfl) rfl (fun E D cy C Ci0 ret => ?_)
  refine g_aload_n C dX12_degree_0 rfl 0 rfl ?_
  refine g_iconst (v := 0) C dX12_degree_1 (by decide) ?_
  refine g_putI C fi_X12_1 rfl F.1 F.2.1 dX12_degree_2 ?_
  have F := F.thrown (v := 0)
  generalize pSI P x 0 0 = P1 at F ⊢
  obtain ⟨hx, hxK, ok, inj, zp, zs, zm, zt, zo, zh⟩ := F
  refine g_aload_n C dX12_degree_5 rfl 0 rfl ?_
  refine g_iload_n C dX12_degree_6 rfl 1 rfl ?_
  refine g_iload_n C dX12_degree_7 rfl 2 rfl ?_
  refine g_iload C dX12_degree_8 4 rfl ?_
  refine g_callVI (rest := []) C mv_X12_377 [.int p0, .int p1, .int p3] (c_X12_areChances ⟨hx, hxK, ok, inj, zp, zs, zm, zt, zo, zh⟩) hx hxK rfl rfl (by decide) (by decide) (by decide) dX12_degree_10 (fun r96 Q97 h98 => ?_)
  obtain ⟨rfl, rfl⟩ := h98
  refine b_if_eq C 25 dX12_degree_13 (by decide) (fun _ => ?_) (fun h => absurd h (by decide))
  refine g_iconst (v := (-1)) C dX12_degree_25 (by decide) ?_
  exact ret _ _ _ _ _ _ dX12_degree_26 rfl (by decide) (by decide) (rfl)
theorem dX12_apart_0 : decode cX12_apart 0 = .ok (.aload_n 0, 1) := by decide +kernel
theorem dX12_apart_1 : decode cX12_apart 1 = .ok (.iconst 0, 1) := by decide +kernel
theorem dX12_apart_2 : decode cX12_apart 2 = .ok (.putfield 1, 3) := by decide +kernel
theorem dX12_apart_5 : decode cX12_apart 5 = .ok (.aload_n 0, 1) := by decide +kernel
theorem dX12_apart_6 : decode cX12_apart 6 = .ok (.iload_n 1, 1) := by decide +kernel
theorem dX12_apart_7 : decode cX12_apart 7 = .ok (.iload_n 2, 1) := by decide +kernel
theorem dX12_apart_8 : decode cX12_apart 8 = .ok (.invokevirtual 298, 3) := by decide +kernel
theorem dX12_apart_11 : decode cX12_apart 11 = .ok (.ifCond .eq 33, 3) := by decide +kernel
theorem dX12_apart_44 : decode cX12_apart 44 = .ok (.iconst (-1), 1) := by decide +kernel
theorem dX12_apart_45 : decode cX12_apart 45 = .ok (.ireturn, 1) := by decide +kernel
set_option maxHeartbeats 4000000 in
set_option maxRecDepth 100000 in
theorem c_X12_apart {P : PP} {x : Nat} {p0 : Int32} {p1 : Int32} (F : FM P x) : CtrI yX12_apart cX12_apart 7 (some Jvm.ClassFile.FieldType.int) ({ frames := 5, cells := 0, slots := 0, locals := 320 } : Room) 0 0 P [.ref x, .int p0, .int p1] (fun r _ => r = -1) := by
  refine enI (lv := [(0, .ref x), (1, .int p0), (2, .int p1)]) (by decide) (Nat.le_of_ble_eq_true rfl) rfl (fun E D cy C Ci0 ret => ?_)
  refine g_aload_n C dX12_apart_0 rfl 0 rfl ?_
  refine g_iconst (v := 0) C dX12_apart_1 (by decide) ?_
  refine g_putI C fi_X12_1 rfl F.1 F.2.1 dX12_apart_2 ?_
  have F := F.thrown (v := 0)
  generalize pSI P x 0 0 = P1 at F ⊢
  obtain ⟨hx, hxK, ok, inj, zp, zs, zm, zt, zo, zh⟩ := F
  refine g_aload_n C dX12_apart_5 rfl 0 rfl ?_
  refine g_iload_n C dX12_apart_6 rfl 1 rfl ?_
  refine g_iload_n C dX12_apart_7 rfl 2 rfl ?_
  refine g_callVI (rest := []) C mv_X12_298 [.int p0, .int p1] (c_X12_isPaper ⟨hx, hxK, ok, inj, zp, zs, zm, zt, zo, zh⟩) hx hxK rfl rfl (by decide) (by decide) (by decide) dX12_apart_8 (fun r99 Q100 h101 => ?_)
  obtain ⟨rfl, rfl⟩ := h101
  refine b_if_eq C 44 dX12_apart_11 (by decide) (fun _ => ?_) (fun h => absurd h (by decide))
  refine g_iconst (v := (-1)) C dX12_apart_44 (by decide) ?_
  exact ret _ _ _ _ _ _ dX12_apart_45 rfl (by decide) (by decide) (rfl)
theorem dX12_scatter_0 : decode cX12_scatter 0 = .ok (.aload_n 0, 1) := by decide +kernel
theorem dX12_scatter_1 : decode cX12_scatter 1 = .ok (.iconst 0, 1) := by decide +kernel
theorem dX12_scatter_2 : decode cX12_scatter 2 = .ok (.putfield 1, 3) := by decide +kernel
theorem dX12_scatter_5 : decode cX12_scatter 5 = .ok (.aload_n 0, 1) := by decide +kernel
theorem dX12_scatter_6 : decode cX12_scatter 6 = .ok (.iload_n 1, 1) := by decide +kernel
theorem dX12_scatter_7 : decode cX12_scatter 7 = .ok (.invokevirtual 192, 3) := by decide +kernel
theorem dX12_scatter_10 : decode cX12_scatter 10 = .ok (.ifCond .eq 30, 3) := by decide +kernel
theorem dX12_scatter_40 : decode cX12_scatter 40 = .ok (.iconst (-1), 1) := by decide +kernel
theorem dX12_scatter_41 : decode cX12_scatter 41 = .ok (.ireturn, 1) := by decide +kernel
set_option maxHeartbeats 4000000 in
set_option maxRecDepth 100000 in
theorem c_X12_scatter {P : PP} {x : Nat} {p0 : Int32} {p1 : Int32} {p2 : Int32} (F : FM P x) : CtrI yX12_scatter cX12_scatter 9 (some Jvm.ClassFile.FieldType.int) ({ frames := 5, cells := 0, slots := 0, locals := 320 } : Room) 0 0 P [.ref x, .int p0, .int p1, .int p2] (fun r _ => r = -1) := by
  refine enI (lv := [(0, .ref x), (1, .int p0), (2, .int p1), (3, .int p2)]) (by decide) (Nat.le_of_ble_eq_true rfl) rfl (fun E D cy C Ci0 ret => ?_)
  refine g_aload_n C dX12_scatter_0 rfl 0 rfl ?_
  refine g_iconst (v := 0) C dX12_scatter_1 (by decide) ?_
  refine g_putI C fi_X12_1 rfl F.1 F.2.1 dX12_scatter_2 ?_
  have F := F.thrown (v := 0)
  generalize pSI P x 0 0 = P1 at F ⊢
  obtain ⟨hx, hxK, ok, inj, zp, zs, zm, zt, zo, zh⟩ := F
  refine g_aload_n C dX12_scatter_5 rfl 0 rfl ?_
  refine g_iload_n C dX12_scatter_6 rfl 1 rfl ?_
  refine g_callVI (rest := []) C mv_X12_192 [.int p0] (c_X12_isBook ⟨hx, hxK, ok, inj, zp, zs, zm, zt, zo, zh⟩) hx hxK rfl rfl (by decide) (by decide) (by decide) dX12_scatter_7 (fun r102 Q103 h104 => ?_)
  obtain ⟨rfl, rfl⟩ := h104
  refine b_if_eq C 40 dX12_scatter_10 (by decide) (fun _ => ?_) (fun h => absurd h (by decide))
  refine g_iconst (v := (-1)) C dX12_scatter_40 (by decide) ?_
  exact ret _ _ _ _ _ _ dX12_scatter_41 rfl (by decide) (by decide) (rfl)
theorem dX12_needs_0 : decode cX12_needs 0 = .ok (.aload_n 0, 1) := by decide +kernel
theorem dX12_needs_1 : decode cX12_needs 1 = .ok (.iconst 0, 1) := by decide +kernel
theorem dX12_needs_2 : decode cX12_needs 2 = .ok (.putfield 1, 3) := by decide +kernel
theorem dX12_needs_5 : decode cX12_needs 5 = .ok (.iload_n 1, 1) := by decide +kernel
theorem dX12_needs_6 : decode cX12_needs 6 = .ok (.invokestatic 278, 3) := by decide +kernel
theorem dX12_needs_9 : decode cX12_needs 9 = .ok (.ifCond .eq 11, 3) := by decide +kernel
theorem dX12_needs_12 : decode cX12_needs 12 = .ok (.aload_n 0, 1) := by decide +kernel
theorem dX12_needs_13 : decode cX12_needs 13 = .ok (.iload_n 2, 1) := by decide +kernel
theorem dX12_needs_14 : decode cX12_needs 14 = .ok (.invokevirtual 192, 3) := by decide +kernel
theorem dX12_needs_17 : decode cX12_needs 17 = .ok (.ifCond .ne 5, 3) := by decide +kernel
theorem dX12_needs_20 : decode cX12_needs 20 = .ok (.iconst (-1), 1) := by decide +kernel
theorem dX12_needs_21 : decode cX12_needs 21 = .ok (.ireturn, 1) := by decide +kernel
set_option maxHeartbeats 4000000 in
set_option maxRecDepth 100000 in
theorem c_X12_needs {P : PP} {x : Nat} {p0 : Int32} {p1 : Int32} (F : FM P x) : CtrI yX12_needs cX12_needs 4 (some Jvm.ClassFile.FieldType.int) ({ frames := 5, cells := 0, slots := 0, locals := 320 } : Room) 0 0 P [.ref x, .int p0, .int p1] (fun r _ => r = -1) := by
  refine enI (lv := [(0, .ref x), (1, .int p0), (2, .int p1)]) (by decide) (Nat.le_of_ble_eq_true rfl) rfl (fun E D cy C Ci0 ret => ?_)
  refine g_aload_n C dX12_needs_0 rfl 0 rfl ?_
  refine g_iconst (v := 0) C dX12_needs_1 (by decide) ?_
  refine g_putI C fi_X12_1 rfl F.1 F.2.1 dX12_needs_2 ?_
  have F := F.thrown (v := 0)
  generalize pSI P x 0 0 = P1 at F ⊢
  obtain ⟨hx, hxK, ok, inj, zp, zs, zm, zt, zo, zh⟩ := F
  refine g_iload_n C dX12_needs_5 rfl 1 rfl ?_
  refine g_callSI (b := 0) (ci := 0) (rest := []) C ms_X12_278 [.int p0] (c_X12_isQuarter) rfl rfl (by decide) (by decide) (by decide) dX12_needs_6 (fun r105 Q106 h107 => ?_)
  obtain ⟨rfl, h107⟩ := h107
  rcases h107 with ⟨rfl, h107⟩ | ⟨rfl, h107⟩
  · have h107 : 0 ≤ p0.toInt ∧ p0.toInt ≤ 3 := h107
    refine b_if_eq C 20 dX12_needs_9 (by decide) (fun h => absurd h (by decide)) (fun _ => ?_)
    refine g_aload_n C dX12_needs_12 rfl 0 rfl ?_
    refine g_iload_n C dX12_needs_13 rfl 2 rfl ?_
    refine g_callVI (rest := []) C mv_X12_192 [.int p1] (c_X12_isBook ⟨hx, hxK, ok, inj, zp, zs, zm, zt, zo, zh⟩) hx hxK rfl rfl (by decide) (by decide) (by decide) dX12_needs_14 (fun r108 Q109 h110 => ?_)
    obtain ⟨rfl, rfl⟩ := h110
    refine b_if_ne C 22 dX12_needs_17 (by decide) (fun h => absurd h (by decide)) (fun _ => ?_)
    refine g_iconst (v := (-1)) C dX12_needs_20 (by decide) ?_
    exact ret _ _ _ _ _ _ dX12_needs_21 rfl (by decide) (by decide) (rfl)
  · have h107 : ¬ (0 ≤ p0.toInt ∧ p0.toInt ≤ 3) := h107
    refine b_if_eq C 20 dX12_needs_9 (by decide) (fun _ => ?_) (fun h => absurd h (by decide))
    refine g_iconst (v := (-1)) C dX12_needs_20 (by decide) ?_
    exact ret _ _ _ _ _ _ dX12_needs_21 rfl (by decide) (by decide) (rfl)
theorem dX12_town_0 : decode cX12_town 0 = .ok (.aload_n 0, 1) := by decide +kernel
theorem dX12_town_1 : decode cX12_town 1 = .ok (.iconst 0, 1) := by decide +kernel
theorem dX12_town_2 : decode cX12_town 2 = .ok (.putfield 1, 3) := by decide +kernel
theorem dX12_town_5 : decode cX12_town 5 = .ok (.aload_n 0, 1) := by decide +kernel
theorem dX12_town_6 : decode cX12_town 6 = .ok (.iload_n 1, 1) := by decide +kernel
theorem dX12_town_7 : decode cX12_town 7 = .ok (.invokevirtual 192, 3) := by decide +kernel
theorem dX12_town_10 : decode cX12_town 10 = .ok (.ifCond .eq 13, 3) := by decide +kernel
theorem dX12_town_23 : decode cX12_town 23 = .ok (.iconst (-1), 1) := by decide +kernel
theorem dX12_town_24 : decode cX12_town 24 = .ok (.ireturn, 1) := by decide +kernel
set_option maxHeartbeats 4000000 in
set_option maxRecDepth 100000 in
theorem c_X12_town {P : PP} {x : Nat} {p0 : Int32} {p1 : Int32} (F : FM P x) : CtrI yX12_town cX12_town 6 (some Jvm.ClassFile.FieldType.int) ({ frames := 5, cells := 0, slots := 0, locals := 320 } : Room) 0 0 P [.ref x, .int p0, .int p1] (fun r _ => r = -1) := by
  refine enI (lv := [(0, .ref x), (1, .int p0), (2, .int p1)]) (by decide) (Nat.le_of_ble_eq_true rfl) rfl (fun E D cy C Ci0 ret => ?_)
  refine g_aload_n C dX12_town_0 rfl 0 rfl ?_
  refine g_iconst (v := 0) C dX12_town_1 (by decide) ?_
  refine g_putI C fi_X12_1 rfl F.1 F.2.1 dX12_town_2 ?_
  have F := F.thrown (v := 0)
  generalize pSI P x 0 0 = P1 at F ⊢
  obtain ⟨hx, hxK, ok, inj, zp, zs, zm, zt, zo, zh⟩ := F
  refine g_aload_n C dX12_town_5 rfl 0 rfl ?_
  refine g_iload_n C dX12_town_6 rfl 1 rfl ?_
  refine g_callVI (rest := []) C mv_X12_192 [.int p0] (c_X12_isBook ⟨hx, hxK, ok, inj, zp, zs, zm, zt, zo, zh⟩) hx hxK rfl rfl (by decide) (by decide) (by decide) dX12_town_7 (fun r111 Q112 h113 => ?_)
  obtain ⟨rfl, rfl⟩ := h113
  refine b_if_eq C 23 dX12_town_10 (by decide) (fun _ => ?_) (fun h => absurd h (by decide))
  refine g_iconst (v := (-1)) C dX12_town_23 (by decide) ?_
  exact ret _ _ _ _ _ _ dX12_town_24 rfl (by decide) (by decide) (rfl)
theorem dX12_draw_0 : decode cX12_draw 0 = .ok (.aload_n 0, 1) := by decide +kernel
theorem dX12_draw_1 : decode cX12_draw 1 = .ok (.iconst 0, 1) := by decide +kernel
theorem dX12_draw_2 : decode cX12_draw 2 = .ok (.putfield 1, 3) := by decide +kernel
theorem dX12_draw_5 : decode cX12_draw 5 = .ok (.aload_n 0, 1) := by decide +kernel
theorem dX12_draw_6 : decode cX12_draw 6 = .ok (.iload_n 1, 1) := by decide +kernel
theorem dX12_draw_7 : decode cX12_draw 7 = .ok (.invokevirtual 192, 3) := by decide +kernel
theorem dX12_draw_10 : decode cX12_draw 10 = .ok (.ifCond .eq 11, 3) := by decide +kernel
theorem dX12_draw_21 : decode cX12_draw 21 = .ok (.aload_n 0, 1) := by decide +kernel
theorem dX12_draw_22 : decode cX12_draw 22 = .ok (.iconst 0, 1) := by decide +kernel
theorem dX12_draw_23 : decode cX12_draw 23 = .ok (.putfield 11, 3) := by decide +kernel
theorem dX12_draw_26 : decode cX12_draw 26 = .ok (.iconst (-1), 1) := by decide +kernel
theorem dX12_draw_27 : decode cX12_draw 27 = .ok (.ireturn, 1) := by decide +kernel
set_option maxHeartbeats 4000000 in
set_option maxRecDepth 100000 in
theorem c_X12_draw {P : PP} {x : Nat} {p0 : Int32} (F : FM P x) : CtrI yX12_draw cX12_draw 3 (some Jvm.ClassFile.FieldType.int) ({ frames := 5, cells := 0, slots := 0, locals := 320 } : Room) 0 0 P [.ref x, .int p0] (fun r _ => r = -1) := by
  refine enI (lv := [(0, .ref x), (1, .int p0)]) (by decide) (Nat.le_of_ble_eq_true rfl) rfl (fun E D cy C Ci0 ret => ?_)
  refine g_aload_n C dX12_draw_0 rfl 0 rfl ?_
  refine g_iconst (v := 0) C dX12_draw_1 (by decide) ?_
  refine g_putI C fi_X12_1 rfl F.1 F.2.1 dX12_draw_2 ?_
  have F := F.thrown (v := 0)
  generalize pSI P x 0 0 = P1 at F ⊢
  obtain ⟨hx, hxK, ok, inj, zp, zs, zm, zt, zo, zh⟩ := F
  refine g_aload_n C dX12_draw_5 rfl 0 rfl ?_
  refine g_iload_n C dX12_draw_6 rfl 1 rfl ?_
  refine g_callVI (rest := []) C mv_X12_192 [.int p0] (c_X12_isBook ⟨hx, hxK, ok, inj, zp, zs, zm, zt, zo, zh⟩) hx hxK rfl rfl (by decide) (by decide) (by decide) dX12_draw_7 (fun r114 Q115 h116 => ?_)
  obtain ⟨rfl, rfl⟩ := h116
  refine b_if_eq C 21 dX12_draw_10 (by decide) (fun _ => ?_) (fun h => absurd h (by decide))
  refine g_aload_n C dX12_draw_21 rfl 0 rfl ?_
  refine g_iconst (v := 0) C dX12_draw_22 (by decide) ?_
  refine g_putI C fi_X12_11 rfl hx hxK dX12_draw_23 ?_
  refine g_iconst (v := (-1)) C dX12_draw_26 (by decide) ?_
  exact ret _ _ _ _ _ _ dX12_draw_27 rfl (by decide) (by decide) (rfl)
theorem dX12_average_0 : decode cX12_average 0 = .ok (.aload_n 0, 1) := by decide +kernel
theorem dX12_average_1 : decode cX12_average 1 = .ok (.iconst 0, 1) := by decide +kernel
theorem dX12_average_2 : decode cX12_average 2 = .ok (.putfield 1, 3) := by decide +kernel
theorem dX12_average_5 : decode cX12_average 5 = .ok (.aload_n 0, 1) := by decide +kernel
theorem dX12_average_6 : decode cX12_average 6 = .ok (.iload_n 1, 1) := by decide +kernel
theorem dX12_average_7 : decode cX12_average 7 = .ok (.iload_n 2, 1) := by decide +kernel
theorem dX12_average_8 : decode cX12_average 8 = .ok (.iload_n 3, 1) := by decide +kernel
theorem dX12_average_9 : decode cX12_average 9 = .ok (.invokevirtual 377, 3) := by decide +kernel
theorem dX12_average_12 : decode cX12_average 12 = .ok (.ifCond .eq 13, 3) := by decide +kernel
theorem dX12_average_25 : decode cX12_average 25 = .ok (.ldc2_w 390, 3) := by decide +kernel
theorem dX12_average_28 : decode cX12_average 28 = .ok (.lreturn, 1) := by decide +kernel
set_option maxHeartbeats 4000000 in
set_option maxRecDepth 100000 in
theorem c_X12_average {P : PP} {x : Nat} {p0 : Int32} {p1 : Int32} {p2 : Int32} {p3 : Int32} (F : FM P x) : CtrL yX12_average cX12_average 16 (some Jvm.ClassFile.FieldType.long) ({ frames := 5, cells := 0, slots := 0, locals := 320 } : Room) 0 0 P [.ref x, .int p0, .int p1, .int p2, .int p3] (fun r _ => r = -1) := by
  refine enL (lv := [(0, .ref x), (1, .int p0), (2, .int p1), (3, .int p2), (4, .int p3)]) (by decide) (Nat.le_of_ble_eq_true rfl) rfl (fun E D cy C Ci0 ret => ?_)
  refine g_aload_n C dX12_average_0 rfl 0 rfl ?_
  refine g_iconst (v := 0) C dX12_average_1 (by decide) ?_
  refine g_putI C fi_X12_1 rfl F.1 F.2.1 dX12_average_2 ?_
  have F := F.thrown (v := 0)
  generalize pSI P x 0 0 = P1 at F ⊢
  obtain ⟨hx, hxK, ok, inj, zp, zs, zm, zt, zo, zh⟩ := F
  refine g_aload_n C dX12_average_5 rfl 0 rfl ?_
  refine g_iload_n C dX12_average_6 rfl 1 rfl ?_
  refine g_iload_n C dX12_average_7 rfl 2 rfl ?_
  refine g_iload_n C dX12_average_8 rfl 3 rfl ?_
  refine g_callVI (rest := []) C mv_X12_377 [.int p0, .int p1, .int p2] (c_X12_areChances ⟨hx, hxK, ok, inj, zp, zs, zm, zt, zo, zh⟩) hx hxK rfl rfl (by decide) (by decide) (by decide) dX12_average_9 (fun r117 Q118 h119 => ?_)
  obtain ⟨rfl, rfl⟩ := h119
  refine b_if_eq C 25 dX12_average_12 (by decide) (fun _ => ?_) (fun h => absurd h (by decide))
  refine g_ldc2 (v := -1) C kl_X12_390 dX12_average_25 ?_
  exact ret _ _ _ _ _ _ dX12_average_28 (by decide) (by decide) (rfl)
theorem dX12_page_0 : decode cX12_page 0 = .ok (.aload_n 0, 1) := by decide +kernel
theorem dX12_page_1 : decode cX12_page 1 = .ok (.iconst 0, 1) := by decide +kernel
theorem dX12_page_2 : decode cX12_page 2 = .ok (.putfield 1, 3) := by decide +kernel
theorem dX12_page_5 : decode cX12_page 5 = .ok (.aload_n 0, 1) := by decide +kernel
theorem dX12_page_6 : decode cX12_page 6 = .ok (.iload_n 1, 1) := by decide +kernel
theorem dX12_page_7 : decode cX12_page 7 = .ok (.invokevirtual 192, 3) := by decide +kernel
theorem dX12_page_10 : decode cX12_page 10 = .ok (.ifCond .eq 37, 3) := by decide +kernel
theorem dX12_page_47 : decode cX12_page 47 = .ok (.iconst 0, 1) := by decide +kernel
theorem dX12_page_48 : decode cX12_page 48 = .ok (.ireturn, 1) := by decide +kernel
set_option maxHeartbeats 4000000 in
set_option maxRecDepth 100000 in
theorem c_X12_page {P : PP} {x : Nat} {p0 : Int32} {p1 : Int32} {p2 : Int32} (F : FM P x) : CtrI yX12_page cX12_page 4 (some Jvm.ClassFile.FieldType.boolean) ({ frames := 5, cells := 0, slots := 0, locals := 320 } : Room) 0 0 P [.ref x, .int p0, .int p1, .int p2] (fun r _ => r = 0) := by
  refine enI (lv := [(0, .ref x), (1, .int p0), (2, .int p1), (3, .int p2)]) (by decide) (Nat.le_of_ble_eq_true rfl) rfl (fun E D cy C Ci0 ret => ?_)
  refine g_aload_n C dX12_page_0 rfl 0 rfl ?_
  refine g_iconst (v := 0) C dX12_page_1 (by decide) ?_
  refine g_putI C fi_X12_1 rfl F.1 F.2.1 dX12_page_2 ?_
  have F := F.thrown (v := 0)
  generalize pSI P x 0 0 = P1 at F ⊢
  obtain ⟨hx, hxK, ok, inj, zp, zs, zm, zt, zo, zh⟩ := F
  refine g_aload_n C dX12_page_5 rfl 0 rfl ?_
  refine g_iload_n C dX12_page_6 rfl 1 rfl ?_
  refine g_callVI (rest := []) C mv_X12_192 [.int p0] (c_X12_isBook ⟨hx, hxK, ok, inj, zp, zs, zm, zt, zo, zh⟩) hx hxK rfl rfl (by decide) (by decide) (by decide) dX12_page_7 (fun r120 Q121 h122 => ?_)
  obtain ⟨rfl, rfl⟩ := h122
  refine b_if_eq C 47 dX12_page_10 (by decide) (fun _ => ?_) (fun h => absurd h (by decide))
  refine g_iconst (v := 0) C dX12_page_47 (by decide) ?_
  exact ret _ _ _ _ _ _ dX12_page_48 rfl (by decide) (by decide) (rfl)
theorem dX12_away_0 : decode cX12_away 0 = .ok (.aload_n 0, 1) := by decide +kernel
theorem dX12_away_1 : decode cX12_away 1 = .ok (.iconst 0, 1) := by decide +kernel
theorem dX12_away_2 : decode cX12_away 2 = .ok (.putfield 1, 3) := by decide +kernel
theorem dX12_away_5 : decode cX12_away 5 = .ok (.aload_n 0, 1) := by decide +kernel
theorem dX12_away_6 : decode cX12_away 6 = .ok (.iload_n 1, 1) := by decide +kernel
theorem dX12_away_7 : decode cX12_away 7 = .ok (.iload_n 2, 1) := by decide +kernel
theorem dX12_away_8 : decode cX12_away 8 = .ok (.invokevirtual 298, 3) := by decide +kernel
theorem dX12_away_11 : decode cX12_away 11 = .ok (.ifCond .ne 5, 3) := by decide +kernel
theorem dX12_away_14 : decode cX12_away 14 = .ok (.iconst 0, 1) := by decide +kernel
theorem dX12_away_15 : decode cX12_away 15 = .ok (.ireturn, 1) := by decide +kernel
set_option maxHeartbeats 4000000 in
set_option maxRecDepth 100000 in
theorem c_X12_away {P : PP} {x : Nat} {p0 : Int32} {p1 : Int32} (F : FM P x) : CtrI yX12_away cX12_away 3 (some Jvm.ClassFile.FieldType.boolean) ({ frames := 5, cells := 0, slots := 0, locals := 320 } : Room) 0 0 P [.ref x, .int p0, .int p1] (fun r _ => r = 0) := by
  refine enI (lv := [(0, .ref x), (1, .int p0), (2, .int p1)]) (by decide) (Nat.le_of_ble_eq_true rfl) rfl (fun E D cy C Ci0 ret => ?_)
  refine g_aload_n C dX12_away_0 rfl 0 rfl ?_
  refine g_iconst (v := 0) C dX12_away_1 (by decide) ?_
  refine g_putI C fi_X12_1 rfl F.1 F.2.1 dX12_away_2 ?_
  have F := F.thrown (v := 0)
  generalize pSI P x 0 0 = P1 at F ⊢
  obtain ⟨hx, hxK, ok, inj, zp, zs, zm, zt, zo, zh⟩ := F
  refine g_aload_n C dX12_away_5 rfl 0 rfl ?_
  refine g_iload_n C dX12_away_6 rfl 1 rfl ?_
  refine g_iload_n C dX12_away_7 rfl 2 rfl ?_
  refine g_callVI (rest := []) C mv_X12_298 [.int p0, .int p1] (c_X12_isPaper ⟨hx, hxK, ok, inj, zp, zs, zm, zt, zo, zh⟩) hx hxK rfl rfl (by decide) (by decide) (by decide) dX12_away_8 (fun r123 Q124 h125 => ?_)
  obtain ⟨rfl, rfl⟩ := h125
  refine b_if_ne C 16 dX12_away_11 (by decide) (fun h => absurd h (by decide)) (fun _ => ?_)
  refine g_iconst (v := 0) C dX12_away_14 (by decide) ?_
  exact ret _ _ _ _ _ _ dX12_away_15 rfl (by decide) (by decide) (rfl)
