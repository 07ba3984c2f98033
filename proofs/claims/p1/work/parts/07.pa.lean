theorem dX11_isBook_0 : decode cX11_isBook 0 = .ok (.iload_n 0, 1) := by decide +kernel
theorem dX11_isBook_1 : decode cX11_isBook 1 = .ok (.ifCond .lt 12, 3) := by decide +kernel
theorem dX11_isBook_4 : decode cX11_isBook 4 = .ok (.iload_n 0, 1) := by decide +kernel
theorem dX11_isBook_5 : decode cX11_isBook 5 = .ok (.iconst 2, 1) := by decide +kernel
theorem dX11_isBook_6 : decode cX11_isBook 6 = .ok (.if_icmp .ge 7, 3) := by decide +kernel
theorem dX11_isBook_9 : decode cX11_isBook 9 = .ok (.iconst 1, 1) := by decide +kernel
theorem dX11_isBook_10 : decode cX11_isBook 10 = .ok (.goto 4, 3) := by decide +kernel
theorem dX11_isBook_13 : decode cX11_isBook 13 = .ok (.iconst 0, 1) := by decide +kernel
theorem dX11_isBook_14 : decode cX11_isBook 14 = .ok (.ireturn, 1) := by decide +kernel
set_option maxHeartbeats 4000000 in
set_option maxRecDepth 100000 in
theorem c_X11_isBook {P : PP} {b : Int32}  : CtrI yX11_isBook cX11_isBook 1 (some Jvm.ClassFile.FieldType.boolean) ({ frames := 1, cells := 0, slots := 0, locals := 64 } : Room) 0 0 P [.int b] (fun r P2 => P = P2 ∧ ((r = 1 ∧ (0 ≤ b.toInt ∧ b.toInt < 2)) ∨ (r = 0 ∧ ¬ (0 ≤ b.toInt ∧ b.toInt < 2)))) := by
  refine enI (lv := [(0, .int b)]) (by decide) (Nat.le_of_ble_eq_true rfl) rfl (fun E D cy C Ci0 ret => ?_)
  refine g_iload_n C dX11_isBook_0 rfl 0 rfl ?_
  refine b_if_lt C 13 dX11_isBook_1 (by decide) (fun h1 => ?_) (fun h1 => ?_)
  · have h1 : b.toInt < 0 := h1
    refine g_iconst (v := 0) C dX11_isBook_13 (by decide) ?_
    exact ret _ _ _ _ _ _ dX11_isBook_14 rfl (by decide) (by decide) (⟨rfl, Or.inr ⟨rfl, by first | omega | (intro h9; omega)⟩⟩)
  · have h1 : 0 ≤ b.toInt := h1
    refine g_iload_n C dX11_isBook_4 rfl 0 rfl ?_
    refine g_iconst (v := 2) C dX11_isBook_5 (by decide) ?_
    refine b_icmp_ge C 13 dX11_isBook_6 (by decide) (fun h2 => ?_) (fun h2 => ?_)
    · have h2 : 2 ≤ b.toInt := h2
      refine g_iconst (v := 0) C dX11_isBook_13 (by decide) ?_
      exact ret _ _ _ _ _ _ dX11_isBook_14 rfl (by decide) (by decide) (⟨rfl, Or.inr ⟨rfl, by first | omega | (intro h9; omega)⟩⟩)
    · have h2 : b.toInt < 2 := h2
      refine g_iconst (v := 1) C dX11_isBook_9 (by decide) ?_
      refine g_goto C 14 dX11_isBook_10 (by decide) ?_
      exact ret _ _ _ _ _ _ dX11_isBook_14 rfl (by decide) (by decide) (⟨rfl, Or.inl ⟨rfl, by first | omega | (intro h9; omega)⟩⟩)
theorem dX11_isQuarter_0 : decode cX11_isQuarter 0 = .ok (.iload_n 0, 1) := by decide +kernel
theorem dX11_isQuarter_1 : decode cX11_isQuarter 1 = .ok (.ifCond .lt 12, 3) := by decide +kernel
theorem dX11_isQuarter_4 : decode cX11_isQuarter 4 = .ok (.iload_n 0, 1) := by decide +kernel
theorem dX11_isQuarter_5 : decode cX11_isQuarter 5 = .ok (.iconst 4, 1) := by decide +kernel
theorem dX11_isQuarter_6 : decode cX11_isQuarter 6 = .ok (.if_icmp .ge 7, 3) := by decide +kernel
theorem dX11_isQuarter_9 : decode cX11_isQuarter 9 = .ok (.iconst 1, 1) := by decide +kernel
theorem dX11_isQuarter_10 : decode cX11_isQuarter 10 = .ok (.goto 4, 3) := by decide +kernel
theorem dX11_isQuarter_13 : decode cX11_isQuarter 13 = .ok (.iconst 0, 1) := by decide +kernel
theorem dX11_isQuarter_14 : decode cX11_isQuarter 14 = .ok (.ireturn, 1) := by decide +kernel
set_option maxHeartbeats 4000000 in
set_option maxRecDepth 100000 in
theorem c_X11_isQuarter {P : PP} {q : Int32}  : CtrI yX11_isQuarter cX11_isQuarter 1 (some Jvm.ClassFile.FieldType.boolean) ({ frames := 1, cells := 0, slots := 0, locals := 64 } : Room) 0 0 P [.int q] (fun r P2 => P = P2 ∧ ((r = 1 ∧ (0 ≤ q.toInt ∧ q.toInt < 4)) ∨ (r = 0 ∧ ¬ (0 ≤ q.toInt ∧ q.toInt < 4)))) := by
  refine enI (lv := [(0, .int q)]) (by decide) (Nat.le_of_ble_eq_true rfl) rfl (fun E D cy C Ci0 ret => ?_)
  refine g_iload_n C dX11_isQuarter_0 rfl 0 rfl ?_
  refine b_if_lt C 13 dX11_isQuarter_1 (by decide) (fun h3 => ?_) (fun h3 => ?_)
  · have h3 : q.toInt < 0 := h3
    refine g_iconst (v := 0) C dX11_isQuarter_13 (by decide) ?_
    exact ret _ _ _ _ _ _ dX11_isQuarter_14 rfl (by decide) (by decide) (⟨rfl, Or.inr ⟨rfl, by first | omega | (intro h9; omega)⟩⟩)
  · have h3 : 0 ≤ q.toInt := h3
    refine g_iload_n C dX11_isQuarter_4 rfl 0 rfl ?_
    refine g_iconst (v := 4) C dX11_isQuarter_5 (by decide) ?_
    refine b_icmp_ge C 13 dX11_isQuarter_6 (by decide) (fun h4 => ?_) (fun h4 => ?_)
    · have h4 : 4 ≤ q.toInt := h4
      refine g_iconst (v := 0) C dX11_isQuarter_13 (by decide) ?_
      exact ret _ _ _ _ _ _ dX11_isQuarter_14 rfl (by decide) (by decide) (⟨rfl, Or.inr ⟨rfl, by first | omega | (intro h9; omega)⟩⟩)
    · have h4 : q.toInt < 4 := h4
      refine g_iconst (v := 1) C dX11_isQuarter_9 (by decide) ?_
      refine g_goto C 14 dX11_isQuarter_10 (by decide) ?_
      exact ret _ _ _ _ _ _ dX11_isQuarter_14 rfl (by decide) (by decide) (⟨rfl, Or.inl ⟨rfl, by first | omega | (intro h9; omega)⟩⟩)
theorem dX11_isOctet_0 : decode cX11_isOctet 0 = .ok (.iload_n 0, 1) := by decide +kernel
theorem dX11_isOctet_1 : decode cX11_isOctet 1 = .ok (.ifCond .lt 12, 3) := by decide +kernel
theorem dX11_isOctet_4 : decode cX11_isOctet 4 = .ok (.iload_n 0, 1) := by decide +kernel
theorem dX11_isOctet_5 : decode cX11_isOctet 5 = .ok (.iconst 2, 1) := by decide +kernel
theorem dX11_isOctet_6 : decode cX11_isOctet 6 = .ok (.if_icmp .ge 7, 3) := by decide +kernel
theorem dX11_isOctet_9 : decode cX11_isOctet 9 = .ok (.iconst 1, 1) := by decide +kernel
theorem dX11_isOctet_10 : decode cX11_isOctet 10 = .ok (.goto 4, 3) := by decide +kernel
theorem dX11_isOctet_13 : decode cX11_isOctet 13 = .ok (.iconst 0, 1) := by decide +kernel
theorem dX11_isOctet_14 : decode cX11_isOctet 14 = .ok (.ireturn, 1) := by decide +kernel
set_option maxHeartbeats 4000000 in
set_option maxRecDepth 100000 in
theorem c_X11_isOctet {P : PP} {q : Int32}  : CtrI yX11_isOctet cX11_isOctet 1 (some Jvm.ClassFile.FieldType.boolean) ({ frames := 1, cells := 0, slots := 0, locals := 64 } : Room) 0 0 P [.int q] (fun r P2 => P = P2 ∧ ((r = 1 ∧ (0 ≤ q.toInt ∧ q.toInt < 2)) ∨ (r = 0 ∧ ¬ (0 ≤ q.toInt ∧ q.toInt < 2)))) := by
  refine enI (lv := [(0, .int q)]) (by decide) (Nat.le_of_ble_eq_true rfl) rfl (fun E D cy C Ci0 ret => ?_)
  refine g_iload_n C dX11_isOctet_0 rfl 0 rfl ?_
  refine b_if_lt C 13 dX11_isOctet_1 (by decide) (fun h5 => ?_) (fun h5 => ?_)
  · have h5 : q.toInt < 0 := h5
    refine g_iconst (v := 0) C dX11_isOctet_13 (by decide) ?_
    exact ret _ _ _ _ _ _ dX11_isOctet_14 rfl (by decide) (by decide) (⟨rfl, Or.inr ⟨rfl, by first | omega | (intro h9; omega)⟩⟩)
  · have h5 : 0 ≤ q.toInt := h5
    refine g_iload_n C dX11_isOctet_4 rfl 0 rfl ?_
    refine g_iconst (v := 2) C dX11_isOctet_5 (by decide) ?_
    refine b_icmp_ge C 13 dX11_isOctet_6 (by decide) (fun h6 => ?_) (fun h6 => ?_)
    · have h6 : 2 ≤ q.toInt := h6
      refine g_iconst (v := 0) C dX11_isOctet_13 (by decide) ?_
      exact ret _ _ _ _ _ _ dX11_isOctet_14 rfl (by decide) (by decide) (⟨rfl, Or.inr ⟨rfl, by first | omega | (intro h9; omega)⟩⟩)
    · have h6 : q.toInt < 2 := h6
      refine g_iconst (v := 1) C dX11_isOctet_9 (by decide) ?_
      refine g_goto C 14 dX11_isOctet_10 (by decide) ?_
      exact ret _ _ _ _ _ _ dX11_isOctet_14 rfl (by decide) (by decide) (⟨rfl, Or.inl ⟨rfl, by first | omega | (intro h9; omega)⟩⟩)
theorem dX11_isNumber_0 : decode cX11_isNumber 0 = .ok (.iload_n 0, 1) := by decide +kernel
theorem dX11_isNumber_1 : decode cX11_isNumber 1 = .ok (.ifCond .lt 14, 3) := by decide +kernel
theorem dX11_isNumber_4 : decode cX11_isNumber 4 = .ok (.iload_n 0, 1) := by decide +kernel
theorem dX11_isNumber_5 : decode cX11_isNumber 5 = .ok (.sipush 9999, 3) := by decide +kernel
theorem dX11_isNumber_8 : decode cX11_isNumber 8 = .ok (.if_icmp .gt 7, 3) := by decide +kernel
theorem dX11_isNumber_11 : decode cX11_isNumber 11 = .ok (.iconst 1, 1) := by decide +kernel
theorem dX11_isNumber_12 : decode cX11_isNumber 12 = .ok (.goto 4, 3) := by decide +kernel
theorem dX11_isNumber_15 : decode cX11_isNumber 15 = .ok (.iconst 0, 1) := by decide +kernel
theorem dX11_isNumber_16 : decode cX11_isNumber 16 = .ok (.ireturn, 1) := by decide +kernel
set_option maxHeartbeats 4000000 in
set_option maxRecDepth 100000 in
theorem c_X11_isNumber {P : PP} {q : Int32}  : CtrI yX11_isNumber cX11_isNumber 1 (some Jvm.ClassFile.FieldType.boolean) ({ frames := 1, cells := 0, slots := 0, locals := 64 } : Room) 0 0 P [.int q] (fun r P2 => P = P2 ∧ ((r = 1 ∧ (0 ≤ q.toInt ∧ q.toInt ≤ 9999)) ∨ (r = 0 ∧ ¬ (0 ≤ q.toInt ∧ q.toInt ≤ 9999)))) := by
  refine enI (lv := [(0, .int q)]) (by decide) (Nat.le_of_ble_eq_true rfl) rfl (fun E D cy C Ci0 ret => ?_)
  refine g_iload_n C dX11_isNumber_0 rfl 0 rfl ?_
  refine b_if_lt C 15 dX11_isNumber_1 (by decide) (fun h7 => ?_) (fun h7 => ?_)
  · have h7 : q.toInt < 0 := h7
    refine g_iconst (v := 0) C dX11_isNumber_15 (by decide) ?_
    exact ret _ _ _ _ _ _ dX11_isNumber_16 rfl (by decide) (by decide) (⟨rfl, Or.inr ⟨rfl, by first | omega | (intro h9; omega)⟩⟩)
  · have h7 : 0 ≤ q.toInt := h7
    refine g_iload_n C dX11_isNumber_4 rfl 0 rfl ?_
    refine g_sipush (v := 9999) C dX11_isNumber_5 (by decide) ?_
    refine b_icmp_gt C 15 dX11_isNumber_8 (by decide) (fun h8 => ?_) (fun h8 => ?_)
    · have h8 : 9999 < q.toInt := h8
      refine g_iconst (v := 0) C dX11_isNumber_15 (by decide) ?_
      exact ret _ _ _ _ _ _ dX11_isNumber_16 rfl (by decide) (by decide) (⟨rfl, Or.inr ⟨rfl, by first | omega | (intro h9; omega)⟩⟩)
    · have h8 : q.toInt ≤ 9999 := h8
      refine g_iconst (v := 1) C dX11_isNumber_11 (by decide) ?_
      refine g_goto C 16 dX11_isNumber_12 (by decide) ?_
      exact ret _ _ _ _ _ _ dX11_isNumber_16 rfl (by decide) (by decide) (⟨rfl, Or.inl ⟨rfl, by first | omega | (intro h9; omega)⟩⟩)
theorem dX11_isTold_0 : decode cX11_isTold 0 = .ok (.iload_n 1, 1) := by decide +kernel
theorem dX11_isTold_1 : decode cX11_isTold 1 = .ok (.invokestatic 84, 3) := by decide +kernel
theorem dX11_isTold_4 : decode cX11_isTold 4 = .ok (.ifCond .eq 19, 3) := by decide +kernel
theorem dX11_isTold_7 : decode cX11_isTold 7 = .ok (.aload_n 0, 1) := by decide +kernel
theorem dX11_isTold_8 : decode cX11_isTold 8 = .ok (.getfield 11, 3) := by decide +kernel
theorem dX11_isTold_11 : decode cX11_isTold 11 = .ok (.iload_n 1, 1) := by decide +kernel
theorem dX11_isTold_12 : decode cX11_isTold 12 = .ok (.aaload, 1) := by decide +kernel
theorem dX11_isTold_13 : decode cX11_isTold 13 = .ok (.getfield 176, 3) := by decide +kernel
theorem dX11_isTold_16 : decode cX11_isTold 16 = .ok (.ifCond .eq 7, 3) := by decide +kernel
theorem dX11_isTold_23 : decode cX11_isTold 23 = .ok (.iconst 0, 1) := by decide +kernel
theorem dX11_isTold_24 : decode cX11_isTold 24 = .ok (.ireturn, 1) := by decide +kernel
set_option maxHeartbeats 4000000 in
set_option maxRecDepth 100000 in
theorem c_X11_isTold {P : PP} {x : Nat} {b : Int32} (F : FC P x) : CtrI yX11_isTold cX11_isTold 2 (some Jvm.ClassFile.FieldType.boolean) ({ frames := 2, cells := 0, slots := 0, locals := 128 } : Room) 0 0 P [.ref x, .int b] (fun r P2 => P = P2 ∧ r = 0) := by
  obtain ⟨hx, hxK, ok, z1, z6, z9, zt, zh, zm⟩ := F
  refine enI (lv := [(0, .ref x), (1, .int b)]) (by decide) (Nat.le_of_ble_eq_true rfl) rfl (fun E D cy C Ci0 ret => ?_)
  refine g_iload_n C dX11_isTold_0 rfl 1 rfl ?_
  refine g_callSI (b := 0) (ci := 0) (rest := []) C ms_X11_84 [.int b] (c_X11_isBook) rfl rfl (by decide) (by decide) (by decide) dX11_isTold_1 (fun r9 Q10 h11 => ?_)
  obtain ⟨rfl, h11⟩ := h11
  rcases h11 with ⟨rfl, h11⟩ | ⟨rfl, h11⟩
  · refine b_if_eq C 23 dX11_isTold_4 (by decide) (fun h => absurd h (by decide)) (fun _ => ?_)
    refine g_aload_n C dX11_isTold_7 rfl 0 rfl ?_
    obtain ⟨b12, h13⟩ := xFd.at (ok x hx) hxK 0 17 2 rfl
    refine g_getR C fi_X11_11 rfl h13.1 hx hxK dX11_isTold_8 ?_
    refine g_iload_n C dX11_isTold_11 rfl 1 rfl ?_
    obtain ⟨b14, h15⟩ := xAr.at (ok b12 h13.2.1) h13.2.2.1 (by decide) (b.toInt.toNat) (lt_n h13.2.2.2 (by omega))
    refine g_aldR C h13.2.1 h13.2.2.1 (by decide) (IX.intn (i := b) h13.2.2.2 (by omega) (by omega)) h15.1 dX11_isTold_12 ?_
    refine g_getI C fi_X11_176 (by decide) h15.2.1 h15.2.2 dX11_isTold_13 ?_
    rw [show pI P b14 4 = 0 from z1 b14 h15.2.1 h15.2.2]
    refine b_if_eq C 23 dX11_isTold_16 (by decide) (fun _ => ?_) (fun h => absurd h (by decide))
    refine g_iconst (v := 0) C dX11_isTold_23 (by decide) ?_
    exact ret _ _ _ _ _ _ dX11_isTold_24 rfl (by decide) (by decide) (⟨rfl, rfl⟩)
  · refine b_if_eq C 23 dX11_isTold_4 (by decide) (fun _ => ?_) (fun h => absurd h (by decide))
    refine g_iconst (v := 0) C dX11_isTold_23 (by decide) ?_
    exact ret _ _ _ _ _ _ dX11_isTold_24 rfl (by decide) (by decide) (⟨rfl, rfl⟩)
theorem dX11_isLeaflet_0 : decode cX11_isLeaflet 0 = .ok (.aload_n 0, 1) := by decide +kernel
theorem dX11_isLeaflet_1 : decode cX11_isLeaflet 1 = .ok (.iload_n 1, 1) := by decide +kernel
theorem dX11_isLeaflet_2 : decode cX11_isLeaflet 2 = .ok (.invokevirtual 97, 3) := by decide +kernel
theorem dX11_isLeaflet_5 : decode cX11_isLeaflet 5 = .ok (.ifCond .eq 14, 3) := by decide +kernel
theorem dX11_isLeaflet_19 : decode cX11_isLeaflet 19 = .ok (.iconst 0, 1) := by decide +kernel
theorem dX11_isLeaflet_20 : decode cX11_isLeaflet 20 = .ok (.ireturn, 1) := by decide +kernel
set_option maxHeartbeats 4000000 in
set_option maxRecDepth 100000 in
theorem c_X11_isLeaflet {P : PP} {x : Nat} {b : Int32} {n : Int32} (F : FC P x) : CtrI yX11_isLeaflet cX11_isLeaflet 3 (some Jvm.ClassFile.FieldType.boolean) ({ frames := 3, cells := 0, slots := 0, locals := 192 } : Room) 0 0 P [.ref x, .int b, .int n] (fun r P2 => P = P2 ∧ r = 0) := by
  obtain ⟨hx, hxK, ok, z1, z6, z9, zt, zh, zm⟩ := F
  refine enI (lv := [(0, .ref x), (1, .int b), (2, .int n)]) (by decide) (Nat.le_of_ble_eq_true rfl) rfl (fun E D cy C Ci0 ret => ?_)
  refine g_aload_n C dX11_isLeaflet_0 rfl 0 rfl ?_
  refine g_iload_n C dX11_isLeaflet_1 rfl 1 rfl ?_
  refine g_callVI (rest := []) C mv_X11_97 [.int b] (c_X11_isTold ⟨hx, hxK, ok, z1, z6, z9, zt, zh, zm⟩) hx hxK rfl rfl (by decide) (by decide) (by decide) dX11_isLeaflet_2 (fun r16 Q17 h18 => ?_)
  obtain ⟨rfl, rfl⟩ := h18
  refine b_if_eq C 19 dX11_isLeaflet_5 (by decide) (fun _ => ?_) (fun h => absurd h (by decide))
  refine g_iconst (v := 0) C dX11_isLeaflet_19 (by decide) ?_
  exact ret _ _ _ _ _ _ dX11_isLeaflet_20 rfl (by decide) (by decide) (⟨rfl, rfl⟩)
theorem dX11_isPageOf_0 : decode cX11_isPageOf 0 = .ok (.aload_n 0, 1) := by decide +kernel
theorem dX11_isPageOf_1 : decode cX11_isPageOf 1 = .ok (.iload_n 1, 1) := by decide +kernel
theorem dX11_isPageOf_2 : decode cX11_isPageOf 2 = .ok (.invokevirtual 97, 3) := by decide +kernel
theorem dX11_isPageOf_5 : decode cX11_isPageOf 5 = .ok (.ifCond .eq 24, 3) := by decide +kernel
theorem dX11_isPageOf_29 : decode cX11_isPageOf 29 = .ok (.iconst 0, 1) := by decide +kernel
theorem dX11_isPageOf_30 : decode cX11_isPageOf 30 = .ok (.ireturn, 1) := by decide +kernel
set_option maxHeartbeats 4000000 in
set_option maxRecDepth 100000 in
theorem c_X11_isPageOf {P : PP} {x : Nat} {b : Int32} {n : Int32} (F : FC P x) : CtrI yX11_isPageOf cX11_isPageOf 3 (some Jvm.ClassFile.FieldType.boolean) ({ frames := 3, cells := 0, slots := 0, locals := 192 } : Room) 0 0 P [.ref x, .int b, .int n] (fun r P2 => P = P2 ∧ r = 0) := by
  obtain ⟨hx, hxK, ok, z1, z6, z9, zt, zh, zm⟩ := F
  refine enI (lv := [(0, .ref x), (1, .int b), (2, .int n)]) (by decide) (Nat.le_of_ble_eq_true rfl) rfl (fun E D cy C Ci0 ret => ?_)
  refine g_aload_n C dX11_isPageOf_0 rfl 0 rfl ?_
  refine g_iload_n C dX11_isPageOf_1 rfl 1 rfl ?_
  refine g_callVI (rest := []) C mv_X11_97 [.int b] (c_X11_isTold ⟨hx, hxK, ok, z1, z6, z9, zt, zh, zm⟩) hx hxK rfl rfl (by decide) (by decide) (by decide) dX11_isPageOf_2 (fun r19 Q20 h21 => ?_)
  obtain ⟨rfl, rfl⟩ := h21
  refine b_if_eq C 29 dX11_isPageOf_5 (by decide) (fun _ => ?_) (fun h => absurd h (by decide))
  refine g_iconst (v := 0) C dX11_isPageOf_29 (by decide) ?_
  exact ret _ _ _ _ _ _ dX11_isPageOf_30 rfl (by decide) (by decide) (⟨rfl, rfl⟩)
theorem dX6_at_0 : decode cX6_at 0 = .ok (.iload_n 1, 1) := by decide +kernel
theorem dX6_at_1 : decode cX6_at 1 = .ok (.ifCond .lt 26, 3) := by decide +kernel
theorem dX6_at_4 : decode cX6_at 4 = .ok (.iload_n 1, 1) := by decide +kernel
theorem dX6_at_5 : decode cX6_at 5 = .ok (.aload_n 0, 1) := by decide +kernel
theorem dX6_at_6 : decode cX6_at 6 = .ok (.getfield 17, 3) := by decide +kernel
theorem dX6_at_9 : decode cX6_at 9 = .ok (.if_icmp .ge 18, 3) := by decide +kernel
theorem dX6_at_27 : decode cX6_at 27 = .ok (.aconst_null, 1) := by decide +kernel
theorem dX6_at_28 : decode cX6_at 28 = .ok (.areturn, 1) := by decide +kernel
set_option maxHeartbeats 4000000 in
set_option maxRecDepth 100000 in
theorem c_X6_at {P : PP} {a : Nat} {k : Int32} (ha : a ∈ pL P) (haK : pK P a = 6) (z : pI P a 1 = 0) : CtrQ yX6_at cX6_at 2 (some (Jvm.ClassFile.FieldType.object "ThousandLeaflets$Paper")) ({ frames := 1, cells := 0, slots := 0, locals := 64 } : Room) 0 0 P [.ref a, .int k] (fun r P2 => P = P2 ∧ r = none) := by
  refine enQ (lv := [(0, .ref a), (1, .int k)]) (by decide) (by first | exact Or.inl ⟨_, rfl⟩ | exact Or.inr ⟨_, rfl⟩) (Nat.le_of_ble_eq_true rfl) rfl (fun E D cy C Ci0 ret => ?_)
  refine g_iload_n C dX6_at_0 rfl 1 rfl ?_
  refine b_if_lt C 27 dX6_at_1 (by decide) (fun h22 => ?_) (fun h22 => ?_)
  · have h22 : k.toInt < 0 := h22
    refine g_null C dX6_at_27 ?_
    exact ret _ _ _ _ _ _ dX6_at_28 (by decide) (by decide) (⟨rfl, rfl⟩)
  · have h22 : 0 ≤ k.toInt := h22
    refine g_iload_n C dX6_at_4 rfl 1 rfl ?_
    refine g_aload_n C dX6_at_5 rfl 0 rfl ?_
    refine g_getI C fi_X6_17 (by decide) ha haK dX6_at_6 ?_
    rw [show pI P a 1 = 0 from z]
    refine b_icmp_ge C 27 dX6_at_9 (by decide) (fun h23 => ?_) (fun h23 => ?_)
    · have h23 : 0 ≤ k.toInt := h23
      refine g_null C dX6_at_27 ?_
      exact ret _ _ _ _ _ _ dX6_at_28 (by decide) (by decide) (⟨rfl, rfl⟩)
    · have h23 : k.toInt < 0 := h23
      omega
theorem dX11_paperAt_0 : decode cX11_paperAt 0 = .ok (.iload_n 1, 1) := by decide +kernel
theorem dX11_paperAt_1 : decode cX11_paperAt 1 = .ok (.invokestatic 158, 3) := by decide +kernel
theorem dX11_paperAt_4 : decode cX11_paperAt 4 = .ok (.ifCond .eq 16, 3) := by decide +kernel
theorem dX11_paperAt_7 : decode cX11_paperAt 7 = .ok (.aload_n 0, 1) := by decide +kernel
theorem dX11_paperAt_8 : decode cX11_paperAt 8 = .ok (.getfield 17, 3) := by decide +kernel
theorem dX11_paperAt_11 : decode cX11_paperAt 11 = .ok (.iload_n 1, 1) := by decide +kernel
theorem dX11_paperAt_12 : decode cX11_paperAt 12 = .ok (.aaload, 1) := by decide +kernel
theorem dX11_paperAt_13 : decode cX11_paperAt 13 = .ok (.iload_n 2, 1) := by decide +kernel
theorem dX11_paperAt_14 : decode cX11_paperAt 14 = .ok (.invokevirtual 337, 3) := by decide +kernel
theorem dX11_paperAt_17 : decode cX11_paperAt 17 = .ok (.goto 4, 3) := by decide +kernel
theorem dX11_paperAt_20 : decode cX11_paperAt 20 = .ok (.aconst_null, 1) := by decide +kernel
theorem dX11_paperAt_21 : decode cX11_paperAt 21 = .ok (.areturn, 1) := by decide +kernel
set_option maxHeartbeats 4000000 in
set_option maxRecDepth 100000 in
theorem c_X11_paperAt {P : PP} {x : Nat} {q : Int32} {k : Int32} (F : FC P x) : CtrQ yX11_paperAt cX11_paperAt 3 (some (Jvm.ClassFile.FieldType.object "ThousandLeaflets$Paper")) ({ frames := 2, cells := 0, slots := 0, locals := 128 } : Room) 0 0 P [.ref x, .int q, .int k] (fun r P2 => P = P2 ∧ r = none) := by
  obtain ⟨hx, hxK, ok, z1, z6, z9, zt, zh, zm⟩ := F
  refine enQ (lv := [(0, .ref x), (1, .int q), (2, .int k)]) (by decide) (by first | exact Or.inl ⟨_, rfl⟩ | exact Or.inr ⟨_, rfl⟩) (Nat.le_of_ble_eq_true rfl) rfl (fun E D cy C Ci0 ret => ?_)
  refine g_iload_n C dX11_paperAt_0 rfl 1 rfl ?_
  refine g_callSI (b := 0) (ci := 0) (rest := []) C ms_X11_158 [.int q] (c_X11_isQuarter) rfl rfl (by decide) (by decide) (by decide) dX11_paperAt_1 (fun r24 Q25 h26 => ?_)
  obtain ⟨rfl, h26⟩ := h26
  rcases h26 with ⟨rfl, h26⟩ | ⟨rfl, h26⟩
  · refine b_if_eq C 20 dX11_paperAt_4 (by decide) (fun h => absurd h (by decide)) (fun _ => ?_)
    refine g_aload_n C dX11_paperAt_7 rfl 0 rfl ?_
    obtain ⟨b27, h28⟩ := xFd.at (ok x hx) hxK 1 19 4 rfl
    refine g_getR C fi_X11_17 rfl h28.1 hx hxK dX11_paperAt_8 ?_
    refine g_iload_n C dX11_paperAt_11 rfl 1 rfl ?_
    obtain ⟨b29, h30⟩ := xAr.at (ok b27 h28.2.1) h28.2.2.1 (by decide) (q.toInt.toNat) (lt_n h28.2.2.2 (by omega))
    refine g_aldR C h28.2.1 h28.2.2.1 (by decide) (IX.intn (i := q) h28.2.2.2 (by omega) (by omega)) h30.1 dX11_paperAt_12 ?_
    refine g_iload_n C dX11_paperAt_13 rfl 2 rfl ?_
    refine g_callVQ (rest := []) C mv_X11_337 [.int k] (c_X6_at h30.2.1 h30.2.2 (z6 _ h30.2.1 h30.2.2)) h30.2.1 h30.2.2 rfl rfl (by decide) (by decide) (by decide) dX11_paperAt_14 (fun r31 Q32 h33 => ?_)
    obtain ⟨rfl, rfl⟩ := h33
    refine g_goto C 21 dX11_paperAt_17 (by decide) ?_
    exact ret _ _ _ _ _ _ dX11_paperAt_21 (by decide) (by decide) (⟨rfl, rfl⟩)
  · refine b_if_eq C 20 dX11_paperAt_4 (by decide) (fun _ => ?_) (fun h => absurd h (by decide))
    refine g_null C dX11_paperAt_20 ?_
    exact ret _ _ _ _ _ _ dX11_paperAt_21 (by decide) (by decide) (⟨rfl, rfl⟩)
theorem dX11_leaflet_0 : decode cX11_leaflet 0 = .ok (.aload_n 0, 1) := by decide +kernel
theorem dX11_leaflet_1 : decode cX11_leaflet 1 = .ok (.iload_n 1, 1) := by decide +kernel
theorem dX11_leaflet_2 : decode cX11_leaflet 2 = .ok (.iload_n 2, 1) := by decide +kernel
theorem dX11_leaflet_3 : decode cX11_leaflet 3 = .ok (.invokevirtual 136, 3) := by decide +kernel
theorem dX11_leaflet_6 : decode cX11_leaflet 6 = .ok (.ifCond .ne 5, 3) := by decide +kernel
theorem dX11_leaflet_9 : decode cX11_leaflet 9 = .ok (.iconst (-1), 1) := by decide +kernel
theorem dX11_leaflet_10 : decode cX11_leaflet 10 = .ok (.ireturn, 1) := by decide +kernel
set_option maxHeartbeats 4000000 in
set_option maxRecDepth 100000 in
theorem c_X11_leaflet {P : PP} {x : Nat} {p0 : Int32} {p1 : Int32} {p2 : Int32} (F : FC P x) : CtrI yX11_leaflet cX11_leaflet 6 (some Jvm.ClassFile.FieldType.int) ({ frames := 4, cells := 0, slots := 0, locals := 256 } : Room) 0 0 P [.ref x, .int p0, .int p1, .int p2] (fun r _ => r = -1) := by
  obtain ⟨hx, hxK, ok, z1, z6, z9, zt, zh, zm⟩ := F
  refine enI (lv := [(0, .ref x), (1, .int p0), (2, .int p1), (3, .int p2)]) (by decide) (Nat.le_of_ble_eq_true rfl) rfl (fun E D cy C Ci0 ret => ?_)
  refine g_aload_n C dX11_leaflet_0 rfl 0 rfl ?_
  refine g_iload_n C dX11_leaflet_1 rfl 1 rfl ?_
  refine g_iload_n C dX11_leaflet_2 rfl 2 rfl ?_
  refine g_callVI (rest := []) C mv_X11_136 [.int p0, .int p1] (c_X11_isLeaflet ⟨hx, hxK, ok, z1, z6, z9, zt, zh, zm⟩) hx hxK rfl rfl (by decide) (by decide) (by decide) dX11_leaflet_3 (fun r34 Q35 h36 => ?_)
  obtain ⟨rfl, rfl⟩ := h36
  refine b_if_ne C 11 dX11_leaflet_6 (by decide) (fun h => absurd h (by decide)) (fun _ => ?_)
  refine g_iconst (v := (-1)) C dX11_leaflet_9 (by decide) ?_
  exact ret _ _ _ _ _ _ dX11_leaflet_10 rfl (by decide) (by decide) (rfl)
theorem dX11_told_0 : decode cX11_told 0 = .ok (.aload_n 0, 1) := by decide +kernel
theorem dX11_told_1 : decode cX11_told 1 = .ok (.iload_n 1, 1) := by decide +kernel
theorem dX11_told_2 : decode cX11_told 2 = .ok (.iload_n 2, 1) := by decide +kernel
theorem dX11_told_3 : decode cX11_told 3 = .ok (.invokevirtual 155, 3) := by decide +kernel
theorem dX11_told_6 : decode cX11_told 6 = .ok (.ifCond .ne 5, 3) := by decide +kernel
theorem dX11_told_9 : decode cX11_told 9 = .ok (.iconst (-1), 1) := by decide +kernel
theorem dX11_told_10 : decode cX11_told 10 = .ok (.ireturn, 1) := by decide +kernel
set_option maxHeartbeats 4000000 in
set_option maxRecDepth 100000 in
theorem c_X11_told {P : PP} {x : Nat} {p0 : Int32} {p1 : Int32} (F : FC P x) : CtrI yX11_told cX11_told 3 (some Jvm.ClassFile.FieldType.int) ({ frames := 4, cells := 0, slots := 0, locals := 256 } : Room) 0 0 P [.ref x, .int p0, .int p1] (fun r _ => r = -1) := by
  obtain ⟨hx, hxK, ok, z1, z6, z9, zt, zh, zm⟩ := F
  refine enI (lv := [(0, .ref x), (1, .int p0), (2, .int p1)]) (by decide) (Nat.le_of_ble_eq_true rfl) rfl (fun E D cy C Ci0 ret => ?_)
  refine g_aload_n C dX11_told_0 rfl 0 rfl ?_
  refine g_iload_n C dX11_told_1 rfl 1 rfl ?_
  refine g_iload_n C dX11_told_2 rfl 2 rfl ?_
  refine g_callVI (rest := []) C mv_X11_155 [.int p0, .int p1] (c_X11_isPageOf ⟨hx, hxK, ok, z1, z6, z9, zt, zh, zm⟩) hx hxK rfl rfl (by decide) (by decide) (by decide) dX11_told_3 (fun r37 Q38 h39 => ?_)
  obtain ⟨rfl, rfl⟩ := h39
  refine b_if_ne C 11 dX11_told_6 (by decide) (fun h => absurd h (by decide)) (fun _ => ?_)
  refine g_iconst (v := (-1)) C dX11_told_9 (by decide) ?_
  exact ret _ _ _ _ _ _ dX11_told_10 rfl (by decide) (by decide) (rfl)
theorem dX11_comes_0 : decode cX11_comes 0 = .ok (.iload_n 1, 1) := by decide +kernel
theorem dX11_comes_1 : decode cX11_comes 1 = .ok (.invokestatic 158, 3) := by decide +kernel
theorem dX11_comes_4 : decode cX11_comes 4 = .ok (.ifCond .eq 24, 3) := by decide +kernel
theorem dX11_comes_7 : decode cX11_comes 7 = .ok (.aload_n 0, 1) := by decide +kernel
theorem dX11_comes_8 : decode cX11_comes 8 = .ok (.iload_n 2, 1) := by decide +kernel
theorem dX11_comes_9 : decode cX11_comes 9 = .ok (.iload_n 3, 1) := by decide +kernel
theorem dX11_comes_10 : decode cX11_comes 10 = .ok (.invokevirtual 136, 3) := by decide +kernel
theorem dX11_comes_13 : decode cX11_comes 13 = .ok (.ifCond .eq 15, 3) := by decide +kernel
theorem dX11_comes_28 : decode cX11_comes 28 = .ok (.iconst (-1), 1) := by decide +kernel
theorem dX11_comes_29 : decode cX11_comes 29 = .ok (.ireturn, 1) := by decide +kernel
set_option maxHeartbeats 4000000 in
set_option maxRecDepth 100000 in
theorem c_X11_comes {P : PP} {x : Nat} {p0 : Int32} {p1 : Int32} {p2 : Int32} {p3 : Int32} (F : FC P x) : CtrI yX11_comes cX11_comes 5 (some Jvm.ClassFile.FieldType.int) ({ frames := 4, cells := 0, slots := 0, locals := 256 } : Room) 0 0 P [.ref x, .int p0, .int p1, .int p2, .int p3] (fun r _ => r = -1) := by
  obtain ⟨hx, hxK, ok, z1, z6, z9, zt, zh, zm⟩ := F
  refine enI (lv := [(0, .ref x), (1, .int p0), (2, .int p1), (3, .int p2), (4, .int p3)]) (by decide) (Nat.le_of_ble_eq_true rfl) rfl (fun E D cy C Ci0 ret => ?_)
  refine g_iload_n C dX11_comes_0 rfl 1 rfl ?_
  refine g_callSI (b := 0) (ci := 0) (rest := []) C ms_X11_158 [.int p0] (c_X11_isQuarter) rfl rfl (by decide) (by decide) (by decide) dX11_comes_1 (fun r40 Q41 h42 => ?_)
  obtain ⟨rfl, h42⟩ := h42
  rcases h42 with ⟨rfl, h42⟩ | ⟨rfl, h42⟩
  · refine b_if_eq C 28 dX11_comes_4 (by decide) (fun h => absurd h (by decide)) (fun _ => ?_)
    refine g_aload_n C dX11_comes_7 rfl 0 rfl ?_
    refine g_iload_n C dX11_comes_8 rfl 2 rfl ?_
    refine g_iload_n C dX11_comes_9 rfl 3 rfl ?_
    refine g_callVI (rest := []) C mv_X11_136 [.int p1, .int p2] (c_X11_isLeaflet ⟨hx, hxK, ok, z1, z6, z9, zt, zh, zm⟩) hx hxK rfl rfl (by decide) (by decide) (by decide) dX11_comes_10 (fun r43 Q44 h45 => ?_)
    obtain ⟨rfl, rfl⟩ := h45
    refine b_if_eq C 28 dX11_comes_13 (by decide) (fun _ => ?_) (fun h => absurd h (by decide))
    refine g_iconst (v := (-1)) C dX11_comes_28 (by decide) ?_
    exact ret _ _ _ _ _ _ dX11_comes_29 rfl (by decide) (by decide) (rfl)
  · refine b_if_eq C 28 dX11_comes_4 (by decide) (fun _ => ?_) (fun h => absurd h (by decide))
    refine g_iconst (v := (-1)) C dX11_comes_28 (by decide) ?_
    exact ret _ _ _ _ _ _ dX11_comes_29 rfl (by decide) (by decide) (rfl)
theorem dX11_slip_0 : decode cX11_slip 0 = .ok (.iload_n 1, 1) := by decide +kernel
theorem dX11_slip_1 : decode cX11_slip 1 = .ok (.invokestatic 158, 3) := by decide +kernel
theorem dX11_slip_4 : decode cX11_slip 4 = .ok (.ifCond .eq 25, 3) := by decide +kernel
theorem dX11_slip_7 : decode cX11_slip 7 = .ok (.aload_n 0, 1) := by decide +kernel
theorem dX11_slip_8 : decode cX11_slip 8 = .ok (.iload_n 2, 1) := by decide +kernel
theorem dX11_slip_9 : decode cX11_slip 9 = .ok (.iload_n 3, 1) := by decide +kernel
theorem dX11_slip_10 : decode cX11_slip 10 = .ok (.invokevirtual 136, 3) := by decide +kernel
theorem dX11_slip_13 : decode cX11_slip 13 = .ok (.ifCond .eq 16, 3) := by decide +kernel
theorem dX11_slip_29 : decode cX11_slip 29 = .ok (.iconst (-1), 1) := by decide +kernel
theorem dX11_slip_30 : decode cX11_slip 30 = .ok (.ireturn, 1) := by decide +kernel
set_option maxHeartbeats 4000000 in
set_option maxRecDepth 100000 in
theorem c_X11_slip {P : PP} {x : Nat} {p0 : Int32} {p1 : Int32} {p2 : Int32} {p3 : Int32} (F : FC P x) : CtrI yX11_slip cX11_slip 7 (some Jvm.ClassFile.FieldType.int) ({ frames := 4, cells := 0, slots := 0, locals := 256 } : Room) 0 0 P [.ref x, .int p0, .int p1, .int p2, .int p3] (fun r _ => r = -1) := by
  obtain ⟨hx, hxK, ok, z1, z6, z9, zt, zh, zm⟩ := F
  refine enI (lv := [(0, .ref x), (1, .int p0), (2, .int p1), (3, .int p2), (4, .int p3)]) (by decide) (Nat.le_of_ble_eq_true rfl) rfl (fun E D cy C Ci0 ret => ?_)
  refine g_iload_n C dX11_slip_0 rfl 1 rfl ?_
  refine g_callSI (b := 0) (ci := 0) (rest := []) C ms_X11_158 [.int p0] (c_X11_isQuarter) rfl rfl (by decide) (by decide) (by decide) dX11_slip_1 (fun r46 Q47 h48 => ?_)
  obtain ⟨rfl, h48⟩ := h48
  rcases h48 with ⟨rfl, h48⟩ | ⟨rfl, h48⟩
  · refine b_if_eq C 29 dX11_slip_4 (by decide) (fun h => absurd h (by decide)) (fun _ => ?_)
    refine g_aload_n C dX11_slip_7 rfl 0 rfl ?_
    refine g_iload_n C dX11_slip_8 rfl 2 rfl ?_
    refine g_iload_n C dX11_slip_9 rfl 3 rfl ?_
    refine g_callVI (rest := []) C mv_X11_136 [.int p1, .int p2] (c_X11_isLeaflet ⟨hx, hxK, ok, z1, z6, z9, zt, zh, zm⟩) hx hxK rfl rfl (by decide) (by decide) (by decide) dX11_slip_10 (fun r49 Q50 h51 => ?_)
    obtain ⟨rfl, rfl⟩ := h51
    refine b_if_eq C 29 dX11_slip_13 (by decide) (fun _ => ?_) (fun h => absurd h (by decide))
    refine g_iconst (v := (-1)) C dX11_slip_29 (by decide) ?_
    exact ret _ _ _ _ _ _ dX11_slip_30 rfl (by decide) (by decide) (rfl)
  · refine b_if_eq C 29 dX11_slip_4 (by decide) (fun _ => ?_) (fun h => absurd h (by decide))
    refine g_iconst (v := (-1)) C dX11_slip_29 (by decide) ?_
    exact ret _ _ _ _ _ _ dX11_slip_30 rfl (by decide) (by decide) (rfl)
theorem dX11_forged_0 : decode cX11_forged 0 = .ok (.iload_n 1, 1) := by decide +kernel
theorem dX11_forged_1 : decode cX11_forged 1 = .ok (.invokestatic 158, 3) := by decide +kernel
theorem dX11_forged_4 : decode cX11_forged 4 = .ok (.ifCond .eq 12, 3) := by decide +kernel
theorem dX11_forged_7 : decode cX11_forged 7 = .ok (.aload_n 0, 1) := by decide +kernel
theorem dX11_forged_8 : decode cX11_forged 8 = .ok (.iload_n 2, 1) := by decide +kernel
theorem dX11_forged_9 : decode cX11_forged 9 = .ok (.iload_n 3, 1) := by decide +kernel
theorem dX11_forged_10 : decode cX11_forged 10 = .ok (.invokevirtual 136, 3) := by decide +kernel
theorem dX11_forged_13 : decode cX11_forged 13 = .ok (.ifCond .ne 5, 3) := by decide +kernel
theorem dX11_forged_16 : decode cX11_forged 16 = .ok (.iconst (-1), 1) := by decide +kernel
theorem dX11_forged_17 : decode cX11_forged 17 = .ok (.ireturn, 1) := by decide +kernel
set_option maxHeartbeats 4000000 in
set_option maxRecDepth 100000 in
theorem c_X11_forged {P : PP} {x : Nat} {p0 : Int32} {p1 : Int32} {p2 : Int32} {p3 : Int32} {p4 : Int32} (F : FC P x) : CtrI yX11_forged cX11_forged 6 (some Jvm.ClassFile.FieldType.int) ({ frames := 4, cells := 0, slots := 0, locals := 256 } : Room) 0 0 P [.ref x, .int p0, .int p1, .int p2, .int p3, .int p4] (fun r _ => r = -1) := by
  obtain ⟨hx, hxK, ok, z1, z6, z9, zt, zh, zm⟩ := F
  refine enI (lv := [(0, .ref x), (1, .int p0), (2, .int p1), (3, .int p2), (4, .int p3), (5, .int p4)]) (by decide) (Nat.le_of_ble_eq_true rfl) rfl (fun E D cy C Ci0 ret => ?_)
  refine g_iload_n C dX11_forged_0 rfl 1 rfl ?_
  refine g_callSI (b := 0) (ci := 0) (rest := []) C ms_X11_158 [.int p0] (c_X11_isQuarter) rfl rfl (by decide) (by decide) (by decide) dX11_forged_1 (fun r52 Q53 h54 => ?_)
  obtain ⟨rfl, h54⟩ := h54
  rcases h54 with ⟨rfl, h54⟩ | ⟨rfl, h54⟩
  · refine b_if_eq C 16 dX11_forged_4 (by decide) (fun h => absurd h (by decide)) (fun _ => ?_)
    refine g_aload_n C dX11_forged_7 rfl 0 rfl ?_
    refine g_iload_n C dX11_forged_8 rfl 2 rfl ?_
    refine g_iload_n C dX11_forged_9 rfl 3 rfl ?_
    refine g_callVI (rest := []) C mv_X11_136 [.int p1, .int p2] (c_X11_isLeaflet ⟨hx, hxK, ok, z1, z6, z9, zt, zh, zm⟩) hx hxK rfl rfl (by decide) (by decide) (by decide) dX11_forged_10 (fun r55 Q56 h57 => ?_)
    obtain ⟨rfl, rfl⟩ := h57
    refine b_if_ne C 18 dX11_forged_13 (by decide) (fun h => absurd h (by decide)) (fun _ => ?_)
    refine g_iconst (v := (-1)) C dX11_forged_16 (by decide) ?_
    exact ret _ _ _ _ _ _ dX11_forged_17 rfl (by decide) (by decide) (rfl)
  · refine b_if_eq C 16 dX11_forged_4 (by decide) (fun _ => ?_) (fun h => absurd h (by decide))
    refine g_iconst (v := (-1)) C dX11_forged_16 (by decide) ?_
    exact ret _ _ _ _ _ _ dX11_forged_17 rfl (by decide) (by decide) (rfl)
theorem dX11_peels_0 : decode cX11_peels 0 = .ok (.iload_n 1, 1) := by decide +kernel
theorem dX11_peels_1 : decode cX11_peels 1 = .ok (.invokestatic 158, 3) := by decide +kernel
theorem dX11_peels_4 : decode cX11_peels 4 = .ok (.ifCond .eq 18, 3) := by decide +kernel
theorem dX11_peels_7 : decode cX11_peels 7 = .ok (.aload_n 0, 1) := by decide +kernel
theorem dX11_peels_8 : decode cX11_peels 8 = .ok (.iload_n 2, 1) := by decide +kernel
theorem dX11_peels_9 : decode cX11_peels 9 = .ok (.invokevirtual 97, 3) := by decide +kernel
theorem dX11_peels_12 : decode cX11_peels 12 = .ok (.ifCond .eq 10, 3) := by decide +kernel
theorem dX11_peels_22 : decode cX11_peels 22 = .ok (.iconst (-1), 1) := by decide +kernel
theorem dX11_peels_23 : decode cX11_peels 23 = .ok (.ireturn, 1) := by decide +kernel
set_option maxHeartbeats 4000000 in
set_option maxRecDepth 100000 in
theorem c_X11_peels {P : PP} {x : Nat} {p0 : Int32} {p1 : Int32} {p2 : Int32} {p3 : Int32} (F : FC P x) : CtrI yX11_peels cX11_peels 7 (some Jvm.ClassFile.FieldType.int) ({ frames := 4, cells := 0, slots := 0, locals := 256 } : Room) 0 0 P [.ref x, .int p0, .int p1, .int p2, .int p3] (fun r _ => r = -1) := by
  obtain ⟨hx, hxK, ok, z1, z6, z9, zt, zh, zm⟩ := F
  refine enI (lv := [(0, .ref x), (1, .int p0), (2, .int p1), (3, .int p2), (4, .int p3)]) (by decide) (Nat.le_of_ble_eq_true rfl) rfl (fun E D cy C Ci0 ret => ?_)
  refine g_iload_n C dX11_peels_0 rfl 1 rfl ?_
  refine g_callSI (b := 0) (ci := 0) (rest := []) C ms_X11_158 [.int p0] (c_X11_isQuarter) rfl rfl (by decide) (by decide) (by decide) dX11_peels_1 (fun r58 Q59 h60 => ?_)
  obtain ⟨rfl, h60⟩ := h60
  rcases h60 with ⟨rfl, h60⟩ | ⟨rfl, h60⟩
  · refine b_if_eq C 22 dX11_peels_4 (by decide) (fun h => absurd h (by decide)) (fun _ => ?_)
    refine g_aload_n C dX11_peels_7 rfl 0 rfl ?_
    refine g_iload_n C dX11_peels_8 rfl 2 rfl ?_
    refine g_callVI (rest := []) C mv_X11_97 [.int p1] (c_X11_isTold ⟨hx, hxK, ok, z1, z6, z9, zt, zh, zm⟩) hx hxK rfl rfl (by decide) (by decide) (by decide) dX11_peels_9 (fun r61 Q62 h63 => ?_)
    obtain ⟨rfl, rfl⟩ := h63
    refine b_if_eq C 22 dX11_peels_12 (by decide) (fun _ => ?_) (fun h => absurd h (by decide))
    refine g_iconst (v := (-1)) C dX11_peels_22 (by decide) ?_
    exact ret _ _ _ _ _ _ dX11_peels_23 rfl (by decide) (by decide) (rfl)
  · refine b_if_eq C 22 dX11_peels_4 (by decide) (fun _ => ?_) (fun h => absurd h (by decide))
    refine g_iconst (v := (-1)) C dX11_peels_22 (by decide) ?_
    exact ret _ _ _ _ _ _ dX11_peels_23 rfl (by decide) (by decide) (rfl)
theorem dX11_solves_0 : decode cX11_solves 0 = .ok (.iload_n 1, 1) := by decide +kernel
theorem dX11_solves_1 : decode cX11_solves 1 = .ok (.invokestatic 158, 3) := by decide +kernel
theorem dX11_solves_4 : decode cX11_solves 4 = .ok (.ifCond .eq 18, 3) := by decide +kernel
theorem dX11_solves_7 : decode cX11_solves 7 = .ok (.aload_n 0, 1) := by decide +kernel
theorem dX11_solves_8 : decode cX11_solves 8 = .ok (.iload_n 2, 1) := by decide +kernel
theorem dX11_solves_9 : decode cX11_solves 9 = .ok (.invokevirtual 97, 3) := by decide +kernel
theorem dX11_solves_12 : decode cX11_solves 12 = .ok (.ifCond .eq 10, 3) := by decide +kernel
theorem dX11_solves_22 : decode cX11_solves 22 = .ok (.iconst (-1), 1) := by decide +kernel
theorem dX11_solves_23 : decode cX11_solves 23 = .ok (.ireturn, 1) := by decide +kernel
set_option maxHeartbeats 4000000 in
set_option maxRecDepth 100000 in
theorem c_X11_solves {P : PP} {x : Nat} {p0 : Int32} {p1 : Int32} {p2 : Int32} {p3 : Int32} (F : FC P x) : CtrI yX11_solves cX11_solves 7 (some Jvm.ClassFile.FieldType.int) ({ frames := 4, cells := 0, slots := 0, locals := 256 } : Room) 0 0 P [.ref x, .int p0, .int p1, .int p2, .int p3] (fun r _ => r = -1) := by
  obtain ⟨hx, hxK, ok, z1, z6, z9, zt, zh, zm⟩ := F
  refine enI (lv := [(0, .ref x), (1, .int p0), (2, .int p1), (3, .int p2), (4, .int p3)]) (by decide) (Nat.le_of_ble_eq_true rfl) rfl (fun E D cy C Ci0 ret => ?_)
  refine g_iload_n C dX11_solves_0 rfl 1 rfl ?_
  refine g_callSI (b := 0) (ci := 0) (rest := []) C ms_X11_158 [.int p0] (c_X11_isQuarter) rfl rfl (by decide) (by decide) (by decide) dX11_solves_1 (fun r64 Q65 h66 => ?_)
  obtain ⟨rfl, h66⟩ := h66
  rcases h66 with ⟨rfl, h66⟩ | ⟨rfl, h66⟩
  · refine b_if_eq C 22 dX11_solves_4 (by decide) (fun h => absurd h (by decide)) (fun _ => ?_)
    refine g_aload_n C dX11_solves_7 rfl 0 rfl ?_
    refine g_iload_n C dX11_solves_8 rfl 2 rfl ?_
    refine g_callVI (rest := []) C mv_X11_97 [.int p1] (c_X11_isTold ⟨hx, hxK, ok, z1, z6, z9, zt, zh, zm⟩) hx hxK rfl rfl (by decide) (by decide) (by decide) dX11_solves_9 (fun r67 Q68 h69 => ?_)
    obtain ⟨rfl, rfl⟩ := h69
    refine b_if_eq C 22 dX11_solves_12 (by decide) (fun _ => ?_) (fun h => absurd h (by decide))
    refine g_iconst (v := (-1)) C dX11_solves_22 (by decide) ?_
    exact ret _ _ _ _ _ _ dX11_solves_23 rfl (by decide) (by decide) (rfl)
  · refine b_if_eq C 22 dX11_solves_4 (by decide) (fun _ => ?_) (fun h => absurd h (by decide))
    refine g_iconst (v := (-1)) C dX11_solves_22 (by decide) ?_
    exact ret _ _ _ _ _ _ dX11_solves_23 rfl (by decide) (by decide) (rfl)
theorem dX11_read_0 : decode cX11_read 0 = .ok (.iload_n 1, 1) := by decide +kernel
theorem dX11_read_1 : decode cX11_read 1 = .ok (.invokestatic 158, 3) := by decide +kernel
theorem dX11_read_4 : decode cX11_read 4 = .ok (.ifCond .eq 20, 3) := by decide +kernel
theorem dX11_read_7 : decode cX11_read 7 = .ok (.aload_n 0, 1) := by decide +kernel
theorem dX11_read_8 : decode cX11_read 8 = .ok (.iload_n 2, 1) := by decide +kernel
theorem dX11_read_9 : decode cX11_read 9 = .ok (.iload_n 3, 1) := by decide +kernel
theorem dX11_read_10 : decode cX11_read 10 = .ok (.invokevirtual 155, 3) := by decide +kernel
theorem dX11_read_13 : decode cX11_read 13 = .ok (.ifCond .eq 11, 3) := by decide +kernel
theorem dX11_read_24 : decode cX11_read 24 = .ok (.iconst (-1), 1) := by decide +kernel
theorem dX11_read_25 : decode cX11_read 25 = .ok (.ireturn, 1) := by decide +kernel
set_option maxHeartbeats 4000000 in
set_option maxRecDepth 100000 in
theorem c_X11_read {P : PP} {x : Nat} {p0 : Int32} {p1 : Int32} {p2 : Int32} {p3 : Int32} (F : FC P x) : CtrI yX11_read cX11_read 7 (some Jvm.ClassFile.FieldType.int) ({ frames := 4, cells := 0, slots := 0, locals := 256 } : Room) 0 0 P [.ref x, .int p0, .int p1, .int p2, .int p3] (fun r _ => r = -1) := by
  obtain ⟨hx, hxK, ok, z1, z6, z9, zt, zh, zm⟩ := F
  refine enI (lv := [(0, .ref x), (1, .int p0), (2, .int p1), (3, .int p2), (4, .int p3)]) (by decide) (Nat.le_of_ble_eq_true rfl) rfl (fun E D cy C Ci0 ret => ?_)
  refine g_iload_n C dX11_read_0 rfl 1 rfl ?_
  refine g_callSI (b := 0) (ci := 0) (rest := []) C ms_X11_158 [.int p0] (c_X11_isQuarter) rfl rfl (by decide) (by decide) (by decide) dX11_read_1 (fun r70 Q71 h72 => ?_)
  obtain ⟨rfl, h72⟩ := h72
  rcases h72 with ⟨rfl, h72⟩ | ⟨rfl, h72⟩
  · refine b_if_eq C 24 dX11_read_4 (by decide) (fun h => absurd h (by decide)) (fun _ => ?_)
    refine g_aload_n C dX11_read_7 rfl 0 rfl ?_
    refine g_iload_n C dX11_read_8 rfl 2 rfl ?_
    refine g_iload_n C dX11_read_9 rfl 3 rfl ?_
    refine g_callVI (rest := []) C mv_X11_155 [.int p1, .int p2] (c_X11_isPageOf ⟨hx, hxK, ok, z1, z6, z9, zt, zh, zm⟩) hx hxK rfl rfl (by decide) (by decide) (by decide) dX11_read_10 (fun r73 Q74 h75 => ?_)
    obtain ⟨rfl, rfl⟩ := h75
    refine b_if_eq C 24 dX11_read_13 (by decide) (fun _ => ?_) (fun h => absurd h (by decide))
    refine g_iconst (v := (-1)) C dX11_read_24 (by decide) ?_
    exact ret _ _ _ _ _ _ dX11_read_25 rfl (by decide) (by decide) (rfl)
  · refine b_if_eq C 24 dX11_read_4 (by decide) (fun _ => ?_) (fun h => absurd h (by decide))
    refine g_iconst (v := (-1)) C dX11_read_24 (by decide) ?_
    exact ret _ _ _ _ _ _ dX11_read_25 rfl (by decide) (by decide) (rfl)
theorem dX11_soon_0 : decode cX11_soon 0 = .ok (.iload_n 1, 1) := by decide +kernel
theorem dX11_soon_1 : decode cX11_soon 1 = .ok (.invokestatic 158, 3) := by decide +kernel
theorem dX11_soon_4 : decode cX11_soon 4 = .ok (.ifCond .eq 20, 3) := by decide +kernel
theorem dX11_soon_7 : decode cX11_soon 7 = .ok (.aload_n 0, 1) := by decide +kernel
theorem dX11_soon_8 : decode cX11_soon 8 = .ok (.iload_n 2, 1) := by decide +kernel
theorem dX11_soon_9 : decode cX11_soon 9 = .ok (.iload_n 3, 1) := by decide +kernel
theorem dX11_soon_10 : decode cX11_soon 10 = .ok (.invokevirtual 155, 3) := by decide +kernel
theorem dX11_soon_13 : decode cX11_soon 13 = .ok (.ifCond .eq 11, 3) := by decide +kernel
theorem dX11_soon_24 : decode cX11_soon 24 = .ok (.iconst (-1), 1) := by decide +kernel
theorem dX11_soon_25 : decode cX11_soon 25 = .ok (.ireturn, 1) := by decide +kernel
set_option maxHeartbeats 4000000 in
set_option maxRecDepth 100000 in
theorem c_X11_soon {P : PP} {x : Nat} {p0 : Int32} {p1 : Int32} {p2 : Int32} {p3 : Int32} (F : FC P x) : CtrI yX11_soon cX11_soon 5 (some Jvm.ClassFile.FieldType.int) ({ frames := 4, cells := 0, slots := 0, locals := 256 } : Room) 0 0 P [.ref x, .int p0, .int p1, .int p2, .int p3] (fun r _ => r = -1) := by
  obtain ⟨hx, hxK, ok, z1, z6, z9, zt, zh, zm⟩ := F
  refine enI (lv := [(0, .ref x), (1, .int p0), (2, .int p1), (3, .int p2), (4, .int p3)]) (by decide) (Nat.le_of_ble_eq_true rfl) rfl (fun E D cy C Ci0 ret => ?_)
  refine g_iload_n C dX11_soon_0 rfl 1 rfl ?_
  refine g_callSI (b := 0) (ci := 0) (rest := []) C ms_X11_158 [.int p0] (c_X11_isQuarter) rfl rfl (by decide) (by decide) (by decide) dX11_soon_1 (fun r76 Q77 h78 => ?_)
  obtain ⟨rfl, h78⟩ := h78
  rcases h78 with ⟨rfl, h78⟩ | ⟨rfl, h78⟩
  · refine b_if_eq C 24 dX11_soon_4 (by decide) (fun h => absurd h (by decide)) (fun _ => ?_)
    refine g_aload_n C dX11_soon_7 rfl 0 rfl ?_
    refine g_iload_n C dX11_soon_8 rfl 2 rfl ?_
    refine g_iload_n C dX11_soon_9 rfl 3 rfl ?_
    refine g_callVI (rest := []) C mv_X11_155 [.int p1, .int p2] (c_X11_isPageOf ⟨hx, hxK, ok, z1, z6, z9, zt, zh, zm⟩) hx hxK rfl rfl (by decide) (by decide) (by decide) dX11_soon_10 (fun r79 Q80 h81 => ?_)
    obtain ⟨rfl, rfl⟩ := h81
    refine b_if_eq C 24 dX11_soon_13 (by decide) (fun _ => ?_) (fun h => absurd h (by decide))
    refine g_iconst (v := (-1)) C dX11_soon_24 (by decide) ?_
    exact ret _ _ _ _ _ _ dX11_soon_25 rfl (by decide) (by decide) (rfl)
  · refine b_if_eq C 24 dX11_soon_4 (by decide) (fun _ => ?_) (fun h => absurd h (by decide))
    refine g_iconst (v := (-1)) C dX11_soon_24 (by decide) ?_
    exact ret _ _ _ _ _ _ dX11_soon_25 rfl (by decide) (by decide) (rfl)
theorem dX11_slipped_0 : decode cX11_slipped 0 = .ok (.iload_n 1, 1) := by decide +kernel
theorem dX11_slipped_1 : decode cX11_slipped 1 = .ok (.invokestatic 158, 3) := by decide +kernel
theorem dX11_slipped_4 : decode cX11_slipped 4 = .ok (.ifCond .eq 29, 3) := by decide +kernel
theorem dX11_slipped_7 : decode cX11_slipped 7 = .ok (.aload_n 0, 1) := by decide +kernel
theorem dX11_slipped_8 : decode cX11_slipped 8 = .ok (.iload_n 2, 1) := by decide +kernel
theorem dX11_slipped_9 : decode cX11_slipped 9 = .ok (.invokevirtual 97, 3) := by decide +kernel
theorem dX11_slipped_12 : decode cX11_slipped 12 = .ok (.ifCond .eq 21, 3) := by decide +kernel
theorem dX11_slipped_33 : decode cX11_slipped 33 = .ok (.iconst (-1), 1) := by decide +kernel
theorem dX11_slipped_34 : decode cX11_slipped 34 = .ok (.ireturn, 1) := by decide +kernel
set_option maxHeartbeats 4000000 in
set_option maxRecDepth 100000 in
theorem c_X11_slipped {P : PP} {x : Nat} {p0 : Int32} {p1 : Int32} {p2 : Int32} {p3 : Int32} (F : FC P x) : CtrI yX11_slipped cX11_slipped 10 (some Jvm.ClassFile.FieldType.int) ({ frames := 4, cells := 0, slots := 0, locals := 256 } : Room) 0 0 P [.ref x, .int p0, .int p1, .int p2, .int p3] (fun r _ => r = -1) := by
  obtain ⟨hx, hxK, ok, z1, z6, z9, zt, zh, zm⟩ := F
  refine enI (lv := [(0, .ref x), (1, .int p0), (2, .int p1), (3, .int p2), (4, .int p3)]) (by decide) (Nat.le_of_ble_eq_true rfl) rfl (fun E D cy C Ci0 ret => ?_)
  refine g_iload_n C dX11_slipped_0 rfl 1 rfl ?_
  refine g_callSI (b := 0) (ci := 0) (rest := []) C ms_X11_158 [.int p0] (c_X11_isQuarter) rfl rfl (by decide) (by decide) (by decide) dX11_slipped_1 (fun r82 Q83 h84 => ?_)
  obtain ⟨rfl, h84⟩ := h84
  rcases h84 with ⟨rfl, h84⟩ | ⟨rfl, h84⟩
  · refine b_if_eq C 33 dX11_slipped_4 (by decide) (fun h => absurd h (by decide)) (fun _ => ?_)
    refine g_aload_n C dX11_slipped_7 rfl 0 rfl ?_
    refine g_iload_n C dX11_slipped_8 rfl 2 rfl ?_
    refine g_callVI (rest := []) C mv_X11_97 [.int p1] (c_X11_isTold ⟨hx, hxK, ok, z1, z6, z9, zt, zh, zm⟩) hx hxK rfl rfl (by decide) (by decide) (by decide) dX11_slipped_9 (fun r85 Q86 h87 => ?_)
    obtain ⟨rfl, rfl⟩ := h87
    refine b_if_eq C 33 dX11_slipped_12 (by decide) (fun _ => ?_) (fun h => absurd h (by decide))
    refine g_iconst (v := (-1)) C dX11_slipped_33 (by decide) ?_
    exact ret _ _ _ _ _ _ dX11_slipped_34 rfl (by decide) (by decide) (rfl)
  · refine b_if_eq C 33 dX11_slipped_4 (by decide) (fun _ => ?_) (fun h => absurd h (by decide))
    refine g_iconst (v := (-1)) C dX11_slipped_33 (by decide) ?_
    exact ret _ _ _ _ _ _ dX11_slipped_34 rfl (by decide) (by decide) (rfl)
theorem dX11_right_0 : decode cX11_right 0 = .ok (.iload_n 1, 1) := by decide +kernel
theorem dX11_right_1 : decode cX11_right 1 = .ok (.invokestatic 158, 3) := by decide +kernel
theorem dX11_right_4 : decode cX11_right 4 = .ok (.ifCond .eq 20, 3) := by decide +kernel
theorem dX11_right_7 : decode cX11_right 7 = .ok (.aload_n 0, 1) := by decide +kernel
theorem dX11_right_8 : decode cX11_right 8 = .ok (.iload_n 2, 1) := by decide +kernel
theorem dX11_right_9 : decode cX11_right 9 = .ok (.iload 4, 2) := by decide +kernel
theorem dX11_right_11 : decode cX11_right 11 = .ok (.invokevirtual 155, 3) := by decide +kernel
theorem dX11_right_14 : decode cX11_right 14 = .ok (.ifCond .eq 10, 3) := by decide +kernel
theorem dX11_right_24 : decode cX11_right 24 = .ok (.iconst (-1), 1) := by decide +kernel
theorem dX11_right_25 : decode cX11_right 25 = .ok (.ireturn, 1) := by decide +kernel
set_option maxHeartbeats 4000000 in
set_option maxRecDepth 100000 in
theorem c_X11_right {P : PP} {x : Nat} {p0 : Int32} {p1 : Int32} {p2 : Int32} {p3 : Int32} (F : FC P x) : CtrI yX11_right cX11_right 10 (some Jvm.ClassFile.FieldType.int) ({ frames := 4, cells := 0, slots := 0, locals := 256 } : Room) 0 0 P [.ref x, .int p0, .int p1, .int p2, .int p3] (fun r _ => r = -1) := by
  obtain ⟨hx, hxK, ok, z1, z6, z9, zt, zh, zm⟩ := F
  refine enI (lv := [(0, .ref x), (1, .int p0), (2, .int p1), (3, .int p2), (4, .int p3)]) (by decide) (Nat.le_of_ble_eq_true rfl) rfl (fun E D cy C Ci0 ret => ?_)
  refine g_iload_n C dX11_right_0 rfl 1 rfl ?_
  refine g_callSI (b := 0) (ci := 0) (rest := []) C ms_X11_158 [.int p0] (c_X11_isQuarter) rfl rfl (by decide) (by decide) (by decide) dX11_right_1 (fun r88 Q89 h90 => ?_)
  obtain ⟨rfl, h90⟩ := h90
  rcases h90 with ⟨rfl, h90⟩ | ⟨rfl, h90⟩
  · refine b_if_eq C 24 dX11_right_4 (by decide) (fun h => absurd h (by decide)) (fun _ => ?_)
    refine g_aload_n C dX11_right_7 rfl 0 rfl ?_
    refine g_iload_n C dX11_right_8 rfl 2 rfl ?_
    refine g_iload C dX11_right_9 4 rfl ?_
    refine g_callVI (rest := []) C mv_X11_155 [.int p1, .int p3] (c_X11_isPageOf ⟨hx, hxK, ok, z1, z6, z9, zt, zh, zm⟩) hx hxK rfl rfl (by decide) (by decide) (by decide) dX11_right_11 (fun r91 Q92 h93 => ?_)
    obtain ⟨rfl, rfl⟩ := h93
    refine b_if_eq C 24 dX11_right_14 (by decide) (fun _ => ?_) (fun h => absurd h (by decide))
    refine g_iconst (v := (-1)) C dX11_right_24 (by decide) ?_
    exact ret _ _ _ _ _ _ dX11_right_25 rfl (by decide) (by decide) (rfl)
  · refine b_if_eq C 24 dX11_right_4 (by decide) (fun _ => ?_) (fun h => absurd h (by decide))
    refine g_iconst (v := (-1)) C dX11_right_24 (by decide) ?_
    exact ret _ _ _ _ _ _ dX11_right_25 rfl (by decide) (by decide) (rfl)
theorem dX11_doubles_0 : decode cX11_doubles 0 = .ok (.iload_n 1, 1) := by decide +kernel
theorem dX11_doubles_1 : decode cX11_doubles 1 = .ok (.invokestatic 158, 3) := by decide +kernel
theorem dX11_doubles_4 : decode cX11_doubles 4 = .ok (.ifCond .eq 18, 3) := by decide +kernel
theorem dX11_doubles_7 : decode cX11_doubles 7 = .ok (.aload_n 0, 1) := by decide +kernel
theorem dX11_doubles_8 : decode cX11_doubles 8 = .ok (.iload_n 2, 1) := by decide +kernel
theorem dX11_doubles_9 : decode cX11_doubles 9 = .ok (.invokevirtual 97, 3) := by decide +kernel
theorem dX11_doubles_12 : decode cX11_doubles 12 = .ok (.ifCond .eq 10, 3) := by decide +kernel
theorem dX11_doubles_22 : decode cX11_doubles 22 = .ok (.iconst (-1), 1) := by decide +kernel
theorem dX11_doubles_23 : decode cX11_doubles 23 = .ok (.ireturn, 1) := by decide +kernel
set_option maxHeartbeats 4000000 in
set_option maxRecDepth 100000 in
theorem c_X11_doubles {P : PP} {x : Nat} {p0 : Int32} {p1 : Int32} {p2 : Int32} (F : FC P x) : CtrI yX11_doubles cX11_doubles 9 (some Jvm.ClassFile.FieldType.int) ({ frames := 4, cells := 0, slots := 0, locals := 256 } : Room) 0 0 P [.ref x, .int p0, .int p1, .int p2] (fun r _ => r = -1) := by
  obtain ⟨hx, hxK, ok, z1, z6, z9, zt, zh, zm⟩ := F
  refine enI (lv := [(0, .ref x), (1, .int p0), (2, .int p1), (3, .int p2)]) (by decide) (Nat.le_of_ble_eq_true rfl) rfl (fun E D cy C Ci0 ret => ?_)
  refine g_iload_n C dX11_doubles_0 rfl 1 rfl ?_
  refine g_callSI (b := 0) (ci := 0) (rest := []) C ms_X11_158 [.int p0] (c_X11_isQuarter) rfl rfl (by decide) (by decide) (by decide) dX11_doubles_1 (fun r94 Q95 h96 => ?_)
  obtain ⟨rfl, h96⟩ := h96
  rcases h96 with ⟨rfl, h96⟩ | ⟨rfl, h96⟩
  · refine b_if_eq C 22 dX11_doubles_4 (by decide) (fun h => absurd h (by decide)) (fun _ => ?_)
    refine g_aload_n C dX11_doubles_7 rfl 0 rfl ?_
    refine g_iload_n C dX11_doubles_8 rfl 2 rfl ?_
    refine g_callVI (rest := []) C mv_X11_97 [.int p1] (c_X11_isTold ⟨hx, hxK, ok, z1, z6, z9, zt, zh, zm⟩) hx hxK rfl rfl (by decide) (by decide) (by decide) dX11_doubles_9 (fun r97 Q98 h99 => ?_)
    obtain ⟨rfl, rfl⟩ := h99
    refine b_if_eq C 22 dX11_doubles_12 (by decide) (fun _ => ?_) (fun h => absurd h (by decide))
    refine g_iconst (v := (-1)) C dX11_doubles_22 (by decide) ?_
    exact ret _ _ _ _ _ _ dX11_doubles_23 rfl (by decide) (by decide) (rfl)
  · refine b_if_eq C 22 dX11_doubles_4 (by decide) (fun _ => ?_) (fun h => absurd h (by decide))
    refine g_iconst (v := (-1)) C dX11_doubles_22 (by decide) ?_
    exact ret _ _ _ _ _ _ dX11_doubles_23 rfl (by decide) (by decide) (rfl)
theorem dX11_guard_0 : decode cX11_guard 0 = .ok (.iload_n 1, 1) := by decide +kernel
theorem dX11_guard_1 : decode cX11_guard 1 = .ok (.invokestatic 158, 3) := by decide +kernel
theorem dX11_guard_4 : decode cX11_guard 4 = .ok (.ifCond .eq 20, 3) := by decide +kernel
theorem dX11_guard_7 : decode cX11_guard 7 = .ok (.aload_n 0, 1) := by decide +kernel
theorem dX11_guard_8 : decode cX11_guard 8 = .ok (.iload_n 2, 1) := by decide +kernel
theorem dX11_guard_9 : decode cX11_guard 9 = .ok (.iload 4, 2) := by decide +kernel
theorem dX11_guard_11 : decode cX11_guard 11 = .ok (.invokevirtual 155, 3) := by decide +kernel
theorem dX11_guard_14 : decode cX11_guard 14 = .ok (.ifCond .eq 10, 3) := by decide +kernel
theorem dX11_guard_24 : decode cX11_guard 24 = .ok (.iconst (-1), 1) := by decide +kernel
theorem dX11_guard_25 : decode cX11_guard 25 = .ok (.ireturn, 1) := by decide +kernel
set_option maxHeartbeats 4000000 in
set_option maxRecDepth 100000 in
theorem c_X11_guard {P : PP} {x : Nat} {p0 : Int32} {p1 : Int32} {p2 : Int32} {p3 : Int32} (F : FC P x) : CtrI yX11_guard cX11_guard 8 (some Jvm.ClassFile.FieldType.int) ({ frames := 4, cells := 0, slots := 0, locals := 256 } : Room) 0 0 P [.ref x, .int p0, .int p1, .int p2, .int p3] (fun r _ => r = -1) := by
  obtain ⟨hx, hxK, ok, z1, z6, z9, zt, zh, zm⟩ := F
  refine enI (lv := [(0, .ref x), (1, .int p0), (2, .int p1), (3, .int p2), (4, .int p3)]) (by decide) (Nat.le_of_ble_eq_true rfl) rfl (fun E D cy C Ci0 ret => ?_)
  refine g_iload_n C dX11_guard_0 rfl 1 rfl ?_
  refine g_callSI (b := 0) (ci := 0) (rest := []) C ms_X11_158 [.int p0] (c_X11_isQuarter) rfl rfl (by decide) (by decide) (by decide) dX11_guard_1 (fun r100 Q101 h102 => ?_)
  obtain ⟨rfl, h102⟩ := h102
  rcases h102 with ⟨rfl, h102⟩ | ⟨rfl, h102⟩
  · refine b_if_eq C 24 dX11_guard_4 (by decide) (fun h => absurd h (by decide)) (fun _ => ?_)
    refine g_aload_n C dX11_guard_7 rfl 0 rfl ?_
    refine g_iload_n C dX11_guard_8 rfl 2 rfl ?_
    refine g_iload C dX11_guard_9 4 rfl ?_
    refine g_callVI (rest := []) C mv_X11_155 [.int p1, .int p3] (c_X11_isPageOf ⟨hx, hxK, ok, z1, z6, z9, zt, zh, zm⟩) hx hxK rfl rfl (by decide) (by decide) (by decide) dX11_guard_11 (fun r103 Q104 h105 => ?_)
    obtain ⟨rfl, rfl⟩ := h105
    refine b_if_eq C 24 dX11_guard_14 (by decide) (fun _ => ?_) (fun h => absurd h (by decide))
    refine g_iconst (v := (-1)) C dX11_guard_24 (by decide) ?_
    exact ret _ _ _ _ _ _ dX11_guard_25 rfl (by decide) (by decide) (rfl)
  · refine b_if_eq C 24 dX11_guard_4 (by decide) (fun _ => ?_) (fun h => absurd h (by decide))
    refine g_iconst (v := (-1)) C dX11_guard_24 (by decide) ?_
    exact ret _ _ _ _ _ _ dX11_guard_25 rfl (by decide) (by decide) (rfl)
theorem dX11_tocome_0 : decode cX11_tocome 0 = .ok (.iload_n 1, 1) := by decide +kernel
theorem dX11_tocome_1 : decode cX11_tocome 1 = .ok (.invokestatic 158, 3) := by decide +kernel
theorem dX11_tocome_4 : decode cX11_tocome 4 = .ok (.ifCond .eq 20, 3) := by decide +kernel
theorem dX11_tocome_7 : decode cX11_tocome 7 = .ok (.aload_n 0, 1) := by decide +kernel
theorem dX11_tocome_8 : decode cX11_tocome 8 = .ok (.iload_n 2, 1) := by decide +kernel
theorem dX11_tocome_9 : decode cX11_tocome 9 = .ok (.invokevirtual 97, 3) := by decide +kernel
theorem dX11_tocome_12 : decode cX11_tocome 12 = .ok (.ifCond .eq 12, 3) := by decide +kernel
theorem dX11_tocome_24 : decode cX11_tocome 24 = .ok (.iconst (-1), 1) := by decide +kernel
theorem dX11_tocome_25 : decode cX11_tocome 25 = .ok (.ireturn, 1) := by decide +kernel
set_option maxHeartbeats 4000000 in
set_option maxRecDepth 100000 in
theorem c_X11_tocome {P : PP} {x : Nat} {p0 : Int32} {p1 : Int32} {p2 : Int32} (F : FC P x) : CtrI yX11_tocome cX11_tocome 6 (some Jvm.ClassFile.FieldType.int) ({ frames := 4, cells := 0, slots := 0, locals := 256 } : Room) 0 0 P [.ref x, .int p0, .int p1, .int p2] (fun r _ => r = -1) := by
  obtain ⟨hx, hxK, ok, z1, z6, z9, zt, zh, zm⟩ := F
  refine enI (lv := [(0, .ref x), (1, .int p0), (2, .int p1), (3, .int p2)]) (by decide) (Nat.le_of_ble_eq_true rfl) rfl (fun E D cy C Ci0 ret => ?_)
  refine g_iload_n C dX11_tocome_0 rfl 1 rfl ?_
  refine g_callSI (b := 0) (ci := 0) (rest := []) C ms_X11_158 [.int p0] (c_X11_isQuarter) rfl rfl (by decide) (by decide) (by decide) dX11_tocome_1 (fun r106 Q107 h108 => ?_)
  obtain ⟨rfl, h108⟩ := h108
  rcases h108 with ⟨rfl, h108⟩ | ⟨rfl, h108⟩
  · refine b_if_eq C 24 dX11_tocome_4 (by decide) (fun h => absurd h (by decide)) (fun _ => ?_)
    refine g_aload_n C dX11_tocome_7 rfl 0 rfl ?_
    refine g_iload_n C dX11_tocome_8 rfl 2 rfl ?_
    refine g_callVI (rest := []) C mv_X11_97 [.int p1] (c_X11_isTold ⟨hx, hxK, ok, z1, z6, z9, zt, zh, zm⟩) hx hxK rfl rfl (by decide) (by decide) (by decide) dX11_tocome_9 (fun r109 Q110 h111 => ?_)
    obtain ⟨rfl, rfl⟩ := h111
    refine b_if_eq C 24 dX11_tocome_12 (by decide) (fun _ => ?_) (fun h => absurd h (by decide))
    refine g_iconst (v := (-1)) C dX11_tocome_24 (by decide) ?_
    exact ret _ _ _ _ _ _ dX11_tocome_25 rfl (by decide) (by decide) (rfl)
  · refine b_if_eq C 24 dX11_tocome_4 (by decide) (fun _ => ?_) (fun h => absurd h (by decide))
    refine g_iconst (v := (-1)) C dX11_tocome_24 (by decide) ?_
    exact ret _ _ _ _ _ _ dX11_tocome_25 rfl (by decide) (by decide) (rfl)
theorem dX11_chances_0 : decode cX11_chances 0 = .ok (.aload_n 0, 1) := by decide +kernel
theorem dX11_chances_1 : decode cX11_chances 1 = .ok (.iload_n 1, 1) := by decide +kernel
theorem dX11_chances_2 : decode cX11_chances 2 = .ok (.invokevirtual 97, 3) := by decide +kernel
theorem dX11_chances_5 : decode cX11_chances 5 = .ok (.ifCond .eq 19, 3) := by decide +kernel
theorem dX11_chances_24 : decode cX11_chances 24 = .ok (.iconst (-1), 1) := by decide +kernel
theorem dX11_chances_25 : decode cX11_chances 25 = .ok (.ireturn, 1) := by decide +kernel
set_option maxHeartbeats 4000000 in
set_option maxRecDepth 100000 in
theorem c_X11_chances {P : PP} {x : Nat} {p0 : Int32} {p1 : Int32} {p2 : Int32} {p3 : Int32} (F : FC P x) : CtrI yX11_chances cX11_chances 5 (some Jvm.ClassFile.FieldType.int) ({ frames := 4, cells := 0, slots := 0, locals := 256 } : Room) 0 0 P [.ref x, .int p0, .int p1, .int p2, .int p3] (fun r _ => r = -1) := by
  obtain ⟨hx, hxK, ok, z1, z6, z9, zt, zh, zm⟩ := F
  refine enI (lv := [(0, .ref x), (1, .int p0), (2, .int p1), (3, .int p2), (4, .int p3)]) (by decide) (Nat.le_of_ble_eq_true rfl) rfl (fun E D cy C Ci0 ret => ?_)
  refine g_aload_n C dX11_chances_0 rfl 0 rfl ?_
  refine g_iload_n C dX11_chances_1 rfl 1 rfl ?_
  refine g_callVI (rest := []) C mv_X11_97 [.int p0] (c_X11_isTold ⟨hx, hxK, ok, z1, z6, z9, zt, zh, zm⟩) hx hxK rfl rfl (by decide) (by decide) (by decide) dX11_chances_2 (fun r112 Q113 h114 => ?_)
  obtain ⟨rfl, rfl⟩ := h114
  refine b_if_eq C 24 dX11_chances_5 (by decide) (fun _ => ?_) (fun h => absurd h (by decide))
  refine g_iconst (v := (-1)) C dX11_chances_24 (by decide) ?_
  exact ret _ _ _ _ _ _ dX11_chances_25 rfl (by decide) (by decide) (rfl)
theorem dX11_enough_0 : decode cX11_enough 0 = .ok (.aload_n 0, 1) := by decide +kernel
theorem dX11_enough_1 : decode cX11_enough 1 = .ok (.iload_n 1, 1) := by decide +kernel
theorem dX11_enough_2 : decode cX11_enough 2 = .ok (.invokevirtual 97, 3) := by decide +kernel
theorem dX11_enough_5 : decode cX11_enough 5 = .ok (.ifCond .eq 18, 3) := by decide +kernel
theorem dX11_enough_23 : decode cX11_enough 23 = .ok (.iconst (-1), 1) := by decide +kernel
theorem dX11_enough_24 : decode cX11_enough 24 = .ok (.ireturn, 1) := by decide +kernel
set_option maxHeartbeats 4000000 in
set_option maxRecDepth 100000 in
theorem c_X11_enough {P : PP} {x : Nat} {p0 : Int32} {p1 : Int32} {p2 : Int32} {p3 : Int32} (F : FC P x) : CtrI yX11_enough cX11_enough 8 (some Jvm.ClassFile.FieldType.int) ({ frames := 4, cells := 0, slots := 0, locals := 256 } : Room) 0 0 P [.ref x, .int p0, .int p1, .int p2, .int p3] (fun r _ => r = -1) := by
  obtain ⟨hx, hxK, ok, z1, z6, z9, zt, zh, zm⟩ := F
  refine enI (lv := [(0, .ref x), (1, .int p0), (2, .int p1), (3, .int p2), (4, .int p3)]) (by decide) (Nat.le_of_ble_eq_true rfl) rfl (fun E D cy C Ci0 ret => ?_)
  refine g_aload_n C dX11_enough_0 rfl 0 rfl ?_
  refine g_iload_n C dX11_enough_1 rfl 1 rfl ?_
  refine g_callVI (rest := []) C mv_X11_97 [.int p0] (c_X11_isTold ⟨hx, hxK, ok, z1, z6, z9, zt, zh, zm⟩) hx hxK rfl rfl (by decide) (by decide) (by decide) dX11_enough_2 (fun r115 Q116 h117 => ?_)
  obtain ⟨rfl, rfl⟩ := h117
  refine b_if_eq C 23 dX11_enough_5 (by decide) (fun _ => ?_) (fun h => absurd h (by decide))
  refine g_iconst (v := (-1)) C dX11_enough_23 (by decide) ?_
  exact ret _ _ _ _ _ _ dX11_enough_24 rfl (by decide) (by decide) (rfl)
theorem dX11_degree_0 : decode cX11_degree 0 = .ok (.aload_n 0, 1) := by decide +kernel
theorem dX11_degree_1 : decode cX11_degree 1 = .ok (.iload_n 1, 1) := by decide +kernel
theorem dX11_degree_2 : decode cX11_degree 2 = .ok (.invokevirtual 97, 3) := by decide +kernel
theorem dX11_degree_5 : decode cX11_degree 5 = .ok (.ifCond .eq 19, 3) := by decide +kernel
theorem dX11_degree_24 : decode cX11_degree 24 = .ok (.iconst (-1), 1) := by decide +kernel
theorem dX11_degree_25 : decode cX11_degree 25 = .ok (.ireturn, 1) := by decide +kernel
set_option maxHeartbeats 4000000 in
set_option maxRecDepth 100000 in
theorem c_X11_degree {P : PP} {x : Nat} {p0 : Int32} {p1 : Int32} {p2 : Int32} {p3 : Int32} (F : FC P x) : CtrI yX11_degree cX11_degree 10 (some Jvm.ClassFile.FieldType.int) ({ frames := 4, cells := 0, slots := 0, locals := 256 } : Room) 0 0 P [.ref x, .int p0, .int p1, .int p2, .int p3] (fun r _ => r = -1) := by
  obtain ⟨hx, hxK, ok, z1, z6, z9, zt, zh, zm⟩ := F
  refine enI (lv := [(0, .ref x), (1, .int p0), (2, .int p1), (3, .int p2), (4, .int p3)]) (by decide) (Nat.le_of_ble_eq_true rfl) rfl (fun E D cy C Ci0 ret => ?_)
  refine g_aload_n C dX11_degree_0 rfl 0 rfl ?_
  refine g_iload_n C dX11_degree_1 rfl 1 rfl ?_
  refine g_callVI (rest := []) C mv_X11_97 [.int p0] (c_X11_isTold ⟨hx, hxK, ok, z1, z6, z9, zt, zh, zm⟩) hx hxK rfl rfl (by decide) (by decide) (by decide) dX11_degree_2 (fun r118 Q119 h120 => ?_)
  obtain ⟨rfl, rfl⟩ := h120
  refine b_if_eq C 24 dX11_degree_5 (by decide) (fun _ => ?_) (fun h => absurd h (by decide))
  refine g_iconst (v := (-1)) C dX11_degree_24 (by decide) ?_
  exact ret _ _ _ _ _ _ dX11_degree_25 rfl (by decide) (by decide) (rfl)
theorem dX11_apart_0 : decode cX11_apart 0 = .ok (.aload_n 0, 1) := by decide +kernel
theorem dX11_apart_1 : decode cX11_apart 1 = .ok (.iload_n 1, 1) := by decide +kernel
theorem dX11_apart_2 : decode cX11_apart 2 = .ok (.iload_n 2, 1) := by decide +kernel
theorem dX11_apart_3 : decode cX11_apart 3 = .ok (.invokevirtual 185, 3) := by decide +kernel
theorem dX11_apart_6 : decode cX11_apart 6 = .ok (.astore_n 3, 1) := by decide +kernel
theorem dX11_apart_7 : decode cX11_apart 7 = .ok (.aload_n 3, 1) := by decide +kernel
theorem dX11_apart_8 : decode cX11_apart 8 = .ok (.ifnull 27, 3) := by decide +kernel
theorem dX11_apart_35 : decode cX11_apart 35 = .ok (.iconst (-1), 1) := by decide +kernel
theorem dX11_apart_36 : decode cX11_apart 36 = .ok (.ireturn, 1) := by decide +kernel
set_option maxHeartbeats 4000000 in
set_option maxRecDepth 100000 in
theorem c_X11_apart {P : PP} {x : Nat} {p0 : Int32} {p1 : Int32} (F : FC P x) : CtrI yX11_apart cX11_apart 6 (some Jvm.ClassFile.FieldType.int) ({ frames := 4, cells := 0, slots := 0, locals := 256 } : Room) 0 0 P [.ref x, .int p0, .int p1] (fun r _ => r = -1) := by
  obtain ⟨hx, hxK, ok, z1, z6, z9, zt, zh, zm⟩ := F
  refine enI (lv := [(0, .ref x), (1, .int p0), (2, .int p1)]) (by decide) (Nat.le_of_ble_eq_true rfl) rfl (fun E D cy C Ci0 ret => ?_)
  refine g_aload_n C dX11_apart_0 rfl 0 rfl ?_
  refine g_iload_n C dX11_apart_1 rfl 1 rfl ?_
  refine g_iload_n C dX11_apart_2 rfl 2 rfl ?_
  refine g_callVQ (rest := []) C mv_X11_185 [.int p0, .int p1] (c_X11_paperAt ⟨hx, hxK, ok, z1, z6, z9, zt, zh, zm⟩) hx hxK rfl rfl (by decide) (by decide) (by decide) dX11_apart_3 (fun r121 Q122 h123 => ?_)
  obtain ⟨rfl, rfl⟩ := h123
  refine g_astore_nN (lv' := [(3, .null), (0, .ref x), (1, .int p0), (2, .int p1)]) C dX11_apart_6 rfl (by decide) rfl ?_
  refine g_aload_nN C dX11_apart_7 rfl 0 rfl ?_
  refine g_ifnullN C 35 dX11_apart_8 (by decide) ?_
  refine g_iconst (v := (-1)) C dX11_apart_35 (by decide) ?_
  exact ret _ _ _ _ _ _ dX11_apart_36 rfl (by decide) (by decide) (rfl)
theorem dX11_scatter_0 : decode cX11_scatter 0 = .ok (.aload_n 0, 1) := by decide +kernel
theorem dX11_scatter_1 : decode cX11_scatter 1 = .ok (.iload_n 1, 1) := by decide +kernel
theorem dX11_scatter_2 : decode cX11_scatter 2 = .ok (.iload_n 2, 1) := by decide +kernel
theorem dX11_scatter_3 : decode cX11_scatter 3 = .ok (.invokevirtual 136, 3) := by decide +kernel
theorem dX11_scatter_6 : decode cX11_scatter 6 = .ok (.ifCond .eq 23, 3) := by decide +kernel
theorem dX11_scatter_29 : decode cX11_scatter 29 = .ok (.iconst (-1), 1) := by decide +kernel
theorem dX11_scatter_30 : decode cX11_scatter 30 = .ok (.ireturn, 1) := by decide +kernel
set_option maxHeartbeats 4000000 in
set_option maxRecDepth 100000 in
theorem c_X11_scatter {P : PP} {x : Nat} {p0 : Int32} {p1 : Int32} {p2 : Int32} (F : FC P x) : CtrI yX11_scatter cX11_scatter 6 (some Jvm.ClassFile.FieldType.int) ({ frames := 4, cells := 0, slots := 0, locals := 256 } : Room) 0 0 P [.ref x, .int p0, .int p1, .int p2] (fun r _ => r = -1) := by
  obtain ⟨hx, hxK, ok, z1, z6, z9, zt, zh, zm⟩ := F
  refine enI (lv := [(0, .ref x), (1, .int p0), (2, .int p1), (3, .int p2)]) (by decide) (Nat.le_of_ble_eq_true rfl) rfl (fun E D cy C Ci0 ret => ?_)
  refine g_aload_n C dX11_scatter_0 rfl 0 rfl ?_
  refine g_iload_n C dX11_scatter_1 rfl 1 rfl ?_
  refine g_iload_n C dX11_scatter_2 rfl 2 rfl ?_
  refine g_callVI (rest := []) C mv_X11_136 [.int p0, .int p1] (c_X11_isLeaflet ⟨hx, hxK, ok, z1, z6, z9, zt, zh, zm⟩) hx hxK rfl rfl (by decide) (by decide) (by decide) dX11_scatter_3 (fun r124 Q125 h126 => ?_)
  obtain ⟨rfl, rfl⟩ := h126
  refine b_if_eq C 29 dX11_scatter_6 (by decide) (fun _ => ?_) (fun h => absurd h (by decide))
  refine g_iconst (v := (-1)) C dX11_scatter_29 (by decide) ?_
  exact ret _ _ _ _ _ _ dX11_scatter_30 rfl (by decide) (by decide) (rfl)
theorem dX11_needs_0 : decode cX11_needs 0 = .ok (.iload_n 1, 1) := by decide +kernel
theorem dX11_needs_1 : decode cX11_needs 1 = .ok (.invokestatic 158, 3) := by decide +kernel
theorem dX11_needs_4 : decode cX11_needs 4 = .ok (.ifCond .eq 11, 3) := by decide +kernel
theorem dX11_needs_7 : decode cX11_needs 7 = .ok (.aload_n 0, 1) := by decide +kernel
theorem dX11_needs_8 : decode cX11_needs 8 = .ok (.iload_n 2, 1) := by decide +kernel
theorem dX11_needs_9 : decode cX11_needs 9 = .ok (.invokevirtual 97, 3) := by decide +kernel
theorem dX11_needs_12 : decode cX11_needs 12 = .ok (.ifCond .ne 5, 3) := by decide +kernel
theorem dX11_needs_15 : decode cX11_needs 15 = .ok (.iconst (-1), 1) := by decide +kernel
theorem dX11_needs_16 : decode cX11_needs 16 = .ok (.ireturn, 1) := by decide +kernel
set_option maxHeartbeats 4000000 in
set_option maxRecDepth 100000 in
theorem c_X11_needs {P : PP} {x : Nat} {p0 : Int32} {p1 : Int32} (F : FC P x) : CtrI yX11_needs cX11_needs 3 (some Jvm.ClassFile.FieldType.int) ({ frames := 4, cells := 0, slots := 0, locals := 256 } : Room) 0 0 P [.ref x, .int p0, .int p1] (fun r _ => r = -1) := by
  obtain ⟨hx, hxK, ok, z1, z6, z9, zt, zh, zm⟩ := F
  refine enI (lv := [(0, .ref x), (1, .int p0), (2, .int p1)]) (by decide) (Nat.le_of_ble_eq_true rfl) rfl (fun E D cy C Ci0 ret => ?_)
  refine g_iload_n C dX11_needs_0 rfl 1 rfl ?_
  refine g_callSI (b := 0) (ci := 0) (rest := []) C ms_X11_158 [.int p0] (c_X11_isQuarter) rfl rfl (by decide) (by decide) (by decide) dX11_needs_1 (fun r127 Q128 h129 => ?_)
  obtain ⟨rfl, h129⟩ := h129
  rcases h129 with ⟨rfl, h129⟩ | ⟨rfl, h129⟩
  · refine b_if_eq C 15 dX11_needs_4 (by decide) (fun h => absurd h (by decide)) (fun _ => ?_)
    refine g_aload_n C dX11_needs_7 rfl 0 rfl ?_
    refine g_iload_n C dX11_needs_8 rfl 2 rfl ?_
    refine g_callVI (rest := []) C mv_X11_97 [.int p1] (c_X11_isTold ⟨hx, hxK, ok, z1, z6, z9, zt, zh, zm⟩) hx hxK rfl rfl (by decide) (by decide) (by decide) dX11_needs_9 (fun r130 Q131 h132 => ?_)
    obtain ⟨rfl, rfl⟩ := h132
    refine b_if_ne C 17 dX11_needs_12 (by decide) (fun h => absurd h (by decide)) (fun _ => ?_)
    refine g_iconst (v := (-1)) C dX11_needs_15 (by decide) ?_
    exact ret _ _ _ _ _ _ dX11_needs_16 rfl (by decide) (by decide) (rfl)
  · refine b_if_eq C 15 dX11_needs_4 (by decide) (fun _ => ?_) (fun h => absurd h (by decide))
    refine g_iconst (v := (-1)) C dX11_needs_15 (by decide) ?_
    exact ret _ _ _ _ _ _ dX11_needs_16 rfl (by decide) (by decide) (rfl)
theorem dX11_town_0 : decode cX11_town 0 = .ok (.aload_n 0, 1) := by decide +kernel
theorem dX11_town_1 : decode cX11_town 1 = .ok (.iload_n 1, 1) := by decide +kernel
theorem dX11_town_2 : decode cX11_town 2 = .ok (.invokevirtual 97, 3) := by decide +kernel
theorem dX11_town_5 : decode cX11_town 5 = .ok (.ifCond .eq 13, 3) := by decide +kernel
theorem dX11_town_18 : decode cX11_town 18 = .ok (.iconst (-1), 1) := by decide +kernel
theorem dX11_town_19 : decode cX11_town 19 = .ok (.ireturn, 1) := by decide +kernel
set_option maxHeartbeats 4000000 in
set_option maxRecDepth 100000 in
theorem c_X11_town {P : PP} {x : Nat} {p0 : Int32} {p1 : Int32} (F : FC P x) : CtrI yX11_town cX11_town 5 (some Jvm.ClassFile.FieldType.int) ({ frames := 4, cells := 0, slots := 0, locals := 256 } : Room) 0 0 P [.ref x, .int p0, .int p1] (fun r _ => r = -1) := by
  obtain ⟨hx, hxK, ok, z1, z6, z9, zt, zh, zm⟩ := F
  refine enI (lv := [(0, .ref x), (1, .int p0), (2, .int p1)]) (by decide) (Nat.le_of_ble_eq_true rfl) rfl (fun E D cy C Ci0 ret => ?_)
  refine g_aload_n C dX11_town_0 rfl 0 rfl ?_
  refine g_iload_n C dX11_town_1 rfl 1 rfl ?_
  refine g_callVI (rest := []) C mv_X11_97 [.int p0] (c_X11_isTold ⟨hx, hxK, ok, z1, z6, z9, zt, zh, zm⟩) hx hxK rfl rfl (by decide) (by decide) (by decide) dX11_town_2 (fun r133 Q134 h135 => ?_)
  obtain ⟨rfl, rfl⟩ := h135
  refine b_if_eq C 18 dX11_town_5 (by decide) (fun _ => ?_) (fun h => absurd h (by decide))
  refine g_iconst (v := (-1)) C dX11_town_18 (by decide) ?_
  exact ret _ _ _ _ _ _ dX11_town_19 rfl (by decide) (by decide) (rfl)
theorem dX11_average_0 : decode cX11_average 0 = .ok (.aload_n 0, 1) := by decide +kernel
theorem dX11_average_1 : decode cX11_average 1 = .ok (.iload_n 1, 1) := by decide +kernel
theorem dX11_average_2 : decode cX11_average 2 = .ok (.invokevirtual 97, 3) := by decide +kernel
theorem dX11_average_5 : decode cX11_average 5 = .ok (.ifCond .eq 29, 3) := by decide +kernel
theorem dX11_average_34 : decode cX11_average 34 = .ok (.ldc2_w 302, 3) := by decide +kernel
theorem dX11_average_37 : decode cX11_average 37 = .ok (.lreturn, 1) := by decide +kernel
set_option maxHeartbeats 4000000 in
set_option maxRecDepth 100000 in
theorem c_X11_average {P : PP} {x : Nat} {p0 : Int32} {p1 : Int32} {p2 : Int32} {p3 : Int32} (F : FC P x) : CtrL yX11_average cX11_average 14 (some Jvm.ClassFile.FieldType.long) ({ frames := 4, cells := 0, slots := 0, locals := 256 } : Room) 0 0 P [.ref x, .int p0, .int p1, .int p2, .int p3] (fun r _ => r = -1) := by
  obtain ⟨hx, hxK, ok, z1, z6, z9, zt, zh, zm⟩ := F
  refine enL (lv := [(0, .ref x), (1, .int p0), (2, .int p1), (3, .int p2), (4, .int p3)]) (by decide) (Nat.le_of_ble_eq_true rfl) rfl (fun E D cy C Ci0 ret => ?_)
  refine g_aload_n C dX11_average_0 rfl 0 rfl ?_
  refine g_iload_n C dX11_average_1 rfl 1 rfl ?_
  refine g_callVI (rest := []) C mv_X11_97 [.int p0] (c_X11_isTold ⟨hx, hxK, ok, z1, z6, z9, zt, zh, zm⟩) hx hxK rfl rfl (by decide) (by decide) (by decide) dX11_average_2 (fun r136 Q137 h138 => ?_)
  obtain ⟨rfl, rfl⟩ := h138
  refine b_if_eq C 34 dX11_average_5 (by decide) (fun _ => ?_) (fun h => absurd h (by decide))
  refine g_ldc2 (v := -1) C kl_X11_302 dX11_average_34 ?_
  exact ret _ _ _ _ _ _ dX11_average_37 (by decide) (by decide) (rfl)
theorem dX11_page_0 : decode cX11_page 0 = .ok (.aload_n 0, 1) := by decide +kernel
theorem dX11_page_1 : decode cX11_page 1 = .ok (.iload_n 1, 1) := by decide +kernel
theorem dX11_page_2 : decode cX11_page 2 = .ok (.invokevirtual 97, 3) := by decide +kernel
theorem dX11_page_5 : decode cX11_page 5 = .ok (.ifCond .eq 20, 3) := by decide +kernel
theorem dX11_page_25 : decode cX11_page 25 = .ok (.iconst 0, 1) := by decide +kernel
theorem dX11_page_26 : decode cX11_page 26 = .ok (.ireturn, 1) := by decide +kernel
set_option maxHeartbeats 4000000 in
set_option maxRecDepth 100000 in
theorem c_X11_page {P : PP} {x : Nat} {p0 : Int32} {p1 : Int32} {p2 : Int32} (F : FC P x) : CtrI yX11_page cX11_page 4 (some Jvm.ClassFile.FieldType.boolean) ({ frames := 4, cells := 0, slots := 0, locals := 256 } : Room) 0 0 P [.ref x, .int p0, .int p1, .int p2] (fun r _ => r = 0) := by
  obtain ⟨hx, hxK, ok, z1, z6, z9, zt, zh, zm⟩ := F
  refine enI (lv := [(0, .ref x), (1, .int p0), (2, .int p1), (3, .int p2)]) (by decide) (Nat.le_of_ble_eq_true rfl) rfl (fun E D cy C Ci0 ret => ?_)
  refine g_aload_n C dX11_page_0 rfl 0 rfl ?_
  refine g_iload_n C dX11_page_1 rfl 1 rfl ?_
  refine g_callVI (rest := []) C mv_X11_97 [.int p0] (c_X11_isTold ⟨hx, hxK, ok, z1, z6, z9, zt, zh, zm⟩) hx hxK rfl rfl (by decide) (by decide) (by decide) dX11_page_2 (fun r139 Q140 h141 => ?_)
  obtain ⟨rfl, rfl⟩ := h141
  refine b_if_eq C 25 dX11_page_5 (by decide) (fun _ => ?_) (fun h => absurd h (by decide))
  refine g_iconst (v := 0) C dX11_page_25 (by decide) ?_
  exact ret _ _ _ _ _ _ dX11_page_26 rfl (by decide) (by decide) (rfl)
theorem dX11_away_0 : decode cX11_away 0 = .ok (.aload_n 0, 1) := by decide +kernel
theorem dX11_away_1 : decode cX11_away 1 = .ok (.iload_n 1, 1) := by decide +kernel
theorem dX11_away_2 : decode cX11_away 2 = .ok (.iload_n 2, 1) := by decide +kernel
theorem dX11_away_3 : decode cX11_away 3 = .ok (.invokevirtual 185, 3) := by decide +kernel
theorem dX11_away_6 : decode cX11_away 6 = .ok (.ifnonnull 5, 3) := by decide +kernel
theorem dX11_away_9 : decode cX11_away 9 = .ok (.iconst 0, 1) := by decide +kernel
theorem dX11_away_10 : decode cX11_away 10 = .ok (.ireturn, 1) := by decide +kernel
set_option maxHeartbeats 4000000 in
set_option maxRecDepth 100000 in
theorem c_X11_away {P : PP} {x : Nat} {p0 : Int32} {p1 : Int32} (F : FC P x) : CtrI yX11_away cX11_away 3 (some Jvm.ClassFile.FieldType.boolean) ({ frames := 4, cells := 0, slots := 0, locals := 256 } : Room) 0 0 P [.ref x, .int p0, .int p1] (fun r _ => r = 0) := by
  obtain ⟨hx, hxK, ok, z1, z6, z9, zt, zh, zm⟩ := F
  refine enI (lv := [(0, .ref x), (1, .int p0), (2, .int p1)]) (by decide) (Nat.le_of_ble_eq_true rfl) rfl (fun E D cy C Ci0 ret => ?_)
  refine g_aload_n C dX11_away_0 rfl 0 rfl ?_
  refine g_iload_n C dX11_away_1 rfl 1 rfl ?_
  refine g_iload_n C dX11_away_2 rfl 2 rfl ?_
  refine g_callVQ (rest := []) C mv_X11_185 [.int p0, .int p1] (c_X11_paperAt ⟨hx, hxK, ok, z1, z6, z9, zt, zh, zm⟩) hx hxK rfl rfl (by decide) (by decide) (by decide) dX11_away_3 (fun r142 Q143 h144 => ?_)
  obtain ⟨rfl, rfl⟩ := h144
  refine g_ifnonnullN C dX11_away_6 ?_
  refine g_iconst (v := 0) C dX11_away_9 (by decide) ?_
  exact ret _ _ _ _ _ _ dX11_away_10 rfl (by decide) (by decide) (rfl)
