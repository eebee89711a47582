theorem dX12_puts_0 : decode cX12_puts 0 = .ok (.aload_n 0, 1) := by decide +kernel
theorem dX12_puts_1 : decode cX12_puts 1 = .ok (.getfield 91, 3) := by decide +kernel
theorem dX12_puts_4 : decode cX12_puts 4 = .ok (.aload_n 0, 1) := by decide +kernel
theorem dX12_puts_5 : decode cX12_puts 5 = .ok (.getfield 281, 3) := by decide +kernel
theorem dX12_puts_8 : decode cX12_puts 8 = .ok (.iload_n 1, 1) := by decide +kernel
theorem dX12_puts_9 : decode cX12_puts 9 = .ok (.iastore, 1) := by decide +kernel
theorem dX12_puts_10 : decode cX12_puts 10 = .ok (.aload_n 0, 1) := by decide +kernel
theorem dX12_puts_11 : decode cX12_puts 11 = .ok (.dup, 1) := by decide +kernel
theorem dX12_puts_12 : decode cX12_puts 12 = .ok (.getfield 281, 3) := by decide +kernel
theorem dX12_puts_15 : decode cX12_puts 15 = .ok (.iconst 1, 1) := by decide +kernel
theorem dX12_puts_16 : decode cX12_puts 16 = .ok (.iadd, 1) := by decide +kernel
theorem dX12_puts_17 : decode cX12_puts 17 = .ok (.putfield 281, 3) := by decide +kernel
theorem dX12_puts_20 : decode cX12_puts 20 = .ok (.aload_n 0, 1) := by decide +kernel
theorem dX12_puts_21 : decode cX12_puts 21 = .ok (.dup, 1) := by decide +kernel
theorem dX12_puts_22 : decode cX12_puts 22 = .ok (.getfield 173, 3) := by decide +kernel
theorem dX12_puts_25 : decode cX12_puts 25 = .ok (.iconst 1, 1) := by decide +kernel
theorem dX12_puts_26 : decode cX12_puts 26 = .ok (.iadd, 1) := by decide +kernel
theorem dX12_puts_27 : decode cX12_puts 27 = .ok (.putfield 173, 3) := by decide +kernel
theorem dX12_puts_30 : decode cX12_puts 30 = .ok (.return_, 1) := by decide +kernel
set_option maxRecDepth 100000 in
set_option maxHeartbeats 4000000 in
theorem a_X12_puts (l : Launch) (D : va_G) (cA : Nat → ClassId) (ad : Nat → Nat) (g0 : Nat → va_E) (c : Int32) (pl : Int32) (sk : Int32)  (hSh : Shp ad cA g0) (hG : Rng g0) (h_pl : fld g0 129 3 = .int pl) (h_sk : fld g0 129 9 = .int sk) (sk1 : sk.toInt ≤ 239) (pl0 : 0 ≤ pl.toInt) (pl1 : pl.toInt ≤ 240) : CT l NN ad cA D yX12_puts cX12_puts 2 none (0, 0) [.ref (ad 129), .int c] g0 (fun v g' => ∃ (p9 : Int32) (s9 : Int32), v = none ∧ Shp ad cA g' ∧ Rng g' ∧ FR (fun i k => (i = 129 ∧ (k = 3 ∨ k = 9)) ∨ i = 155) g0 g' ∧ fld g' 129 3 = .int p9 ∧ fld g' 129 9 = .int s9 ∧ (p9.toInt = pl.toInt + 1) ∧ (s9.toInt = sk.toInt + 1) ∧ (arI g' 155 = upd (arI g0 155) sk.toNatClampNeg c)) := by
  refine q_enterV (by decide) (Nat.le_of_ble_eq_true rfl) (fun K H locs ls _ _ hM hW0 hR hC hE hl => ?_)
  have hl : lv_has ls 2 [(0, .ref (ad 129)), (1, .int c)] := hl
  have hW : WS ad cA (fun i k => (i = 129 ∧ (k = 3 ∨ k = 9)) ∨ i = 155) g0 K g0 H locs := ⟨hW0, hSh, FR.rf⟩
  have b_pl := hG.f h_pl rF_129_3 (by decide)
  have b_sk := hG.f h_sk rF_129_9 (by decide)
  have f9526 : fld g0 129 3 = .int pl := h_pl
  have f9527 : fld g0 129 9 = .int sk := h_sk
  refine q_aload_n hM dX12_puts_0 (lv_at hl 0 rfl) ?_
  refine w_get (v := .ref (ad 155)) hM hW FG_X12_91 lb_129 (rf_129_41 hW.2.1) dX12_puts_1 ?_
  refine q_aload_n hM dX12_puts_4 (lv_at hl 0 rfl) ?_
  refine w_get (v := .int sk) hM hW FG_X12_281 lb_129 f9527 dX12_puts_5 ?_
  have bsk := hG.f f9527 rF_129_9 (by decide)
  refine q_iload_n hM dX12_puts_8 (lv_at hl 1 rfl) ?_
  refine w_iast hM hW lb_155 (by omega) (i_in (by omega) (by omega)) dX12_puts_9 (fun g9528 H locs hW e1 e2 => ?_)
  have f9529 : fld g9528 129 3 = .int pl := (e2.1 129 3 (by unfold Only; omega)).trans f9526
  have f9530 : fld g9528 129 9 = .int sk := (e2.1 129 9 (by unfold Only; omega)).trans f9527
  have hG := hG.st e1 e2 (rfl : rA 155 = (-2147483648, 2147483647)) (by have := i_rng c; omega) (by have := i_rng c; omega)
  have f9531 := e1
  refine q_aload_n hM dX12_puts_10 (lv_at hl 0 rfl) ?_
  refine q_dup hM dX12_puts_11 rfl ?_
  refine w_get (v := .int sk) hM hW FG_X12_281 lb_129 f9530 dX12_puts_12 ?_
  have bsk := hG.f f9530 rF_129_9 (by decide)
  refine q_iconst (v := (1 : Int32)) hM dX12_puts_15 (by decide) ?_
  refine q_iadd hM dX12_puts_16 (fun z9532 hz9532 => ?_)
  first | have tz9532 := i_addT hz9532 (rfl : sk.toInt = sk.toInt) (kc_1 : (1 : Int32).toInt = 1) (by omega) (by omega) | skip
  refine w_put hM hW FP_X12_281 lb_129 (by omega) (Or.inl ⟨_, rfl⟩) rfl rfl dX12_puts_17 (fun g9533 H locs hW e1 e2 => ?_)
  have f9534 : fld g9533 129 3 = .int pl := (e2.1 129 3 (by unfold Only; omega)).trans f9529
  have f9535 : arI g9533 155 = upd (arI g0 155) sk.toNatClampNeg c := (e2.2.1 155 (by unfold Only; omega)).trans f9531
  have f9536 : fld g9533 129 9 = .int z9532 := e1
  have hG := hG.put e1 e2 rF_129_9 (by decide) (by have := i_rng z9532; omega) (by have := i_rng z9532; omega)
  refine q_aload_n hM dX12_puts_20 (lv_at hl 0 rfl) ?_
  refine q_dup hM dX12_puts_21 rfl ?_
  refine w_get (v := .int pl) hM hW FG_X12_173 lb_129 f9534 dX12_puts_22 ?_
  have bpl := hG.f f9534 rF_129_3 (by decide)
  refine q_iconst (v := (1 : Int32)) hM dX12_puts_25 (by decide) ?_
  refine q_iadd hM dX12_puts_26 (fun z9537 hz9537 => ?_)
  first | have tz9537 := i_addT hz9537 (rfl : pl.toInt = pl.toInt) (kc_1 : (1 : Int32).toInt = 1) (by omega) (by omega) | skip
  refine w_put hM hW FP_X12_173 lb_129 (by omega) (Or.inl ⟨_, rfl⟩) rfl rfl dX12_puts_27 (fun g9538 H locs hW e1 e2 => ?_)
  have f9539 : arI g9538 155 = upd (arI g0 155) sk.toNatClampNeg c := (e2.2.1 155 (by unfold Only; omega)).trans f9535
  have f9540 : fld g9538 129 9 = .int z9532 := (e2.1 129 9 (by unfold Only; omega)).trans f9536
  have f9541 : fld g9538 129 3 = .int z9537 := e1
  have hG := hG.put e1 e2 rF_129_3 (by decide) (by have := i_rng z9537; omega) (by have := i_rng z9537; omega)
  exact hE _ _ _ _ _ hW.1 ⟨z9537, z9532, rfl, hW.2.1, hG, hW.2.2, f9541, f9540, (by omega), (by omega), f9539⟩ dX12_puts_30

theorem dX12_opens_0 : decode cX12_opens 0 = .ok (.aload_n 0, 1) := by decide +kernel
theorem dX12_opens_1 : decode cX12_opens 1 = .ok (.getfield 284, 3) := by decide +kernel
theorem dX12_opens_4 : decode cX12_opens 4 = .ok (.bipush 6, 2) := by decide +kernel
theorem dX12_opens_6 : decode cX12_opens 6 = .ok (.if_icmp .ne 12, 3) := by decide +kernel
theorem dX12_opens_9 : decode cX12_opens 9 = .ok (.aload_n 0, 1) := by decide +kernel
theorem dX12_opens_10 : decode cX12_opens 10 = .ok (.iconst 5, 1) := by decide +kernel
theorem dX12_opens_11 : decode cX12_opens 11 = .ok (.aload_n 0, 1) := by decide +kernel
theorem dX12_opens_12 : decode cX12_opens 12 = .ok (.getfield 173, 3) := by decide +kernel
theorem dX12_opens_15 : decode cX12_opens 15 = .ok (.invokevirtual 230, 3) := by decide +kernel
theorem dX12_opens_18 : decode cX12_opens 18 = .ok (.aload_n 0, 1) := by decide +kernel
theorem dX12_opens_19 : decode cX12_opens 19 = .ok (.dup, 1) := by decide +kernel
theorem dX12_opens_20 : decode cX12_opens 20 = .ok (.getfield 284, 3) := by decide +kernel
theorem dX12_opens_23 : decode cX12_opens 23 = .ok (.iconst 1, 1) := by decide +kernel
theorem dX12_opens_24 : decode cX12_opens 24 = .ok (.iadd, 1) := by decide +kernel
theorem dX12_opens_25 : decode cX12_opens 25 = .ok (.putfield 284, 3) := by decide +kernel
theorem dX12_opens_28 : decode cX12_opens 28 = .ok (.aload_n 0, 1) := by decide +kernel
theorem dX12_opens_29 : decode cX12_opens 29 = .ok (.aload_n 0, 1) := by decide +kernel
theorem dX12_opens_30 : decode cX12_opens 30 = .ok (.invokevirtual 182, 3) := by decide +kernel
theorem dX12_opens_33 : decode cX12_opens 33 = .ok (.invokevirtual 287, 3) := by decide +kernel
theorem dX12_opens_36 : decode cX12_opens 36 = .ok (.return_, 1) := by decide +kernel
theorem myX12_puts : MI yX12_puts cX12_puts 2 none 1 := ⟨kAW (v_5_13 (List.mem_of_getElem? (i := 1) rfl)) rfl, kAW (v_0_0 (List.mem_of_getElem? (i := 13) rfl)) rfl, kAW (v_5_13 (List.mem_of_getElem? (i := 0) rfl)) rfl, kAW (tp_t3 (List.mem_of_getElem? (i := 3) rfl)) rfl, by decide, by decide, by decide +kernel⟩
set_option maxRecDepth 100000 in
set_option maxHeartbeats 4000000 in
theorem a_X12_opens (l : Launch) (D : va_G) (cA : Nat → ClassId) (ad : Nat → Nat) (g0 : Nat → va_E)  (pl : Int32) (en : Int32) (bd : Int32) (sk : Int32) (op : Int32)  (hSh : Shp ad cA g0) (hG : Rng g0) (h_pl : fld g0 129 3 = .int pl) (h_en : fld g0 129 4 = .int en) (h_bd : fld g0 129 5 = .int bd) (h_sk : fld g0 129 9 = .int sk) (h_op : fld g0 129 8 = .int op) (pl0 : 0 ≤ pl.toInt) (pl1 : pl.toInt < en.toInt) (en1 : en.toInt ≤ 240) (sk1 : sk.toInt ≤ 239) (op1 : op.toInt ≤ 239) (op0 : -240 ≤ op.toInt) : CT l NN ad cA D yX12_opens cX12_opens 1 none (1, 22) [.ref (ad 129)] g0 (fun v g' => ∃ (p9 : Int32) (b9 : Int32) (s9 : Int32) (o9 : Int32), v = none ∧ Shp ad cA g' ∧ Rng g' ∧ FR (fun i k => (i = 129 ∧ (k = 3 ∨ k = 5 ∨ k = 8 ∨ k = 9)) ∨ i = 155) g0 g' ∧ fld g' 129 3 = .int p9 ∧ fld g' 129 5 = .int b9 ∧ fld g' 129 9 = .int s9 ∧ fld g' 129 8 = .int o9 ∧ (p9.toInt = pl.toInt + 1) ∧ (s9.toInt = sk.toInt + 1) ∧ (o9.toInt = op.toInt + 1) ∧ (b9.toInt ≤ 0) ∧ (arI g' 155 = upd (arI g0 155) sk.toNatClampNeg (hr (arI g0 130) pl en))) := by
  refine q_enterV (by decide) (Nat.le_of_ble_eq_true rfl) (fun K H locs ls _ _ hM hW0 hR hC hE hl => ?_)
  have hl : lv_has ls 1 [(0, .ref (ad 129))] := hl
  have hW : WS ad cA (fun i k => (i = 129 ∧ (k = 3 ∨ k = 5 ∨ k = 8 ∨ k = 9)) ∨ i = 155) g0 K g0 H locs := ⟨hW0, hSh, FR.rf⟩
  have b_pl := hG.f h_pl rF_129_3 (by decide)
  have b_en := hG.f h_en rF_129_4 (by decide)
  have b_bd := hG.f h_bd rF_129_5 (by decide)
  have b_sk := hG.f h_sk rF_129_9 (by decide)
  have b_op := hG.f h_op rF_129_8 (by decide)
  have f9542 : fld g0 129 3 = .int pl := h_pl
  have f9543 : fld g0 129 5 = .int bd := h_bd
  have f9544 : fld g0 129 8 = .int op := h_op
  have f9545 : fld g0 129 9 = .int sk := h_sk
  refine q_aload_n hM dX12_opens_0 (lv_at hl 0 rfl) ?_
  refine w_get (v := .int op) hM hW FG_X12_284 lb_129 f9544 dX12_opens_1 ?_
  have bop := hG.f f9544 rF_129_8 (by decide)
  refine q_bipush (v := (6 : Int32)) hM dX12_opens_4 (by decide) ?_
  refine q_icmp_ne (tgt := 18) hM dX12_opens_6 (by decide) (rfl : op.toInt = op.toInt) (kc_6 : (6 : Int32).toInt = 6) (fun h6 => ?_) (fun h6 => ?_)
  · refine q_aload_n hM dX12_opens_18 (lv_at hl 0 rfl) ?_
    refine q_dup hM dX12_opens_19 rfl ?_
    refine w_get (v := .int op) hM hW FG_X12_284 lb_129 f9544 dX12_opens_20 ?_
    have bop := hG.f f9544 rF_129_8 (by decide)
    refine q_iconst (v := (1 : Int32)) hM dX12_opens_23 (by decide) ?_
    refine q_iadd hM dX12_opens_24 (fun z9547 hz9547 => ?_)
    first | have tz9547 := i_addT hz9547 (rfl : op.toInt = op.toInt) (kc_1 : (1 : Int32).toInt = 1) (by omega) (by omega) | skip
    refine w_put hM hW FP_X12_284 lb_129 (by omega) (Or.inl ⟨_, rfl⟩) rfl rfl dX12_opens_25 (fun g9548 H locs hW e1 e2 => ?_)
    have f9549 : arI g9548 155 = arI g0 155 := (e2.2.1 155 (by unfold Only; omega)).trans (rfl : arI g0 155 = arI g0 155)
    have f9550 : fld g9548 129 3 = .int pl := (e2.1 129 3 (by unfold Only; omega)).trans f9542
    have f9551 : fld g9548 129 5 = .int bd := (e2.1 129 5 (by unfold Only; omega)).trans f9543
    have f9552 : fld g9548 129 9 = .int sk := (e2.1 129 9 (by unfold Only; omega)).trans f9545
    have f9553 : fld g9548 129 8 = .int z9547 := e1
    have hG := hG.put e1 e2 rF_129_8 (by decide) (by have := i_rng z9547; omega) (by have := i_rng z9547; omega)
    refine q_aload_n hM dX12_opens_28 (lv_at hl 0 rfl) ?_
    refine q_aload_n hM dX12_opens_29 (lv_at hl 0 rfl) ?_
    refine q_callV (As := []) (rest := [.ref (ad 129)]) hM hW.1 hR hC myX12_here (kAW (v_5_9 (List.mem_of_getElem? (i := 3) rfl)) rfl) (rfl : vwCl[12]? = some (RX12, TX12, 86)) rfl lb_129.1 (shO hW.2.1 lb_129) (a_X12_here _ _ cA ad g9548 pl en hW.2.1 hG f9550 ((hW.2.2.1 129 4 (by omega)).trans h_en) (by  omega) (by  omega)) ⟨by decide, by decide⟩ rfl rfl hl.1 (Nat.le_of_ble_eq_true rfl) dX12_opens_30 (fun v g9555 H locs hp hW1 => ?_)
    obtain ⟨r9554, rfl, hr9554, rfl⟩ := hp
    have hW : WS ad cA (fun i k => (i = 129 ∧ (k = 3 ∨ k = 5 ∨ k = 8 ∨ k = 9)) ∨ i = 155) g0 K g9548 H locs := ⟨hW1, hW.2.1, hW.2.2⟩
    rw [hW.2.2.2.1 130 (by omega)] at hr9554
    refine q_callV (As := [.int r9554]) (rest := []) hM hW.1 hR hC myX12_puts (kAW (v_5_12 (List.mem_of_getElem? (i := 14) rfl)) rfl) (rfl : vwCl[12]? = some (RX12, TX12, 86)) rfl lb_129.1 (shO hW.2.1 lb_129) (a_X12_puts _ _ cA ad g9548 r9554 pl sk hW.2.1 hG f9550 f9552 (by  omega) (by  omega) (by  omega)) ⟨by decide, by decide⟩ rfl rfl hl.1 (Nat.le_of_ble_eq_true rfl) dX12_opens_33 (fun v g9563 H locs hp hW1 => ?_)
    obtain ⟨v9556, v9557, rfl, hs1, hG, hf1, q9558, q9559, e9560, e9561, e9562⟩ := hp
    have f9564 : fld g9563 129 5 = .int bd := (hf1.1 129 5 (by omega)).trans f9551
    have f9565 : fld g9563 129 8 = .int z9547 := (hf1.1 129 8 (by omega)).trans f9553
    have hW : WS ad cA (fun i k => (i = 129 ∧ (k = 3 ∨ k = 5 ∨ k = 8 ∨ k = 9)) ∨ i = 155) g0 K g9563 H locs := ⟨hW1, hs1, hW.2.2.tr hf1 (fun i k h => h.elim (fun h => (Or.inl (by omega))) (fun h => (Or.inr h)))⟩
    have f9566 := e9562
    rw [f9549] at f9566
    exact hE _ _ _ _ _ hW.1 ⟨v9556, bd, v9557, z9547, rfl, hW.2.1, hG, hW.2.2, q9558, f9564, q9559, f9565, (by omega), (by omega), (by omega), (by omega), (by rw [f9566, Int32.toInt_inj.mp hr9554.1])⟩ dX12_opens_36
  · refine q_aload_n hM dX12_opens_9 (lv_at hl 0 rfl) ?_
    refine q_iconst (v := (5 : Int32)) hM dX12_opens_10 (by decide) ?_
    refine q_aload_n hM dX12_opens_11 (lv_at hl 0 rfl) ?_
    refine w_get (v := .int pl) hM hW FG_X12_173 lb_129 f9542 dX12_opens_12 ?_
    have bpl := hG.f f9542 rF_129_3 (by decide)
    refine q_callV (As := [.int (5 : Int32), .int pl]) (rest := []) hM hW.1 hR hC myX12_wrongs (kAW (v_5_9 (List.mem_of_getElem? (i := 11) rfl)) rfl) (rfl : vwCl[12]? = some (RX12, TX12, 86)) rfl lb_129.1 (shO hW.2.1 lb_129) (a_X12_wrongs _ _ cA ad g0 (5 : Int32) pl bd hW.2.1 hG f9543 (by have := kc_5; omega) (by have := kc_5; omega) (by have := kc_5; omega) (by have := kc_5; omega)) ⟨by decide, by decide⟩ rfl rfl hl.1 (Nat.le_of_ble_eq_true rfl) dX12_opens_15 (fun v g9571 H locs hp hW1 => ?_)
    obtain ⟨v9568, rfl, hs1, hG, hf1, q9569, e9570⟩ := hp
    have f9572 : arI g9571 155 = arI g0 155 := (hf1.2.1 155 (by omega)).trans (rfl : arI g0 155 = arI g0 155)
    have f9573 : fld g9571 129 3 = .int pl := (hf1.1 129 3 (by omega)).trans f9542
    have f9574 : fld g9571 129 8 = .int op := (hf1.1 129 8 (by omega)).trans f9544
    have f9575 : fld g9571 129 9 = .int sk := (hf1.1 129 9 (by omega)).trans f9545
    have hW : WS ad cA (fun i k => (i = 129 ∧ (k = 3 ∨ k = 5 ∨ k = 8 ∨ k = 9)) ∨ i = 155) g0 K g9571 H locs := ⟨hW1, hs1, hW.2.2.tr hf1 (fun i k h => (Or.inl (by omega)))⟩
    refine q_aload_n hM dX12_opens_18 (lv_at hl 0 rfl) ?_
    refine q_dup hM dX12_opens_19 rfl ?_
    refine w_get (v := .int op) hM hW FG_X12_284 lb_129 f9574 dX12_opens_20 ?_
    have bop := hG.f f9574 rF_129_8 (by decide)
    refine q_iconst (v := (1 : Int32)) hM dX12_opens_23 (by decide) ?_
    refine q_iadd hM dX12_opens_24 (fun z9576 hz9576 => ?_)
    first | have tz9576 := i_addT hz9576 (rfl : op.toInt = op.toInt) (kc_1 : (1 : Int32).toInt = 1) (by omega) (by omega) | skip
    refine w_put hM hW FP_X12_284 lb_129 (by omega) (Or.inl ⟨_, rfl⟩) rfl rfl dX12_opens_25 (fun g9577 H locs hW e1 e2 => ?_)
    have f9578 : arI g9577 155 = arI g0 155 := (e2.2.1 155 (by unfold Only; omega)).trans f9572
    have f9579 : fld g9577 129 3 = .int pl := (e2.1 129 3 (by unfold Only; omega)).trans f9573
    have f9580 : fld g9577 129 9 = .int sk := (e2.1 129 9 (by unfold Only; omega)).trans f9575
    have f9581 : fld g9577 129 5 = .int v9568 := (e2.1 129 5 (by unfold Only; omega)).trans q9569
    have f9582 : fld g9577 129 8 = .int z9576 := e1
    have hG := hG.put e1 e2 rF_129_8 (by decide) (by have := i_rng z9576; omega) (by have := i_rng z9576; omega)
    refine q_aload_n hM dX12_opens_28 (lv_at hl 0 rfl) ?_
    refine q_aload_n hM dX12_opens_29 (lv_at hl 0 rfl) ?_
    refine q_callV (As := []) (rest := [.ref (ad 129)]) hM hW.1 hR hC myX12_here (kAW (v_5_9 (List.mem_of_getElem? (i := 3) rfl)) rfl) (rfl : vwCl[12]? = some (RX12, TX12, 86)) rfl lb_129.1 (shO hW.2.1 lb_129) (a_X12_here _ _ cA ad g9577 pl en hW.2.1 hG f9579 ((hW.2.2.1 129 4 (by omega)).trans h_en) (by  omega) (by  omega)) ⟨by decide, by decide⟩ rfl rfl hl.1 (Nat.le_of_ble_eq_true rfl) dX12_opens_30 (fun v g9584 H locs hp hW1 => ?_)
    obtain ⟨r9583, rfl, hr9583, rfl⟩ := hp
    have hW : WS ad cA (fun i k => (i = 129 ∧ (k = 3 ∨ k = 5 ∨ k = 8 ∨ k = 9)) ∨ i = 155) g0 K g9577 H locs := ⟨hW1, hW.2.1, hW.2.2⟩
    rw [hW.2.2.2.1 130 (by omega)] at hr9583
    refine q_callV (As := [.int r9583]) (rest := []) hM hW.1 hR hC myX12_puts (kAW (v_5_12 (List.mem_of_getElem? (i := 14) rfl)) rfl) (rfl : vwCl[12]? = some (RX12, TX12, 86)) rfl lb_129.1 (shO hW.2.1 lb_129) (a_X12_puts _ _ cA ad g9577 r9583 pl sk hW.2.1 hG f9579 f9580 (by  omega) (by  omega) (by  omega)) ⟨by decide, by decide⟩ rfl rfl hl.1 (Nat.le_of_ble_eq_true rfl) dX12_opens_33 (fun v g9592 H locs hp hW1 => ?_)
    obtain ⟨v9585, v9586, rfl, hs1, hG, hf1, q9587, q9588, e9589, e9590, e9591⟩ := hp
    have f9593 : fld g9592 129 5 = .int v9568 := (hf1.1 129 5 (by omega)).trans f9581
    have f9594 : fld g9592 129 8 = .int z9576 := (hf1.1 129 8 (by omega)).trans f9582
    have hW : WS ad cA (fun i k => (i = 129 ∧ (k = 3 ∨ k = 5 ∨ k = 8 ∨ k = 9)) ∨ i = 155) g0 K g9592 H locs := ⟨hW1, hs1, hW.2.2.tr hf1 (fun i k h => h.elim (fun h => (Or.inl (by omega))) (fun h => (Or.inr h)))⟩
    have f9595 := e9591
    rw [f9578] at f9595
    exact hE _ _ _ _ _ hW.1 ⟨v9585, v9568, v9586, z9576, rfl, hW.2.1, hG, hW.2.2, q9587, f9593, q9588, f9594, (by omega), (by omega), (by omega), (by omega), (by rw [f9595, Int32.toInt_inj.mp hr9583.1])⟩ dX12_opens_36

theorem dX12_reads_0 : decode cX12_reads 0 = .ok (.aload_n 0, 1) := by decide +kernel
theorem dX12_reads_1 : decode cX12_reads 1 = .ok (.getfield 173, 3) := by decide +kernel
theorem dX12_reads_4 : decode cX12_reads 4 = .ok (.istore_n 1, 1) := by decide +kernel
theorem dX12_reads_5 : decode cX12_reads 5 = .ok (.iconst 0, 1) := by decide +kernel
theorem dX12_reads_6 : decode cX12_reads 6 = .ok (.istore_n 2, 1) := by decide +kernel
theorem dX12_reads_7 : decode cX12_reads 7 = .ok (.aload_n 0, 1) := by decide +kernel
theorem dX12_reads_8 : decode cX12_reads 8 = .ok (.invokevirtual 234, 3) := by decide +kernel
theorem dX12_reads_11 : decode cX12_reads 11 = .ok (.ifCond .eq 55, 3) := by decide +kernel
theorem dX12_reads_14 : decode cX12_reads 14 = .ok (.aload_n 0, 1) := by decide +kernel
theorem dX12_reads_15 : decode cX12_reads 15 = .ok (.invokevirtual 290, 3) := by decide +kernel
theorem dX12_reads_18 : decode cX12_reads 18 = .ok (.ifCond .eq 48, 3) := by decide +kernel
theorem dX12_reads_21 : decode cX12_reads 21 = .ok (.aload_n 0, 1) := by decide +kernel
theorem dX12_reads_22 : decode cX12_reads 22 = .ok (.getfield 173, 3) := by decide +kernel
theorem dX12_reads_25 : decode cX12_reads 25 = .ok (.iload_n 1, 1) := by decide +kernel
theorem dX12_reads_26 : decode cX12_reads 26 = .ok (.iconst 5, 1) := by decide +kernel
theorem dX12_reads_27 : decode cX12_reads 27 = .ok (.iadd, 1) := by decide +kernel
theorem dX12_reads_28 : decode cX12_reads 28 = .ok (.if_icmp .ne 12, 3) := by decide +kernel
theorem dX12_reads_31 : decode cX12_reads 31 = .ok (.aload_n 0, 1) := by decide +kernel
theorem dX12_reads_32 : decode cX12_reads 32 = .ok (.iconst 2, 1) := by decide +kernel
theorem dX12_reads_33 : decode cX12_reads 33 = .ok (.aload_n 0, 1) := by decide +kernel
theorem dX12_reads_34 : decode cX12_reads 34 = .ok (.getfield 173, 3) := by decide +kernel
theorem dX12_reads_37 : decode cX12_reads 37 = .ok (.invokevirtual 230, 3) := by decide +kernel
theorem dX12_reads_40 : decode cX12_reads 40 = .ok (.bipush 10, 2) := by decide +kernel
theorem dX12_reads_42 : decode cX12_reads 42 = .ok (.iload_n 2, 1) := by decide +kernel
theorem dX12_reads_43 : decode cX12_reads 43 = .ok (.imul, 1) := by decide +kernel
theorem dX12_reads_44 : decode cX12_reads 44 = .ok (.aload_n 0, 1) := by decide +kernel
theorem dX12_reads_45 : decode cX12_reads 45 = .ok (.invokevirtual 182, 3) := by decide +kernel
theorem dX12_reads_48 : decode cX12_reads 48 = .ok (.iadd, 1) := by decide +kernel
theorem dX12_reads_49 : decode cX12_reads 49 = .ok (.bipush 48, 2) := by decide +kernel
theorem dX12_reads_51 : decode cX12_reads 51 = .ok (.isub, 1) := by decide +kernel
theorem dX12_reads_52 : decode cX12_reads 52 = .ok (.istore_n 2, 1) := by decide +kernel
theorem dX12_reads_53 : decode cX12_reads 53 = .ok (.aload_n 0, 1) := by decide +kernel
theorem dX12_reads_54 : decode cX12_reads 54 = .ok (.dup, 1) := by decide +kernel
theorem dX12_reads_55 : decode cX12_reads 55 = .ok (.getfield 173, 3) := by decide +kernel
theorem dX12_reads_58 : decode cX12_reads 58 = .ok (.iconst 1, 1) := by decide +kernel
theorem dX12_reads_59 : decode cX12_reads 59 = .ok (.iadd, 1) := by decide +kernel
theorem dX12_reads_60 : decode cX12_reads 60 = .ok (.putfield 173, 3) := by decide +kernel
theorem dX12_reads_63 : decode cX12_reads 63 = .ok (.goto (-56), 3) := by decide +kernel
theorem dX12_reads_66 : decode cX12_reads 66 = .ok (.iload_n 2, 1) := by decide +kernel
theorem dX12_reads_67 : decode cX12_reads 67 = .ok (.ireturn, 1) := by decide +kernel
theorem myX12_seesDigit : MI yX12_seesDigit cX12_seesDigit 1 (some FieldType.boolean) 0 := ⟨kAW (v_5_13 (List.mem_of_getElem? (i := 5) rfl)) rfl, kAW (v_0_0 (List.mem_of_getElem? (i := 13) rfl)) rfl, kAW (v_5_13 (List.mem_of_getElem? (i := 4) rfl)) rfl, kAW (tp_t3 (List.mem_of_getElem? (i := 4) rfl)) rfl, by decide, by decide, by decide +kernel⟩
set_option maxRecDepth 100000 in
set_option maxHeartbeats 4000000 in
theorem a_X12_reads (l : Launch) (D : va_G) (cA : Nat → ClassId) (ad : Nat → Nat) (g0 : Nat → va_E)  (pl : Int32) (en : Int32) (bd : Int32)  (hSh : Shp ad cA g0) (hG : Rng g0) (h_pl : fld g0 129 3 = .int pl) (h_en : fld g0 129 4 = .int en) (h_bd : fld g0 129 5 = .int bd) (pl0 : 0 ≤ pl.toInt) (pl1 : pl.toInt ≤ en.toInt) (en1 : en.toInt ≤ 240) (bd0 : bd.toInt = 0) (hd0 : 48 ≤ (hr (arI g0 130) pl en).toInt) (hd1 : (hr (arI g0 130) pl en).toInt ≤ 57) : CT l NN ad cA D yX12_reads cX12_reads 3 (some FieldType.int) (2, 45) [.ref (ad 129)] g0 (fun v g' => ∃ (p9 : Int32) (b9 : Int32) (r : Int32), v = some (.int r) ∧ Shp ad cA g' ∧ Rng g' ∧ FR (fun i k => (i = 129 ∧ (k = 3 ∨ k = 5))) g0 g' ∧ fld g' 129 3 = .int p9 ∧ fld g' 129 5 = .int b9 ∧ (pl.toInt < p9.toInt) ∧ (p9.toInt ≤ en.toInt) ∧ (b9.toInt ≤ 0)) := by
  refine q_enterI (by decide) (Nat.le_of_ble_eq_true rfl) rfl (fun K H locs ls _ _ hM hW0 hR hC hE hl => ?_)
  have hl : lv_has ls 3 [(0, .ref (ad 129))] := hl
  have hW : WS ad cA (fun i k => (i = 129 ∧ (k = 3 ∨ k = 5))) g0 K g0 H locs := ⟨hW0, hSh, FR.rf⟩
  have b_pl := hG.f h_pl rF_129_3 (by decide)
  have b_en := hG.f h_en rF_129_4 (by decide)
  have b_bd := hG.f h_bd rF_129_5 (by decide)
  have f9596 : fld g0 129 3 = .int pl := h_pl
  have f9597 : fld g0 129 5 = .int bd := h_bd
  refine q_aload_n hM dX12_reads_0 (lv_at hl 0 rfl) ?_
  refine w_get (v := .int pl) hM hW FG_X12_173 lb_129 f9596 dX12_reads_1 ?_
  have bpl := hG.f f9596 rF_129_3 (by decide)
  refine q_istore_n (lv9 := [(1, .int pl), (0, .ref (ad 129))]) hM dX12_reads_4 hl (by decide) rfl (fun ls hl => ?_)
  refine q_iconst (v := (0 : Int32)) hM dX12_reads_5 (by decide) ?_
  refine q_istore_n (lv9 := [(2, .int (0 : Int32)), (1, .int pl), (0, .ref (ad 129))]) hM dX12_reads_6 hl (by decide) rfl (fun ls hl => ?_)
  have L7 : ∀ (fu7 : Nat) (w7_2 : Int32) (pp : Int32) (bb : Int32) (g9 : Nat → va_E) (H : Heap) (locs : List Loc) (ls : Array Slot), (en.toInt - pp.toInt).toNat < fu7 → (Rng g9) → (0 ≤ pp.toInt) → (pp.toInt ≤ en.toInt) → (bb.toInt ≤ 0) → ((pp.toInt = pl.toInt ∧ bb.toInt = 0) ∨ pl.toInt < pp.toInt) → (fld g9 129 3 = .int pp) → (fld g9 129 5 = .int bb) → lv_has ls 3 [(0, .ref (ad 129)), (1, .int pl), (2, .int w7_2)] → WS ad cA (fun i k => (i = 129 ∧ (k = 3 ∨ k = 5))) g0 K g9 H locs → XX K 0 0 H locs 7 ls [] := by
    intro fu7
    induction fu7 with
    | zero => intro w7_2 pp bb g9 H locs ls h0; omega
    | succ fu7 ih7 =>
      intro w7_2 pp bb g9 H locs ls hm7 i7_0 i7_1 i7_2 i7_3 i7_4 c7_129_3 c7_129_5 hl hW
      have hG := i7_0
      refine q_aload_n hM dX12_reads_7 (lv_at hl 0 rfl) ?_
      refine q_callV (As := []) (rest := []) hM hW.1 hR hC myX12_isGood (kAW (v_5_8 (List.mem_of_getElem? (i := 11) rfl)) rfl) (rfl : vwCl[12]? = some (RX12, TX12, 86)) rfl lb_129.1 (shO hW.2.1 lb_129) (a_X12_isGood _ _ cA ad g9 bb hW.2.1 hG c7_129_5) ⟨by decide, by decide⟩ rfl rfl hl.1 (Nat.le_of_ble_eq_true rfl) dX12_reads_8 (fun v g9600 H locs hp hW1 => ?_)
      obtain ⟨r9599, rfl, hr9599, rfl⟩ := hp
      have hW : WS ad cA (fun i k => (i = 129 ∧ (k = 3 ∨ k = 5))) g0 K g9 H locs := ⟨hW1, hW.2.1, hW.2.2⟩
      refine q_if_eq (tgt := 66) hM dX12_reads_11 (by decide) (rfl : r9599.toInt = r9599.toInt) (fun h11 => ?_) (fun h11 => ?_)
      · refine q_iload_n hM dX12_reads_66 (lv_at hl 2 rfl) ?_
        exact hE _ _ _ _ _ _ hW.1 ⟨pp, bb, _, rfl, hW.2.1, hG, hW.2.2, c7_129_3, c7_129_5, (by omega), (by omega), (by omega)⟩ dX12_reads_67
      · refine q_aload_n hM dX12_reads_14 (lv_at hl 0 rfl) ?_
        refine q_callV (As := []) (rest := []) hM hW.1 hR hC myX12_seesDigit (kAW (v_5_13 (List.mem_of_getElem? (i := 2) rfl)) rfl) (rfl : vwCl[12]? = some (RX12, TX12, 86)) rfl lb_129.1 (shO hW.2.1 lb_129) (a_X12_seesDigit _ _ cA ad g9 pp en hW.2.1 hG c7_129_3 ((hW.2.2.1 129 4 (by omega)).trans h_en) (by  omega) (by  omega)) ⟨by decide, by decide⟩ rfl rfl hl.1 (Nat.le_of_ble_eq_true rfl) dX12_reads_15 (fun v g9604 H locs hp hW1 => ?_)
        obtain ⟨r9603, rfl, hr9603, rfl⟩ := hp
        have hW : WS ad cA (fun i k => (i = 129 ∧ (k = 3 ∨ k = 5))) g0 K g9 H locs := ⟨hW1, hW.2.1, hW.2.2⟩
        rw [hW.2.2.2.1 130 (by omega)] at hr9603
        have ex : pp.toInt = pl.toInt → (hr (arI g0 130) pp en).toInt = (hr (arI g0 130) pl en).toInt := fun q => by rw [Int32.toInt_inj.mp q]
        refine q_if_eq (tgt := 66) hM dX12_reads_18 (by decide) (rfl : r9603.toInt = r9603.toInt) (fun h18 => ?_) (fun h18 => ?_)
        · refine q_iload_n hM dX12_reads_66 (lv_at hl 2 rfl) ?_
          exact hE _ _ _ _ _ _ hW.1 ⟨pp, bb, _, rfl, hW.2.1, hG, hW.2.2, c7_129_3, c7_129_5, (by omega), (by omega), (by omega)⟩ dX12_reads_67
        · refine q_aload_n hM dX12_reads_21 (lv_at hl 0 rfl) ?_
          refine w_get (v := .int pp) hM hW FG_X12_173 lb_129 c7_129_3 dX12_reads_22 ?_
          have bpp := hG.f c7_129_3 rF_129_3 (by decide)
          refine q_iload_n hM dX12_reads_25 (lv_at hl 1 rfl) ?_
          refine q_iconst (v := (5 : Int32)) hM dX12_reads_26 (by decide) ?_
          refine q_iadd hM dX12_reads_27 (fun z9607 hz9607 => ?_)
          first | have tz9607 := i_addT hz9607 (rfl : pl.toInt = pl.toInt) (kc_5 : (5 : Int32).toInt = 5) (by omega) (by omega) | skip
          refine q_icmp_ne (tgt := 40) hM dX12_reads_28 (by decide) (rfl : pp.toInt = pp.toInt) (rfl : z9607.toInt = z9607.toInt) (fun h28 => ?_) (fun h28 => ?_)
          · refine q_bipush (v := (10 : Int32)) hM dX12_reads_40 (by decide) ?_
            refine q_iload_n hM dX12_reads_42 (lv_at hl 2 rfl) ?_
            refine q_imul hM dX12_reads_43 (fun z9609 hz9609 => ?_)
            first | have tz9609 := i_mulT hz9609 (kc_10 : (10 : Int32).toInt = 10) (rfl : w7_2.toInt = w7_2.toInt) (by omega) (by omega) | skip
            refine q_aload_n hM dX12_reads_44 (lv_at hl 0 rfl) ?_
            refine q_callV (As := []) (rest := [.int z9609]) hM hW.1 hR hC myX12_here (kAW (v_5_9 (List.mem_of_getElem? (i := 3) rfl)) rfl) (rfl : vwCl[12]? = some (RX12, TX12, 86)) rfl lb_129.1 (shO hW.2.1 lb_129) (a_X12_here _ _ cA ad g9 pp en hW.2.1 hG c7_129_3 ((hW.2.2.1 129 4 (by omega)).trans h_en) (by  omega) (by  omega)) ⟨by decide, by decide⟩ rfl rfl hl.1 (Nat.le_of_ble_eq_true rfl) dX12_reads_45 (fun v g9611 H locs hp hW1 => ?_)
            obtain ⟨r9610, rfl, hr9610, rfl⟩ := hp
            have hW : WS ad cA (fun i k => (i = 129 ∧ (k = 3 ∨ k = 5))) g0 K g9 H locs := ⟨hW1, hW.2.1, hW.2.2⟩
            rw [hW.2.2.2.1 130 (by omega)] at hr9610
            refine q_iadd hM dX12_reads_48 (fun z9612 hz9612 => ?_)
            first | have tz9612 := i_addT hz9612 (rfl : z9609.toInt = z9609.toInt) (rfl : r9610.toInt = r9610.toInt) (by omega) (by omega) | skip
            refine q_bipush (v := (48 : Int32)) hM dX12_reads_49 (by decide) ?_
            refine q_isub hM dX12_reads_51 (fun z9613 hz9613 => ?_)
            first | have tz9613 := i_subT hz9613 (rfl : z9612.toInt = z9612.toInt) (kc_48 : (48 : Int32).toInt = 48) (by omega) (by omega) | skip
            refine q_istore_n (lv9 := [(2, .int z9613), (0, .ref (ad 129)), (1, .int pl)]) hM dX12_reads_52 hl (by decide) rfl (fun ls hl => ?_)
            refine q_aload_n hM dX12_reads_53 (lv_at hl 1 rfl) ?_
            refine q_dup hM dX12_reads_54 rfl ?_
            refine w_get (v := .int pp) hM hW FG_X12_173 lb_129 c7_129_3 dX12_reads_55 ?_
            have bpp := hG.f c7_129_3 rF_129_3 (by decide)
            refine q_iconst (v := (1 : Int32)) hM dX12_reads_58 (by decide) ?_
            refine q_iadd hM dX12_reads_59 (fun z9614 hz9614 => ?_)
            first | have tz9614 := i_addT hz9614 (rfl : pp.toInt = pp.toInt) (kc_1 : (1 : Int32).toInt = 1) (by omega) (by omega) | skip
            refine w_put hM hW FP_X12_173 lb_129 (by omega) (Or.inl ⟨_, rfl⟩) rfl rfl dX12_reads_60 (fun g9615 H locs hW e1 e2 => ?_)
            have f9616 : fld g9615 129 5 = .int bb := (e2.1 129 5 (by unfold Only; omega)).trans c7_129_5
            have f9617 : fld g9615 129 3 = .int z9614 := e1
            have hG := hG.put e1 e2 rF_129_3 (by decide) (by have := i_rng z9614; omega) (by have := i_rng z9614; omega)
            refine q_goto (tgt := 7) hM dX12_reads_63 (by decide) ?_
            exact ih7 z9613 z9614 bb _ _ _ _ (by omega) hG (by omega) (by omega) (by omega) (by omega) f9617 f9616 (lv_sub hl [1, 2, 0] rfl) hW
          · refine q_aload_n hM dX12_reads_31 (lv_at hl 0 rfl) ?_
            refine q_iconst (v := (2 : Int32)) hM dX12_reads_32 (by decide) ?_
            refine q_aload_n hM dX12_reads_33 (lv_at hl 0 rfl) ?_
            refine w_get (v := .int pp) hM hW FG_X12_173 lb_129 c7_129_3 dX12_reads_34 ?_
            have bpp := hG.f c7_129_3 rF_129_3 (by decide)
            refine q_callV (As := [.int (2 : Int32), .int pp]) (rest := []) hM hW.1 hR hC myX12_wrongs (kAW (v_5_9 (List.mem_of_getElem? (i := 11) rfl)) rfl) (rfl : vwCl[12]? = some (RX12, TX12, 86)) rfl lb_129.1 (shO hW.2.1 lb_129) (a_X12_wrongs _ _ cA ad g9 (2 : Int32) pp bb hW.2.1 hG c7_129_5 (by have := kc_2; omega) (by have := kc_2; omega) (by have := kc_2; omega) (by have := kc_2; omega)) ⟨by decide, by decide⟩ rfl rfl hl.1 (Nat.le_of_ble_eq_true rfl) dX12_reads_37 (fun v g9622 H locs hp hW1 => ?_)
            obtain ⟨v9619, rfl, hs1, hG, hf1, q9620, e9621⟩ := hp
            have f9623 : fld g9622 129 3 = .int pp := (hf1.1 129 3 (by omega)).trans c7_129_3
            have hW : WS ad cA (fun i k => (i = 129 ∧ (k = 3 ∨ k = 5))) g0 K g9622 H locs := ⟨hW1, hs1, hW.2.2.tr hf1 (fun i k h => (by omega))⟩
            refine q_bipush (v := (10 : Int32)) hM dX12_reads_40 (by decide) ?_
            refine q_iload_n hM dX12_reads_42 (lv_at hl 2 rfl) ?_
            refine q_imul hM dX12_reads_43 (fun z9624 hz9624 => ?_)
            first | have tz9624 := i_mulT hz9624 (kc_10 : (10 : Int32).toInt = 10) (rfl : w7_2.toInt = w7_2.toInt) (by omega) (by omega) | skip
            refine q_aload_n hM dX12_reads_44 (lv_at hl 0 rfl) ?_
            refine q_callV (As := []) (rest := [.int z9624]) hM hW.1 hR hC myX12_here (kAW (v_5_9 (List.mem_of_getElem? (i := 3) rfl)) rfl) (rfl : vwCl[12]? = some (RX12, TX12, 86)) rfl lb_129.1 (shO hW.2.1 lb_129) (a_X12_here _ _ cA ad g9622 pp en hW.2.1 hG f9623 ((hW.2.2.1 129 4 (by omega)).trans h_en) (by  omega) (by  omega)) ⟨by decide, by decide⟩ rfl rfl hl.1 (Nat.le_of_ble_eq_true rfl) dX12_reads_45 (fun v g9626 H locs hp hW1 => ?_)
            obtain ⟨r9625, rfl, hr9625, rfl⟩ := hp
            have hW : WS ad cA (fun i k => (i = 129 ∧ (k = 3 ∨ k = 5))) g0 K g9622 H locs := ⟨hW1, hW.2.1, hW.2.2⟩
            rw [hW.2.2.2.1 130 (by omega)] at hr9625
            refine q_iadd hM dX12_reads_48 (fun z9627 hz9627 => ?_)
            first | have tz9627 := i_addT hz9627 (rfl : z9624.toInt = z9624.toInt) (rfl : r9625.toInt = r9625.toInt) (by omega) (by omega) | skip
            refine q_bipush (v := (48 : Int32)) hM dX12_reads_49 (by decide) ?_
            refine q_isub hM dX12_reads_51 (fun z9628 hz9628 => ?_)
            first | have tz9628 := i_subT hz9628 (rfl : z9627.toInt = z9627.toInt) (kc_48 : (48 : Int32).toInt = 48) (by omega) (by omega) | skip
            refine q_istore_n (lv9 := [(2, .int z9628), (0, .ref (ad 129)), (1, .int pl)]) hM dX12_reads_52 hl (by decide) rfl (fun ls hl => ?_)
            refine q_aload_n hM dX12_reads_53 (lv_at hl 1 rfl) ?_
            refine q_dup hM dX12_reads_54 rfl ?_
            refine w_get (v := .int pp) hM hW FG_X12_173 lb_129 f9623 dX12_reads_55 ?_
            have bpp := hG.f f9623 rF_129_3 (by decide)
            refine q_iconst (v := (1 : Int32)) hM dX12_reads_58 (by decide) ?_
            refine q_iadd hM dX12_reads_59 (fun z9629 hz9629 => ?_)
            first | have tz9629 := i_addT hz9629 (rfl : pp.toInt = pp.toInt) (kc_1 : (1 : Int32).toInt = 1) (by omega) (by omega) | skip
            refine w_put hM hW FP_X12_173 lb_129 (by omega) (Or.inl ⟨_, rfl⟩) rfl rfl dX12_reads_60 (fun g9630 H locs hW e1 e2 => ?_)
            have f9631 : fld g9630 129 5 = .int v9619 := (e2.1 129 5 (by unfold Only; omega)).trans q9620
            have f9632 : fld g9630 129 3 = .int z9629 := e1
            have hG := hG.put e1 e2 rF_129_3 (by decide) (by have := i_rng z9629; omega) (by have := i_rng z9629; omega)
            refine q_goto (tgt := 7) hM dX12_reads_63 (by decide) ?_
            exact ih7 z9628 z9629 v9619 _ _ _ _ (by omega) hG (by omega) (by omega) (by omega) (by omega) f9632 f9631 (lv_sub hl [1, 2, 0] rfl) hW
  have := kc_0
  exact L7 _ (0 : Int32) pl bd _ _ _ _ (Nat.lt_succ_self _) hG (by omega) (by omega) (by omega) (by omega) f9596 f9597 (lv_sub hl [2, 1, 0] rfl) hW

theorem dX12_factor_0 : decode cX12_factor 0 = .ok (.aload_n 0, 1) := by decide +kernel
theorem dX12_factor_1 : decode cX12_factor 1 = .ok (.invokevirtual 234, 3) := by decide +kernel
theorem dX12_factor_4 : decode cX12_factor 4 = .ok (.ifCond .eq 19, 3) := by decide +kernel
theorem dX12_factor_7 : decode cX12_factor 7 = .ok (.aload_n 0, 1) := by decide +kernel
theorem dX12_factor_8 : decode cX12_factor 8 = .ok (.invokevirtual 182, 3) := by decide +kernel
theorem dX12_factor_11 : decode cX12_factor 11 = .ok (.bipush 91, 2) := by decide +kernel
theorem dX12_factor_13 : decode cX12_factor 13 = .ok (.if_icmp .ne 10, 3) := by decide +kernel
theorem dX12_factor_16 : decode cX12_factor 16 = .ok (.aload_n 0, 1) := by decide +kernel
theorem dX12_factor_17 : decode cX12_factor 17 = .ok (.invokevirtual 305, 3) := by decide +kernel
theorem dX12_factor_20 : decode cX12_factor 20 = .ok (.goto (-20), 3) := by decide +kernel
theorem dX12_factor_23 : decode cX12_factor 23 = .ok (.aload_n 0, 1) := by decide +kernel
theorem dX12_factor_24 : decode cX12_factor 24 = .ok (.invokevirtual 234, 3) := by decide +kernel
theorem dX12_factor_27 : decode cX12_factor 27 = .ok (.ifCond .ne 4, 3) := by decide +kernel
theorem dX12_factor_30 : decode cX12_factor 30 = .ok (.return_, 1) := by decide +kernel
theorem dX12_factor_31 : decode cX12_factor 31 = .ok (.aload_n 0, 1) := by decide +kernel
theorem dX12_factor_32 : decode cX12_factor 32 = .ok (.invokevirtual 290, 3) := by decide +kernel
theorem dX12_factor_35 : decode cX12_factor 35 = .ok (.ifCond .eq 15, 3) := by decide +kernel
theorem dX12_factor_38 : decode cX12_factor 38 = .ok (.aload_n 0, 1) := by decide +kernel
theorem dX12_factor_39 : decode cX12_factor 39 = .ok (.iconst 0, 1) := by decide +kernel
theorem dX12_factor_40 : decode cX12_factor 40 = .ok (.aload_n 0, 1) := by decide +kernel
theorem dX12_factor_41 : decode cX12_factor 41 = .ok (.invokevirtual 308, 3) := by decide +kernel
theorem dX12_factor_44 : decode cX12_factor 44 = .ok (.invokevirtual 302, 3) := by decide +kernel
theorem dX12_factor_47 : decode cX12_factor 47 = .ok (.goto 44, 3) := by decide +kernel
theorem dX12_factor_50 : decode cX12_factor 50 = .ok (.aload_n 0, 1) := by decide +kernel
theorem dX12_factor_51 : decode cX12_factor 51 = .ok (.invokevirtual 182, 3) := by decide +kernel
theorem dX12_factor_54 : decode cX12_factor 54 = .ok (.invokestatic 311, 3) := by decide +kernel
theorem dX12_factor_57 : decode cX12_factor 57 = .ok (.ifCond .eq 25, 3) := by decide +kernel
theorem dX12_factor_60 : decode cX12_factor 60 = .ok (.aload_n 0, 1) := by decide +kernel
theorem dX12_factor_61 : decode cX12_factor 61 = .ok (.iconst 1, 1) := by decide +kernel
theorem dX12_factor_62 : decode cX12_factor 62 = .ok (.aload_n 0, 1) := by decide +kernel
theorem dX12_factor_63 : decode cX12_factor 63 = .ok (.invokevirtual 182, 3) := by decide +kernel
theorem dX12_factor_66 : decode cX12_factor 66 = .ok (.invokevirtual 302, 3) := by decide +kernel
theorem dX12_factor_69 : decode cX12_factor 69 = .ok (.aload_n 0, 1) := by decide +kernel
theorem dX12_factor_70 : decode cX12_factor 70 = .ok (.dup, 1) := by decide +kernel
theorem dX12_factor_71 : decode cX12_factor 71 = .ok (.getfield 173, 3) := by decide +kernel
theorem dX12_factor_74 : decode cX12_factor 74 = .ok (.iconst 1, 1) := by decide +kernel
theorem dX12_factor_75 : decode cX12_factor 75 = .ok (.iadd, 1) := by decide +kernel
theorem dX12_factor_76 : decode cX12_factor 76 = .ok (.putfield 173, 3) := by decide +kernel
theorem dX12_factor_79 : decode cX12_factor 79 = .ok (.goto 12, 3) := by decide +kernel
theorem dX12_factor_82 : decode cX12_factor 82 = .ok (.aload_n 0, 1) := by decide +kernel
theorem dX12_factor_83 : decode cX12_factor 83 = .ok (.iconst 1, 1) := by decide +kernel
theorem dX12_factor_84 : decode cX12_factor 84 = .ok (.aload_n 0, 1) := by decide +kernel
theorem dX12_factor_85 : decode cX12_factor 85 = .ok (.getfield 173, 3) := by decide +kernel
theorem dX12_factor_88 : decode cX12_factor 88 = .ok (.invokevirtual 230, 3) := by decide +kernel
theorem dX12_factor_91 : decode cX12_factor 91 = .ok (.return_, 1) := by decide +kernel
theorem myX12_isValue : MS yX12_isValue cX12_isValue 1 (some FieldType.boolean) 1 := ⟨kAW (v_5_14 (List.mem_of_getElem? (i := 1) rfl)) rfl, kAW (v_0_0 (List.mem_of_getElem? (i := 13) rfl)) rfl, kAW (v_5_14 (List.mem_of_getElem? (i := 0) rfl)) rfl, by decide, by decide, by decide +kernel⟩
theorem myX12_reads : MI yX12_reads cX12_reads 3 (some FieldType.int) 0 := ⟨kAW (v_5_13 (List.mem_of_getElem? (i := 10) rfl)) rfl, kAW (v_0_0 (List.mem_of_getElem? (i := 13) rfl)) rfl, kAW (v_5_13 (List.mem_of_getElem? (i := 9) rfl)) rfl, kAW (tp_t3 (List.mem_of_getElem? (i := 5) rfl)) rfl, by decide, by decide, by decide +kernel⟩
theorem myX12_opens : MI yX12_opens cX12_opens 1 none 0 := ⟨kAW (v_5_12 (List.mem_of_getElem? (i := 13) rfl)) rfl, kAW (v_0_0 (List.mem_of_getElem? (i := 13) rfl)) rfl, kAW (v_5_12 (List.mem_of_getElem? (i := 12) rfl)) rfl, kAW (tp_t3 (List.mem_of_getElem? (i := 2) rfl)) rfl, by decide, by decide, by decide +kernel⟩
set_option maxRecDepth 100000 in
set_option maxHeartbeats 4000000 in
theorem a_X12_factor (l : Launch) (D : va_G) (cA : Nat → ClassId) (ad : Nat → Nat) (g0 : Nat → va_E)  (pl : Int32) (en : Int32) (bd : Int32) (co : Int32) (sk : Int32) (op : Int32)  (sa : Int × (Nat → Int32)) (lo : Int) (s0 : Nat → Int32) (hSh : Shp ad cA g0) (hG : Rng g0) (h_pl : fld g0 129 3 = .int pl) (h_en : fld g0 129 4 = .int en) (h_bd : fld g0 129 5 = .int bd) (h_co : fld g0 129 7 = .int co) (h_sk : fld g0 129 9 = .int sk) (h_op : fld g0 129 8 = .int op) (pl0 : 0 ≤ pl.toInt) (pl1 : pl.toInt ≤ en.toInt) (en1 : en.toInt ≤ 240) (bd0 : bd.toInt = 0) (i1 : co.toInt + sk.toInt ≤ pl.toInt) (i2 : sk.toInt - pl.toInt ≤ op.toInt) (i3 : op.toInt ≤ pl.toInt) (hJ : JJ (arI g0 153) (arI g0 155) sa co.toInt sk.toInt 0) (hV : VS (arI g0 155) s0 lo sk.toInt) : CT l NN ad cA D yX12_factor cX12_factor 1 none (3, 67) [.ref (ad 129)] g0 (fun v g' => ∃ (p9 : Int32) (b9 : Int32) (c9 : Int32) (s9 : Int32) (o9 : Int32), v = none ∧ Shp ad cA g' ∧ Rng g' ∧ FR (fun i k => (i = 129 ∧ (k = 3 ∨ k = 5 ∨ k = 7 ∨ k = 8 ∨ k = 9)) ∨ i = 153 ∨ i = 154 ∨ i = 155) g0 g' ∧ fld g' 129 3 = .int p9 ∧ fld g' 129 5 = .int b9 ∧ fld g' 129 7 = .int c9 ∧ fld g' 129 9 = .int s9 ∧ fld g' 129 8 = .int o9 ∧ (pl.toInt ≤ p9.toInt) ∧ (p9.toInt ≤ en.toInt) ∧ (b9.toInt ≤ 0) ∧ (c9.toInt + s9.toInt ≤ p9.toInt) ∧ (s9.toInt - p9.toInt ≤ o9.toInt) ∧ (o9.toInt ≤ p9.toInt) ∧ (0 ≤ s9.toInt ∧ 0 ≤ c9.toInt) ∧ (b9.toInt = 0 → pl.toInt < p9.toInt) ∧ (b9.toInt = 0 → JJ (arI g' 153) (arI g' 155) sa c9.toInt s9.toInt 1) ∧ (b9.toInt = 0 → VS (arI g' 155) s0 lo s9.toInt)) := by
  refine q_enterV (by decide) (Nat.le_of_ble_eq_true rfl) (fun K H locs ls _ _ hM hW0 hR hC hE hl => ?_)
  have hl : lv_has ls 1 [(0, .ref (ad 129))] := hl
  have hW : WS ad cA (fun i k => (i = 129 ∧ (k = 3 ∨ k = 5 ∨ k = 7 ∨ k = 8 ∨ k = 9)) ∨ i = 153 ∨ i = 154 ∨ i = 155) g0 K g0 H locs := ⟨hW0, hSh, FR.rf⟩
  have b_pl := hG.f h_pl rF_129_3 (by decide)
  have b_en := hG.f h_en rF_129_4 (by decide)
  have b_bd := hG.f h_bd rF_129_5 (by decide)
  have b_co := hG.f h_co rF_129_7 (by decide)
  have b_sk := hG.f h_sk rF_129_9 (by decide)
  have b_op := hG.f h_op rF_129_8 (by decide)
  have f9633 : fld g0 129 3 = .int pl := h_pl
  have f9634 : fld g0 129 5 = .int bd := h_bd
  have f9635 : fld g0 129 7 = .int co := h_co
  have f9636 : fld g0 129 8 = .int op := h_op
  have f9637 : fld g0 129 9 = .int sk := h_sk
  have L0 : ∀ (fu0 : Nat) (pp : Int32) (bb : Int32) (ss : Int32) (oo : Int32) (g9 : Nat → va_E) (H : Heap) (locs : List Loc) (ls : Array Slot), (en.toInt - pp.toInt).toNat < fu0 → (Rng g9) → (pl.toInt ≤ pp.toInt) → (pp.toInt ≤ en.toInt) → (bb.toInt ≤ 0) → (co.toInt + ss.toInt ≤ pp.toInt) → (ss.toInt - pp.toInt ≤ oo.toInt) → (oo.toInt ≤ pp.toInt) → (0 ≤ ss.toInt) → (bb.toInt = 0 → JJ (arI g9 153) (arI g9 155) sa co.toInt ss.toInt 0) → (bb.toInt = 0 → VS (arI g9 155) s0 lo ss.toInt) → (fld g9 129 3 = .int pp) → (fld g9 129 5 = .int bb) → (fld g9 129 9 = .int ss) → (fld g9 129 8 = .int oo) → (fld g9 129 7 = .int co) → lv_has ls 1 [(0, .ref (ad 129))] → WS ad cA (fun i k => (i = 129 ∧ (k = 3 ∨ k = 5 ∨ k = 7 ∨ k = 8 ∨ k = 9)) ∨ i = 153 ∨ i = 154 ∨ i = 155) g0 K g9 H locs → XX K 0 0 H locs 0 ls [] := by
    intro fu0
    induction fu0 with
    | zero => intro pp bb ss oo g9 H locs ls h0; omega
    | succ fu0 ih0 =>
      intro pp bb ss oo g9 H locs ls hm0 i0_0 i0_1 i0_2 i0_3 i0_4 i0_5 i0_6 i0_7 i0_8 i0_9 c0_129_3 c0_129_5 c0_129_9 c0_129_8 c0_129_7 hl hW
      have hG := i0_0
      refine q_aload_n hM dX12_factor_0 (lv_at hl 0 rfl) ?_
      refine q_callV (As := []) (rest := []) hM hW.1 hR hC myX12_isGood (kAW (v_5_8 (List.mem_of_getElem? (i := 11) rfl)) rfl) (rfl : vwCl[12]? = some (RX12, TX12, 86)) rfl lb_129.1 (shO hW.2.1 lb_129) (a_X12_isGood _ _ cA ad g9 bb hW.2.1 hG c0_129_5) ⟨by decide, by decide⟩ rfl rfl hl.1 (Nat.le_of_ble_eq_true rfl) dX12_factor_1 (fun v g9640 H locs hp hW1 => ?_)
      obtain ⟨r9639, rfl, hr9639, rfl⟩ := hp
      have hW : WS ad cA (fun i k => (i = 129 ∧ (k = 3 ∨ k = 5 ∨ k = 7 ∨ k = 8 ∨ k = 9)) ∨ i = 153 ∨ i = 154 ∨ i = 155) g0 K g9 H locs := ⟨hW1, hW.2.1, hW.2.2⟩
      refine q_if_eq (tgt := 23) hM dX12_factor_4 (by decide) (rfl : r9639.toInt = r9639.toInt) (fun h4 => ?_) (fun h4 => ?_)
      · refine q_aload_n hM dX12_factor_23 (lv_at hl 0 rfl) ?_
        refine q_callV (As := []) (rest := []) hM hW.1 hR hC myX12_isGood (kAW (v_5_8 (List.mem_of_getElem? (i := 11) rfl)) rfl) (rfl : vwCl[12]? = some (RX12, TX12, 86)) rfl lb_129.1 (shO hW.2.1 lb_129) (a_X12_isGood _ _ cA ad g9 bb hW.2.1 hG c0_129_5) ⟨by decide, by decide⟩ rfl rfl hl.1 (Nat.le_of_ble_eq_true rfl) dX12_factor_24 (fun v g9643 H locs hp hW1 => ?_)
        obtain ⟨r9642, rfl, hr9642, rfl⟩ := hp
        have hW : WS ad cA (fun i k => (i = 129 ∧ (k = 3 ∨ k = 5 ∨ k = 7 ∨ k = 8 ∨ k = 9)) ∨ i = 153 ∨ i = 154 ∨ i = 155) g0 K g9 H locs := ⟨hW1, hW.2.1, hW.2.2⟩
        refine q_if_ne (tgt := 31) hM dX12_factor_27 (by decide) (rfl : r9642.toInt = r9642.toInt) (fun h27 => ?_) (fun h27 => ?_)
        · refine q_aload_n hM dX12_factor_31 (lv_at hl 0 rfl) ?_
          refine q_callV (As := []) (rest := []) hM hW.1 hR hC myX12_seesDigit (kAW (v_5_13 (List.mem_of_getElem? (i := 2) rfl)) rfl) (rfl : vwCl[12]? = some (RX12, TX12, 86)) rfl lb_129.1 (shO hW.2.1 lb_129) (a_X12_seesDigit _ _ cA ad g9 pp en hW.2.1 hG c0_129_3 ((hW.2.2.1 129 4 (by omega)).trans h_en) (by  omega) (by  omega)) ⟨by decide, by decide⟩ rfl rfl hl.1 (Nat.le_of_ble_eq_true rfl) dX12_factor_32 (fun v g9646 H locs hp hW1 => ?_)
          obtain ⟨r9645, rfl, hr9645, rfl⟩ := hp
          have hW : WS ad cA (fun i k => (i = 129 ∧ (k = 3 ∨ k = 5 ∨ k = 7 ∨ k = 8 ∨ k = 9)) ∨ i = 153 ∨ i = 154 ∨ i = 155) g0 K g9 H locs := ⟨hW1, hW.2.1, hW.2.2⟩
          rw [hW.2.2.2.1 130 (by omega)] at hr9645
          refine q_if_eq (tgt := 50) hM dX12_factor_35 (by decide) (rfl : r9645.toInt = r9645.toInt) (fun h35 => ?_) (fun h35 => ?_)
          · refine q_aload_n hM dX12_factor_50 (lv_at hl 0 rfl) ?_
            refine q_callV (As := []) (rest := []) hM hW.1 hR hC myX12_here (kAW (v_5_9 (List.mem_of_getElem? (i := 3) rfl)) rfl) (rfl : vwCl[12]? = some (RX12, TX12, 86)) rfl lb_129.1 (shO hW.2.1 lb_129) (a_X12_here _ _ cA ad g9 pp en hW.2.1 hG c0_129_3 ((hW.2.2.1 129 4 (by omega)).trans h_en) (by  omega) (by  omega)) ⟨by decide, by decide⟩ rfl rfl hl.1 (Nat.le_of_ble_eq_true rfl) dX12_factor_51 (fun v g9649 H locs hp hW1 => ?_)
            obtain ⟨r9648, rfl, hr9648, rfl⟩ := hp
            have hW : WS ad cA (fun i k => (i = 129 ∧ (k = 3 ∨ k = 5 ∨ k = 7 ∨ k = 8 ∨ k = 9)) ∨ i = 153 ∨ i = 154 ∨ i = 155) g0 K g9 H locs := ⟨hW1, hW.2.1, hW.2.2⟩
            rw [hW.2.2.2.1 130 (by omega)] at hr9648
            refine q_callS (As := [.int r9648]) (rest := []) hM hW.1 hR hC myX12_isValue (kAW (v_5_13 (List.mem_of_getElem? (i := 15) rfl)) rfl) (a_X12_isValue _ _ cA ad g9 r9648 hW.2.1 hG) ⟨by decide, by decide⟩ rfl rfl hl.1 (Nat.le_of_ble_eq_true rfl) dX12_factor_54 (fun v g9651 H locs hp hW1 => ?_)
            obtain ⟨r9650, rfl, hr9650, rfl⟩ := hp
            have hW : WS ad cA (fun i k => (i = 129 ∧ (k = 3 ∨ k = 5 ∨ k = 7 ∨ k = 8 ∨ k = 9)) ∨ i = 153 ∨ i = 154 ∨ i = 155) g0 K g9 H locs := ⟨hW1, hW.2.1, hW.2.2⟩
            refine q_if_eq (tgt := 82) hM dX12_factor_57 (by decide) (rfl : r9650.toInt = r9650.toInt) (fun h57 => ?_) (fun h57 => ?_)
            · refine q_aload_n hM dX12_factor_82 (lv_at hl 0 rfl) ?_
              refine q_iconst (v := (1 : Int32)) hM dX12_factor_83 (by decide) ?_
              refine q_aload_n hM dX12_factor_84 (lv_at hl 0 rfl) ?_
              refine w_get (v := .int pp) hM hW FG_X12_173 lb_129 c0_129_3 dX12_factor_85 ?_
              have bpp := hG.f c0_129_3 rF_129_3 (by decide)
              refine q_callV (As := [.int (1 : Int32), .int pp]) (rest := []) hM hW.1 hR hC myX12_wrongs (kAW (v_5_9 (List.mem_of_getElem? (i := 11) rfl)) rfl) (rfl : vwCl[12]? = some (RX12, TX12, 86)) rfl lb_129.1 (shO hW.2.1 lb_129) (a_X12_wrongs _ _ cA ad g9 (1 : Int32) pp bb hW.2.1 hG c0_129_5 (by have := kc_1; omega) (by have := kc_1; omega) (by have := kc_1; omega) (by have := kc_1; omega)) ⟨by decide, by decide⟩ rfl rfl hl.1 (Nat.le_of_ble_eq_true rfl) dX12_factor_88 (fun v g9656 H locs hp hW1 => ?_)
              obtain ⟨v9653, rfl, hs1, hG, hf1, q9654, e9655⟩ := hp
              have f9657 : fld g9656 129 3 = .int pp := (hf1.1 129 3 (by omega)).trans c0_129_3
              have f9658 : fld g9656 129 9 = .int ss := (hf1.1 129 9 (by omega)).trans c0_129_9
              have f9659 : fld g9656 129 8 = .int oo := (hf1.1 129 8 (by omega)).trans c0_129_8
              have f9660 : fld g9656 129 7 = .int co := (hf1.1 129 7 (by omega)).trans c0_129_7
              have f9661 : arI g9656 153 = arI g9 153 := (hf1.2.1 153 (by omega)).trans (rfl : arI g9 153 = arI g9 153)
              have f9662 : arI g9656 155 = arI g9 155 := (hf1.2.1 155 (by omega)).trans (rfl : arI g9 155 = arI g9 155)
              have hW : WS ad cA (fun i k => (i = 129 ∧ (k = 3 ∨ k = 5 ∨ k = 7 ∨ k = 8 ∨ k = 9)) ∨ i = 153 ∨ i = 154 ∨ i = 155) g0 K g9656 H locs := ⟨hW1, hs1, hW.2.2.tr hf1 (fun i k h => (Or.inl (by omega)))⟩
              exact hE _ _ _ _ _ hW.1 ⟨pp, v9653, co, ss, oo, rfl, hW.2.1, hG, hW.2.2, f9657, q9654, f9660, f9658, f9659, (by omega), (by omega), (by omega), (by omega), (by omega), (by omega), (by omega), (by omega), (fun q => absurd q (by omega)), (fun q => absurd q (by omega))⟩ dX12_factor_91
            · refine q_aload_n hM dX12_factor_60 (lv_at hl 0 rfl) ?_
              refine q_iconst (v := (1 : Int32)) hM dX12_factor_61 (by decide) ?_
              refine q_aload_n hM dX12_factor_62 (lv_at hl 0 rfl) ?_
              refine q_callV (As := []) (rest := [.int (1 : Int32), .ref (ad 129)]) hM hW.1 hR hC myX12_here (kAW (v_5_9 (List.mem_of_getElem? (i := 3) rfl)) rfl) (rfl : vwCl[12]? = some (RX12, TX12, 86)) rfl lb_129.1 (shO hW.2.1 lb_129) (a_X12_here _ _ cA ad g9 pp en hW.2.1 hG c0_129_3 ((hW.2.2.1 129 4 (by omega)).trans h_en) (by  omega) (by  omega)) ⟨by decide, by decide⟩ rfl rfl hl.1 (Nat.le_of_ble_eq_true rfl) dX12_factor_63 (fun v g9665 H locs hp hW1 => ?_)
              obtain ⟨r9664, rfl, hr9664, rfl⟩ := hp
              have hW : WS ad cA (fun i k => (i = 129 ∧ (k = 3 ∨ k = 5 ∨ k = 7 ∨ k = 8 ∨ k = 9)) ∨ i = 153 ∨ i = 154 ∨ i = 155) g0 K g9 H locs := ⟨hW1, hW.2.1, hW.2.2⟩
              rw [hW.2.2.2.1 130 (by omega)] at hr9664
              refine q_callV (As := [.int (1 : Int32), .int r9664]) (rest := []) hM hW.1 hR hC myX12_emit (kAW (v_5_13 (List.mem_of_getElem? (i := 11) rfl)) rfl) (rfl : vwCl[12]? = some (RX12, TX12, 86)) rfl lb_129.1 (shO hW.2.1 lb_129) (a_X12_emit _ _ cA ad g9 (1 : Int32) r9664 bb co hW.2.1 hG c0_129_5 c0_129_7 (by have := kc_1; omega)) ⟨by decide, by decide⟩ rfl rfl hl.1 (Nat.le_of_ble_eq_true rfl) dX12_factor_66 (fun v g9669 H locs hp hW1 => ?_)
              obtain ⟨v9666, rfl, hs1, hG, hf1, q9667, e9668⟩ := hp
              have f9670 : fld g9669 129 3 = .int pp := (hf1.1 129 3 (by omega)).trans c0_129_3
              have f9671 : fld g9669 129 5 = .int bb := (hf1.1 129 5 (by omega)).trans c0_129_5
              have f9672 : fld g9669 129 9 = .int ss := (hf1.1 129 9 (by omega)).trans c0_129_9
              have f9673 : fld g9669 129 8 = .int oo := (hf1.1 129 8 (by omega)).trans c0_129_8
              have f9674 : arI g9669 155 = arI g9 155 := (hf1.2.1 155 (by omega)).trans (rfl : arI g9 155 = arI g9 155)
              have hW : WS ad cA (fun i k => (i = 129 ∧ (k = 3 ∨ k = 5 ∨ k = 7 ∨ k = 8 ∨ k = 9)) ∨ i = 153 ∨ i = 154 ∨ i = 155) g0 K g9669 H locs := ⟨hW1, hs1, hW.2.2.tr hf1 (fun i k h => h.elim (fun h => (Or.inl (by omega))) (fun h => h.elim (fun h => (Or.inr (Or.inl h))) (fun h => (Or.inr (Or.inr (Or.inl h))))))⟩
              have em9675 := e9668.resolve_right (fun h9 => h9.1 (by omega))
              have f9676 := em9675.2.2
              have em96759 := em9675.2.1
              rw [(rfl : arI g9 153 = arI g9 153)] at f9676
              refine q_aload_n hM dX12_factor_69 (lv_at hl 0 rfl) ?_
              refine q_dup hM dX12_factor_70 rfl ?_
              refine w_get (v := .int pp) hM hW FG_X12_173 lb_129 f9670 dX12_factor_71 ?_
              have bpp := hG.f f9670 rF_129_3 (by decide)
              refine q_iconst (v := (1 : Int32)) hM dX12_factor_74 (by decide) ?_
              refine q_iadd hM dX12_factor_75 (fun z9677 hz9677 => ?_)
              first | have tz9677 := i_addT hz9677 (rfl : pp.toInt = pp.toInt) (kc_1 : (1 : Int32).toInt = 1) (by omega) (by omega) | skip
              refine w_put hM hW FP_X12_173 lb_129 (by omega) (Or.inl ⟨_, rfl⟩) rfl rfl dX12_factor_76 (fun g9678 H locs hW e1 e2 => ?_)
              have f9679 : fld g9678 129 5 = .int bb := (e2.1 129 5 (by unfold Only; omega)).trans f9671
              have f9680 : fld g9678 129 9 = .int ss := (e2.1 129 9 (by unfold Only; omega)).trans f9672
              have f9681 : fld g9678 129 8 = .int oo := (e2.1 129 8 (by unfold Only; omega)).trans f9673
              have f9682 : arI g9678 155 = arI g9 155 := (e2.2.1 155 (by unfold Only; omega)).trans f9674
              have f9683 : fld g9678 129 7 = .int v9666 := (e2.1 129 7 (by unfold Only; omega)).trans q9667
              have f9684 : arI g9678 153 = upd (arI g9 153) co.toNatClampNeg (1 : Int32) := (e2.2.1 153 (by unfold Only; omega)).trans f9676
              have f9685 : fld g9678 129 3 = .int z9677 := e1
              have hG := hG.put e1 e2 rF_129_3 (by decide) (by have := i_rng z9677; omega) (by have := i_rng z9677; omega)
              refine q_goto (tgt := 91) hM dX12_factor_79 (by decide) ?_
              exact hE _ _ _ _ _ hW.1 ⟨z9677, bb, v9666, ss, oo, rfl, hW.2.1, hG, hW.2.2, f9685, f9679, f9683, f9680, f9681, (by omega), (by omega), (by omega), (by omega), (by omega), (by omega), (by omega), (by omega), (fun q => by rw [f9684, f9682]; exact JJ_val (i0_8 (by omega)) rfl rfl (by have := kc_1; omega) (by omega)), (fun q => by rw [f9682]; exact i0_9 (by omega))⟩ dX12_factor_91
          · refine q_aload_n hM dX12_factor_38 (lv_at hl 0 rfl) ?_
            refine q_iconst (v := (0 : Int32)) hM dX12_factor_39 (by decide) ?_
            refine q_aload_n hM dX12_factor_40 (lv_at hl 0 rfl) ?_
            refine q_callV (As := []) (rest := [.int (0 : Int32), .ref (ad 129)]) hM hW.1 hR hC myX12_reads (kAW (v_5_13 (List.mem_of_getElem? (i := 7) rfl)) rfl) (rfl : vwCl[12]? = some (RX12, TX12, 86)) rfl lb_129.1 (shO hW.2.1 lb_129) (a_X12_reads _ _ cA ad g9 pp en bb hW.2.1 hG c0_129_3 ((hW.2.2.1 129 4 (by omega)).trans h_en) c0_129_5 (by  omega) (by  omega) (by  omega) (by  omega) (by rw [hW.2.2.2.1 130 (by omega)]; omega) (by rw [hW.2.2.2.1 130 (by omega)]; omega)) ⟨by decide, by decide⟩ rfl rfl hl.1 (Nat.le_of_ble_eq_true rfl) dX12_factor_41 (fun v g9695 H locs hp hW1 => ?_)
            obtain ⟨v9687, v9688, r9689, rfl, hs1, hG, hf1, q9690, q9691, e9692, e9693, e9694⟩ := hp
            have f9696 : fld g9695 129 9 = .int ss := (hf1.1 129 9 (by omega)).trans c0_129_9
            have f9697 : fld g9695 129 8 = .int oo := (hf1.1 129 8 (by omega)).trans c0_129_8
            have f9698 : fld g9695 129 7 = .int co := (hf1.1 129 7 (by omega)).trans c0_129_7
            have f9699 : arI g9695 153 = arI g9 153 := (hf1.2.1 153 (by omega)).trans (rfl : arI g9 153 = arI g9 153)
            have f9700 : arI g9695 155 = arI g9 155 := (hf1.2.1 155 (by omega)).trans (rfl : arI g9 155 = arI g9 155)
            have hW : WS ad cA (fun i k => (i = 129 ∧ (k = 3 ∨ k = 5 ∨ k = 7 ∨ k = 8 ∨ k = 9)) ∨ i = 153 ∨ i = 154 ∨ i = 155) g0 K g9695 H locs := ⟨hW1, hs1, hW.2.2.tr hf1 (fun i k h => (Or.inl (by omega)))⟩
            refine q_callV (As := [.int (0 : Int32), .int r9689]) (rest := []) hM hW.1 hR hC myX12_emit (kAW (v_5_13 (List.mem_of_getElem? (i := 11) rfl)) rfl) (rfl : vwCl[12]? = some (RX12, TX12, 86)) rfl lb_129.1 (shO hW.2.1 lb_129) (a_X12_emit _ _ cA ad g9695 (0 : Int32) r9689 v9688 co hW.2.1 hG q9691 f9698 (by have := kc_0; omega)) ⟨by decide, by decide⟩ rfl rfl hl.1 (Nat.le_of_ble_eq_true rfl) dX12_factor_44 (fun v g9704 H locs hp hW1 => ?_)
            obtain ⟨v9701, rfl, hs1, hG, hf1, q9702, e9703⟩ := hp
            have f9705 : fld g9704 129 9 = .int ss := (hf1.1 129 9 (by omega)).trans f9696
            have f9706 : fld g9704 129 8 = .int oo := (hf1.1 129 8 (by omega)).trans f9697
            have f9707 : arI g9704 155 = arI g9 155 := (hf1.2.1 155 (by omega)).trans f9700
            have f9708 : fld g9704 129 3 = .int v9687 := (hf1.1 129 3 (by omega)).trans q9690
            have f9709 : fld g9704 129 5 = .int v9688 := (hf1.1 129 5 (by omega)).trans q9691
            have hW : WS ad cA (fun i k => (i = 129 ∧ (k = 3 ∨ k = 5 ∨ k = 7 ∨ k = 8 ∨ k = 9)) ∨ i = 153 ∨ i = 154 ∨ i = 155) g0 K g9704 H locs := ⟨hW1, hs1, hW.2.2.tr hf1 (fun i k h => h.elim (fun h => (Or.inl (by omega))) (fun h => h.elim (fun h => (Or.inr (Or.inl h))) (fun h => (Or.inr (Or.inr (Or.inl h))))))⟩
            refine q_goto (tgt := 91) hM dX12_factor_47 (by decide) ?_
            exact hE _ _ _ _ _ hW.1 ⟨v9687, v9688, v9701, ss, oo, rfl, hW.2.1, hG, hW.2.2, f9708, f9709, q9702, f9705, f9706, (by omega), (by omega), (by omega), (by omega), (by omega), (by omega), (by omega), (by omega), (fun q => by have em := e9703.resolve_right (fun h9 => h9.1 q); have em9 := em.2.1; rw [em.2.2, f9699, f9707]; exact JJ_val (i0_8 (by omega)) rfl rfl (by have := kc_0; omega) (by omega)), (fun q => by rw [f9707]; exact i0_9 (by omega))⟩ dX12_factor_91
        · exact hE _ _ _ _ _ hW.1 ⟨pp, bb, co, ss, oo, rfl, hW.2.1, hG, hW.2.2, c0_129_3, c0_129_5, c0_129_7, c0_129_9, c0_129_8, (by omega), (by omega), (by omega), (by omega), (by omega), (by omega), (by omega), (by omega), (fun q => absurd q (by omega)), (fun q => absurd q (by omega))⟩ dX12_factor_30
      · refine q_aload_n hM dX12_factor_7 (lv_at hl 0 rfl) ?_
        refine q_callV (As := []) (rest := []) hM hW.1 hR hC myX12_here (kAW (v_5_9 (List.mem_of_getElem? (i := 3) rfl)) rfl) (rfl : vwCl[12]? = some (RX12, TX12, 86)) rfl lb_129.1 (shO hW.2.1 lb_129) (a_X12_here _ _ cA ad g9 pp en hW.2.1 hG c0_129_3 ((hW.2.2.1 129 4 (by omega)).trans h_en) (by  omega) (by  omega)) ⟨by decide, by decide⟩ rfl rfl hl.1 (Nat.le_of_ble_eq_true rfl) dX12_factor_8 (fun v g9713 H locs hp hW1 => ?_)
        obtain ⟨r9712, rfl, hr9712, rfl⟩ := hp
        have hW : WS ad cA (fun i k => (i = 129 ∧ (k = 3 ∨ k = 5 ∨ k = 7 ∨ k = 8 ∨ k = 9)) ∨ i = 153 ∨ i = 154 ∨ i = 155) g0 K g9 H locs := ⟨hW1, hW.2.1, hW.2.2⟩
        rw [hW.2.2.2.1 130 (by omega)] at hr9712
        refine q_bipush (v := (91 : Int32)) hM dX12_factor_11 (by decide) ?_
        refine q_icmp_ne (tgt := 23) hM dX12_factor_13 (by decide) (rfl : r9712.toInt = r9712.toInt) (kc_91 : (91 : Int32).toInt = 91) (fun h13 => ?_) (fun h13 => ?_)
        · refine q_aload_n hM dX12_factor_23 (lv_at hl 0 rfl) ?_
          refine q_callV (As := []) (rest := []) hM hW.1 hR hC myX12_isGood (kAW (v_5_8 (List.mem_of_getElem? (i := 11) rfl)) rfl) (rfl : vwCl[12]? = some (RX12, TX12, 86)) rfl lb_129.1 (shO hW.2.1 lb_129) (a_X12_isGood _ _ cA ad g9 bb hW.2.1 hG c0_129_5) ⟨by decide, by decide⟩ rfl rfl hl.1 (Nat.le_of_ble_eq_true rfl) dX12_factor_24 (fun v g9716 H locs hp hW1 => ?_)
          obtain ⟨r9715, rfl, hr9715, rfl⟩ := hp
          have hW : WS ad cA (fun i k => (i = 129 ∧ (k = 3 ∨ k = 5 ∨ k = 7 ∨ k = 8 ∨ k = 9)) ∨ i = 153 ∨ i = 154 ∨ i = 155) g0 K g9 H locs := ⟨hW1, hW.2.1, hW.2.2⟩
          refine q_if_ne (tgt := 31) hM dX12_factor_27 (by decide) (rfl : r9715.toInt = r9715.toInt) (fun h27 => ?_) (fun h27 => ?_)
          · refine q_aload_n hM dX12_factor_31 (lv_at hl 0 rfl) ?_
            refine q_callV (As := []) (rest := []) hM hW.1 hR hC myX12_seesDigit (kAW (v_5_13 (List.mem_of_getElem? (i := 2) rfl)) rfl) (rfl : vwCl[12]? = some (RX12, TX12, 86)) rfl lb_129.1 (shO hW.2.1 lb_129) (a_X12_seesDigit _ _ cA ad g9 pp en hW.2.1 hG c0_129_3 ((hW.2.2.1 129 4 (by omega)).trans h_en) (by  omega) (by  omega)) ⟨by decide, by decide⟩ rfl rfl hl.1 (Nat.le_of_ble_eq_true rfl) dX12_factor_32 (fun v g9719 H locs hp hW1 => ?_)
            obtain ⟨r9718, rfl, hr9718, rfl⟩ := hp
            have hW : WS ad cA (fun i k => (i = 129 ∧ (k = 3 ∨ k = 5 ∨ k = 7 ∨ k = 8 ∨ k = 9)) ∨ i = 153 ∨ i = 154 ∨ i = 155) g0 K g9 H locs := ⟨hW1, hW.2.1, hW.2.2⟩
            rw [hW.2.2.2.1 130 (by omega)] at hr9718
            refine q_if_eq (tgt := 50) hM dX12_factor_35 (by decide) (rfl : r9718.toInt = r9718.toInt) (fun h35 => ?_) (fun h35 => ?_)
            · refine q_aload_n hM dX12_factor_50 (lv_at hl 0 rfl) ?_
              refine q_callV (As := []) (rest := []) hM hW.1 hR hC myX12_here (kAW (v_5_9 (List.mem_of_getElem? (i := 3) rfl)) rfl) (rfl : vwCl[12]? = some (RX12, TX12, 86)) rfl lb_129.1 (shO hW.2.1 lb_129) (a_X12_here _ _ cA ad g9 pp en hW.2.1 hG c0_129_3 ((hW.2.2.1 129 4 (by omega)).trans h_en) (by  omega) (by  omega)) ⟨by decide, by decide⟩ rfl rfl hl.1 (Nat.le_of_ble_eq_true rfl) dX12_factor_51 (fun v g9722 H locs hp hW1 => ?_)
              obtain ⟨r9721, rfl, hr9721, rfl⟩ := hp
              have hW : WS ad cA (fun i k => (i = 129 ∧ (k = 3 ∨ k = 5 ∨ k = 7 ∨ k = 8 ∨ k = 9)) ∨ i = 153 ∨ i = 154 ∨ i = 155) g0 K g9 H locs := ⟨hW1, hW.2.1, hW.2.2⟩
              rw [hW.2.2.2.1 130 (by omega)] at hr9721
              refine q_callS (As := [.int r9721]) (rest := []) hM hW.1 hR hC myX12_isValue (kAW (v_5_13 (List.mem_of_getElem? (i := 15) rfl)) rfl) (a_X12_isValue _ _ cA ad g9 r9721 hW.2.1 hG) ⟨by decide, by decide⟩ rfl rfl hl.1 (Nat.le_of_ble_eq_true rfl) dX12_factor_54 (fun v g9724 H locs hp hW1 => ?_)
              obtain ⟨r9723, rfl, hr9723, rfl⟩ := hp
              have hW : WS ad cA (fun i k => (i = 129 ∧ (k = 3 ∨ k = 5 ∨ k = 7 ∨ k = 8 ∨ k = 9)) ∨ i = 153 ∨ i = 154 ∨ i = 155) g0 K g9 H locs := ⟨hW1, hW.2.1, hW.2.2⟩
              refine q_if_eq (tgt := 82) hM dX12_factor_57 (by decide) (rfl : r9723.toInt = r9723.toInt) (fun h57 => ?_) (fun h57 => ?_)
              · refine q_aload_n hM dX12_factor_82 (lv_at hl 0 rfl) ?_
                refine q_iconst (v := (1 : Int32)) hM dX12_factor_83 (by decide) ?_
                refine q_aload_n hM dX12_factor_84 (lv_at hl 0 rfl) ?_
                refine w_get (v := .int pp) hM hW FG_X12_173 lb_129 c0_129_3 dX12_factor_85 ?_
                have bpp := hG.f c0_129_3 rF_129_3 (by decide)
                refine q_callV (As := [.int (1 : Int32), .int pp]) (rest := []) hM hW.1 hR hC myX12_wrongs (kAW (v_5_9 (List.mem_of_getElem? (i := 11) rfl)) rfl) (rfl : vwCl[12]? = some (RX12, TX12, 86)) rfl lb_129.1 (shO hW.2.1 lb_129) (a_X12_wrongs _ _ cA ad g9 (1 : Int32) pp bb hW.2.1 hG c0_129_5 (by have := kc_1; omega) (by have := kc_1; omega) (by have := kc_1; omega) (by have := kc_1; omega)) ⟨by decide, by decide⟩ rfl rfl hl.1 (Nat.le_of_ble_eq_true rfl) dX12_factor_88 (fun v g9729 H locs hp hW1 => ?_)
                obtain ⟨v9726, rfl, hs1, hG, hf1, q9727, e9728⟩ := hp
                have f9730 : fld g9729 129 3 = .int pp := (hf1.1 129 3 (by omega)).trans c0_129_3
                have f9731 : fld g9729 129 9 = .int ss := (hf1.1 129 9 (by omega)).trans c0_129_9
                have f9732 : fld g9729 129 8 = .int oo := (hf1.1 129 8 (by omega)).trans c0_129_8
                have f9733 : fld g9729 129 7 = .int co := (hf1.1 129 7 (by omega)).trans c0_129_7
                have f9734 : arI g9729 153 = arI g9 153 := (hf1.2.1 153 (by omega)).trans (rfl : arI g9 153 = arI g9 153)
                have f9735 : arI g9729 155 = arI g9 155 := (hf1.2.1 155 (by omega)).trans (rfl : arI g9 155 = arI g9 155)
                have hW : WS ad cA (fun i k => (i = 129 ∧ (k = 3 ∨ k = 5 ∨ k = 7 ∨ k = 8 ∨ k = 9)) ∨ i = 153 ∨ i = 154 ∨ i = 155) g0 K g9729 H locs := ⟨hW1, hs1, hW.2.2.tr hf1 (fun i k h => (Or.inl (by omega)))⟩
                exact hE _ _ _ _ _ hW.1 ⟨pp, v9726, co, ss, oo, rfl, hW.2.1, hG, hW.2.2, f9730, q9727, f9733, f9731, f9732, (by omega), (by omega), (by omega), (by omega), (by omega), (by omega), (by omega), (by omega), (fun q => absurd q (by omega)), (fun q => absurd q (by omega))⟩ dX12_factor_91
              · refine q_aload_n hM dX12_factor_60 (lv_at hl 0 rfl) ?_
                refine q_iconst (v := (1 : Int32)) hM dX12_factor_61 (by decide) ?_
                refine q_aload_n hM dX12_factor_62 (lv_at hl 0 rfl) ?_
                refine q_callV (As := []) (rest := [.int (1 : Int32), .ref (ad 129)]) hM hW.1 hR hC myX12_here (kAW (v_5_9 (List.mem_of_getElem? (i := 3) rfl)) rfl) (rfl : vwCl[12]? = some (RX12, TX12, 86)) rfl lb_129.1 (shO hW.2.1 lb_129) (a_X12_here _ _ cA ad g9 pp en hW.2.1 hG c0_129_3 ((hW.2.2.1 129 4 (by omega)).trans h_en) (by  omega) (by  omega)) ⟨by decide, by decide⟩ rfl rfl hl.1 (Nat.le_of_ble_eq_true rfl) dX12_factor_63 (fun v g9738 H locs hp hW1 => ?_)
                obtain ⟨r9737, rfl, hr9737, rfl⟩ := hp
                have hW : WS ad cA (fun i k => (i = 129 ∧ (k = 3 ∨ k = 5 ∨ k = 7 ∨ k = 8 ∨ k = 9)) ∨ i = 153 ∨ i = 154 ∨ i = 155) g0 K g9 H locs := ⟨hW1, hW.2.1, hW.2.2⟩
                rw [hW.2.2.2.1 130 (by omega)] at hr9737
                refine q_callV (As := [.int (1 : Int32), .int r9737]) (rest := []) hM hW.1 hR hC myX12_emit (kAW (v_5_13 (List.mem_of_getElem? (i := 11) rfl)) rfl) (rfl : vwCl[12]? = some (RX12, TX12, 86)) rfl lb_129.1 (shO hW.2.1 lb_129) (a_X12_emit _ _ cA ad g9 (1 : Int32) r9737 bb co hW.2.1 hG c0_129_5 c0_129_7 (by have := kc_1; omega)) ⟨by decide, by decide⟩ rfl rfl hl.1 (Nat.le_of_ble_eq_true rfl) dX12_factor_66 (fun v g9742 H locs hp hW1 => ?_)
                obtain ⟨v9739, rfl, hs1, hG, hf1, q9740, e9741⟩ := hp
                have f9743 : fld g9742 129 3 = .int pp := (hf1.1 129 3 (by omega)).trans c0_129_3
                have f9744 : fld g9742 129 5 = .int bb := (hf1.1 129 5 (by omega)).trans c0_129_5
                have f9745 : fld g9742 129 9 = .int ss := (hf1.1 129 9 (by omega)).trans c0_129_9
                have f9746 : fld g9742 129 8 = .int oo := (hf1.1 129 8 (by omega)).trans c0_129_8
                have f9747 : arI g9742 155 = arI g9 155 := (hf1.2.1 155 (by omega)).trans (rfl : arI g9 155 = arI g9 155)
                have hW : WS ad cA (fun i k => (i = 129 ∧ (k = 3 ∨ k = 5 ∨ k = 7 ∨ k = 8 ∨ k = 9)) ∨ i = 153 ∨ i = 154 ∨ i = 155) g0 K g9742 H locs := ⟨hW1, hs1, hW.2.2.tr hf1 (fun i k h => h.elim (fun h => (Or.inl (by omega))) (fun h => h.elim (fun h => (Or.inr (Or.inl h))) (fun h => (Or.inr (Or.inr (Or.inl h))))))⟩
                have em9748 := e9741.resolve_right (fun h9 => h9.1 (by omega))
                have f9749 := em9748.2.2
                have em97489 := em9748.2.1
                rw [(rfl : arI g9 153 = arI g9 153)] at f9749
                refine q_aload_n hM dX12_factor_69 (lv_at hl 0 rfl) ?_
                refine q_dup hM dX12_factor_70 rfl ?_
                refine w_get (v := .int pp) hM hW FG_X12_173 lb_129 f9743 dX12_factor_71 ?_
                have bpp := hG.f f9743 rF_129_3 (by decide)
                refine q_iconst (v := (1 : Int32)) hM dX12_factor_74 (by decide) ?_
                refine q_iadd hM dX12_factor_75 (fun z9750 hz9750 => ?_)
                first | have tz9750 := i_addT hz9750 (rfl : pp.toInt = pp.toInt) (kc_1 : (1 : Int32).toInt = 1) (by omega) (by omega) | skip
                refine w_put hM hW FP_X12_173 lb_129 (by omega) (Or.inl ⟨_, rfl⟩) rfl rfl dX12_factor_76 (fun g9751 H locs hW e1 e2 => ?_)
                have f9752 : fld g9751 129 5 = .int bb := (e2.1 129 5 (by unfold Only; omega)).trans f9744
                have f9753 : fld g9751 129 9 = .int ss := (e2.1 129 9 (by unfold Only; omega)).trans f9745
                have f9754 : fld g9751 129 8 = .int oo := (e2.1 129 8 (by unfold Only; omega)).trans f9746
                have f9755 : arI g9751 155 = arI g9 155 := (e2.2.1 155 (by unfold Only; omega)).trans f9747
                have f9756 : fld g9751 129 7 = .int v9739 := (e2.1 129 7 (by unfold Only; omega)).trans q9740
                have f9757 : arI g9751 153 = upd (arI g9 153) co.toNatClampNeg (1 : Int32) := (e2.2.1 153 (by unfold Only; omega)).trans f9749
                have f9758 : fld g9751 129 3 = .int z9750 := e1
                have hG := hG.put e1 e2 rF_129_3 (by decide) (by have := i_rng z9750; omega) (by have := i_rng z9750; omega)
                refine q_goto (tgt := 91) hM dX12_factor_79 (by decide) ?_
                exact hE _ _ _ _ _ hW.1 ⟨z9750, bb, v9739, ss, oo, rfl, hW.2.1, hG, hW.2.2, f9758, f9752, f9756, f9753, f9754, (by omega), (by omega), (by omega), (by omega), (by omega), (by omega), (by omega), (by omega), (fun q => by rw [f9757, f9755]; exact JJ_val (i0_8 (by omega)) rfl rfl (by have := kc_1; omega) (by omega)), (fun q => by rw [f9755]; exact i0_9 (by omega))⟩ dX12_factor_91
            · refine q_aload_n hM dX12_factor_38 (lv_at hl 0 rfl) ?_
              refine q_iconst (v := (0 : Int32)) hM dX12_factor_39 (by decide) ?_
              refine q_aload_n hM dX12_factor_40 (lv_at hl 0 rfl) ?_
              refine q_callV (As := []) (rest := [.int (0 : Int32), .ref (ad 129)]) hM hW.1 hR hC myX12_reads (kAW (v_5_13 (List.mem_of_getElem? (i := 7) rfl)) rfl) (rfl : vwCl[12]? = some (RX12, TX12, 86)) rfl lb_129.1 (shO hW.2.1 lb_129) (a_X12_reads _ _ cA ad g9 pp en bb hW.2.1 hG c0_129_3 ((hW.2.2.1 129 4 (by omega)).trans h_en) c0_129_5 (by  omega) (by  omega) (by  omega) (by  omega) (by rw [hW.2.2.2.1 130 (by omega)]; omega) (by rw [hW.2.2.2.1 130 (by omega)]; omega)) ⟨by decide, by decide⟩ rfl rfl hl.1 (Nat.le_of_ble_eq_true rfl) dX12_factor_41 (fun v g9768 H locs hp hW1 => ?_)
              obtain ⟨v9760, v9761, r9762, rfl, hs1, hG, hf1, q9763, q9764, e9765, e9766, e9767⟩ := hp
              have f9769 : fld g9768 129 9 = .int ss := (hf1.1 129 9 (by omega)).trans c0_129_9
              have f9770 : fld g9768 129 8 = .int oo := (hf1.1 129 8 (by omega)).trans c0_129_8
              have f9771 : fld g9768 129 7 = .int co := (hf1.1 129 7 (by omega)).trans c0_129_7
              have f9772 : arI g9768 153 = arI g9 153 := (hf1.2.1 153 (by omega)).trans (rfl : arI g9 153 = arI g9 153)
              have f9773 : arI g9768 155 = arI g9 155 := (hf1.2.1 155 (by omega)).trans (rfl : arI g9 155 = arI g9 155)
              have hW : WS ad cA (fun i k => (i = 129 ∧ (k = 3 ∨ k = 5 ∨ k = 7 ∨ k = 8 ∨ k = 9)) ∨ i = 153 ∨ i = 154 ∨ i = 155) g0 K g9768 H locs := ⟨hW1, hs1, hW.2.2.tr hf1 (fun i k h => (Or.inl (by omega)))⟩
              refine q_callV (As := [.int (0 : Int32), .int r9762]) (rest := []) hM hW.1 hR hC myX12_emit (kAW (v_5_13 (List.mem_of_getElem? (i := 11) rfl)) rfl) (rfl : vwCl[12]? = some (RX12, TX12, 86)) rfl lb_129.1 (shO hW.2.1 lb_129) (a_X12_emit _ _ cA ad g9768 (0 : Int32) r9762 v9761 co hW.2.1 hG q9764 f9771 (by have := kc_0; omega)) ⟨by decide, by decide⟩ rfl rfl hl.1 (Nat.le_of_ble_eq_true rfl) dX12_factor_44 (fun v g9777 H locs hp hW1 => ?_)
              obtain ⟨v9774, rfl, hs1, hG, hf1, q9775, e9776⟩ := hp
              have f9778 : fld g9777 129 9 = .int ss := (hf1.1 129 9 (by omega)).trans f9769
              have f9779 : fld g9777 129 8 = .int oo := (hf1.1 129 8 (by omega)).trans f9770
              have f9780 : arI g9777 155 = arI g9 155 := (hf1.2.1 155 (by omega)).trans f9773
              have f9781 : fld g9777 129 3 = .int v9760 := (hf1.1 129 3 (by omega)).trans q9763
              have f9782 : fld g9777 129 5 = .int v9761 := (hf1.1 129 5 (by omega)).trans q9764
              have hW : WS ad cA (fun i k => (i = 129 ∧ (k = 3 ∨ k = 5 ∨ k = 7 ∨ k = 8 ∨ k = 9)) ∨ i = 153 ∨ i = 154 ∨ i = 155) g0 K g9777 H locs := ⟨hW1, hs1, hW.2.2.tr hf1 (fun i k h => h.elim (fun h => (Or.inl (by omega))) (fun h => h.elim (fun h => (Or.inr (Or.inl h))) (fun h => (Or.inr (Or.inr (Or.inl h))))))⟩
              refine q_goto (tgt := 91) hM dX12_factor_47 (by decide) ?_
              exact hE _ _ _ _ _ hW.1 ⟨v9760, v9761, v9774, ss, oo, rfl, hW.2.1, hG, hW.2.2, f9781, f9782, q9775, f9778, f9779, (by omega), (by omega), (by omega), (by omega), (by omega), (by omega), (by omega), (by omega), (fun q => by have em := e9776.resolve_right (fun h9 => h9.1 q); have em9 := em.2.1; rw [em.2.2, f9772, f9780]; exact JJ_val (i0_8 (by omega)) rfl rfl (by have := kc_0; omega) (by omega)), (fun q => by rw [f9780]; exact i0_9 (by omega))⟩ dX12_factor_91
          · exact hE _ _ _ _ _ hW.1 ⟨pp, bb, co, ss, oo, rfl, hW.2.1, hG, hW.2.2, c0_129_3, c0_129_5, c0_129_7, c0_129_9, c0_129_8, (by omega), (by omega), (by omega), (by omega), (by omega), (by omega), (by omega), (by omega), (fun q => absurd q (by omega)), (fun q => absurd q (by omega))⟩ dX12_factor_30
        · refine q_aload_n hM dX12_factor_16 (lv_at hl 0 rfl) ?_
          refine q_callV (As := []) (rest := []) hM hW.1 hR hC myX12_opens (kAW (v_5_12 (List.mem_of_getElem? (i := 10) rfl)) rfl) (rfl : vwCl[12]? = some (RX12, TX12, 86)) rfl lb_129.1 (shO hW.2.1 lb_129) (a_X12_opens _ _ cA ad g9 pp en bb ss oo hW.2.1 hG c0_129_3 ((hW.2.2.1 129 4 (by omega)).trans h_en) c0_129_5 c0_129_9 c0_129_8 (by  omega) (by  omega) (by  omega) (by  omega) (by  omega) (by  omega)) ⟨by decide, by decide⟩ rfl rfl hl.1 (Nat.le_of_ble_eq_true rfl) dX12_factor_17 (fun v g9798 H locs hp hW1 => ?_)
          obtain ⟨v9785, v9786, v9787, v9788, rfl, hs1, hG, hf1, q9789, q9790, q9791, q9792, e9793, e9794, e9795, e9796, e9797⟩ := hp
          have f9799 : fld g9798 129 7 = .int co := (hf1.1 129 7 (by omega)).trans c0_129_7
          have f9800 : arI g9798 153 = arI g9 153 := (hf1.2.1 153 (by omega)).trans (rfl : arI g9 153 = arI g9 153)
          have hW : WS ad cA (fun i k => (i = 129 ∧ (k = 3 ∨ k = 5 ∨ k = 7 ∨ k = 8 ∨ k = 9)) ∨ i = 153 ∨ i = 154 ∨ i = 155) g0 K g9798 H locs := ⟨hW1, hs1, hW.2.2.tr hf1 (fun i k h => h.elim (fun h => (Or.inl (by omega))) (fun h => (Or.inr (Or.inr (Or.inr h)))))⟩
          have f9801 := e9797
          rw [← hf1.2.1 130 (by omega), hW.2.2.2.1 130 (by omega)] at f9801
          rw [(rfl : arI g9 155 = arI g9 155)] at f9801
          refine q_goto (tgt := 0) hM dX12_factor_20 (by decide) ?_
          exact ih0 v9785 v9786 v9787 v9788 _ _ _ _ (by omega) hG (by omega) (by omega) (by omega) (by omega) (by omega) (by omega) (by omega) (fun q => by rw [f9800, f9801]; exact JJ_push (i0_8 (by omega)) rfl rfl (by have := bnd_c (hr (arI g0 130) pp en); omega) (by omega)) (fun q => by rw [f9801]; exact VS_push (i0_9 (by omega)) rfl rfl (by omega) (by omega)) q9789 q9790 q9791 q9792 f9799 (lv_sub hl [0] rfl) hW
  exact L0 _ pl bd sk op _ _ _ _ (Nat.lt_succ_self _) hG (by omega) (by omega) (by omega) (by omega) (by omega) (by omega) (by omega) (fun _ => hJ) (fun _ => hV) f9633 f9634 f9637 f9636 f9635 (lv_sub hl [0] rfl) hW
