theorem dX12_fact_0 : decode cX12_fact 0 = .ok (.iload_n 1, 1) := by decide +kernel
theorem dX12_fact_1 : decode cX12_fact 1 = .ok (.i2l, 1) := by decide +kernel
theorem dX12_fact_2 : decode cX12_fact 2 = .ok (.lconst 0, 1) := by decide +kernel
theorem dX12_fact_3 : decode cX12_fact 3 = .ok (.ldc2_w 194, 3) := by decide +kernel
theorem dX12_fact_6 : decode cX12_fact 6 = .ok (.invokestatic 190, 3) := by decide +kernel
theorem dX12_fact_9 : decode cX12_fact 9 = .ok (.ifCond .eq 15, 3) := by decide +kernel
theorem dX12_fact_12 : decode cX12_fact 12 = .ok (.iload_n 2, 1) := by decide +kernel
theorem dX12_fact_13 : decode cX12_fact 13 = .ok (.i2l, 1) := by decide +kernel
theorem dX12_fact_14 : decode cX12_fact 14 = .ok (.lconst 0, 1) := by decide +kernel
theorem dX12_fact_15 : decode cX12_fact 15 = .ok (.ldc2_w 196, 3) := by decide +kernel
theorem dX12_fact_18 : decode cX12_fact 18 = .ok (.invokestatic 190, 3) := by decide +kernel
theorem dX12_fact_21 : decode cX12_fact 21 = .ok (.ifCond .ne 5, 3) := by decide +kernel
theorem dX12_fact_24 : decode cX12_fact 24 = .ok (.iconst 0, 1) := by decide +kernel
theorem dX12_fact_25 : decode cX12_fact 25 = .ok (.ireturn, 1) := by decide +kernel
theorem dX12_fact_26 : decode cX12_fact 26 = .ok (.aload_n 0, 1) := by decide +kernel
theorem dX12_fact_27 : decode cX12_fact 27 = .ok (.getfield 17, 3) := by decide +kernel
theorem dX12_fact_30 : decode cX12_fact 30 = .ok (.iload_n 1, 1) := by decide +kernel
theorem dX12_fact_31 : decode cX12_fact 31 = .ok (.iconst 1, 1) := by decide +kernel
theorem dX12_fact_32 : decode cX12_fact 32 = .ok (.bastore, 1) := by decide +kernel
theorem dX12_fact_33 : decode cX12_fact 33 = .ok (.aload_n 0, 1) := by decide +kernel
theorem dX12_fact_34 : decode cX12_fact 34 = .ok (.getfield 21, 3) := by decide +kernel
theorem dX12_fact_37 : decode cX12_fact 37 = .ok (.iload_n 1, 1) := by decide +kernel
theorem dX12_fact_38 : decode cX12_fact 38 = .ok (.iload_n 2, 1) := by decide +kernel
theorem dX12_fact_39 : decode cX12_fact 39 = .ok (.iastore, 1) := by decide +kernel
theorem dX12_fact_40 : decode cX12_fact 40 = .ok (.iconst 1, 1) := by decide +kernel
theorem dX12_fact_41 : decode cX12_fact 41 = .ok (.ireturn, 1) := by decide +kernel
theorem FG_X12_21 : FG RX12 21 12 86 11 := ⟨RX12, TX12, rfl, wX12, by decide, kAW (v_4_3 (List.mem_of_getElem? (i := 8) rfl)) rfl, rfl⟩
set_option maxRecDepth 100000 in
set_option maxHeartbeats 4000000 in
theorem p_X12_fact (l : Launch) (D : va_G) (cA : Nat → ClassId) (ad : Nat → Nat) (g0 : Nat → va_E) (a b : Int32) (hSh : Shp ad cA g0) (hF : (∀ i k, 129 ≤ i → fld g0 i k = fld (gF ad cA) i k) ∧ ∀ i, 129 ≤ i → arI g0 i = arI (gF ad cA) i) : CT l NN ad cA D yX12_fact cX12_fact 3 (some FieldType.boolean) (1, 25) [.ref (ad 129), .int a, .int b] g0 (fun v g' => ∃ r : Int32, v = some (.int r) ∧ Shp ad cA g' ∧ FR (fun i _ => 129 ≤ i) g0 g' ∧ ((r.toInt = 1 ∧ 0 ≤ a.toInt ∧ a.toInt ≤ 11 ∧ 0 ≤ b.toInt ∧ b.toInt ≤ 8) ∨ (r.toInt = 0 ∧ ¬ (0 ≤ a.toInt ∧ a.toInt ≤ 11 ∧ 0 ≤ b.toInt ∧ b.toInt ≤ 8)))) := by
  refine q_enterZ (by decide) (Nat.le_of_ble_eq_true rfl) (fun K H locs ls _ _ hM hW0 hR hC hE hl => ?_)
  have hl : lv_has ls 3 [(0, .ref (ad 129)), (1, .int a), (2, .int b)] := hl
  have hW : WS ad cA (fun i k => i = 131 ∨ i = 132) g0 K g0 H locs := ⟨hW0, hSh, FR.rf⟩
  have := kc_0
  have := kc_1
  refine q_iload_n hM dX12_fact_0 (lv_at hl 1 rfl) ?_
  refine q_i2l hM dX12_fact_1 ?_
  have := l_i2l a
  refine q_lconst (v := 0) hM dX12_fact_2 (by decide) ?_
  have := kl_0
  refine q_ldc2 (v := 11) hM (kAW (v_5_4 (List.mem_of_getElem? (i := 13) rfl)) rfl) dX12_fact_3 ?_
  have := kl_11
  refine q_callS (As := [.long a.toInt64, .long (0 : Int64), .long (11 : Int64)]) (rest := []) hM hW.1 hR hC myX12_lies (kAW (v_5_4 (List.mem_of_getElem? (i := 14) rfl)) rfl) (c_X12_lies _ _ cA ad g0 a.toInt64 (0 : Int64) (11 : Int64) hW.2.1) ⟨by decide, by decide⟩ rfl rfl hl.1 (Nat.le_of_ble_eq_true rfl) dX12_fact_6 (fun v g732 H locs hp hW1 => ?_)
  obtain ⟨r731, rfl, hr731, rfl⟩ := hp
  have hW : WS ad cA (fun i k => i = 131 ∨ i = 132) g0 K g0 H locs := ⟨hW1, hW.2.1, hW.2.2⟩
  refine q_if_eq (tgt := 24) hM dX12_fact_9 (by decide) (rfl : r731.toInt = r731.toInt) (fun h9 => ?_) (fun h9 => ?_)
  · refine q_iconst (v := (0 : Int32)) hM dX12_fact_24 (by decide) ?_
    exact hE _ _ _ _ _ _ hW.1 nz_0 ⟨_, rfl, hW.2.1, FR.wk hW.2.2 (fun i k h => by omega), (by have := kc_0; omega)⟩ dX12_fact_25
  · refine q_iload_n hM dX12_fact_12 (lv_at hl 2 rfl) ?_
    refine q_i2l hM dX12_fact_13 ?_
    have := l_i2l b
    refine q_lconst (v := 0) hM dX12_fact_14 (by decide) ?_
    have := kl_0
    refine q_ldc2 (v := 8) hM (kAW (v_5_5 (List.mem_of_getElem? (i := 1) rfl)) rfl) dX12_fact_15 ?_
    have := kl_8
    refine q_callS (As := [.long b.toInt64, .long (0 : Int64), .long (8 : Int64)]) (rest := []) hM hW.1 hR hC myX12_lies (kAW (v_5_4 (List.mem_of_getElem? (i := 14) rfl)) rfl) (c_X12_lies _ _ cA ad g0 b.toInt64 (0 : Int64) (8 : Int64) hW.2.1) ⟨by decide, by decide⟩ rfl rfl hl.1 (Nat.le_of_ble_eq_true rfl) dX12_fact_18 (fun v g734 H locs hp hW1 => ?_)
    obtain ⟨r733, rfl, hr733, rfl⟩ := hp
    have hW : WS ad cA (fun i k => i = 131 ∨ i = 132) g0 K g0 H locs := ⟨hW1, hW.2.1, hW.2.2⟩
    refine q_if_ne (tgt := 26) hM dX12_fact_21 (by decide) (rfl : r733.toInt = r733.toInt) (fun h21 => ?_) (fun h21 => ?_)
    · refine q_aload_n hM dX12_fact_26 (lv_at hl 0 rfl) ?_
      refine w_get (v := .ref (ad 131)) hM hW FG_X12_17 lb_129 (rf_129_10 hW.2.1) dX12_fact_27 ?_
      refine q_iload_n hM dX12_fact_30 (lv_at hl 1 rfl) ?_
      refine q_iconst (v := (1 : Int32)) hM dX12_fact_31 (by decide) ?_
      refine w_zast hM hW lb_131 (by omega) (i_in (by omega) (by omega)) dX12_fact_32 (fun g735 H locs hW e1 e2 => ?_)
      refine q_aload_n hM dX12_fact_33 (lv_at hl 0 rfl) ?_
      refine w_get (v := .ref (ad 132)) hM hW FG_X12_21 lb_129 (rf_129_11 hW.2.1) dX12_fact_34 ?_
      refine q_iload_n hM dX12_fact_37 (lv_at hl 1 rfl) ?_
      refine q_iload_n hM dX12_fact_38 (lv_at hl 2 rfl) ?_
      refine w_iast hM hW lb_132 (by omega) (i_in (by omega) (by omega)) dX12_fact_39 (fun g736 H locs hW e1 e2 => ?_)
      refine q_iconst (v := (1 : Int32)) hM dX12_fact_40 (by decide) ?_
      exact hE _ _ _ _ _ _ hW.1 nz_1 ⟨_, rfl, hW.2.1, FR.wk hW.2.2 (fun i k h => by omega), (by have := kc_1; omega)⟩ dX12_fact_41
    · refine q_iconst (v := (0 : Int32)) hM dX12_fact_24 (by decide) ?_
      exact hE _ _ _ _ _ _ hW.1 nz_0 ⟨_, rfl, hW.2.1, FR.wk hW.2.2 (fun i k h => by omega), (by have := kc_0; omega)⟩ dX12_fact_25

theorem dX12_link_0 : decode cX12_link 0 = .ok (.aload_n 0, 1) := by decide +kernel
theorem dX12_link_1 : decode cX12_link 1 = .ok (.iload_n 1, 1) := by decide +kernel
theorem dX12_link_2 : decode cX12_link 2 = .ok (.invokevirtual 198, 3) := by decide +kernel
theorem dX12_link_5 : decode cX12_link 5 = .ok (.ifCond .eq 28, 3) := by decide +kernel
theorem dX12_link_33 : decode cX12_link 33 = .ok (.iconst 0, 1) := by decide +kernel
theorem dX12_link_34 : decode cX12_link 34 = .ok (.ireturn, 1) := by decide +kernel
set_option maxRecDepth 100000 in
set_option maxHeartbeats 4000000 in
theorem p_X12_link (l : Launch) (D : va_G) (cA : Nat → ClassId) (ad : Nat → Nat) (g0 : Nat → va_E) (a b c : Int32) (hSh : Shp ad cA g0) (hF : (∀ i k, 129 ≤ i → fld g0 i k = fld (gF ad cA) i k) ∧ ∀ i, 129 ≤ i → arI g0 i = arI (gF ad cA) i) : CT l NN ad cA D yX12_link cX12_link 4 (some FieldType.boolean) (2, 46) [.ref (ad 129), .int a, .int b, .int c] g0 (fun v g' => ∃ r : Int32, v = some (.int r) ∧ Shp ad cA g' ∧ FR (fun i _ => 129 ≤ i) g0 g' ∧ (r.toInt = 0)) := by
  refine q_enterZ (by decide) (Nat.le_of_ble_eq_true rfl) (fun K H locs ls _ _ hM hW0 hR hC hE hl => ?_)
  have hl : lv_has ls 4 [(0, .ref (ad 129)), (1, .int a), (2, .int b), (3, .int c)] := hl
  have hW : WS ad cA (fun i k => False) g0 K g0 H locs := ⟨hW0, hSh, FR.rf⟩
  refine q_aload_n hM dX12_link_0 (lv_at hl 0 rfl) ?_
  refine q_iload_n hM dX12_link_1 (lv_at hl 1 rfl) ?_
  refine q_callV (As := [.int a]) (rest := []) hM hW.1 hR hC myX12_isTold (kAW (v_5_5 (List.mem_of_getElem? (i := 6) rfl)) rfl) (rfl : vwCl[12]? = some (RX12, TX12, 86)) rfl lb_129.1 (shO hW.2.1 lb_129) (c_X12_isTold _ _ cA ad g0 a hW.2.1 hF) ⟨by decide, by decide⟩ rfl rfl hl.1 (Nat.le_of_ble_eq_true rfl) dX12_link_2 (fun v g738 H locs hp hW1 => ?_)
  obtain ⟨r737, rfl, hr737, rfl⟩ := hp
  have hW : WS ad cA (fun i k => False) g0 K g0 H locs := ⟨hW1, hW.2.1, hW.2.2⟩
  refine q_if_eq (tgt := 33) hM dX12_link_5 (by decide) (hr737 : r737.toInt = 0) (fun h5 => ?_) (fun h5 => ?_)
  · refine q_iconst (v := (0 : Int32)) hM dX12_link_33 (by decide) ?_
    exact hE _ _ _ _ _ _ hW.1 nz_0 ⟨_, rfl, hW.2.1, FR.wk hW.2.2 (fun _ _ h => h.elim), (by have := kc_0; omega)⟩ dX12_link_34
  · omega

theorem dX12_knows_0 : decode cX12_knows 0 = .ok (.aload_n 0, 1) := by decide +kernel
theorem dX12_knows_1 : decode cX12_knows 1 = .ok (.iload_n 1, 1) := by decide +kernel
theorem dX12_knows_2 : decode cX12_knows 2 = .ok (.invokevirtual 421, 3) := by decide +kernel
theorem dX12_knows_5 : decode cX12_knows 5 = .ok (.ifCond .eq 23, 3) := by decide +kernel
theorem dX12_knows_28 : decode cX12_knows 28 = .ok (.iconst 0, 1) := by decide +kernel
theorem dX12_knows_29 : decode cX12_knows 29 = .ok (.ireturn, 1) := by decide +kernel
set_option maxRecDepth 100000 in
set_option maxHeartbeats 4000000 in
theorem p_X12_knows (l : Launch) (D : va_G) (cA : Nat → ClassId) (ad : Nat → Nat) (g0 : Nat → va_E) (a b c : Int32) (hSh : Shp ad cA g0) (hF : (∀ i k, 129 ≤ i → fld g0 i k = fld (gF ad cA) i k) ∧ ∀ i, 129 ≤ i → arI g0 i = arI (gF ad cA) i) : CT l NN ad cA D yX12_knows cX12_knows 4 (some FieldType.boolean) (2, 46) [.ref (ad 129), .int a, .int b, .int c] g0 (fun v g' => ∃ r : Int32, v = some (.int r) ∧ Shp ad cA g' ∧ FR (fun i _ => 129 ≤ i) g0 g' ∧ (r.toInt = 0)) := by
  refine q_enterZ (by decide) (Nat.le_of_ble_eq_true rfl) (fun K H locs ls _ _ hM hW0 hR hC hE hl => ?_)
  have hl : lv_has ls 4 [(0, .ref (ad 129)), (1, .int a), (2, .int b), (3, .int c)] := hl
  have hW : WS ad cA (fun i k => False) g0 K g0 H locs := ⟨hW0, hSh, FR.rf⟩
  refine q_aload_n hM dX12_knows_0 (lv_at hl 0 rfl) ?_
  refine q_iload_n hM dX12_knows_1 (lv_at hl 1 rfl) ?_
  refine q_callV (As := [.int a]) (rest := []) hM hW.1 hR hC myX12_isThat (kAW (v_6_2 (List.mem_of_getElem? (i := 9) rfl)) rfl) (rfl : vwCl[12]? = some (RX12, TX12, 86)) rfl lb_129.1 (shO hW.2.1 lb_129) (c_X12_isThat _ _ cA ad g0 a hW.2.1 hF) ⟨by decide, by decide⟩ rfl rfl hl.1 (Nat.le_of_ble_eq_true rfl) dX12_knows_2 (fun v g740 H locs hp hW1 => ?_)
  obtain ⟨r739, rfl, hr739, rfl⟩ := hp
  have hW : WS ad cA (fun i k => False) g0 K g0 H locs := ⟨hW1, hW.2.1, hW.2.2⟩
  refine q_if_eq (tgt := 28) hM dX12_knows_5 (by decide) (hr739 : r739.toInt = 0) (fun h5 => ?_) (fun h5 => ?_)
  · refine q_iconst (v := (0 : Int32)) hM dX12_knows_28 (by decide) ?_
    exact hE _ _ _ _ _ _ hW.1 nz_0 ⟨_, rfl, hW.2.1, FR.wk hW.2.2 (fun _ _ h => h.elim), (by have := kc_0; omega)⟩ dX12_knows_29
  · omega

theorem dX12_reminds_0 : decode cX12_reminds 0 = .ok (.aload_n 0, 1) := by decide +kernel
theorem dX12_reminds_1 : decode cX12_reminds 1 = .ok (.iload_n 1, 1) := by decide +kernel
theorem dX12_reminds_2 : decode cX12_reminds 2 = .ok (.invokevirtual 421, 3) := by decide +kernel
theorem dX12_reminds_5 : decode cX12_reminds 5 = .ok (.ifCond .eq 28, 3) := by decide +kernel
theorem dX12_reminds_33 : decode cX12_reminds 33 = .ok (.iconst 0, 1) := by decide +kernel
theorem dX12_reminds_34 : decode cX12_reminds 34 = .ok (.ireturn, 1) := by decide +kernel
set_option maxRecDepth 100000 in
set_option maxHeartbeats 4000000 in
theorem p_X12_reminds (l : Launch) (D : va_G) (cA : Nat → ClassId) (ad : Nat → Nat) (g0 : Nat → va_E) (a b c : Int32) (hSh : Shp ad cA g0) (hF : (∀ i k, 129 ≤ i → fld g0 i k = fld (gF ad cA) i k) ∧ ∀ i, 129 ≤ i → arI g0 i = arI (gF ad cA) i) : CT l NN ad cA D yX12_reminds cX12_reminds 4 (some FieldType.boolean) (2, 46) [.ref (ad 129), .int a, .int b, .int c] g0 (fun v g' => ∃ r : Int32, v = some (.int r) ∧ Shp ad cA g' ∧ FR (fun i _ => 129 ≤ i) g0 g' ∧ (r.toInt = 0)) := by
  refine q_enterZ (by decide) (Nat.le_of_ble_eq_true rfl) (fun K H locs ls _ _ hM hW0 hR hC hE hl => ?_)
  have hl : lv_has ls 4 [(0, .ref (ad 129)), (1, .int a), (2, .int b), (3, .int c)] := hl
  have hW : WS ad cA (fun i k => False) g0 K g0 H locs := ⟨hW0, hSh, FR.rf⟩
  refine q_aload_n hM dX12_reminds_0 (lv_at hl 0 rfl) ?_
  refine q_iload_n hM dX12_reminds_1 (lv_at hl 1 rfl) ?_
  refine q_callV (As := [.int a]) (rest := []) hM hW.1 hR hC myX12_isThat (kAW (v_6_2 (List.mem_of_getElem? (i := 9) rfl)) rfl) (rfl : vwCl[12]? = some (RX12, TX12, 86)) rfl lb_129.1 (shO hW.2.1 lb_129) (c_X12_isThat _ _ cA ad g0 a hW.2.1 hF) ⟨by decide, by decide⟩ rfl rfl hl.1 (Nat.le_of_ble_eq_true rfl) dX12_reminds_2 (fun v g742 H locs hp hW1 => ?_)
  obtain ⟨r741, rfl, hr741, rfl⟩ := hp
  have hW : WS ad cA (fun i k => False) g0 K g0 H locs := ⟨hW1, hW.2.1, hW.2.2⟩
  refine q_if_eq (tgt := 33) hM dX12_reminds_5 (by decide) (hr741 : r741.toInt = 0) (fun h5 => ?_) (fun h5 => ?_)
  · refine q_iconst (v := (0 : Int32)) hM dX12_reminds_33 (by decide) ?_
    exact hE _ _ _ _ _ _ hW.1 nz_0 ⟨_, rfl, hW.2.1, FR.wk hW.2.2 (fun _ _ h => h.elim), (by have := kc_0; omega)⟩ dX12_reminds_34
  · omega

theorem dX12_does_0 : decode cX12_does 0 = .ok (.aload_n 0, 1) := by decide +kernel
theorem dX12_does_1 : decode cX12_does 1 = .ok (.iload_n 1, 1) := by decide +kernel
theorem dX12_does_2 : decode cX12_does 2 = .ok (.invokevirtual 421, 3) := by decide +kernel
theorem dX12_does_5 : decode cX12_does 5 = .ok (.ifCond .eq 11, 3) := by decide +kernel
theorem dX12_does_16 : decode cX12_does 16 = .ok (.iconst (-1), 1) := by decide +kernel
theorem dX12_does_17 : decode cX12_does 17 = .ok (.ireturn, 1) := by decide +kernel
set_option maxRecDepth 100000 in
set_option maxHeartbeats 4000000 in
theorem p_X12_does (l : Launch) (D : va_G) (cA : Nat → ClassId) (ad : Nat → Nat) (g0 : Nat → va_E) (a b : Int32) (hSh : Shp ad cA g0) (hF : (∀ i k, 129 ≤ i → fld g0 i k = fld (gF ad cA) i k) ∧ ∀ i, 129 ≤ i → arI g0 i = arI (gF ad cA) i) : CT l NN ad cA D yX12_does cX12_does 3 (some FieldType.int) (2, 46) [.ref (ad 129), .int a, .int b] g0 (fun v g' => ∃ r : Int32, v = some (.int r) ∧ Shp ad cA g' ∧ FR (fun i _ => 129 ≤ i) g0 g' ∧ (r.toInt = -1)) := by
  refine q_enterI (by decide) (Nat.le_of_ble_eq_true rfl) rfl (fun K H locs ls _ _ hM hW0 hR hC hE hl => ?_)
  have hl : lv_has ls 3 [(0, .ref (ad 129)), (1, .int a), (2, .int b)] := hl
  have hW : WS ad cA (fun i k => False) g0 K g0 H locs := ⟨hW0, hSh, FR.rf⟩
  refine q_aload_n hM dX12_does_0 (lv_at hl 0 rfl) ?_
  refine q_iload_n hM dX12_does_1 (lv_at hl 1 rfl) ?_
  refine q_callV (As := [.int a]) (rest := []) hM hW.1 hR hC myX12_isThat (kAW (v_6_2 (List.mem_of_getElem? (i := 9) rfl)) rfl) (rfl : vwCl[12]? = some (RX12, TX12, 86)) rfl lb_129.1 (shO hW.2.1 lb_129) (c_X12_isThat _ _ cA ad g0 a hW.2.1 hF) ⟨by decide, by decide⟩ rfl rfl hl.1 (Nat.le_of_ble_eq_true rfl) dX12_does_2 (fun v g744 H locs hp hW1 => ?_)
  obtain ⟨r743, rfl, hr743, rfl⟩ := hp
  have hW : WS ad cA (fun i k => False) g0 K g0 H locs := ⟨hW1, hW.2.1, hW.2.2⟩
  refine q_if_eq (tgt := 16) hM dX12_does_5 (by decide) (hr743 : r743.toInt = 0) (fun h5 => ?_) (fun h5 => ?_)
  · refine q_iconst (v := ((-1) : Int32)) hM dX12_does_16 (by decide) ?_
    exact hE _ _ _ _ _ _ hW.1 ⟨_, rfl, hW.2.1, FR.wk hW.2.2 (fun _ _ h => h.elim), (by have := kc_m1; omega)⟩ dX12_does_17
  · omega

theorem dX12_pupilIs_0 : decode cX12_pupilIs 0 = .ok (.aload_n 0, 1) := by decide +kernel
theorem dX12_pupilIs_1 : decode cX12_pupilIs 1 = .ok (.iload_n 1, 1) := by decide +kernel
theorem dX12_pupilIs_2 : decode cX12_pupilIs 2 = .ok (.invokevirtual 421, 3) := by decide +kernel
theorem dX12_pupilIs_5 : decode cX12_pupilIs 5 = .ok (.ifCond .ne 5, 3) := by decide +kernel
theorem dX12_pupilIs_8 : decode cX12_pupilIs 8 = .ok (.iconst (-1), 1) := by decide +kernel
theorem dX12_pupilIs_9 : decode cX12_pupilIs 9 = .ok (.ireturn, 1) := by decide +kernel
set_option maxRecDepth 100000 in
set_option maxHeartbeats 4000000 in
theorem p_X12_pupilIs (l : Launch) (D : va_G) (cA : Nat → ClassId) (ad : Nat → Nat) (g0 : Nat → va_E) (a b : Int32) (hSh : Shp ad cA g0) (hF : (∀ i k, 129 ≤ i → fld g0 i k = fld (gF ad cA) i k) ∧ ∀ i, 129 ≤ i → arI g0 i = arI (gF ad cA) i) : CT l NN ad cA D yX12_pupilIs cX12_pupilIs 3 (some FieldType.int) (2, 46) [.ref (ad 129), .int a, .int b] g0 (fun v g' => ∃ r : Int32, v = some (.int r) ∧ Shp ad cA g' ∧ FR (fun i _ => 129 ≤ i) g0 g' ∧ (r.toInt = -1)) := by
  refine q_enterI (by decide) (Nat.le_of_ble_eq_true rfl) rfl (fun K H locs ls _ _ hM hW0 hR hC hE hl => ?_)
  have hl : lv_has ls 3 [(0, .ref (ad 129)), (1, .int a), (2, .int b)] := hl
  have hW : WS ad cA (fun i k => False) g0 K g0 H locs := ⟨hW0, hSh, FR.rf⟩
  refine q_aload_n hM dX12_pupilIs_0 (lv_at hl 0 rfl) ?_
  refine q_iload_n hM dX12_pupilIs_1 (lv_at hl 1 rfl) ?_
  refine q_callV (As := [.int a]) (rest := []) hM hW.1 hR hC myX12_isThat (kAW (v_6_2 (List.mem_of_getElem? (i := 9) rfl)) rfl) (rfl : vwCl[12]? = some (RX12, TX12, 86)) rfl lb_129.1 (shO hW.2.1 lb_129) (c_X12_isThat _ _ cA ad g0 a hW.2.1 hF) ⟨by decide, by decide⟩ rfl rfl hl.1 (Nat.le_of_ble_eq_true rfl) dX12_pupilIs_2 (fun v g746 H locs hp hW1 => ?_)
  obtain ⟨r745, rfl, hr745, rfl⟩ := hp
  have hW : WS ad cA (fun i k => False) g0 K g0 H locs := ⟨hW1, hW.2.1, hW.2.2⟩
  refine q_if_ne (tgt := 10) hM dX12_pupilIs_5 (by decide) (hr745 : r745.toInt = 0) (fun h5 => ?_) (fun h5 => ?_)
  · omega
  · refine q_iconst (v := ((-1) : Int32)) hM dX12_pupilIs_8 (by decide) ?_
    exact hE _ _ _ _ _ _ hW.1 ⟨_, rfl, hW.2.1, FR.wk hW.2.2 (fun _ _ h => h.elim), (by have := kc_m1; omega)⟩ dX12_pupilIs_9

theorem dX12_strength_0 : decode cX12_strength 0 = .ok (.aload_n 0, 1) := by decide +kernel
theorem dX12_strength_1 : decode cX12_strength 1 = .ok (.iload_n 1, 1) := by decide +kernel
theorem dX12_strength_2 : decode cX12_strength 2 = .ok (.invokevirtual 421, 3) := by decide +kernel
theorem dX12_strength_5 : decode cX12_strength 5 = .ok (.ifCond .eq 25, 3) := by decide +kernel
theorem dX12_strength_30 : decode cX12_strength 30 = .ok (.iconst (-1), 1) := by decide +kernel
theorem dX12_strength_31 : decode cX12_strength 31 = .ok (.ireturn, 1) := by decide +kernel
set_option maxRecDepth 100000 in
set_option maxHeartbeats 4000000 in
theorem p_X12_strength (l : Launch) (D : va_G) (cA : Nat → ClassId) (ad : Nat → Nat) (g0 : Nat → va_E) (a b : Int32) (hSh : Shp ad cA g0) (hF : (∀ i k, 129 ≤ i → fld g0 i k = fld (gF ad cA) i k) ∧ ∀ i, 129 ≤ i → arI g0 i = arI (gF ad cA) i) : CT l NN ad cA D yX12_strength cX12_strength 3 (some FieldType.int) (2, 46) [.ref (ad 129), .int a, .int b] g0 (fun v g' => ∃ r : Int32, v = some (.int r) ∧ Shp ad cA g' ∧ FR (fun i _ => 129 ≤ i) g0 g' ∧ (r.toInt = -1)) := by
  refine q_enterI (by decide) (Nat.le_of_ble_eq_true rfl) rfl (fun K H locs ls _ _ hM hW0 hR hC hE hl => ?_)
  have hl : lv_has ls 3 [(0, .ref (ad 129)), (1, .int a), (2, .int b)] := hl
  have hW : WS ad cA (fun i k => False) g0 K g0 H locs := ⟨hW0, hSh, FR.rf⟩
  refine q_aload_n hM dX12_strength_0 (lv_at hl 0 rfl) ?_
  refine q_iload_n hM dX12_strength_1 (lv_at hl 1 rfl) ?_
  refine q_callV (As := [.int a]) (rest := []) hM hW.1 hR hC myX12_isThat (kAW (v_6_2 (List.mem_of_getElem? (i := 9) rfl)) rfl) (rfl : vwCl[12]? = some (RX12, TX12, 86)) rfl lb_129.1 (shO hW.2.1 lb_129) (c_X12_isThat _ _ cA ad g0 a hW.2.1 hF) ⟨by decide, by decide⟩ rfl rfl hl.1 (Nat.le_of_ble_eq_true rfl) dX12_strength_2 (fun v g748 H locs hp hW1 => ?_)
  obtain ⟨r747, rfl, hr747, rfl⟩ := hp
  have hW : WS ad cA (fun i k => False) g0 K g0 H locs := ⟨hW1, hW.2.1, hW.2.2⟩
  refine q_if_eq (tgt := 30) hM dX12_strength_5 (by decide) (hr747 : r747.toInt = 0) (fun h5 => ?_) (fun h5 => ?_)
  · refine q_iconst (v := ((-1) : Int32)) hM dX12_strength_30 (by decide) ?_
    exact hE _ _ _ _ _ _ hW.1 ⟨_, rfl, hW.2.1, FR.wk hW.2.2 (fun _ _ h => h.elim), (by have := kc_m1; omega)⟩ dX12_strength_31
  · omega

theorem dX12_heard_0 : decode cX12_heard 0 = .ok (.aload_n 0, 1) := by decide +kernel
theorem dX12_heard_1 : decode cX12_heard 1 = .ok (.iload_n 1, 1) := by decide +kernel
theorem dX12_heard_2 : decode cX12_heard 2 = .ok (.invokevirtual 421, 3) := by decide +kernel
theorem dX12_heard_5 : decode cX12_heard 5 = .ok (.ifCond .eq 20, 3) := by decide +kernel
theorem dX12_heard_25 : decode cX12_heard 25 = .ok (.iconst (-1), 1) := by decide +kernel
theorem dX12_heard_26 : decode cX12_heard 26 = .ok (.ireturn, 1) := by decide +kernel
set_option maxRecDepth 100000 in
set_option maxHeartbeats 4000000 in
theorem p_X12_heard (l : Launch) (D : va_G) (cA : Nat → ClassId) (ad : Nat → Nat) (g0 : Nat → va_E) (a b : Int32) (hSh : Shp ad cA g0) (hF : (∀ i k, 129 ≤ i → fld g0 i k = fld (gF ad cA) i k) ∧ ∀ i, 129 ≤ i → arI g0 i = arI (gF ad cA) i) : CT l NN ad cA D yX12_heard cX12_heard 3 (some FieldType.int) (2, 46) [.ref (ad 129), .int a, .int b] g0 (fun v g' => ∃ r : Int32, v = some (.int r) ∧ Shp ad cA g' ∧ FR (fun i _ => 129 ≤ i) g0 g' ∧ (r.toInt = -1)) := by
  refine q_enterI (by decide) (Nat.le_of_ble_eq_true rfl) rfl (fun K H locs ls _ _ hM hW0 hR hC hE hl => ?_)
  have hl : lv_has ls 3 [(0, .ref (ad 129)), (1, .int a), (2, .int b)] := hl
  have hW : WS ad cA (fun i k => False) g0 K g0 H locs := ⟨hW0, hSh, FR.rf⟩
  refine q_aload_n hM dX12_heard_0 (lv_at hl 0 rfl) ?_
  refine q_iload_n hM dX12_heard_1 (lv_at hl 1 rfl) ?_
  refine q_callV (As := [.int a]) (rest := []) hM hW.1 hR hC myX12_isThat (kAW (v_6_2 (List.mem_of_getElem? (i := 9) rfl)) rfl) (rfl : vwCl[12]? = some (RX12, TX12, 86)) rfl lb_129.1 (shO hW.2.1 lb_129) (c_X12_isThat _ _ cA ad g0 a hW.2.1 hF) ⟨by decide, by decide⟩ rfl rfl hl.1 (Nat.le_of_ble_eq_true rfl) dX12_heard_2 (fun v g750 H locs hp hW1 => ?_)
  obtain ⟨r749, rfl, hr749, rfl⟩ := hp
  have hW : WS ad cA (fun i k => False) g0 K g0 H locs := ⟨hW1, hW.2.1, hW.2.2⟩
  refine q_if_eq (tgt := 25) hM dX12_heard_5 (by decide) (hr749 : r749.toInt = 0) (fun h5 => ?_) (fun h5 => ?_)
  · refine q_iconst (v := ((-1) : Int32)) hM dX12_heard_25 (by decide) ?_
    exact hE _ _ _ _ _ _ hW.1 ⟨_, rfl, hW.2.1, FR.wk hW.2.2 (fun _ _ h => h.elim), (by have := kc_m1; omega)⟩ dX12_heard_26
  · omega

theorem dX12_order_0 : decode cX12_order 0 = .ok (.aload_n 0, 1) := by decide +kernel
theorem dX12_order_1 : decode cX12_order 1 = .ok (.iload_n 1, 1) := by decide +kernel
theorem dX12_order_2 : decode cX12_order 2 = .ok (.invokevirtual 421, 3) := by decide +kernel
theorem dX12_order_5 : decode cX12_order 5 = .ok (.ifCond .eq 35, 3) := by decide +kernel
theorem dX12_order_40 : decode cX12_order 40 = .ok (.iconst (-1), 1) := by decide +kernel
theorem dX12_order_41 : decode cX12_order 41 = .ok (.ireturn, 1) := by decide +kernel
set_option maxRecDepth 100000 in
set_option maxHeartbeats 4000000 in
theorem p_X12_order (l : Launch) (D : va_G) (cA : Nat → ClassId) (ad : Nat → Nat) (g0 : Nat → va_E) (a b c d e : Int32) (hSh : Shp ad cA g0) (hF : (∀ i k, 129 ≤ i → fld g0 i k = fld (gF ad cA) i k) ∧ ∀ i, 129 ≤ i → arI g0 i = arI (gF ad cA) i) : CT l NN ad cA D yX12_order cX12_order 7 (some FieldType.int) (2, 46) [.ref (ad 129), .int a, .int b, .int c, .int d, .int e] g0 (fun v g' => ∃ r : Int32, v = some (.int r) ∧ Shp ad cA g' ∧ FR (fun i _ => 129 ≤ i) g0 g' ∧ (r.toInt = -1)) := by
  refine q_enterI (by decide) (Nat.le_of_ble_eq_true rfl) rfl (fun K H locs ls _ _ hM hW0 hR hC hE hl => ?_)
  have hl : lv_has ls 7 [(0, .ref (ad 129)), (1, .int a), (2, .int b), (3, .int c), (4, .int d), (5, .int e)] := hl
  have hW : WS ad cA (fun i k => False) g0 K g0 H locs := ⟨hW0, hSh, FR.rf⟩
  refine q_aload_n hM dX12_order_0 (lv_at hl 0 rfl) ?_
  refine q_iload_n hM dX12_order_1 (lv_at hl 1 rfl) ?_
  refine q_callV (As := [.int a]) (rest := []) hM hW.1 hR hC myX12_isThat (kAW (v_6_2 (List.mem_of_getElem? (i := 9) rfl)) rfl) (rfl : vwCl[12]? = some (RX12, TX12, 86)) rfl lb_129.1 (shO hW.2.1 lb_129) (c_X12_isThat _ _ cA ad g0 a hW.2.1 hF) ⟨by decide, by decide⟩ rfl rfl hl.1 (Nat.le_of_ble_eq_true rfl) dX12_order_2 (fun v g752 H locs hp hW1 => ?_)
  obtain ⟨r751, rfl, hr751, rfl⟩ := hp
  have hW : WS ad cA (fun i k => False) g0 K g0 H locs := ⟨hW1, hW.2.1, hW.2.2⟩
  refine q_if_eq (tgt := 40) hM dX12_order_5 (by decide) (hr751 : r751.toInt = 0) (fun h5 => ?_) (fun h5 => ?_)
  · refine q_iconst (v := ((-1) : Int32)) hM dX12_order_40 (by decide) ?_
    exact hE _ _ _ _ _ _ hW.1 ⟨_, rfl, hW.2.1, FR.wk hW.2.2 (fun _ _ h => h.elim), (by have := kc_m1; omega)⟩ dX12_order_41
  · omega

theorem dX12_still_0 : decode cX12_still 0 = .ok (.aload_n 0, 1) := by decide +kernel
theorem dX12_still_1 : decode cX12_still 1 = .ok (.iload_n 1, 1) := by decide +kernel
theorem dX12_still_2 : decode cX12_still 2 = .ok (.invokevirtual 421, 3) := by decide +kernel
theorem dX12_still_5 : decode cX12_still 5 = .ok (.ifCond .eq 21, 3) := by decide +kernel
theorem dX12_still_26 : decode cX12_still 26 = .ok (.iconst (-1), 1) := by decide +kernel
theorem dX12_still_27 : decode cX12_still 27 = .ok (.ireturn, 1) := by decide +kernel
set_option maxRecDepth 100000 in
set_option maxHeartbeats 4000000 in
theorem p_X12_still (l : Launch) (D : va_G) (cA : Nat → ClassId) (ad : Nat → Nat) (g0 : Nat → va_E) (a b c : Int32) (hSh : Shp ad cA g0) (hF : (∀ i k, 129 ≤ i → fld g0 i k = fld (gF ad cA) i k) ∧ ∀ i, 129 ≤ i → arI g0 i = arI (gF ad cA) i) : CT l NN ad cA D yX12_still cX12_still 6 (some FieldType.int) (2, 46) [.ref (ad 129), .int a, .int b, .int c] g0 (fun v g' => ∃ r : Int32, v = some (.int r) ∧ Shp ad cA g' ∧ FR (fun i _ => 129 ≤ i) g0 g' ∧ (r.toInt = -1)) := by
  refine q_enterI (by decide) (Nat.le_of_ble_eq_true rfl) rfl (fun K H locs ls _ _ hM hW0 hR hC hE hl => ?_)
  have hl : lv_has ls 6 [(0, .ref (ad 129)), (1, .int a), (2, .int b), (3, .int c)] := hl
  have hW : WS ad cA (fun i k => False) g0 K g0 H locs := ⟨hW0, hSh, FR.rf⟩
  refine q_aload_n hM dX12_still_0 (lv_at hl 0 rfl) ?_
  refine q_iload_n hM dX12_still_1 (lv_at hl 1 rfl) ?_
  refine q_callV (As := [.int a]) (rest := []) hM hW.1 hR hC myX12_isThat (kAW (v_6_2 (List.mem_of_getElem? (i := 9) rfl)) rfl) (rfl : vwCl[12]? = some (RX12, TX12, 86)) rfl lb_129.1 (shO hW.2.1 lb_129) (c_X12_isThat _ _ cA ad g0 a hW.2.1 hF) ⟨by decide, by decide⟩ rfl rfl hl.1 (Nat.le_of_ble_eq_true rfl) dX12_still_2 (fun v g754 H locs hp hW1 => ?_)
  obtain ⟨r753, rfl, hr753, rfl⟩ := hp
  have hW : WS ad cA (fun i k => False) g0 K g0 H locs := ⟨hW1, hW.2.1, hW.2.2⟩
  refine q_if_eq (tgt := 26) hM dX12_still_5 (by decide) (hr753 : r753.toInt = 0) (fun h5 => ?_) (fun h5 => ?_)
  · refine q_iconst (v := ((-1) : Int32)) hM dX12_still_26 (by decide) ?_
    exact hE _ _ _ _ _ _ hW.1 ⟨_, rfl, hW.2.1, FR.wk hW.2.2 (fun _ _ h => h.elim), (by have := kc_m1; omega)⟩ dX12_still_27
  · omega

theorem dX12_cut_0 : decode cX12_cut 0 = .ok (.aload_n 0, 1) := by decide +kernel
theorem dX12_cut_1 : decode cX12_cut 1 = .ok (.iload_n 1, 1) := by decide +kernel
theorem dX12_cut_2 : decode cX12_cut 2 = .ok (.invokevirtual 198, 3) := by decide +kernel
theorem dX12_cut_5 : decode cX12_cut 5 = .ok (.ifCond .eq 26, 3) := by decide +kernel
theorem dX12_cut_31 : decode cX12_cut 31 = .ok (.iconst (-1), 1) := by decide +kernel
theorem dX12_cut_32 : decode cX12_cut 32 = .ok (.ireturn, 1) := by decide +kernel
set_option maxRecDepth 100000 in
set_option maxHeartbeats 4000000 in
theorem p_X12_cut (l : Launch) (D : va_G) (cA : Nat → ClassId) (ad : Nat → Nat) (g0 : Nat → va_E) (a b c : Int32) (hSh : Shp ad cA g0) (hF : (∀ i k, 129 ≤ i → fld g0 i k = fld (gF ad cA) i k) ∧ ∀ i, 129 ≤ i → arI g0 i = arI (gF ad cA) i) : CT l NN ad cA D yX12_cut cX12_cut 7 (some FieldType.int) (2, 46) [.ref (ad 129), .int a, .int b, .int c] g0 (fun v g' => ∃ r : Int32, v = some (.int r) ∧ Shp ad cA g' ∧ FR (fun i _ => 129 ≤ i) g0 g' ∧ (r.toInt = -1)) := by
  refine q_enterI (by decide) (Nat.le_of_ble_eq_true rfl) rfl (fun K H locs ls _ _ hM hW0 hR hC hE hl => ?_)
  have hl : lv_has ls 7 [(0, .ref (ad 129)), (1, .int a), (2, .int b), (3, .int c)] := hl
  have hW : WS ad cA (fun i k => False) g0 K g0 H locs := ⟨hW0, hSh, FR.rf⟩
  refine q_aload_n hM dX12_cut_0 (lv_at hl 0 rfl) ?_
  refine q_iload_n hM dX12_cut_1 (lv_at hl 1 rfl) ?_
  refine q_callV (As := [.int a]) (rest := []) hM hW.1 hR hC myX12_isTold (kAW (v_5_5 (List.mem_of_getElem? (i := 6) rfl)) rfl) (rfl : vwCl[12]? = some (RX12, TX12, 86)) rfl lb_129.1 (shO hW.2.1 lb_129) (c_X12_isTold _ _ cA ad g0 a hW.2.1 hF) ⟨by decide, by decide⟩ rfl rfl hl.1 (Nat.le_of_ble_eq_true rfl) dX12_cut_2 (fun v g756 H locs hp hW1 => ?_)
  obtain ⟨r755, rfl, hr755, rfl⟩ := hp
  have hW : WS ad cA (fun i k => False) g0 K g0 H locs := ⟨hW1, hW.2.1, hW.2.2⟩
  refine q_if_eq (tgt := 31) hM dX12_cut_5 (by decide) (hr755 : r755.toInt = 0) (fun h5 => ?_) (fun h5 => ?_)
  · refine q_iconst (v := ((-1) : Int32)) hM dX12_cut_31 (by decide) ?_
    exact hE _ _ _ _ _ _ hW.1 ⟨_, rfl, hW.2.1, FR.wk hW.2.2 (fun _ _ h => h.elim), (by have := kc_m1; omega)⟩ dX12_cut_32
  · omega

theorem dX12_recalls_0 : decode cX12_recalls 0 = .ok (.aload_n 0, 1) := by decide +kernel
theorem dX12_recalls_1 : decode cX12_recalls 1 = .ok (.iload_n 1, 1) := by decide +kernel
theorem dX12_recalls_2 : decode cX12_recalls 2 = .ok (.invokevirtual 198, 3) := by decide +kernel
theorem dX12_recalls_5 : decode cX12_recalls 5 = .ok (.ifCond .eq 12, 3) := by decide +kernel
theorem dX12_recalls_17 : decode cX12_recalls 17 = .ok (.iconst (-1), 1) := by decide +kernel
theorem dX12_recalls_18 : decode cX12_recalls 18 = .ok (.ireturn, 1) := by decide +kernel
set_option maxRecDepth 100000 in
set_option maxHeartbeats 4000000 in
theorem p_X12_recalls (l : Launch) (D : va_G) (cA : Nat → ClassId) (ad : Nat → Nat) (g0 : Nat → va_E) (a : Int32) (hSh : Shp ad cA g0) (hF : (∀ i k, 129 ≤ i → fld g0 i k = fld (gF ad cA) i k) ∧ ∀ i, 129 ≤ i → arI g0 i = arI (gF ad cA) i) : CT l NN ad cA D yX12_recalls cX12_recalls 2 (some FieldType.int) (2, 46) [.ref (ad 129), .int a] g0 (fun v g' => ∃ r : Int32, v = some (.int r) ∧ Shp ad cA g' ∧ FR (fun i _ => 129 ≤ i) g0 g' ∧ (r.toInt = -1)) := by
  refine q_enterI (by decide) (Nat.le_of_ble_eq_true rfl) rfl (fun K H locs ls _ _ hM hW0 hR hC hE hl => ?_)
  have hl : lv_has ls 2 [(0, .ref (ad 129)), (1, .int a)] := hl
  have hW : WS ad cA (fun i k => False) g0 K g0 H locs := ⟨hW0, hSh, FR.rf⟩
  refine q_aload_n hM dX12_recalls_0 (lv_at hl 0 rfl) ?_
  refine q_iload_n hM dX12_recalls_1 (lv_at hl 1 rfl) ?_
  refine q_callV (As := [.int a]) (rest := []) hM hW.1 hR hC myX12_isTold (kAW (v_5_5 (List.mem_of_getElem? (i := 6) rfl)) rfl) (rfl : vwCl[12]? = some (RX12, TX12, 86)) rfl lb_129.1 (shO hW.2.1 lb_129) (c_X12_isTold _ _ cA ad g0 a hW.2.1 hF) ⟨by decide, by decide⟩ rfl rfl hl.1 (Nat.le_of_ble_eq_true rfl) dX12_recalls_2 (fun v g758 H locs hp hW1 => ?_)
  obtain ⟨r757, rfl, hr757, rfl⟩ := hp
  have hW : WS ad cA (fun i k => False) g0 K g0 H locs := ⟨hW1, hW.2.1, hW.2.2⟩
  refine q_if_eq (tgt := 17) hM dX12_recalls_5 (by decide) (hr757 : r757.toInt = 0) (fun h5 => ?_) (fun h5 => ?_)
  · refine q_iconst (v := ((-1) : Int32)) hM dX12_recalls_17 (by decide) ?_
    exact hE _ _ _ _ _ _ hW.1 ⟨_, rfl, hW.2.1, FR.wk hW.2.2 (fun _ _ h => h.elim), (by have := kc_m1; omega)⟩ dX12_recalls_18
  · omega

theorem dX12_odds_0 : decode cX12_odds 0 = .ok (.aload_n 0, 1) := by decide +kernel
theorem dX12_odds_1 : decode cX12_odds 1 = .ok (.iload_n 1, 1) := by decide +kernel
theorem dX12_odds_2 : decode cX12_odds 2 = .ok (.invokevirtual 421, 3) := by decide +kernel
theorem dX12_odds_5 : decode cX12_odds 5 = .ok (.ifCond .eq 43, 3) := by decide +kernel
theorem dX12_odds_48 : decode cX12_odds 48 = .ok (.iconst (-1), 1) := by decide +kernel
theorem dX12_odds_49 : decode cX12_odds 49 = .ok (.ireturn, 1) := by decide +kernel
set_option maxRecDepth 100000 in
set_option maxHeartbeats 4000000 in
theorem p_X12_odds (l : Launch) (D : va_G) (cA : Nat → ClassId) (ad : Nat → Nat) (g0 : Nat → va_E) (a b c d : Int32) (hSh : Shp ad cA g0) (hF : (∀ i k, 129 ≤ i → fld g0 i k = fld (gF ad cA) i k) ∧ ∀ i, 129 ≤ i → arI g0 i = arI (gF ad cA) i) : CT l NN ad cA D yX12_odds cX12_odds 9 (some FieldType.int) (2, 46) [.ref (ad 129), .int a, .int b, .int c, .int d] g0 (fun v g' => ∃ r : Int32, v = some (.int r) ∧ Shp ad cA g' ∧ FR (fun i _ => 129 ≤ i) g0 g' ∧ (r.toInt = -1)) := by
  refine q_enterI (by decide) (Nat.le_of_ble_eq_true rfl) rfl (fun K H locs ls _ _ hM hW0 hR hC hE hl => ?_)
  have hl : lv_has ls 9 [(0, .ref (ad 129)), (1, .int a), (2, .int b), (3, .int c), (4, .int d)] := hl
  have hW : WS ad cA (fun i k => False) g0 K g0 H locs := ⟨hW0, hSh, FR.rf⟩
  refine q_aload_n hM dX12_odds_0 (lv_at hl 0 rfl) ?_
  refine q_iload_n hM dX12_odds_1 (lv_at hl 1 rfl) ?_
  refine q_callV (As := [.int a]) (rest := []) hM hW.1 hR hC myX12_isThat (kAW (v_6_2 (List.mem_of_getElem? (i := 9) rfl)) rfl) (rfl : vwCl[12]? = some (RX12, TX12, 86)) rfl lb_129.1 (shO hW.2.1 lb_129) (c_X12_isThat _ _ cA ad g0 a hW.2.1 hF) ⟨by decide, by decide⟩ rfl rfl hl.1 (Nat.le_of_ble_eq_true rfl) dX12_odds_2 (fun v g760 H locs hp hW1 => ?_)
  obtain ⟨r759, rfl, hr759, rfl⟩ := hp
  have hW : WS ad cA (fun i k => False) g0 K g0 H locs := ⟨hW1, hW.2.1, hW.2.2⟩
  refine q_if_eq (tgt := 48) hM dX12_odds_5 (by decide) (hr759 : r759.toInt = 0) (fun h5 => ?_) (fun h5 => ?_)
  · refine q_iconst (v := ((-1) : Int32)) hM dX12_odds_48 (by decide) ?_
    exact hE _ _ _ _ _ _ hW.1 ⟨_, rfl, hW.2.1, FR.wk hW.2.2 (fun _ _ h => h.elim), (by have := kc_m1; omega)⟩ dX12_odds_49
  · omega

theorem dX12_crib_0 : decode cX12_crib 0 = .ok (.aload_n 0, 1) := by decide +kernel
theorem dX12_crib_1 : decode cX12_crib 1 = .ok (.iload_n 1, 1) := by decide +kernel
theorem dX12_crib_2 : decode cX12_crib 2 = .ok (.invokevirtual 421, 3) := by decide +kernel
theorem dX12_crib_5 : decode cX12_crib 5 = .ok (.ifCond .eq 13, 3) := by decide +kernel
theorem dX12_crib_18 : decode cX12_crib 18 = .ok (.iconst (-1), 1) := by decide +kernel
theorem dX12_crib_19 : decode cX12_crib 19 = .ok (.ireturn, 1) := by decide +kernel
set_option maxRecDepth 100000 in
set_option maxHeartbeats 4000000 in
theorem p_X12_crib (l : Launch) (D : va_G) (cA : Nat → ClassId) (ad : Nat → Nat) (g0 : Nat → va_E) (a b : Int32) (hSh : Shp ad cA g0) (hF : (∀ i k, 129 ≤ i → fld g0 i k = fld (gF ad cA) i k) ∧ ∀ i, 129 ≤ i → arI g0 i = arI (gF ad cA) i) : CT l NN ad cA D yX12_crib cX12_crib 6 (some FieldType.int) (2, 46) [.ref (ad 129), .int a, .int b] g0 (fun v g' => ∃ r : Int32, v = some (.int r) ∧ Shp ad cA g' ∧ FR (fun i _ => 129 ≤ i) g0 g' ∧ (r.toInt = -1)) := by
  refine q_enterI (by decide) (Nat.le_of_ble_eq_true rfl) rfl (fun K H locs ls _ _ hM hW0 hR hC hE hl => ?_)
  have hl : lv_has ls 6 [(0, .ref (ad 129)), (1, .int a), (2, .int b)] := hl
  have hW : WS ad cA (fun i k => False) g0 K g0 H locs := ⟨hW0, hSh, FR.rf⟩
  refine q_aload_n hM dX12_crib_0 (lv_at hl 0 rfl) ?_
  refine q_iload_n hM dX12_crib_1 (lv_at hl 1 rfl) ?_
  refine q_callV (As := [.int a]) (rest := []) hM hW.1 hR hC myX12_isThat (kAW (v_6_2 (List.mem_of_getElem? (i := 9) rfl)) rfl) (rfl : vwCl[12]? = some (RX12, TX12, 86)) rfl lb_129.1 (shO hW.2.1 lb_129) (c_X12_isThat _ _ cA ad g0 a hW.2.1 hF) ⟨by decide, by decide⟩ rfl rfl hl.1 (Nat.le_of_ble_eq_true rfl) dX12_crib_2 (fun v g762 H locs hp hW1 => ?_)
  obtain ⟨r761, rfl, hr761, rfl⟩ := hp
  have hW : WS ad cA (fun i k => False) g0 K g0 H locs := ⟨hW1, hW.2.1, hW.2.2⟩
  refine q_if_eq (tgt := 18) hM dX12_crib_5 (by decide) (hr761 : r761.toInt = 0) (fun h5 => ?_) (fun h5 => ?_)
  · refine q_iconst (v := ((-1) : Int32)) hM dX12_crib_18 (by decide) ?_
    exact hE _ _ _ _ _ _ hW.1 ⟨_, rfl, hW.2.1, FR.wk hW.2.2 (fun _ _ h => h.elim), (by have := kc_m1; omega)⟩ dX12_crib_19
  · omega

theorem dX12_undo_0 : decode cX12_undo 0 = .ok (.aload_n 0, 1) := by decide +kernel
theorem dX12_undo_1 : decode cX12_undo 1 = .ok (.getfield 603, 3) := by decide +kernel
theorem dX12_undo_4 : decode cX12_undo 4 = .ok (.ifCond .ne 5, 3) := by decide +kernel
theorem dX12_undo_7 : decode cX12_undo 7 = .ok (.iconst 0, 1) := by decide +kernel
theorem dX12_undo_8 : decode cX12_undo 8 = .ok (.ireturn, 1) := by decide +kernel
theorem FG_X12_603 : FG RX12 603 12 86 75 := ⟨RX12, TX12, rfl, wX12, by decide, kAW (v_4_7 (List.mem_of_getElem? (i := 8) rfl)) rfl, rfl⟩
set_option maxRecDepth 100000 in
set_option maxHeartbeats 4000000 in
theorem p_X12_undo (l : Launch) (D : va_G) (cA : Nat → ClassId) (ad : Nat → Nat) (g0 : Nat → va_E)  (hSh : Shp ad cA g0) (hF : (∀ i k, 129 ≤ i → fld g0 i k = fld (gF ad cA) i k) ∧ ∀ i, 129 ≤ i → arI g0 i = arI (gF ad cA) i) : CT l NN ad cA D yX12_undo cX12_undo 1 (some FieldType.boolean) (0, 0) [.ref (ad 129)] g0 (fun v g' => ∃ r : Int32, v = some (.int r) ∧ Shp ad cA g' ∧ FR (fun i _ => 129 ≤ i) g0 g' ∧ (r.toInt = 0)) := by
  refine q_enterZ (by decide) (Nat.le_of_ble_eq_true rfl) (fun K H locs ls _ _ hM hW0 hR hC hE hl => ?_)
  have hl : lv_has ls 1 [(0, .ref (ad 129))] := hl
  have hW : WS ad cA (fun i k => False) g0 K g0 H locs := ⟨hW0, hSh, FR.rf⟩
  refine q_aload_n hM dX12_undo_0 (lv_at hl 0 rfl) ?_
  refine w_get (v := .int (0 : Int32)) hM hW FG_X12_603 lb_129 ((hW.2.2.1 129 75 (fun h => h)).trans ((hF.1 129 75 (by decide)).trans rfl : fld g0 129 75 = .int (0 : Int32))) dX12_undo_1 ?_
  refine q_if_ne (tgt := 9) hM dX12_undo_4 (by decide) (kc_0 : (0 : Int32).toInt = 0) (fun h4 => ?_) (fun h4 => ?_)
  · omega
  · refine q_iconst (v := (0 : Int32)) hM dX12_undo_7 (by decide) ?_
    exact hE _ _ _ _ _ _ hW.1 nz_0 ⟨_, rfl, hW.2.1, FR.wk hW.2.2 (fun _ _ h => h.elim), (by have := kc_0; omega)⟩ dX12_undo_8

theorem dX12_check_0 : decode cX12_check 0 = .ok (.aload_n 0, 1) := by decide +kernel
theorem dX12_check_1 : decode cX12_check 1 = .ok (.iload_n 1, 1) := by decide +kernel
theorem dX12_check_2 : decode cX12_check 2 = .ok (.invokevirtual 421, 3) := by decide +kernel
theorem dX12_check_5 : decode cX12_check 5 = .ok (.ifCond .eq 23, 3) := by decide +kernel
theorem dX12_check_28 : decode cX12_check 28 = .ok (.bipush (-2), 2) := by decide +kernel
theorem dX12_check_30 : decode cX12_check 30 = .ok (.ireturn, 1) := by decide +kernel
set_option maxRecDepth 100000 in
set_option maxHeartbeats 4000000 in
theorem p_X12_check (l : Launch) (D : va_G) (cA : Nat → ClassId) (ad : Nat → Nat) (g0 : Nat → va_E) (a b : Int32) (hSh : Shp ad cA g0) (hF : (∀ i k, 129 ≤ i → fld g0 i k = fld (gF ad cA) i k) ∧ ∀ i, 129 ≤ i → arI g0 i = arI (gF ad cA) i) : CT l NN ad cA D yX12_check cX12_check 4 (some FieldType.int) (2, 46) [.ref (ad 129), .int a, .int b] g0 (fun v g' => ∃ r : Int32, v = some (.int r) ∧ Shp ad cA g' ∧ FR (fun i _ => 129 ≤ i) g0 g' ∧ (r.toInt = -2)) := by
  refine q_enterI (by decide) (Nat.le_of_ble_eq_true rfl) rfl (fun K H locs ls _ _ hM hW0 hR hC hE hl => ?_)
  have hl : lv_has ls 4 [(0, .ref (ad 129)), (1, .int a), (2, .int b)] := hl
  have hW : WS ad cA (fun i k => False) g0 K g0 H locs := ⟨hW0, hSh, FR.rf⟩
  refine q_aload_n hM dX12_check_0 (lv_at hl 0 rfl) ?_
  refine q_iload_n hM dX12_check_1 (lv_at hl 1 rfl) ?_
  refine q_callV (As := [.int a]) (rest := []) hM hW.1 hR hC myX12_isThat (kAW (v_6_2 (List.mem_of_getElem? (i := 9) rfl)) rfl) (rfl : vwCl[12]? = some (RX12, TX12, 86)) rfl lb_129.1 (shO hW.2.1 lb_129) (c_X12_isThat _ _ cA ad g0 a hW.2.1 hF) ⟨by decide, by decide⟩ rfl rfl hl.1 (Nat.le_of_ble_eq_true rfl) dX12_check_2 (fun v g764 H locs hp hW1 => ?_)
  obtain ⟨r763, rfl, hr763, rfl⟩ := hp
  have hW : WS ad cA (fun i k => False) g0 K g0 H locs := ⟨hW1, hW.2.1, hW.2.2⟩
  refine q_if_eq (tgt := 28) hM dX12_check_5 (by decide) (hr763 : r763.toInt = 0) (fun h5 => ?_) (fun h5 => ?_)
  · refine q_bipush (v := ((-2) : Int32)) hM dX12_check_28 (by decide) ?_
    exact hE _ _ _ _ _ _ hW.1 ⟨_, rfl, hW.2.1, FR.wk hW.2.2 (fun _ _ h => h.elim), (by have := kc_m2; omega)⟩ dX12_check_30
  · omega

theorem dX12_first_0 : decode cX12_first 0 = .ok (.iload_n 1, 1) := by decide +kernel
theorem dX12_first_1 : decode cX12_first 1 = .ok (.i2l, 1) := by decide +kernel
theorem dX12_first_2 : decode cX12_first 2 = .ok (.lconst 1, 1) := by decide +kernel
theorem dX12_first_3 : decode cX12_first 3 = .ok (.ldc2_w 268, 3) := by decide +kernel
theorem dX12_first_6 : decode cX12_first 6 = .ok (.invokestatic 190, 3) := by decide +kernel
theorem dX12_first_9 : decode cX12_first 9 = .ok (.ifCond .eq 21, 3) := by decide +kernel
theorem dX12_first_12 : decode cX12_first 12 = .ok (.aload_n 0, 1) := by decide +kernel
theorem dX12_first_13 : decode cX12_first 13 = .ok (.iload_n 2, 1) := by decide +kernel
theorem dX12_first_14 : decode cX12_first 14 = .ok (.invokevirtual 198, 3) := by decide +kernel
theorem dX12_first_17 : decode cX12_first 17 = .ok (.ifCond .eq 13, 3) := by decide +kernel
theorem dX12_first_30 : decode cX12_first 30 = .ok (.iconst (-1), 1) := by decide +kernel
theorem dX12_first_31 : decode cX12_first 31 = .ok (.ireturn, 1) := by decide +kernel
set_option maxRecDepth 100000 in
set_option maxHeartbeats 4000000 in
theorem p_X12_first (l : Launch) (D : va_G) (cA : Nat → ClassId) (ad : Nat → Nat) (g0 : Nat → va_E) (a b c : Int32) (hSh : Shp ad cA g0) (hF : (∀ i k, 129 ≤ i → fld g0 i k = fld (gF ad cA) i k) ∧ ∀ i, 129 ≤ i → arI g0 i = arI (gF ad cA) i) : CT l NN ad cA D yX12_first cX12_first 4 (some FieldType.int) (2, 46) [.ref (ad 129), .int a, .int b, .int c] g0 (fun v g' => ∃ r : Int32, v = some (.int r) ∧ Shp ad cA g' ∧ FR (fun i _ => 129 ≤ i) g0 g' ∧ (r.toInt = -1)) := by
  refine q_enterI (by decide) (Nat.le_of_ble_eq_true rfl) rfl (fun K H locs ls _ _ hM hW0 hR hC hE hl => ?_)
  have hl : lv_has ls 4 [(0, .ref (ad 129)), (1, .int a), (2, .int b), (3, .int c)] := hl
  have hW : WS ad cA (fun i k => False) g0 K g0 H locs := ⟨hW0, hSh, FR.rf⟩
  refine q_iload_n hM dX12_first_0 (lv_at hl 1 rfl) ?_
  refine q_i2l hM dX12_first_1 ?_
  have := l_i2l a
  refine q_lconst (v := 1) hM dX12_first_2 (by decide) ?_
  have := kl_1
  refine q_ldc2 (v := 60) hM (kAW (v_5_8 (List.mem_of_getElem? (i := 6) rfl)) rfl) dX12_first_3 ?_
  have := kl_60
  refine q_callS (As := [.long a.toInt64, .long (1 : Int64), .long (60 : Int64)]) (rest := []) hM hW.1 hR hC myX12_lies (kAW (v_5_4 (List.mem_of_getElem? (i := 14) rfl)) rfl) (c_X12_lies _ _ cA ad g0 a.toInt64 (1 : Int64) (60 : Int64) hW.2.1) ⟨by decide, by decide⟩ rfl rfl hl.1 (Nat.le_of_ble_eq_true rfl) dX12_first_6 (fun v g766 H locs hp hW1 => ?_)
  obtain ⟨r765, rfl, hr765, rfl⟩ := hp
  have hW : WS ad cA (fun i k => False) g0 K g0 H locs := ⟨hW1, hW.2.1, hW.2.2⟩
  refine q_if_eq (tgt := 30) hM dX12_first_9 (by decide) (rfl : r765.toInt = r765.toInt) (fun h9 => ?_) (fun h9 => ?_)
  · refine q_iconst (v := ((-1) : Int32)) hM dX12_first_30 (by decide) ?_
    exact hE _ _ _ _ _ _ hW.1 ⟨_, rfl, hW.2.1, FR.wk hW.2.2 (fun _ _ h => h.elim), (by have := kc_m1; omega)⟩ dX12_first_31
  · refine q_aload_n hM dX12_first_12 (lv_at hl 0 rfl) ?_
    refine q_iload_n hM dX12_first_13 (lv_at hl 2 rfl) ?_
    refine q_callV (As := [.int b]) (rest := []) hM hW.1 hR hC myX12_isTold (kAW (v_5_5 (List.mem_of_getElem? (i := 6) rfl)) rfl) (rfl : vwCl[12]? = some (RX12, TX12, 86)) rfl lb_129.1 (shO hW.2.1 lb_129) (c_X12_isTold _ _ cA ad g0 b hW.2.1 hF) ⟨by decide, by decide⟩ rfl rfl hl.1 (Nat.le_of_ble_eq_true rfl) dX12_first_14 (fun v g768 H locs hp hW1 => ?_)
    obtain ⟨r767, rfl, hr767, rfl⟩ := hp
    have hW : WS ad cA (fun i k => False) g0 K g0 H locs := ⟨hW1, hW.2.1, hW.2.2⟩
    refine q_if_eq (tgt := 30) hM dX12_first_17 (by decide) (hr767 : r767.toInt = 0) (fun h17 => ?_) (fun h17 => ?_)
    · refine q_iconst (v := ((-1) : Int32)) hM dX12_first_30 (by decide) ?_
      exact hE _ _ _ _ _ _ hW.1 ⟨_, rfl, hW.2.1, FR.wk hW.2.2 (fun _ _ h => h.elim), (by have := kc_m1; omega)⟩ dX12_first_31
    · omega

theorem dX12_questions_0 : decode cX12_questions 0 = .ok (.aload_n 0, 1) := by decide +kernel
theorem dX12_questions_1 : decode cX12_questions 1 = .ok (.iload_n 1, 1) := by decide +kernel
theorem dX12_questions_2 : decode cX12_questions 2 = .ok (.invokevirtual 563, 3) := by decide +kernel
theorem dX12_questions_5 : decode cX12_questions 5 = .ok (.ifCond .eq 13, 3) := by decide +kernel
theorem dX12_questions_18 : decode cX12_questions 18 = .ok (.iconst (-1), 1) := by decide +kernel
theorem dX12_questions_19 : decode cX12_questions 19 = .ok (.ireturn, 1) := by decide +kernel
theorem myX12_arePupils : MI yX12_arePupils cX12_arePupils 3 (some FieldType.boolean) 1 := ⟨kAW (v_7_0 (List.mem_of_getElem? (i := 13) rfl)) rfl, kAW (v_0_0 (List.mem_of_getElem? (i := 13) rfl)) rfl, kAW (v_7_0 (List.mem_of_getElem? (i := 12) rfl)) rfl, kAW (tp_t6 (List.mem_of_getElem? (i := 3) rfl)) rfl, by decide, by decide, by decide +kernel⟩
set_option maxRecDepth 100000 in
set_option maxHeartbeats 4000000 in
theorem p_X12_questions (l : Launch) (D : va_G) (cA : Nat → ClassId) (ad : Nat → Nat) (g0 : Nat → va_E) (a b : Int32) (hSh : Shp ad cA g0) (hF : (∀ i k, 129 ≤ i → fld g0 i k = fld (gF ad cA) i k) ∧ ∀ i, 129 ≤ i → arI g0 i = arI (gF ad cA) i) : CT l NN ad cA D yX12_questions cX12_questions 6 (some FieldType.int) (2, 47) [.ref (ad 129), .int a, .int b] g0 (fun v g' => ∃ r : Int32, v = some (.int r) ∧ Shp ad cA g' ∧ FR (fun i _ => 129 ≤ i) g0 g' ∧ (r.toInt = -1)) := by
  refine q_enterI (by decide) (Nat.le_of_ble_eq_true rfl) rfl (fun K H locs ls _ _ hM hW0 hR hC hE hl => ?_)
  have hl : lv_has ls 6 [(0, .ref (ad 129)), (1, .int a), (2, .int b)] := hl
  have hW : WS ad cA (fun i k => False) g0 K g0 H locs := ⟨hW0, hSh, FR.rf⟩
  refine q_aload_n hM dX12_questions_0 (lv_at hl 0 rfl) ?_
  refine q_iload_n hM dX12_questions_1 (lv_at hl 1 rfl) ?_
  refine q_callV (As := [.int a]) (rest := []) hM hW.1 hR hC myX12_arePupils (kAW (v_7_0 (List.mem_of_getElem? (i := 10) rfl)) rfl) (rfl : vwCl[12]? = some (RX12, TX12, 86)) rfl lb_129.1 (shO hW.2.1 lb_129) (c_X12_arePupils _ _ cA ad g0 a hW.2.1 hF) ⟨by decide, by decide⟩ rfl rfl hl.1 (Nat.le_of_ble_eq_true rfl) dX12_questions_2 (fun v g770 H locs hp hW1 => ?_)
  obtain ⟨r769, rfl, hr769, rfl⟩ := hp
  have hW : WS ad cA (fun i k => False) g0 K g0 H locs := ⟨hW1, hW.2.1, hW.2.2⟩
  refine q_if_eq (tgt := 18) hM dX12_questions_5 (by decide) (hr769 : r769.toInt = 0) (fun h5 => ?_) (fun h5 => ?_)
  · refine q_iconst (v := ((-1) : Int32)) hM dX12_questions_18 (by decide) ?_
    exact hE _ _ _ _ _ _ hW.1 ⟨_, rfl, hW.2.1, FR.wk hW.2.2 (fun _ _ h => h.elim), (by have := kc_m1; omega)⟩ dX12_questions_19
  · omega

theorem dX12_parted_0 : decode cX12_parted 0 = .ok (.aload_n 0, 1) := by decide +kernel
theorem dX12_parted_1 : decode cX12_parted 1 = .ok (.iload_n 1, 1) := by decide +kernel
theorem dX12_parted_2 : decode cX12_parted 2 = .ok (.invokevirtual 563, 3) := by decide +kernel
theorem dX12_parted_5 : decode cX12_parted 5 = .ok (.ifCond .eq 13, 3) := by decide +kernel
theorem dX12_parted_18 : decode cX12_parted 18 = .ok (.iconst (-1), 1) := by decide +kernel
theorem dX12_parted_19 : decode cX12_parted 19 = .ok (.ireturn, 1) := by decide +kernel
set_option maxRecDepth 100000 in
set_option maxHeartbeats 4000000 in
theorem p_X12_parted (l : Launch) (D : va_G) (cA : Nat → ClassId) (ad : Nat → Nat) (g0 : Nat → va_E) (a b : Int32) (hSh : Shp ad cA g0) (hF : (∀ i k, 129 ≤ i → fld g0 i k = fld (gF ad cA) i k) ∧ ∀ i, 129 ≤ i → arI g0 i = arI (gF ad cA) i) : CT l NN ad cA D yX12_parted cX12_parted 8 (some FieldType.int) (2, 47) [.ref (ad 129), .int a, .int b] g0 (fun v g' => ∃ r : Int32, v = some (.int r) ∧ Shp ad cA g' ∧ FR (fun i _ => 129 ≤ i) g0 g' ∧ (r.toInt = -1)) := by
  refine q_enterI (by decide) (Nat.le_of_ble_eq_true rfl) rfl (fun K H locs ls _ _ hM hW0 hR hC hE hl => ?_)
  have hl : lv_has ls 8 [(0, .ref (ad 129)), (1, .int a), (2, .int b)] := hl
  have hW : WS ad cA (fun i k => False) g0 K g0 H locs := ⟨hW0, hSh, FR.rf⟩
  refine q_aload_n hM dX12_parted_0 (lv_at hl 0 rfl) ?_
  refine q_iload_n hM dX12_parted_1 (lv_at hl 1 rfl) ?_
  refine q_callV (As := [.int a]) (rest := []) hM hW.1 hR hC myX12_arePupils (kAW (v_7_0 (List.mem_of_getElem? (i := 10) rfl)) rfl) (rfl : vwCl[12]? = some (RX12, TX12, 86)) rfl lb_129.1 (shO hW.2.1 lb_129) (c_X12_arePupils _ _ cA ad g0 a hW.2.1 hF) ⟨by decide, by decide⟩ rfl rfl hl.1 (Nat.le_of_ble_eq_true rfl) dX12_parted_2 (fun v g772 H locs hp hW1 => ?_)
  obtain ⟨r771, rfl, hr771, rfl⟩ := hp
  have hW : WS ad cA (fun i k => False) g0 K g0 H locs := ⟨hW1, hW.2.1, hW.2.2⟩
  refine q_if_eq (tgt := 18) hM dX12_parted_5 (by decide) (hr771 : r771.toInt = 0) (fun h5 => ?_) (fun h5 => ?_)
  · refine q_iconst (v := ((-1) : Int32)) hM dX12_parted_18 (by decide) ?_
    exact hE _ _ _ _ _ _ hW.1 ⟨_, rfl, hW.2.1, FR.wk hW.2.2 (fun _ _ h => h.elim), (by have := kc_m1; omega)⟩ dX12_parted_19
  · omega

theorem dX12_grade_0 : decode cX12_grade 0 = .ok (.iload_n 1, 1) := by decide +kernel
theorem dX12_grade_1 : decode cX12_grade 1 = .ok (.i2l, 1) := by decide +kernel
theorem dX12_grade_2 : decode cX12_grade 2 = .ok (.lconst 1, 1) := by decide +kernel
theorem dX12_grade_3 : decode cX12_grade 3 = .ok (.ldc2_w 202, 3) := by decide +kernel
theorem dX12_grade_6 : decode cX12_grade 6 = .ok (.invokestatic 190, 3) := by decide +kernel
theorem dX12_grade_9 : decode cX12_grade 9 = .ok (.ifCond .eq 17, 3) := by decide +kernel
theorem dX12_grade_12 : decode cX12_grade 12 = .ok (.iload_n 2, 1) := by decide +kernel
theorem dX12_grade_13 : decode cX12_grade 13 = .ok (.i2l, 1) := by decide +kernel
theorem dX12_grade_14 : decode cX12_grade 14 = .ok (.ldc2_w 276, 3) := by decide +kernel
theorem dX12_grade_17 : decode cX12_grade 17 = .ok (.ldc2_w 225, 3) := by decide +kernel
theorem dX12_grade_20 : decode cX12_grade 20 = .ok (.invokestatic 190, 3) := by decide +kernel
theorem dX12_grade_23 : decode cX12_grade 23 = .ok (.ifCond .ne 5, 3) := by decide +kernel
theorem dX12_grade_26 : decode cX12_grade 26 = .ok (.iconst 0, 1) := by decide +kernel
theorem dX12_grade_27 : decode cX12_grade 27 = .ok (.ireturn, 1) := by decide +kernel
theorem dX12_grade_28 : decode cX12_grade 28 = .ok (.aload_n 0, 1) := by decide +kernel
theorem dX12_grade_29 : decode cX12_grade 29 = .ok (.getfield 40, 3) := by decide +kernel
theorem dX12_grade_32 : decode cX12_grade 32 = .ok (.iload_n 1, 1) := by decide +kernel
theorem dX12_grade_33 : decode cX12_grade 33 = .ok (.iload_n 2, 1) := by decide +kernel
theorem dX12_grade_34 : decode cX12_grade 34 = .ok (.iastore, 1) := by decide +kernel
theorem dX12_grade_35 : decode cX12_grade 35 = .ok (.iconst 1, 1) := by decide +kernel
theorem dX12_grade_36 : decode cX12_grade 36 = .ok (.ireturn, 1) := by decide +kernel
theorem FG_X12_40 : FG RX12 40 12 86 17 := ⟨RX12, TX12, rfl, wX12, by decide, kAW (v_4_3 (List.mem_of_getElem? (i := 14) rfl)) rfl, rfl⟩
set_option maxRecDepth 100000 in
set_option maxHeartbeats 4000000 in
theorem p_X12_grade (l : Launch) (D : va_G) (cA : Nat → ClassId) (ad : Nat → Nat) (g0 : Nat → va_E) (a b : Int32) (hSh : Shp ad cA g0) (hF : (∀ i k, 129 ≤ i → fld g0 i k = fld (gF ad cA) i k) ∧ ∀ i, 129 ≤ i → arI g0 i = arI (gF ad cA) i) : CT l NN ad cA D yX12_grade cX12_grade 3 (some FieldType.boolean) (1, 25) [.ref (ad 129), .int a, .int b] g0 (fun v g' => ∃ r : Int32, v = some (.int r) ∧ Shp ad cA g' ∧ FR (fun i _ => 129 ≤ i) g0 g' ∧ ((r.toInt = 1 ∧ 1 ≤ a.toInt ∧ a.toInt ≤ 9 ∧ -1 ≤ b.toInt ∧ b.toInt ≤ 5) ∨ (r.toInt = 0 ∧ ¬ (1 ≤ a.toInt ∧ a.toInt ≤ 9 ∧ -1 ≤ b.toInt ∧ b.toInt ≤ 5)))) := by
  refine q_enterZ (by decide) (Nat.le_of_ble_eq_true rfl) (fun K H locs ls _ _ hM hW0 hR hC hE hl => ?_)
  have hl : lv_has ls 3 [(0, .ref (ad 129)), (1, .int a), (2, .int b)] := hl
  have hW : WS ad cA (fun i k => i = 138) g0 K g0 H locs := ⟨hW0, hSh, FR.rf⟩
  have := kc_0
  have := kc_1
  refine q_iload_n hM dX12_grade_0 (lv_at hl 1 rfl) ?_
  refine q_i2l hM dX12_grade_1 ?_
  have := l_i2l a
  refine q_lconst (v := 1) hM dX12_grade_2 (by decide) ?_
  have := kl_1
  refine q_ldc2 (v := 9) hM (kAW (v_5_5 (List.mem_of_getElem? (i := 10) rfl)) rfl) dX12_grade_3 ?_
  have := kl_9
  refine q_callS (As := [.long a.toInt64, .long (1 : Int64), .long (9 : Int64)]) (rest := []) hM hW.1 hR hC myX12_lies (kAW (v_5_4 (List.mem_of_getElem? (i := 14) rfl)) rfl) (c_X12_lies _ _ cA ad g0 a.toInt64 (1 : Int64) (9 : Int64) hW.2.1) ⟨by decide, by decide⟩ rfl rfl hl.1 (Nat.le_of_ble_eq_true rfl) dX12_grade_6 (fun v g774 H locs hp hW1 => ?_)
  obtain ⟨r773, rfl, hr773, rfl⟩ := hp
  have hW : WS ad cA (fun i k => i = 138) g0 K g0 H locs := ⟨hW1, hW.2.1, hW.2.2⟩
  refine q_if_eq (tgt := 26) hM dX12_grade_9 (by decide) (rfl : r773.toInt = r773.toInt) (fun h9 => ?_) (fun h9 => ?_)
  · refine q_iconst (v := (0 : Int32)) hM dX12_grade_26 (by decide) ?_
    exact hE _ _ _ _ _ _ hW.1 nz_0 ⟨_, rfl, hW.2.1, FR.wk hW.2.2 (fun i k h => by omega), (by have := kc_0; omega)⟩ dX12_grade_27
  · refine q_iload_n hM dX12_grade_12 (lv_at hl 2 rfl) ?_
    refine q_i2l hM dX12_grade_13 ?_
    have := l_i2l b
    refine q_ldc2 (v := (-1)) hM (kAW (v_5_11 (List.mem_of_getElem? (i := 5) rfl)) rfl) dX12_grade_14 ?_
    have := kl_m1
    refine q_ldc2 (v := 5) hM (kAW (v_5_8 (List.mem_of_getElem? (i := 5) rfl)) rfl) dX12_grade_17 ?_
    have := kl_5
    refine q_callS (As := [.long b.toInt64, .long ((-1) : Int64), .long (5 : Int64)]) (rest := []) hM hW.1 hR hC myX12_lies (kAW (v_5_4 (List.mem_of_getElem? (i := 14) rfl)) rfl) (c_X12_lies _ _ cA ad g0 b.toInt64 ((-1) : Int64) (5 : Int64) hW.2.1) ⟨by decide, by decide⟩ rfl rfl hl.1 (Nat.le_of_ble_eq_true rfl) dX12_grade_20 (fun v g776 H locs hp hW1 => ?_)
    obtain ⟨r775, rfl, hr775, rfl⟩ := hp
    have hW : WS ad cA (fun i k => i = 138) g0 K g0 H locs := ⟨hW1, hW.2.1, hW.2.2⟩
    refine q_if_ne (tgt := 28) hM dX12_grade_23 (by decide) (rfl : r775.toInt = r775.toInt) (fun h23 => ?_) (fun h23 => ?_)
    · refine q_aload_n hM dX12_grade_28 (lv_at hl 0 rfl) ?_
      refine w_get (v := .ref (ad 138)) hM hW FG_X12_40 lb_129 (rf_129_17 hW.2.1) dX12_grade_29 ?_
      refine q_iload_n hM dX12_grade_32 (lv_at hl 1 rfl) ?_
      refine q_iload_n hM dX12_grade_33 (lv_at hl 2 rfl) ?_
      refine w_iast hM hW lb_138 (by omega) (i_in (by omega) (by omega)) dX12_grade_34 (fun g777 H locs hW e1 e2 => ?_)
      refine q_iconst (v := (1 : Int32)) hM dX12_grade_35 (by decide) ?_
      exact hE _ _ _ _ _ _ hW.1 nz_1 ⟨_, rfl, hW.2.1, FR.wk hW.2.2 (fun i k h => by omega), (by have := kc_1; omega)⟩ dX12_grade_36
    · refine q_iconst (v := (0 : Int32)) hM dX12_grade_26 (by decide) ?_
      exact hE _ _ _ _ _ _ hW.1 nz_0 ⟨_, rfl, hW.2.1, FR.wk hW.2.2 (fun i k h => by omega), (by have := kc_0; omega)⟩ dX12_grade_27

theorem dX12_exam_0 : decode cX12_exam 0 = .ok (.iload_n 1, 1) := by decide +kernel
theorem dX12_exam_1 : decode cX12_exam 1 = .ok (.i2l, 1) := by decide +kernel
theorem dX12_exam_2 : decode cX12_exam 2 = .ok (.lconst 0, 1) := by decide +kernel
theorem dX12_exam_3 : decode cX12_exam 3 = .ok (.ldc2_w 424, 3) := by decide +kernel
theorem dX12_exam_6 : decode cX12_exam 6 = .ok (.invokestatic 190, 3) := by decide +kernel
theorem dX12_exam_9 : decode cX12_exam 9 = .ok (.ifCond .eq 15, 3) := by decide +kernel
theorem dX12_exam_12 : decode cX12_exam 12 = .ok (.iload_n 2, 1) := by decide +kernel
theorem dX12_exam_13 : decode cX12_exam 13 = .ok (.i2l, 1) := by decide +kernel
theorem dX12_exam_14 : decode cX12_exam 14 = .ok (.lconst 0, 1) := by decide +kernel
theorem dX12_exam_15 : decode cX12_exam 15 = .ok (.ldc2_w 426, 3) := by decide +kernel
theorem dX12_exam_18 : decode cX12_exam 18 = .ok (.invokestatic 190, 3) := by decide +kernel
theorem dX12_exam_21 : decode cX12_exam 21 = .ok (.ifCond .ne 5, 3) := by decide +kernel
theorem dX12_exam_24 : decode cX12_exam 24 = .ok (.iconst 0, 1) := by decide +kernel
theorem dX12_exam_25 : decode cX12_exam 25 = .ok (.ireturn, 1) := by decide +kernel
theorem dX12_exam_26 : decode cX12_exam 26 = .ok (.aload_n 0, 1) := by decide +kernel
theorem dX12_exam_27 : decode cX12_exam 27 = .ok (.iload_n 1, 1) := by decide +kernel
theorem dX12_exam_28 : decode cX12_exam 28 = .ok (.putfield 428, 3) := by decide +kernel
theorem dX12_exam_31 : decode cX12_exam 31 = .ok (.aload_n 0, 1) := by decide +kernel
theorem dX12_exam_32 : decode cX12_exam 32 = .ok (.iload_n 2, 1) := by decide +kernel
theorem dX12_exam_33 : decode cX12_exam 33 = .ok (.putfield 431, 3) := by decide +kernel
theorem dX12_exam_36 : decode cX12_exam 36 = .ok (.iconst 1, 1) := by decide +kernel
theorem dX12_exam_37 : decode cX12_exam 37 = .ok (.ireturn, 1) := by decide +kernel
theorem FP_X12_428 : FPX RX12 428 12 86 59 .int := ⟨⟨RX12, TX12, tyX12, rfl, wX12, by decide, kAW (v_4_6 (List.mem_of_getElem? (i := 8) rfl)) rfl, rfl, tyX12_ok, nmX12, by decide +kernel, rfl⟩, by decide +kernel⟩
theorem FP_X12_431 : FPX RX12 431 12 86 60 .int := ⟨⟨RX12, TX12, tyX12, rfl, wX12, by decide, kAW (v_4_6 (List.mem_of_getElem? (i := 9) rfl)) rfl, rfl, tyX12_ok, nmX12, by decide +kernel, rfl⟩, by decide +kernel⟩
set_option maxRecDepth 100000 in
set_option maxHeartbeats 4000000 in
theorem p_X12_exam (l : Launch) (D : va_G) (cA : Nat → ClassId) (ad : Nat → Nat) (g0 : Nat → va_E) (a b : Int32) (hSh : Shp ad cA g0) (hF : (∀ i k, 129 ≤ i → fld g0 i k = fld (gF ad cA) i k) ∧ ∀ i, 129 ≤ i → arI g0 i = arI (gF ad cA) i) : CT l NN ad cA D yX12_exam cX12_exam 3 (some FieldType.boolean) (1, 25) [.ref (ad 129), .int a, .int b] g0 (fun v g' => ∃ r : Int32, v = some (.int r) ∧ Shp ad cA g' ∧ FR (fun i _ => 129 ≤ i) g0 g' ∧ ((r.toInt = 1 ∧ 0 ≤ a.toInt ∧ a.toInt ≤ 4095 ∧ 0 ≤ b.toInt ∧ b.toInt ≤ 12) ∨ (r.toInt = 0 ∧ ¬ (0 ≤ a.toInt ∧ a.toInt ≤ 4095 ∧ 0 ≤ b.toInt ∧ b.toInt ≤ 12)))) := by
  refine q_enterZ (by decide) (Nat.le_of_ble_eq_true rfl) (fun K H locs ls _ _ hM hW0 hR hC hE hl => ?_)
  have hl : lv_has ls 3 [(0, .ref (ad 129)), (1, .int a), (2, .int b)] := hl
  have hW : WS ad cA (fun i k => (i = 129 ∧ (k = 59 ∨ k = 60))) g0 K g0 H locs := ⟨hW0, hSh, FR.rf⟩
  have := kc_0
  have := kc_1
  have f778 : fld g0 129 59 = .int (0 : Int32) := ((hF.1 129 59 (by decide)).trans rfl : fld g0 129 59 = .int (0 : Int32))
  have f779 : fld g0 129 60 = .int (0 : Int32) := ((hF.1 129 60 (by decide)).trans rfl : fld g0 129 60 = .int (0 : Int32))
  refine q_iload_n hM dX12_exam_0 (lv_at hl 1 rfl) ?_
  refine q_i2l hM dX12_exam_1 ?_
  have := l_i2l a
  refine q_lconst (v := 0) hM dX12_exam_2 (by decide) ?_
  have := kl_0
  refine q_ldc2 (v := 4095) hM (kAW (v_6_3 (List.mem_of_getElem? (i := 1) rfl)) rfl) dX12_exam_3 ?_
  have := kl_4095
  refine q_callS (As := [.long a.toInt64, .long (0 : Int64), .long (4095 : Int64)]) (rest := []) hM hW.1 hR hC myX12_lies (kAW (v_5_4 (List.mem_of_getElem? (i := 14) rfl)) rfl) (c_X12_lies _ _ cA ad g0 a.toInt64 (0 : Int64) (4095 : Int64) hW.2.1) ⟨by decide, by decide⟩ rfl rfl hl.1 (Nat.le_of_ble_eq_true rfl) dX12_exam_6 (fun v g781 H locs hp hW1 => ?_)
  obtain ⟨r780, rfl, hr780, rfl⟩ := hp
  have hW : WS ad cA (fun i k => (i = 129 ∧ (k = 59 ∨ k = 60))) g0 K g0 H locs := ⟨hW1, hW.2.1, hW.2.2⟩
  refine q_if_eq (tgt := 24) hM dX12_exam_9 (by decide) (rfl : r780.toInt = r780.toInt) (fun h9 => ?_) (fun h9 => ?_)
  · refine q_iconst (v := (0 : Int32)) hM dX12_exam_24 (by decide) ?_
    exact hE _ _ _ _ _ _ hW.1 nz_0 ⟨_, rfl, hW.2.1, FR.wk hW.2.2 (fun i k h => by omega), (by have := kc_0; omega)⟩ dX12_exam_25
  · refine q_iload_n hM dX12_exam_12 (lv_at hl 2 rfl) ?_
    refine q_i2l hM dX12_exam_13 ?_
    have := l_i2l b
    refine q_lconst (v := 0) hM dX12_exam_14 (by decide) ?_
    have := kl_0
    refine q_ldc2 (v := 12) hM (kAW (v_6_3 (List.mem_of_getElem? (i := 2) rfl)) rfl) dX12_exam_15 ?_
    have := kl_12
    refine q_callS (As := [.long b.toInt64, .long (0 : Int64), .long (12 : Int64)]) (rest := []) hM hW.1 hR hC myX12_lies (kAW (v_5_4 (List.mem_of_getElem? (i := 14) rfl)) rfl) (c_X12_lies _ _ cA ad g0 b.toInt64 (0 : Int64) (12 : Int64) hW.2.1) ⟨by decide, by decide⟩ rfl rfl hl.1 (Nat.le_of_ble_eq_true rfl) dX12_exam_18 (fun v g783 H locs hp hW1 => ?_)
    obtain ⟨r782, rfl, hr782, rfl⟩ := hp
    have hW : WS ad cA (fun i k => (i = 129 ∧ (k = 59 ∨ k = 60))) g0 K g0 H locs := ⟨hW1, hW.2.1, hW.2.2⟩
    refine q_if_ne (tgt := 26) hM dX12_exam_21 (by decide) (rfl : r782.toInt = r782.toInt) (fun h21 => ?_) (fun h21 => ?_)
    · refine q_aload_n hM dX12_exam_26 (lv_at hl 0 rfl) ?_
      refine q_iload_n hM dX12_exam_27 (lv_at hl 1 rfl) ?_
      refine w_put hM hW FP_X12_428 lb_129 (by omega) (Or.inl ⟨_, rfl⟩) rfl rfl dX12_exam_28 (fun g784 H locs hW e1 e2 => ?_)
      have f785 : fld g784 129 60 = .int (0 : Int32) := (e2.1 129 60 (by unfold Only; omega)).trans f779
      have f786 : fld g784 129 59 = .int a := e1
      refine q_aload_n hM dX12_exam_31 (lv_at hl 0 rfl) ?_
      refine q_iload_n hM dX12_exam_32 (lv_at hl 2 rfl) ?_
      refine w_put hM hW FP_X12_431 lb_129 (by omega) (Or.inl ⟨_, rfl⟩) rfl rfl dX12_exam_33 (fun g787 H locs hW e1 e2 => ?_)
      have f788 : fld g787 129 59 = .int a := (e2.1 129 59 (by unfold Only; omega)).trans f786
      have f789 : fld g787 129 60 = .int b := e1
      refine q_iconst (v := (1 : Int32)) hM dX12_exam_36 (by decide) ?_
      exact hE _ _ _ _ _ _ hW.1 nz_1 ⟨_, rfl, hW.2.1, FR.wk hW.2.2 (fun i k h => by omega), (by have := kc_1; omega)⟩ dX12_exam_37
    · refine q_iconst (v := (0 : Int32)) hM dX12_exam_24 (by decide) ?_
      exact hE _ _ _ _ _ _ hW.1 nz_0 ⟨_, rfl, hW.2.1, FR.wk hW.2.2 (fun i k h => by omega), (by have := kc_0; omega)⟩ dX12_exam_25

theorem dX12_art_0 : decode cX12_art 0 = .ok (.iload_n 1, 1) := by decide +kernel
theorem dX12_art_1 : decode cX12_art 1 = .ok (.i2l, 1) := by decide +kernel
theorem dX12_art_2 : decode cX12_art 2 = .ok (.lconst 0, 1) := by decide +kernel
theorem dX12_art_3 : decode cX12_art 3 = .ok (.ldc2_w 225, 3) := by decide +kernel
theorem dX12_art_6 : decode cX12_art 6 = .ok (.invokestatic 190, 3) := by decide +kernel
theorem dX12_art_9 : decode cX12_art 9 = .ok (.ifCond .eq 23, 3) := by decide +kernel
theorem dX12_art_12 : decode cX12_art 12 = .ok (.iload_n 2, 1) := by decide +kernel
theorem dX12_art_13 : decode cX12_art 13 = .ok (.i2l, 1) := by decide +kernel
theorem dX12_art_14 : decode cX12_art 14 = .ok (.lconst 1, 1) := by decide +kernel
theorem dX12_art_15 : decode cX12_art 15 = .ok (.ldc2_w 268, 3) := by decide +kernel
theorem dX12_art_18 : decode cX12_art 18 = .ok (.invokestatic 190, 3) := by decide +kernel
theorem dX12_art_21 : decode cX12_art 21 = .ok (.ifCond .eq 11, 3) := by decide +kernel
theorem dX12_art_24 : decode cX12_art 24 = .ok (.iload_n 2, 1) := by decide +kernel
theorem dX12_art_25 : decode cX12_art 25 = .ok (.aload_n 0, 1) := by decide +kernel
theorem dX12_art_26 : decode cX12_art 26 = .ok (.getfield 166, 3) := by decide +kernel
theorem dX12_art_29 : decode cX12_art 29 = .ok (.if_icmp .le 5, 3) := by decide +kernel
theorem dX12_art_32 : decode cX12_art 32 = .ok (.iconst (-1), 1) := by decide +kernel
theorem dX12_art_33 : decode cX12_art 33 = .ok (.ireturn, 1) := by decide +kernel
set_option maxRecDepth 100000 in
set_option maxHeartbeats 4000000 in
theorem p_X12_art (l : Launch) (D : va_G) (cA : Nat → ClassId) (ad : Nat → Nat) (g0 : Nat → va_E) (a b : Int32) (hSh : Shp ad cA g0) (hF : (∀ i k, 129 ≤ i → fld g0 i k = fld (gF ad cA) i k) ∧ ∀ i, 129 ≤ i → arI g0 i = arI (gF ad cA) i) : CT l NN ad cA D yX12_art cX12_art 4 (some FieldType.int) (1, 25) [.ref (ad 129), .int a, .int b] g0 (fun v g' => ∃ r : Int32, v = some (.int r) ∧ Shp ad cA g' ∧ FR (fun i _ => 129 ≤ i) g0 g' ∧ (r.toInt = -1)) := by
  refine q_enterI (by decide) (Nat.le_of_ble_eq_true rfl) rfl (fun K H locs ls _ _ hM hW0 hR hC hE hl => ?_)
  have hl : lv_has ls 4 [(0, .ref (ad 129)), (1, .int a), (2, .int b)] := hl
  have hW : WS ad cA (fun i k => False) g0 K g0 H locs := ⟨hW0, hSh, FR.rf⟩
  have := kc_0
  refine q_iload_n hM dX12_art_0 (lv_at hl 1 rfl) ?_
  refine q_i2l hM dX12_art_1 ?_
  have := l_i2l a
  refine q_lconst (v := 0) hM dX12_art_2 (by decide) ?_
  have := kl_0
  refine q_ldc2 (v := 5) hM (kAW (v_5_8 (List.mem_of_getElem? (i := 5) rfl)) rfl) dX12_art_3 ?_
  have := kl_5
  refine q_callS (As := [.long a.toInt64, .long (0 : Int64), .long (5 : Int64)]) (rest := []) hM hW.1 hR hC myX12_lies (kAW (v_5_4 (List.mem_of_getElem? (i := 14) rfl)) rfl) (c_X12_lies _ _ cA ad g0 a.toInt64 (0 : Int64) (5 : Int64) hW.2.1) ⟨by decide, by decide⟩ rfl rfl hl.1 (Nat.le_of_ble_eq_true rfl) dX12_art_6 (fun v g791 H locs hp hW1 => ?_)
  obtain ⟨r790, rfl, hr790, rfl⟩ := hp
  have hW : WS ad cA (fun i k => False) g0 K g0 H locs := ⟨hW1, hW.2.1, hW.2.2⟩
  refine q_if_eq (tgt := 32) hM dX12_art_9 (by decide) (rfl : r790.toInt = r790.toInt) (fun h9 => ?_) (fun h9 => ?_)
  · refine q_iconst (v := ((-1) : Int32)) hM dX12_art_32 (by decide) ?_
    exact hE _ _ _ _ _ _ hW.1 ⟨_, rfl, hW.2.1, FR.wk hW.2.2 (fun _ _ h => h.elim), (by have := kc_m1; omega)⟩ dX12_art_33
  · refine q_iload_n hM dX12_art_12 (lv_at hl 2 rfl) ?_
    refine q_i2l hM dX12_art_13 ?_
    have := l_i2l b
    refine q_lconst (v := 1) hM dX12_art_14 (by decide) ?_
    have := kl_1
    refine q_ldc2 (v := 60) hM (kAW (v_5_8 (List.mem_of_getElem? (i := 6) rfl)) rfl) dX12_art_15 ?_
    have := kl_60
    refine q_callS (As := [.long b.toInt64, .long (1 : Int64), .long (60 : Int64)]) (rest := []) hM hW.1 hR hC myX12_lies (kAW (v_5_4 (List.mem_of_getElem? (i := 14) rfl)) rfl) (c_X12_lies _ _ cA ad g0 b.toInt64 (1 : Int64) (60 : Int64) hW.2.1) ⟨by decide, by decide⟩ rfl rfl hl.1 (Nat.le_of_ble_eq_true rfl) dX12_art_18 (fun v g793 H locs hp hW1 => ?_)
    obtain ⟨r792, rfl, hr792, rfl⟩ := hp
    have hW : WS ad cA (fun i k => False) g0 K g0 H locs := ⟨hW1, hW.2.1, hW.2.2⟩
    refine q_if_eq (tgt := 32) hM dX12_art_21 (by decide) (rfl : r792.toInt = r792.toInt) (fun h21 => ?_) (fun h21 => ?_)
    · refine q_iconst (v := ((-1) : Int32)) hM dX12_art_32 (by decide) ?_
      exact hE _ _ _ _ _ _ hW.1 ⟨_, rfl, hW.2.1, FR.wk hW.2.2 (fun _ _ h => h.elim), (by have := kc_m1; omega)⟩ dX12_art_33
    · refine q_iload_n hM dX12_art_24 (lv_at hl 2 rfl) ?_
      refine q_aload_n hM dX12_art_25 (lv_at hl 0 rfl) ?_
      refine w_get (v := .int (0 : Int32)) hM hW FG_X12_166 lb_129 ((hW.2.2.1 129 1 (fun h => h)).trans ((hF.1 129 1 (by decide)).trans rfl : fld g0 129 1 = .int (0 : Int32))) dX12_art_26 ?_
      refine q_icmp_le (tgt := 34) hM dX12_art_29 (by decide) (rfl : b.toInt = b.toInt) (kc_0 : (0 : Int32).toInt = 0) (fun h29 => ?_) (fun h29 => ?_)
      · omega
      · refine q_iconst (v := ((-1) : Int32)) hM dX12_art_32 (by decide) ?_
        exact hE _ _ _ _ _ _ hW.1 ⟨_, rfl, hW.2.1, FR.wk hW.2.2 (fun _ _ h => h.elim), (by have := kc_m1; omega)⟩ dX12_art_33

theorem dX12_law_0 : decode cX12_law 0 = .ok (.iload_n 1, 1) := by decide +kernel
theorem dX12_law_1 : decode cX12_law 1 = .ok (.i2l, 1) := by decide +kernel
theorem dX12_law_2 : decode cX12_law 2 = .ok (.lconst 1, 1) := by decide +kernel
theorem dX12_law_3 : decode cX12_law 3 = .ok (.ldc2_w 357, 3) := by decide +kernel
theorem dX12_law_6 : decode cX12_law 6 = .ok (.invokestatic 190, 3) := by decide +kernel
theorem dX12_law_9 : decode cX12_law 9 = .ok (.ifCond .eq 11, 3) := by decide +kernel
theorem dX12_law_12 : decode cX12_law 12 = .ok (.iload_n 1, 1) := by decide +kernel
theorem dX12_law_13 : decode cX12_law 13 = .ok (.aload_n 0, 1) := by decide +kernel
theorem dX12_law_14 : decode cX12_law 14 = .ok (.getfield 166, 3) := by decide +kernel
theorem dX12_law_17 : decode cX12_law 17 = .ok (.if_icmp .le 5, 3) := by decide +kernel
theorem dX12_law_20 : decode cX12_law 20 = .ok (.iconst (-1), 1) := by decide +kernel
theorem dX12_law_21 : decode cX12_law 21 = .ok (.ireturn, 1) := by decide +kernel
set_option maxRecDepth 100000 in
set_option maxHeartbeats 4000000 in
theorem p_X12_law (l : Launch) (D : va_G) (cA : Nat → ClassId) (ad : Nat → Nat) (g0 : Nat → va_E) (a : Int32) (hSh : Shp ad cA g0) (hF : (∀ i k, 129 ≤ i → fld g0 i k = fld (gF ad cA) i k) ∧ ∀ i, 129 ≤ i → arI g0 i = arI (gF ad cA) i) : CT l NN ad cA D yX12_law cX12_law 4 (some FieldType.int) (1, 25) [.ref (ad 129), .int a] g0 (fun v g' => ∃ r : Int32, v = some (.int r) ∧ Shp ad cA g' ∧ FR (fun i _ => 129 ≤ i) g0 g' ∧ (r.toInt = -1)) := by
  refine q_enterI (by decide) (Nat.le_of_ble_eq_true rfl) rfl (fun K H locs ls _ _ hM hW0 hR hC hE hl => ?_)
  have hl : lv_has ls 4 [(0, .ref (ad 129)), (1, .int a)] := hl
  have hW : WS ad cA (fun i k => False) g0 K g0 H locs := ⟨hW0, hSh, FR.rf⟩
  have := kc_0
  refine q_iload_n hM dX12_law_0 (lv_at hl 1 rfl) ?_
  refine q_i2l hM dX12_law_1 ?_
  have := l_i2l a
  refine q_lconst (v := 1) hM dX12_law_2 (by decide) ?_
  have := kl_1
  refine q_ldc2 (v := 240) hM (kAW (v_5_11 (List.mem_of_getElem? (i := 10) rfl)) rfl) dX12_law_3 ?_
  have := kl_240
  refine q_callS (As := [.long a.toInt64, .long (1 : Int64), .long (240 : Int64)]) (rest := []) hM hW.1 hR hC myX12_lies (kAW (v_5_4 (List.mem_of_getElem? (i := 14) rfl)) rfl) (c_X12_lies _ _ cA ad g0 a.toInt64 (1 : Int64) (240 : Int64) hW.2.1) ⟨by decide, by decide⟩ rfl rfl hl.1 (Nat.le_of_ble_eq_true rfl) dX12_law_6 (fun v g795 H locs hp hW1 => ?_)
  obtain ⟨r794, rfl, hr794, rfl⟩ := hp
  have hW : WS ad cA (fun i k => False) g0 K g0 H locs := ⟨hW1, hW.2.1, hW.2.2⟩
  refine q_if_eq (tgt := 20) hM dX12_law_9 (by decide) (rfl : r794.toInt = r794.toInt) (fun h9 => ?_) (fun h9 => ?_)
  · refine q_iconst (v := ((-1) : Int32)) hM dX12_law_20 (by decide) ?_
    exact hE _ _ _ _ _ _ hW.1 ⟨_, rfl, hW.2.1, FR.wk hW.2.2 (fun _ _ h => h.elim), (by have := kc_m1; omega)⟩ dX12_law_21
  · refine q_iload_n hM dX12_law_12 (lv_at hl 1 rfl) ?_
    refine q_aload_n hM dX12_law_13 (lv_at hl 0 rfl) ?_
    refine w_get (v := .int (0 : Int32)) hM hW FG_X12_166 lb_129 ((hW.2.2.1 129 1 (fun h => h)).trans ((hF.1 129 1 (by decide)).trans rfl : fld g0 129 1 = .int (0 : Int32))) dX12_law_14 ?_
    refine q_icmp_le (tgt := 22) hM dX12_law_17 (by decide) (rfl : a.toInt = a.toInt) (kc_0 : (0 : Int32).toInt = 0) (fun h17 => ?_) (fun h17 => ?_)
    · omega
    · refine q_iconst (v := ((-1) : Int32)) hM dX12_law_20 (by decide) ?_
      exact hE _ _ _ _ _ _ hW.1 ⟨_, rfl, hW.2.1, FR.wk hW.2.2 (fun _ _ h => h.elim), (by have := kc_m1; omega)⟩ dX12_law_21

theorem dX12_hummed_0 : decode cX12_hummed 0 = .ok (.iload_n 1, 1) := by decide +kernel
theorem dX12_hummed_1 : decode cX12_hummed 1 = .ok (.i2l, 1) := by decide +kernel
theorem dX12_hummed_2 : decode cX12_hummed 2 = .ok (.lconst 1, 1) := by decide +kernel
theorem dX12_hummed_3 : decode cX12_hummed 3 = .ok (.ldc2_w 587, 3) := by decide +kernel
theorem dX12_hummed_6 : decode cX12_hummed 6 = .ok (.invokestatic 190, 3) := by decide +kernel
theorem dX12_hummed_9 : decode cX12_hummed 9 = .ok (.ifCond .eq 33, 3) := by decide +kernel
theorem dX12_hummed_12 : decode cX12_hummed 12 = .ok (.iload_n 2, 1) := by decide +kernel
theorem dX12_hummed_13 : decode cX12_hummed 13 = .ok (.i2l, 1) := by decide +kernel
theorem dX12_hummed_14 : decode cX12_hummed 14 = .ok (.lconst 1, 1) := by decide +kernel
theorem dX12_hummed_15 : decode cX12_hummed 15 = .ok (.ldc2_w 202, 3) := by decide +kernel
theorem dX12_hummed_18 : decode cX12_hummed 18 = .ok (.invokestatic 190, 3) := by decide +kernel
theorem dX12_hummed_21 : decode cX12_hummed 21 = .ok (.ifCond .eq 21, 3) := by decide +kernel
theorem dX12_hummed_24 : decode cX12_hummed 24 = .ok (.iload_n 3, 1) := by decide +kernel
theorem dX12_hummed_25 : decode cX12_hummed 25 = .ok (.i2l, 1) := by decide +kernel
theorem dX12_hummed_26 : decode cX12_hummed 26 = .ok (.lconst 0, 1) := by decide +kernel
theorem dX12_hummed_27 : decode cX12_hummed 27 = .ok (.lconst 1, 1) := by decide +kernel
theorem dX12_hummed_28 : decode cX12_hummed 28 = .ok (.invokestatic 190, 3) := by decide +kernel
theorem dX12_hummed_31 : decode cX12_hummed 31 = .ok (.ifCond .eq 11, 3) := by decide +kernel
theorem dX12_hummed_34 : decode cX12_hummed 34 = .ok (.iload_n 1, 1) := by decide +kernel
theorem dX12_hummed_35 : decode cX12_hummed 35 = .ok (.aload_n 0, 1) := by decide +kernel
theorem dX12_hummed_36 : decode cX12_hummed 36 = .ok (.getfield 166, 3) := by decide +kernel
theorem dX12_hummed_39 : decode cX12_hummed 39 = .ok (.if_icmp .le 5, 3) := by decide +kernel
theorem dX12_hummed_42 : decode cX12_hummed 42 = .ok (.iconst (-1), 1) := by decide +kernel
theorem dX12_hummed_43 : decode cX12_hummed 43 = .ok (.ireturn, 1) := by decide +kernel
set_option maxRecDepth 100000 in
set_option maxHeartbeats 4000000 in
theorem p_X12_hummed (l : Launch) (D : va_G) (cA : Nat → ClassId) (ad : Nat → Nat) (g0 : Nat → va_E) (a b c : Int32) (hSh : Shp ad cA g0) (hF : (∀ i k, 129 ≤ i → fld g0 i k = fld (gF ad cA) i k) ∧ ∀ i, 129 ≤ i → arI g0 i = arI (gF ad cA) i) : CT l NN ad cA D yX12_hummed cX12_hummed 9 (some FieldType.int) (1, 25) [.ref (ad 129), .int a, .int b, .int c] g0 (fun v g' => ∃ r : Int32, v = some (.int r) ∧ Shp ad cA g' ∧ FR (fun i _ => 129 ≤ i) g0 g' ∧ (r.toInt = -1)) := by
  refine q_enterI (by decide) (Nat.le_of_ble_eq_true rfl) rfl (fun K H locs ls _ _ hM hW0 hR hC hE hl => ?_)
  have hl : lv_has ls 9 [(0, .ref (ad 129)), (1, .int a), (2, .int b), (3, .int c)] := hl
  have hW : WS ad cA (fun i k => False) g0 K g0 H locs := ⟨hW0, hSh, FR.rf⟩
  have := kc_0
  refine q_iload_n hM dX12_hummed_0 (lv_at hl 1 rfl) ?_
  refine q_i2l hM dX12_hummed_1 ?_
  have := l_i2l a
  refine q_lconst (v := 1) hM dX12_hummed_2 (by decide) ?_
  have := kl_1
  refine q_ldc2 (v := 6) hM (kAW (v_7_3 (List.mem_of_getElem? (i := 6) rfl)) rfl) dX12_hummed_3 ?_
  have := kl_6
  refine q_callS (As := [.long a.toInt64, .long (1 : Int64), .long (6 : Int64)]) (rest := []) hM hW.1 hR hC myX12_lies (kAW (v_5_4 (List.mem_of_getElem? (i := 14) rfl)) rfl) (c_X12_lies _ _ cA ad g0 a.toInt64 (1 : Int64) (6 : Int64) hW.2.1) ⟨by decide, by decide⟩ rfl rfl hl.1 (Nat.le_of_ble_eq_true rfl) dX12_hummed_6 (fun v g797 H locs hp hW1 => ?_)
  obtain ⟨r796, rfl, hr796, rfl⟩ := hp
  have hW : WS ad cA (fun i k => False) g0 K g0 H locs := ⟨hW1, hW.2.1, hW.2.2⟩
  refine q_if_eq (tgt := 42) hM dX12_hummed_9 (by decide) (rfl : r796.toInt = r796.toInt) (fun h9 => ?_) (fun h9 => ?_)
  · refine q_iconst (v := ((-1) : Int32)) hM dX12_hummed_42 (by decide) ?_
    exact hE _ _ _ _ _ _ hW.1 ⟨_, rfl, hW.2.1, FR.wk hW.2.2 (fun _ _ h => h.elim), (by have := kc_m1; omega)⟩ dX12_hummed_43
  · refine q_iload_n hM dX12_hummed_12 (lv_at hl 2 rfl) ?_
    refine q_i2l hM dX12_hummed_13 ?_
    have := l_i2l b
    refine q_lconst (v := 1) hM dX12_hummed_14 (by decide) ?_
    have := kl_1
    refine q_ldc2 (v := 9) hM (kAW (v_5_5 (List.mem_of_getElem? (i := 10) rfl)) rfl) dX12_hummed_15 ?_
    have := kl_9
    refine q_callS (As := [.long b.toInt64, .long (1 : Int64), .long (9 : Int64)]) (rest := []) hM hW.1 hR hC myX12_lies (kAW (v_5_4 (List.mem_of_getElem? (i := 14) rfl)) rfl) (c_X12_lies _ _ cA ad g0 b.toInt64 (1 : Int64) (9 : Int64) hW.2.1) ⟨by decide, by decide⟩ rfl rfl hl.1 (Nat.le_of_ble_eq_true rfl) dX12_hummed_18 (fun v g799 H locs hp hW1 => ?_)
    obtain ⟨r798, rfl, hr798, rfl⟩ := hp
    have hW : WS ad cA (fun i k => False) g0 K g0 H locs := ⟨hW1, hW.2.1, hW.2.2⟩
    refine q_if_eq (tgt := 42) hM dX12_hummed_21 (by decide) (rfl : r798.toInt = r798.toInt) (fun h21 => ?_) (fun h21 => ?_)
    · refine q_iconst (v := ((-1) : Int32)) hM dX12_hummed_42 (by decide) ?_
      exact hE _ _ _ _ _ _ hW.1 ⟨_, rfl, hW.2.1, FR.wk hW.2.2 (fun _ _ h => h.elim), (by have := kc_m1; omega)⟩ dX12_hummed_43
    · refine q_iload_n hM dX12_hummed_24 (lv_at hl 3 rfl) ?_
      refine q_i2l hM dX12_hummed_25 ?_
      have := l_i2l c
      refine q_lconst (v := 0) hM dX12_hummed_26 (by decide) ?_
      have := kl_0
      refine q_lconst (v := 1) hM dX12_hummed_27 (by decide) ?_
      have := kl_1
      refine q_callS (As := [.long c.toInt64, .long (0 : Int64), .long (1 : Int64)]) (rest := []) hM hW.1 hR hC myX12_lies (kAW (v_5_4 (List.mem_of_getElem? (i := 14) rfl)) rfl) (c_X12_lies _ _ cA ad g0 c.toInt64 (0 : Int64) (1 : Int64) hW.2.1) ⟨by decide, by decide⟩ rfl rfl hl.1 (Nat.le_of_ble_eq_true rfl) dX12_hummed_28 (fun v g801 H locs hp hW1 => ?_)
      obtain ⟨r800, rfl, hr800, rfl⟩ := hp
      have hW : WS ad cA (fun i k => False) g0 K g0 H locs := ⟨hW1, hW.2.1, hW.2.2⟩
      refine q_if_eq (tgt := 42) hM dX12_hummed_31 (by decide) (rfl : r800.toInt = r800.toInt) (fun h31 => ?_) (fun h31 => ?_)
      · refine q_iconst (v := ((-1) : Int32)) hM dX12_hummed_42 (by decide) ?_
        exact hE _ _ _ _ _ _ hW.1 ⟨_, rfl, hW.2.1, FR.wk hW.2.2 (fun _ _ h => h.elim), (by have := kc_m1; omega)⟩ dX12_hummed_43
      · refine q_iload_n hM dX12_hummed_34 (lv_at hl 1 rfl) ?_
        refine q_aload_n hM dX12_hummed_35 (lv_at hl 0 rfl) ?_
        refine w_get (v := .int (0 : Int32)) hM hW FG_X12_166 lb_129 ((hW.2.2.1 129 1 (fun h => h)).trans ((hF.1 129 1 (by decide)).trans rfl : fld g0 129 1 = .int (0 : Int32))) dX12_hummed_36 ?_
        refine q_icmp_le (tgt := 44) hM dX12_hummed_39 (by decide) (rfl : a.toInt = a.toInt) (kc_0 : (0 : Int32).toInt = 0) (fun h39 => ?_) (fun h39 => ?_)
        · omega
        · refine q_iconst (v := ((-1) : Int32)) hM dX12_hummed_42 (by decide) ?_
          exact hE _ _ _ _ _ _ hW.1 ⟨_, rfl, hW.2.1, FR.wk hW.2.2 (fun _ _ h => h.elim), (by have := kc_m1; omega)⟩ dX12_hummed_43

theorem dX12_weeks_0 : decode cX12_weeks 0 = .ok (.iload_n 1, 1) := by decide +kernel
theorem dX12_weeks_1 : decode cX12_weeks 1 = .ok (.i2l, 1) := by decide +kernel
theorem dX12_weeks_2 : decode cX12_weeks 2 = .ok (.lconst 1, 1) := by decide +kernel
theorem dX12_weeks_3 : decode cX12_weeks 3 = .ok (.ldc2_w 268, 3) := by decide +kernel
theorem dX12_weeks_6 : decode cX12_weeks 6 = .ok (.invokestatic 190, 3) := by decide +kernel
theorem dX12_weeks_9 : decode cX12_weeks 9 = .ok (.ifCond .ne 5, 3) := by decide +kernel
theorem dX12_weeks_12 : decode cX12_weeks 12 = .ok (.iconst (-1), 1) := by decide +kernel
theorem dX12_weeks_13 : decode cX12_weeks 13 = .ok (.ireturn, 1) := by decide +kernel
theorem dX12_weeks_14 : decode cX12_weeks 14 = .ok (.aload_n 0, 1) := by decide +kernel
theorem dX12_weeks_15 : decode cX12_weeks 15 = .ok (.iload_n 1, 1) := by decide +kernel
theorem dX12_weeks_16 : decode cX12_weeks 16 = .ok (.iconst (-1), 1) := by decide +kernel
theorem dX12_weeks_17 : decode cX12_weeks 17 = .ok (.invokevirtual 504, 3) := by decide +kernel
theorem dX12_weeks_20 : decode cX12_weeks 20 = .ok (.aload_n 0, 1) := by decide +kernel
theorem dX12_weeks_21 : decode cX12_weeks 21 = .ok (.getfield 474, 3) := by decide +kernel
theorem dX12_weeks_24 : decode cX12_weeks 24 = .ok (.ireturn, 1) := by decide +kernel
set_option maxRecDepth 100000 in
set_option maxHeartbeats 4000000 in
theorem p_X12_weeks (l : Launch) (D : va_G) (cA : Nat → ClassId) (ad : Nat → Nat) (g0 : Nat → va_E) (a : Int32) (hSh : Shp ad cA g0) (hF : (∀ i k, 129 ≤ i → fld g0 i k = fld (gF ad cA) i k) ∧ ∀ i, 129 ≤ i → arI g0 i = arI (gF ad cA) i) : CT l NN ad cA D yX12_weeks cX12_weeks 2 (some FieldType.int) (2, 46) [.ref (ad 129), .int a] g0 (fun v g' => ∃ r : Int32, v = some (.int r) ∧ Shp ad cA g' ∧ FR (fun i _ => 129 ≤ i) g0 g' ∧ (((1 ≤ a.toInt ∧ a.toInt ≤ 60) ∧ r.toInt = 0) ∨ (¬ (1 ≤ a.toInt ∧ a.toInt ≤ 60) ∧ r.toInt = -1))) := by
  refine q_enterI (by decide) (Nat.le_of_ble_eq_true rfl) rfl (fun K H locs ls _ _ hM hW0 hR hC hE hl => ?_)
  have hl : lv_has ls 2 [(0, .ref (ad 129)), (1, .int a)] := hl
  have hW : WS ad cA (fun i k => (i = 129 ∧ (k = 56 ∨ k = 61 ∨ k = 62 ∨ k = 63 ∨ k = 64 ∨ k = 65 ∨ k = 66))) g0 K g0 H locs := ⟨hW0, hSh, FR.rf⟩
  have := kc_0
  have := kc_m1
  have f802 : fld g0 129 56 = .int (0 : Int32) := ((hF.1 129 56 (by decide)).trans rfl : fld g0 129 56 = .int (0 : Int32))
  have f803 : fld g0 129 61 = .int (0 : Int32) := ((hF.1 129 61 (by decide)).trans rfl : fld g0 129 61 = .int (0 : Int32))
  have f804 : fld g0 129 62 = .int (0 : Int32) := ((hF.1 129 62 (by decide)).trans rfl : fld g0 129 62 = .int (0 : Int32))
  have f805 : fld g0 129 63 = .int (0 : Int32) := ((hF.1 129 63 (by decide)).trans rfl : fld g0 129 63 = .int (0 : Int32))
  have f806 : fld g0 129 64 = .int (0 : Int32) := ((hF.1 129 64 (by decide)).trans rfl : fld g0 129 64 = .int (0 : Int32))
  have f807 : fld g0 129 65 = .int (0 : Int32) := ((hF.1 129 65 (by decide)).trans rfl : fld g0 129 65 = .int (0 : Int32))
  have f808 : fld g0 129 66 = .int (0 : Int32) := ((hF.1 129 66 (by decide)).trans rfl : fld g0 129 66 = .int (0 : Int32))
  refine q_iload_n hM dX12_weeks_0 (lv_at hl 1 rfl) ?_
  refine q_i2l hM dX12_weeks_1 ?_
  have := l_i2l a
  refine q_lconst (v := 1) hM dX12_weeks_2 (by decide) ?_
  have := kl_1
  refine q_ldc2 (v := 60) hM (kAW (v_5_8 (List.mem_of_getElem? (i := 6) rfl)) rfl) dX12_weeks_3 ?_
  have := kl_60
  refine q_callS (As := [.long a.toInt64, .long (1 : Int64), .long (60 : Int64)]) (rest := []) hM hW.1 hR hC myX12_lies (kAW (v_5_4 (List.mem_of_getElem? (i := 14) rfl)) rfl) (c_X12_lies _ _ cA ad g0 a.toInt64 (1 : Int64) (60 : Int64) hW.2.1) ⟨by decide, by decide⟩ rfl rfl hl.1 (Nat.le_of_ble_eq_true rfl) dX12_weeks_6 (fun v g810 H locs hp hW1 => ?_)
  obtain ⟨r809, rfl, hr809, rfl⟩ := hp
  have hW : WS ad cA (fun i k => (i = 129 ∧ (k = 56 ∨ k = 61 ∨ k = 62 ∨ k = 63 ∨ k = 64 ∨ k = 65 ∨ k = 66))) g0 K g0 H locs := ⟨hW1, hW.2.1, hW.2.2⟩
  refine q_if_ne (tgt := 14) hM dX12_weeks_9 (by decide) (rfl : r809.toInt = r809.toInt) (fun h9 => ?_) (fun h9 => ?_)
  · refine q_aload_n hM dX12_weeks_14 (lv_at hl 0 rfl) ?_
    refine q_iload_n hM dX12_weeks_15 (lv_at hl 1 rfl) ?_
    refine q_iconst (v := ((-1) : Int32)) hM dX12_weeks_16 (by decide) ?_
    refine q_callV (As := [.int a, .int ((-1) : Int32)]) (rest := []) hM hW.1 hR hC myX12_go (kAW (v_6_7 (List.mem_of_getElem? (i := 13) rfl)) rfl) (rfl : vwCl[12]? = some (RX12, TX12, 86)) rfl lb_129.1 (shO hW.2.1 lb_129) (c_X12_go _ _ cA ad g0 a (0 : Int32) hW.2.1 ((hW.2.2.2.1 158 (by omega)).trans ((hF.2 158 (by decide)).trans rfl : arI g0 158 = fun _ => 0)) f802 (by have := kc_0; omega) (by omega) (by omega)) ⟨by decide, by decide⟩ rfl rfl hl.1 (Nat.le_of_ble_eq_true rfl) dX12_weeks_17 (fun v g817 H locs hp hW1 => ?_)
    obtain ⟨v811, rfl, hs1, hf1, q812, q813, q814, q815, q816⟩ := hp
    have hW : WS ad cA (fun i k => (i = 129 ∧ (k = 56 ∨ k = 61 ∨ k = 62 ∨ k = 63 ∨ k = 64 ∨ k = 65 ∨ k = 66))) g0 K g817 H locs := ⟨hW1, hs1, hW.2.2.tr hf1 (fun i k h => by omega)⟩
    refine q_aload_n hM dX12_weeks_20 (lv_at hl 0 rfl) ?_
    refine w_get (v := .int (0 : Int32)) hM hW FG_X12_474 lb_129 q812 dX12_weeks_21 ?_
    exact hE _ _ _ _ _ _ hW.1 ⟨_, rfl, hW.2.1, FR.wk hW.2.2 (fun i k h => by omega), (by have := kc_0; omega)⟩ dX12_weeks_24
  · refine q_iconst (v := ((-1) : Int32)) hM dX12_weeks_12 (by decide) ?_
    exact hE _ _ _ _ _ _ hW.1 ⟨_, rfl, hW.2.1, FR.wk hW.2.2 (fun i k h => by omega), (by have := kc_m1; omega)⟩ dX12_weeks_13

theorem dX12_tried_0 : decode cX12_tried 0 = .ok (.aload_n 0, 1) := by decide +kernel
theorem dX12_tried_1 : decode cX12_tried 1 = .ok (.iconst 0, 1) := by decide +kernel
theorem dX12_tried_2 : decode cX12_tried 2 = .ok (.iload_n 1, 1) := by decide +kernel
theorem dX12_tried_3 : decode cX12_tried 3 = .ok (.iload_n 2, 1) := by decide +kernel
theorem dX12_tried_4 : decode cX12_tried 4 = .ok (.invokevirtual 518, 3) := by decide +kernel
theorem dX12_tried_7 : decode cX12_tried 7 = .ok (.ireturn, 1) := by decide +kernel
theorem myX12_triedBy : MI yX12_triedBy cX12_triedBy 5 (some FieldType.int) 3 := ⟨kAW (v_6_10 (List.mem_of_getElem? (i := 0) rfl)) rfl, kAW (v_0_0 (List.mem_of_getElem? (i := 13) rfl)) rfl, kAW (v_6_9 (List.mem_of_getElem? (i := 15) rfl)) rfl, kAW (tp_t5 (List.mem_of_getElem? (i := 4) rfl)) rfl, by decide, by decide, by decide +kernel⟩
set_option maxRecDepth 100000 in
set_option maxHeartbeats 4000000 in
theorem p_X12_tried (l : Launch) (D : va_G) (cA : Nat → ClassId) (ad : Nat → Nat) (g0 : Nat → va_E) (a b : Int32) (hSh : Shp ad cA g0) (hF : (∀ i k, 129 ≤ i → fld g0 i k = fld (gF ad cA) i k) ∧ ∀ i, 129 ≤ i → arI g0 i = arI (gF ad cA) i) : CT l NN ad cA D yX12_tried cX12_tried 3 (some FieldType.int) (3, 70) [.ref (ad 129), .int a, .int b] g0 (fun v g' => ∃ r : Int32, v = some (.int r) ∧ Shp ad cA g' ∧ FR (fun i _ => 129 ≤ i) g0 g' ∧ (((1 ≤ a.toInt ∧ a.toInt ≤ 60 ∧ 0 ≤ b.toInt ∧ b.toInt ≤ 3) ∧ r.toInt = 0) ∨ (¬ (1 ≤ a.toInt ∧ a.toInt ≤ 60 ∧ 0 ≤ b.toInt ∧ b.toInt ≤ 3) ∧ r.toInt = -1))) := by
  refine q_enterI (by decide) (Nat.le_of_ble_eq_true rfl) rfl (fun K H locs ls _ _ hM hW0 hR hC hE hl => ?_)
  have hl : lv_has ls 3 [(0, .ref (ad 129)), (1, .int a), (2, .int b)] := hl
  have hW : WS ad cA (fun i k => (162 ≤ i ∧ i < 170) ∨ (158 ≤ i ∧ i < 162) ∨ (i = 129 ∧ (k = 56 ∨ k = 61 ∨ k = 62 ∨ k = 63 ∨ k = 64 ∨ k = 65 ∨ k = 66 ∨ k = 2 ∨ k = 57 ∨ k = 58 ∨ k = 31))) g0 K g0 H locs := ⟨hW0, hSh, FR.rf⟩
  have f818 : fld g0 129 56 = .int (0 : Int32) := ((hF.1 129 56 (by decide)).trans rfl : fld g0 129 56 = .int (0 : Int32))
  have f819 : fld g0 129 61 = .int (0 : Int32) := ((hF.1 129 61 (by decide)).trans rfl : fld g0 129 61 = .int (0 : Int32))
  have f820 : fld g0 129 62 = .int (0 : Int32) := ((hF.1 129 62 (by decide)).trans rfl : fld g0 129 62 = .int (0 : Int32))
  have f821 : fld g0 129 63 = .int (0 : Int32) := ((hF.1 129 63 (by decide)).trans rfl : fld g0 129 63 = .int (0 : Int32))
  have f822 : fld g0 129 64 = .int (0 : Int32) := ((hF.1 129 64 (by decide)).trans rfl : fld g0 129 64 = .int (0 : Int32))
  have f823 : fld g0 129 65 = .int (0 : Int32) := ((hF.1 129 65 (by decide)).trans rfl : fld g0 129 65 = .int (0 : Int32))
  have f824 : fld g0 129 66 = .int (0 : Int32) := ((hF.1 129 66 (by decide)).trans rfl : fld g0 129 66 = .int (0 : Int32))
  have f825 : fld g0 129 2 = .int (1 : Int32) := ((hF.1 129 2 (by decide)).trans rfl : fld g0 129 2 = .int (1 : Int32))
  have f826 : fld g0 129 57 = .int (0 : Int32) := ((hF.1 129 57 (by decide)).trans rfl : fld g0 129 57 = .int (0 : Int32))
  have f827 : fld g0 129 58 = .int (0 : Int32) := ((hF.1 129 58 (by decide)).trans rfl : fld g0 129 58 = .int (0 : Int32))
  have f828 : fld g0 129 31 = .int (0 : Int32) := ((hF.1 129 31 (by decide)).trans rfl : fld g0 129 31 = .int (0 : Int32))
  refine q_aload_n hM dX12_tried_0 (lv_at hl 0 rfl) ?_
  refine q_iconst (v := (0 : Int32)) hM dX12_tried_1 (by decide) ?_
  refine q_iload_n hM dX12_tried_2 (lv_at hl 1 rfl) ?_
  refine q_iload_n hM dX12_tried_3 (lv_at hl 2 rfl) ?_
  refine q_callV (As := [.int (0 : Int32), .int a, .int b]) (rest := []) hM hW.1 hR hC myX12_triedBy (kAW (v_6_9 (List.mem_of_getElem? (i := 13) rfl)) rfl) (rfl : vwCl[12]? = some (RX12, TX12, 86)) rfl lb_129.1 (shO hW.2.1 lb_129) (c_X12_triedBy _ _ cA ad g0 (0 : Int32) a b hW.2.1 hF) ⟨by decide, by decide⟩ rfl rfl hl.1 (Nat.le_of_ble_eq_true rfl) dX12_tried_4 (fun v g830 H locs hp hW1 => ?_)
  obtain ⟨r829, rfl, hs1, hf1, hr829⟩ := hp
  have hW : WS ad cA (fun i k => (162 ≤ i ∧ i < 170) ∨ (158 ≤ i ∧ i < 162) ∨ (i = 129 ∧ (k = 56 ∨ k = 61 ∨ k = 62 ∨ k = 63 ∨ k = 64 ∨ k = 65 ∨ k = 66 ∨ k = 2 ∨ k = 57 ∨ k = 58 ∨ k = 31))) g0 K g830 H locs := ⟨hW1, hs1, hW.2.2.tr hf1 (fun i k h => by omega)⟩
  exact hE _ _ _ _ _ _ hW.1 ⟨_, rfl, hW.2.1, FR.wk hW.2.2 (fun i k h => by omega), hr829⟩ dX12_tried_7

theorem dX12_other_0 : decode cX12_other 0 = .ok (.aload_n 0, 1) := by decide +kernel
theorem dX12_other_1 : decode cX12_other 1 = .ok (.iconst 1, 1) := by decide +kernel
theorem dX12_other_2 : decode cX12_other 2 = .ok (.iload_n 1, 1) := by decide +kernel
theorem dX12_other_3 : decode cX12_other 3 = .ok (.iload_n 2, 1) := by decide +kernel
theorem dX12_other_4 : decode cX12_other 4 = .ok (.invokevirtual 518, 3) := by decide +kernel
theorem dX12_other_7 : decode cX12_other 7 = .ok (.ireturn, 1) := by decide +kernel
set_option maxRecDepth 100000 in
set_option maxHeartbeats 4000000 in
theorem p_X12_other (l : Launch) (D : va_G) (cA : Nat → ClassId) (ad : Nat → Nat) (g0 : Nat → va_E) (a b : Int32) (hSh : Shp ad cA g0) (hF : (∀ i k, 129 ≤ i → fld g0 i k = fld (gF ad cA) i k) ∧ ∀ i, 129 ≤ i → arI g0 i = arI (gF ad cA) i) : CT l NN ad cA D yX12_other cX12_other 3 (some FieldType.int) (3, 70) [.ref (ad 129), .int a, .int b] g0 (fun v g' => ∃ r : Int32, v = some (.int r) ∧ Shp ad cA g' ∧ FR (fun i _ => 129 ≤ i) g0 g' ∧ (((1 ≤ a.toInt ∧ a.toInt ≤ 60 ∧ 0 ≤ b.toInt ∧ b.toInt ≤ 3) ∧ r.toInt = 0) ∨ (¬ (1 ≤ a.toInt ∧ a.toInt ≤ 60 ∧ 0 ≤ b.toInt ∧ b.toInt ≤ 3) ∧ r.toInt = -1))) := by
  refine q_enterI (by decide) (Nat.le_of_ble_eq_true rfl) rfl (fun K H locs ls _ _ hM hW0 hR hC hE hl => ?_)
  have hl : lv_has ls 3 [(0, .ref (ad 129)), (1, .int a), (2, .int b)] := hl
  have hW : WS ad cA (fun i k => (162 ≤ i ∧ i < 170) ∨ (158 ≤ i ∧ i < 162) ∨ (i = 129 ∧ (k = 56 ∨ k = 61 ∨ k = 62 ∨ k = 63 ∨ k = 64 ∨ k = 65 ∨ k = 66 ∨ k = 2 ∨ k = 57 ∨ k = 58 ∨ k = 31))) g0 K g0 H locs := ⟨hW0, hSh, FR.rf⟩
  have f831 : fld g0 129 56 = .int (0 : Int32) := ((hF.1 129 56 (by decide)).trans rfl : fld g0 129 56 = .int (0 : Int32))
  have f832 : fld g0 129 61 = .int (0 : Int32) := ((hF.1 129 61 (by decide)).trans rfl : fld g0 129 61 = .int (0 : Int32))
  have f833 : fld g0 129 62 = .int (0 : Int32) := ((hF.1 129 62 (by decide)).trans rfl : fld g0 129 62 = .int (0 : Int32))
  have f834 : fld g0 129 63 = .int (0 : Int32) := ((hF.1 129 63 (by decide)).trans rfl : fld g0 129 63 = .int (0 : Int32))
  have f835 : fld g0 129 64 = .int (0 : Int32) := ((hF.1 129 64 (by decide)).trans rfl : fld g0 129 64 = .int (0 : Int32))
  have f836 : fld g0 129 65 = .int (0 : Int32) := ((hF.1 129 65 (by decide)).trans rfl : fld g0 129 65 = .int (0 : Int32))
  have f837 : fld g0 129 66 = .int (0 : Int32) := ((hF.1 129 66 (by decide)).trans rfl : fld g0 129 66 = .int (0 : Int32))
  have f838 : fld g0 129 2 = .int (1 : Int32) := ((hF.1 129 2 (by decide)).trans rfl : fld g0 129 2 = .int (1 : Int32))
  have f839 : fld g0 129 57 = .int (0 : Int32) := ((hF.1 129 57 (by decide)).trans rfl : fld g0 129 57 = .int (0 : Int32))
  have f840 : fld g0 129 58 = .int (0 : Int32) := ((hF.1 129 58 (by decide)).trans rfl : fld g0 129 58 = .int (0 : Int32))
  have f841 : fld g0 129 31 = .int (0 : Int32) := ((hF.1 129 31 (by decide)).trans rfl : fld g0 129 31 = .int (0 : Int32))
  refine q_aload_n hM dX12_other_0 (lv_at hl 0 rfl) ?_
  refine q_iconst (v := (1 : Int32)) hM dX12_other_1 (by decide) ?_
  refine q_iload_n hM dX12_other_2 (lv_at hl 1 rfl) ?_
  refine q_iload_n hM dX12_other_3 (lv_at hl 2 rfl) ?_
  refine q_callV (As := [.int (1 : Int32), .int a, .int b]) (rest := []) hM hW.1 hR hC myX12_triedBy (kAW (v_6_9 (List.mem_of_getElem? (i := 13) rfl)) rfl) (rfl : vwCl[12]? = some (RX12, TX12, 86)) rfl lb_129.1 (shO hW.2.1 lb_129) (c_X12_triedBy _ _ cA ad g0 (1 : Int32) a b hW.2.1 hF) ⟨by decide, by decide⟩ rfl rfl hl.1 (Nat.le_of_ble_eq_true rfl) dX12_other_4 (fun v g843 H locs hp hW1 => ?_)
  obtain ⟨r842, rfl, hs1, hf1, hr842⟩ := hp
  have hW : WS ad cA (fun i k => (162 ≤ i ∧ i < 170) ∨ (158 ≤ i ∧ i < 162) ∨ (i = 129 ∧ (k = 56 ∨ k = 61 ∨ k = 62 ∨ k = 63 ∨ k = 64 ∨ k = 65 ∨ k = 66 ∨ k = 2 ∨ k = 57 ∨ k = 58 ∨ k = 31))) g0 K g843 H locs := ⟨hW1, hs1, hW.2.2.tr hf1 (fun i k h => by omega)⟩
  exact hE _ _ _ _ _ _ hW.1 ⟨_, rfl, hW.2.1, FR.wk hW.2.2 (fun i k h => by omega), hr842⟩ dX12_other_7

theorem dX12_copy_0 : decode cX12_copy 0 = .ok (.iconst 0, 1) := by decide +kernel
theorem dX12_copy_1 : decode cX12_copy 1 = .ok (.istore_n 1, 1) := by decide +kernel
theorem dX12_copy_2 : decode cX12_copy 2 = .ok (.iload_n 1, 1) := by decide +kernel
theorem dX12_copy_3 : decode cX12_copy 3 = .ok (.aload_n 0, 1) := by decide +kernel
theorem dX12_copy_4 : decode cX12_copy 4 = .ok (.getfield 70, 3) := by decide +kernel
theorem dX12_copy_7 : decode cX12_copy 7 = .ok (.iconst 0, 1) := by decide +kernel
theorem dX12_copy_8 : decode cX12_copy 8 = .ok (.iaload, 1) := by decide +kernel
theorem dX12_copy_9 : decode cX12_copy 9 = .ok (.if_icmp .ge 81, 3) := by decide +kernel
theorem dX12_copy_90 : decode cX12_copy 90 = .ok (.iconst 0, 1) := by decide +kernel
theorem dX12_copy_91 : decode cX12_copy 91 = .ok (.istore_n 1, 1) := by decide +kernel
theorem dX12_copy_92 : decode cX12_copy 92 = .ok (.iload_n 1, 1) := by decide +kernel
theorem dX12_copy_93 : decode cX12_copy 93 = .ok (.aload_n 0, 1) := by decide +kernel
theorem dX12_copy_94 : decode cX12_copy 94 = .ok (.getfield 362, 3) := by decide +kernel
theorem dX12_copy_97 : decode cX12_copy 97 = .ok (.if_icmp .ge 41, 3) := by decide +kernel
theorem dX12_copy_138 : decode cX12_copy 138 = .ok (.aload_n 0, 1) := by decide +kernel
theorem dX12_copy_139 : decode cX12_copy 139 = .ok (.getfield 70, 3) := by decide +kernel
theorem dX12_copy_142 : decode cX12_copy 142 = .ok (.iconst 1, 1) := by decide +kernel
theorem dX12_copy_143 : decode cX12_copy 143 = .ok (.aload_n 0, 1) := by decide +kernel
theorem dX12_copy_144 : decode cX12_copy 144 = .ok (.getfield 70, 3) := by decide +kernel
theorem dX12_copy_147 : decode cX12_copy 147 = .ok (.iconst 0, 1) := by decide +kernel
theorem dX12_copy_148 : decode cX12_copy 148 = .ok (.iaload, 1) := by decide +kernel
theorem dX12_copy_149 : decode cX12_copy 149 = .ok (.iastore, 1) := by decide +kernel
theorem dX12_copy_150 : decode cX12_copy 150 = .ok (.aload_n 0, 1) := by decide +kernel
theorem dX12_copy_151 : decode cX12_copy 151 = .ok (.getfield 70, 3) := by decide +kernel
theorem dX12_copy_154 : decode cX12_copy 154 = .ok (.iconst 1, 1) := by decide +kernel
theorem dX12_copy_155 : decode cX12_copy 155 = .ok (.iaload, 1) := by decide +kernel
theorem dX12_copy_156 : decode cX12_copy 156 = .ok (.ireturn, 1) := by decide +kernel
theorem FG_X12_70 : FG RX12 70 12 86 30 := ⟨RX12, TX12, rfl, wX12, by decide, kAW (v_4_4 (List.mem_of_getElem? (i := 11) rfl)) rfl, rfl⟩
theorem FG_X12_362 : FG RX12 362 12 86 32 := ⟨RX12, TX12, rfl, wX12, by decide, kAW (v_4_4 (List.mem_of_getElem? (i := 13) rfl)) rfl, rfl⟩
set_option maxRecDepth 100000 in
set_option maxHeartbeats 4000000 in
theorem p_X12_copy (l : Launch) (D : va_G) (cA : Nat → ClassId) (ad : Nat → Nat) (g0 : Nat → va_E)  (hSh : Shp ad cA g0) (hF : (∀ i k, 129 ≤ i → fld g0 i k = fld (gF ad cA) i k) ∧ ∀ i, 129 ≤ i → arI g0 i = arI (gF ad cA) i) : CT l NN ad cA D yX12_copy cX12_copy 2 (some FieldType.int) (0, 0) [.ref (ad 129)] g0 (fun v g' => ∃ r : Int32, v = some (.int r) ∧ Shp ad cA g' ∧ FR (fun i _ => 129 ≤ i) g0 g' ∧ (r.toInt = 0)) := by
  refine q_enterI (by decide) (Nat.le_of_ble_eq_true rfl) rfl (fun K H locs ls _ _ hM hW0 hR hC hE hl => ?_)
  have hl : lv_has ls 2 [(0, .ref (ad 129))] := hl
  have hW : WS ad cA (fun i k => i = 148) g0 K g0 H locs := ⟨hW0, hSh, FR.rf⟩
  have := kc_0
  have := kc_1
  have hcm : arI g0 148 = fun _ => 0 := (hF.2 148 (by decide)).trans rfl
  refine q_iconst (v := (0 : Int32)) hM dX12_copy_0 (by decide) ?_
  refine q_istore_n (lv9 := [(1, .int (0 : Int32)), (0, .ref (ad 129))]) hM dX12_copy_1 hl (by decide) rfl (fun ls hl => ?_)
  refine q_iload_n hM dX12_copy_2 (lv_at hl 0 rfl) ?_
  refine q_aload_n hM dX12_copy_3 (lv_at hl 1 rfl) ?_
  refine w_get (v := .ref (ad 148)) hM hW FG_X12_70 lb_129 (rf_129_30 hW.2.1) dX12_copy_4 ?_
  refine q_iconst (v := (0 : Int32)) hM dX12_copy_7 (by decide) ?_
  refine w_iald hM hW lb_148 (i_in (by rw [kc_0]; decide) (by rw [kc_0]; decide)) dX12_copy_8 ?_
  refine q_top (fun y844 hy844 => ?_)
  have ky844 : y844.toInt = 0 := by rw [hy844, hcm]; rfl
  refine q_icmp_ge (tgt := 90) hM dX12_copy_9 (by decide) (kc_0 : (0 : Int32).toInt = 0) (ky844 : y844.toInt = 0) (fun h9 => ?_) (fun h9 => ?_)
  · refine q_iconst (v := (0 : Int32)) hM dX12_copy_90 (by decide) ?_
    refine q_istore_n (lv9 := [(1, .int (0 : Int32)), (0, .ref (ad 129))]) hM dX12_copy_91 hl (by decide) rfl (fun ls hl => ?_)
    refine q_iload_n hM dX12_copy_92 (lv_at hl 0 rfl) ?_
    refine q_aload_n hM dX12_copy_93 (lv_at hl 1 rfl) ?_
    refine w_get (v := .int (0 : Int32)) hM hW FG_X12_362 lb_129 ((hW.2.2.1 129 32 (by omega)).trans ((hF.1 129 32 (by decide)).trans rfl : fld g0 129 32 = .int (0 : Int32))) dX12_copy_94 ?_
    refine q_icmp_ge (tgt := 138) hM dX12_copy_97 (by decide) (kc_0 : (0 : Int32).toInt = 0) (kc_0 : (0 : Int32).toInt = 0) (fun h97 => ?_) (fun h97 => ?_)
    · refine q_aload_n hM dX12_copy_138 (lv_at hl 1 rfl) ?_
      refine w_get (v := .ref (ad 148)) hM hW FG_X12_70 lb_129 (rf_129_30 hW.2.1) dX12_copy_139 ?_
      refine q_iconst (v := (1 : Int32)) hM dX12_copy_142 (by decide) ?_
      refine q_aload_n hM dX12_copy_143 (lv_at hl 1 rfl) ?_
      refine w_get (v := .ref (ad 148)) hM hW FG_X12_70 lb_129 (rf_129_30 hW.2.1) dX12_copy_144 ?_
      refine q_iconst (v := (0 : Int32)) hM dX12_copy_147 (by decide) ?_
      refine w_iald hM hW lb_148 (i_in (by rw [kc_0]; decide) (by rw [kc_0]; decide)) dX12_copy_148 ?_
      refine q_top (fun y845 hy845 => ?_)
      have ky845 : y845.toInt = 0 := by rw [hy845, hcm]; rfl
      refine w_iast hM hW lb_148 (by omega) (i_in (by rw [kc_1]; decide) (by rw [kc_1]; decide)) dX12_copy_149 (fun g846 H locs hW e1 e2 => ?_)
      refine q_aload_n hM dX12_copy_150 (lv_at hl 1 rfl) ?_
      refine w_get (v := .ref (ad 148)) hM hW FG_X12_70 lb_129 (rf_129_30 hW.2.1) dX12_copy_151 ?_
      refine q_iconst (v := (1 : Int32)) hM dX12_copy_154 (by decide) ?_
      refine w_iald hM hW lb_148 (i_in (by rw [kc_1]; decide) (by rw [kc_1]; decide)) dX12_copy_155 ?_
      refine q_top (fun y847 hy847 => ?_)
      have ky847 : y847.toInt = 0 := by rw [hy847, e1]; exact (congrArg Int32.toInt pk_us).trans ky845
      exact hE _ _ _ _ _ _ hW.1 ⟨_, rfl, hW.2.1, FR.wk hW.2.2 (fun i k h => by omega), (by have := ky847; omega)⟩ dX12_copy_156
    · omega
  · omega

theorem dX12_root_0 : decode cX12_root 0 = .ok (.bipush (-2), 2) := by decide +kernel
theorem dX12_root_2 : decode cX12_root 2 = .ok (.istore_n 1, 1) := by decide +kernel
theorem dX12_root_3 : decode cX12_root 3 = .ok (.iconst (-1), 1) := by decide +kernel
theorem dX12_root_4 : decode cX12_root 4 = .ok (.istore_n 2, 1) := by decide +kernel
theorem dX12_root_5 : decode cX12_root 5 = .ok (.iconst 0, 1) := by decide +kernel
theorem dX12_root_6 : decode cX12_root 6 = .ok (.istore_n 3, 1) := by decide +kernel
theorem dX12_root_7 : decode cX12_root 7 = .ok (.iload_n 3, 1) := by decide +kernel
theorem dX12_root_8 : decode cX12_root 8 = .ok (.bipush 12, 2) := by decide +kernel
theorem dX12_root_10 : decode cX12_root 10 = .ok (.if_icmp .ge 46, 3) := by decide +kernel
theorem dX12_root_13 : decode cX12_root 13 = .ok (.aload_n 0, 1) := by decide +kernel
theorem dX12_root_14 : decode cX12_root 14 = .ok (.getfield 17, 3) := by decide +kernel
theorem dX12_root_17 : decode cX12_root 17 = .ok (.iload_n 3, 1) := by decide +kernel
theorem dX12_root_18 : decode cX12_root 18 = .ok (.baload, 1) := by decide +kernel
theorem dX12_root_19 : decode cX12_root 19 = .ok (.ifCond .eq 31, 3) := by decide +kernel
theorem dX12_root_50 : decode cX12_root 50 = .ok (.iinc 3 1, 3) := by decide +kernel
theorem dX12_root_53 : decode cX12_root 53 = .ok (.goto (-46), 3) := by decide +kernel
theorem dX12_root_56 : decode cX12_root 56 = .ok (.iload_n 1, 1) := by decide +kernel
theorem dX12_root_57 : decode cX12_root 57 = .ok (.ireturn, 1) := by decide +kernel
set_option maxRecDepth 100000 in
set_option maxHeartbeats 4000000 in
theorem p_X12_root (l : Launch) (D : va_G) (cA : Nat → ClassId) (ad : Nat → Nat) (g0 : Nat → va_E)  (hSh : Shp ad cA g0) (hF : (∀ i k, 129 ≤ i → fld g0 i k = fld (gF ad cA) i k) ∧ ∀ i, 129 ≤ i → arI g0 i = arI (gF ad cA) i) : CT l NN ad cA D yX12_root cX12_root 4 (some FieldType.int) (0, 0) [.ref (ad 129)] g0 (fun v g' => ∃ r : Int32, v = some (.int r) ∧ Shp ad cA g' ∧ FR (fun i _ => 129 ≤ i) g0 g' ∧ (r.toInt = -2)) := by
  refine q_enterI (by decide) (Nat.le_of_ble_eq_true rfl) rfl (fun K H locs ls _ _ hM hW0 hR hC hE hl => ?_)
  have hl : lv_has ls 4 [(0, .ref (ad 129))] := hl
  have hW : WS ad cA (fun i k => False) g0 K g0 H locs := ⟨hW0, hSh, FR.rf⟩
  have := kc_0
  refine q_bipush (v := ((-2) : Int32)) hM dX12_root_0 (by decide) ?_
  refine q_istore_n (lv9 := [(1, .int ((-2) : Int32)), (0, .ref (ad 129))]) hM dX12_root_2 hl (by decide) rfl (fun ls hl => ?_)
  refine q_iconst (v := ((-1) : Int32)) hM dX12_root_3 (by decide) ?_
  refine q_istore_n (lv9 := [(2, .int ((-1) : Int32)), (1, .int ((-2) : Int32)), (0, .ref (ad 129))]) hM dX12_root_4 hl (by decide) rfl (fun ls hl => ?_)
  refine q_iconst (v := (0 : Int32)) hM dX12_root_5 (by decide) ?_
  refine q_istore_n (lv9 := [(3, .int (0 : Int32)), (2, .int ((-1) : Int32)), (1, .int ((-2) : Int32)), (0, .ref (ad 129))]) hM dX12_root_6 hl (by decide) rfl (fun ls hl => ?_)
  have L7 : ∀ (fu7 : Nat) (i : Int32) (H : Heap) (locs : List Loc) (ls : Array Slot), (12 - i.toInt).toNat < fu7 → (0 ≤ i.toInt) → (i.toInt ≤ 12) → lv_has ls 4 [(0, .ref (ad 129)), (1, .int ((-2) : Int32)), (2, .int ((-1) : Int32)), (3, .int i)] → WS ad cA (fun i k => False) g0 K g0 H locs → XX K 0 0 H locs 7 ls [] := by
    intro fu7
    induction fu7 with
    | zero => intro i H locs ls h0; omega
    | succ fu7 ih7 =>
      intro i H locs ls hm7 i7_0 i7_1 hl hW
      refine q_iload_n hM dX12_root_7 (lv_at hl 3 rfl) ?_
      refine q_bipush (v := (12 : Int32)) hM dX12_root_8 (by decide) ?_
      refine q_icmp_ge (tgt := 56) hM dX12_root_10 (by decide) (rfl : i.toInt = i.toInt) (kc_12 : (12 : Int32).toInt = 12) (fun h10 => ?_) (fun h10 => ?_)
      · refine q_iload_n hM dX12_root_56 (lv_at hl 1 rfl) ?_
        exact hE _ _ _ _ _ _ hW.1 ⟨_, rfl, hW.2.1, FR.wk hW.2.2 (fun _ _ h => h.elim), (by have := kc_m2; omega)⟩ dX12_root_57
      · refine q_aload_n hM dX12_root_13 (lv_at hl 0 rfl) ?_
        refine w_get (v := .ref (ad 131)) hM hW FG_X12_17 lb_129 (rf_129_10 hW.2.1) dX12_root_14 ?_
        refine q_iload_n hM dX12_root_17 (lv_at hl 3 rfl) ?_
        refine w_zald hM hW lb_131 (i_in (by omega) (by omega)) dX12_root_18 ?_
        refine q_top (fun y848 hy848 => ?_)
        have ky848 : y848.toInt = 0 := by rw [hy848, ((hW.2.2.2.1 131 (fun h => h)).trans ((hF.2 131 (by decide)).trans rfl : arI g0 131 = fun _ => 0))]; rfl
        refine q_if_eq (tgt := 50) hM dX12_root_19 (by decide) (ky848 : y848.toInt = 0) (fun h19 => ?_) (fun h19 => ?_)
        · refine q_iinc (lv9 := fun z849 => [(3, .int z849), (0, .ref (ad 129)), (1, .int ((-2) : Int32)), (2, .int ((-1) : Int32))]) hM dX12_root_50 hl (kq := 3) rfl (by decide) (fun _ => rfl) (fun z849 ls hz849 hl => ?_)
          have tz849 := i_addT hz849 (rfl : i.toInt = i.toInt) (kc_1 : (Int32.ofInt 1).toInt = 1) (by omega) (by omega)
          refine q_goto (tgt := 7) hM dX12_root_53 (by decide) ?_
          exact ih7 z849 _ _ _ (by omega) (by omega) (by omega) (lv_sub hl [1, 2, 3, 0] rfl) hW
        · omega
  have := kc_0
  exact L7 _ (0 : Int32) _ _ _ (Nat.lt_succ_self _) (by omega) (by omega) (lv_sub hl [3, 2, 1, 0] rfl) hW

theorem dX12_kin_0 : decode cX12_kin 0 = .ok (.iload_n 1, 1) := by decide +kernel
theorem dX12_kin_1 : decode cX12_kin 1 = .ok (.bipush 100, 2) := by decide +kernel
theorem dX12_kin_3 : decode cX12_kin 3 = .ok (.if_icmp .eq 21, 3) := by decide +kernel
theorem dX12_kin_6 : decode cX12_kin 6 = .ok (.aload_n 0, 1) := by decide +kernel
theorem dX12_kin_7 : decode cX12_kin 7 = .ok (.iload_n 1, 1) := by decide +kernel
theorem dX12_kin_8 : decode cX12_kin 8 = .ok (.invokevirtual 198, 3) := by decide +kernel
theorem dX12_kin_11 : decode cX12_kin 11 = .ok (.ifCond .eq 11, 3) := by decide +kernel
theorem dX12_kin_22 : decode cX12_kin 22 = .ok (.iconst (-1), 1) := by decide +kernel
theorem dX12_kin_23 : decode cX12_kin 23 = .ok (.ireturn, 1) := by decide +kernel
theorem dX12_kin_24 : decode cX12_kin 24 = .ok (.iconst 0, 1) := by decide +kernel
theorem dX12_kin_25 : decode cX12_kin 25 = .ok (.istore_n 2, 1) := by decide +kernel
theorem dX12_kin_26 : decode cX12_kin 26 = .ok (.iconst 0, 1) := by decide +kernel
theorem dX12_kin_27 : decode cX12_kin 27 = .ok (.istore_n 3, 1) := by decide +kernel
theorem dX12_kin_28 : decode cX12_kin 28 = .ok (.iload_n 3, 1) := by decide +kernel
theorem dX12_kin_29 : decode cX12_kin 29 = .ok (.bipush 12, 2) := by decide +kernel
theorem dX12_kin_31 : decode cX12_kin 31 = .ok (.if_icmp .ge 40, 3) := by decide +kernel
theorem dX12_kin_34 : decode cX12_kin 34 = .ok (.iload_n 2, 1) := by decide +kernel
theorem dX12_kin_35 : decode cX12_kin 35 = .ok (.aload_n 0, 1) := by decide +kernel
theorem dX12_kin_36 : decode cX12_kin 36 = .ok (.getfield 17, 3) := by decide +kernel
theorem dX12_kin_39 : decode cX12_kin 39 = .ok (.iload_n 3, 1) := by decide +kernel
theorem dX12_kin_40 : decode cX12_kin 40 = .ok (.baload, 1) := by decide +kernel
theorem dX12_kin_41 : decode cX12_kin 41 = .ok (.ifCond .eq 21, 3) := by decide +kernel
theorem dX12_kin_62 : decode cX12_kin 62 = .ok (.iconst 0, 1) := by decide +kernel
theorem dX12_kin_63 : decode cX12_kin 63 = .ok (.iadd, 1) := by decide +kernel
theorem dX12_kin_64 : decode cX12_kin 64 = .ok (.istore_n 2, 1) := by decide +kernel
theorem dX12_kin_65 : decode cX12_kin 65 = .ok (.iinc 3 1, 3) := by decide +kernel
theorem dX12_kin_68 : decode cX12_kin 68 = .ok (.goto (-40), 3) := by decide +kernel
theorem dX12_kin_71 : decode cX12_kin 71 = .ok (.iload_n 2, 1) := by decide +kernel
theorem dX12_kin_72 : decode cX12_kin 72 = .ok (.ireturn, 1) := by decide +kernel
set_option maxRecDepth 100000 in
set_option maxHeartbeats 4000000 in
theorem p_X12_kin (l : Launch) (D : va_G) (cA : Nat → ClassId) (ad : Nat → Nat) (g0 : Nat → va_E) (a : Int32) (hSh : Shp ad cA g0) (hF : (∀ i k, 129 ≤ i → fld g0 i k = fld (gF ad cA) i k) ∧ ∀ i, 129 ≤ i → arI g0 i = arI (gF ad cA) i) : CT l NN ad cA D yX12_kin cX12_kin 4 (some FieldType.int) (2, 46) [.ref (ad 129), .int a] g0 (fun v g' => ∃ r : Int32, v = some (.int r) ∧ Shp ad cA g' ∧ FR (fun i _ => 129 ≤ i) g0 g' ∧ (((a.toInt = 100) ∧ r.toInt = 0) ∨ (¬ (a.toInt = 100) ∧ r.toInt = -1))) := by
  refine q_enterI (by decide) (Nat.le_of_ble_eq_true rfl) rfl (fun K H locs ls _ _ hM hW0 hR hC hE hl => ?_)
  have hl : lv_has ls 4 [(0, .ref (ad 129)), (1, .int a)] := hl
  have hW : WS ad cA (fun i k => False) g0 K g0 H locs := ⟨hW0, hSh, FR.rf⟩
  have := kc_0
  have := kc_100
  have := kc_m1
  refine q_iload_n hM dX12_kin_0 (lv_at hl 1 rfl) ?_
  refine q_bipush (v := (100 : Int32)) hM dX12_kin_1 (by decide) ?_
  refine q_icmp_eq (tgt := 24) hM dX12_kin_3 (by decide) (rfl : a.toInt = a.toInt) (kc_100 : (100 : Int32).toInt = 100) (fun h3 => ?_) (fun h3 => ?_)
  · refine q_iconst (v := (0 : Int32)) hM dX12_kin_24 (by decide) ?_
    refine q_istore_n (lv9 := [(2, .int (0 : Int32)), (0, .ref (ad 129)), (1, .int a)]) hM dX12_kin_25 hl (by decide) rfl (fun ls hl => ?_)
    refine q_iconst (v := (0 : Int32)) hM dX12_kin_26 (by decide) ?_
    refine q_istore_n (lv9 := [(3, .int (0 : Int32)), (2, .int (0 : Int32)), (0, .ref (ad 129)), (1, .int a)]) hM dX12_kin_27 hl (by decide) rfl (fun ls hl => ?_)
    have L28 : ∀ (fu28 : Nat) (cn : Int32) (i : Int32) (H : Heap) (locs : List Loc) (ls : Array Slot), (12 - i.toInt).toNat < fu28 → (0 ≤ i.toInt) → (i.toInt ≤ 12) → (cn.toInt = 0) → lv_has ls 4 [(0, .ref (ad 129)), (1, .int a), (2, .int cn), (3, .int i)] → WS ad cA (fun i k => False) g0 K g0 H locs → XX K 0 0 H locs 28 ls [] := by
      intro fu28
      induction fu28 with
      | zero => intro cn i H locs ls h0; omega
      | succ fu28 ih28 =>
        intro cn i H locs ls hm28 i28_0 i28_1 i28_2 hl hW
        refine q_iload_n hM dX12_kin_28 (lv_at hl 3 rfl) ?_
        refine q_bipush (v := (12 : Int32)) hM dX12_kin_29 (by decide) ?_
        refine q_icmp_ge (tgt := 71) hM dX12_kin_31 (by decide) (rfl : i.toInt = i.toInt) (kc_12 : (12 : Int32).toInt = 12) (fun h31 => ?_) (fun h31 => ?_)
        · refine q_iload_n hM dX12_kin_71 (lv_at hl 2 rfl) ?_
          exact hE _ _ _ _ _ _ hW.1 ⟨_, rfl, hW.2.1, FR.wk hW.2.2 (fun _ _ h => h.elim), (by omega)⟩ dX12_kin_72
        · refine q_iload_n hM dX12_kin_34 (lv_at hl 2 rfl) ?_
          refine q_aload_n hM dX12_kin_35 (lv_at hl 0 rfl) ?_
          refine w_get (v := .ref (ad 131)) hM hW FG_X12_17 lb_129 (rf_129_10 hW.2.1) dX12_kin_36 ?_
          refine q_iload_n hM dX12_kin_39 (lv_at hl 3 rfl) ?_
          refine w_zald hM hW lb_131 (i_in (by omega) (by omega)) dX12_kin_40 ?_
          refine q_top (fun y850 hy850 => ?_)
          have ky850 : y850.toInt = 0 := by rw [hy850, ((hW.2.2.2.1 131 (fun h => h)).trans ((hF.2 131 (by decide)).trans rfl : arI g0 131 = fun _ => 0))]; rfl
          refine q_if_eq (tgt := 62) hM dX12_kin_41 (by decide) (ky850 : y850.toInt = 0) (fun h41 => ?_) (fun h41 => ?_)
          · refine q_iconst (v := (0 : Int32)) hM dX12_kin_62 (by decide) ?_
            refine q_iadd hM dX12_kin_63 (fun z851 hz851 => ?_)
            have tz851 := i_addT hz851 (rfl : cn.toInt = cn.toInt) (kc_0 : (0 : Int32).toInt = 0) (by omega) (by omega)
            refine q_istore_n (lv9 := [(2, .int z851), (0, .ref (ad 129)), (1, .int a), (3, .int i)]) hM dX12_kin_64 hl (by decide) rfl (fun ls hl => ?_)
            refine q_iinc (lv9 := fun z852 => [(3, .int z852), (2, .int z851), (0, .ref (ad 129)), (1, .int a)]) hM dX12_kin_65 hl (kq := 3) rfl (by decide) (fun _ => rfl) (fun z852 ls hz852 hl => ?_)
            have tz852 := i_addT hz852 (rfl : i.toInt = i.toInt) (kc_1 : (Int32.ofInt 1).toInt = 1) (by omega) (by omega)
            refine q_goto (tgt := 28) hM dX12_kin_68 (by decide) ?_
            exact ih28 z851 z852 _ _ _ (by omega) (by omega) (by omega) (by omega) (lv_sub hl [2, 3, 1, 0] rfl) hW
          · omega
    have := kc_0
    have := kc_0
    exact L28 _ (0 : Int32) (0 : Int32) _ _ _ (Nat.lt_succ_self _) (by omega) (by omega) (by omega) (lv_sub hl [2, 3, 1, 0] rfl) hW
  · refine q_aload_n hM dX12_kin_6 (lv_at hl 0 rfl) ?_
    refine q_iload_n hM dX12_kin_7 (lv_at hl 1 rfl) ?_
    refine q_callV (As := [.int a]) (rest := []) hM hW.1 hR hC myX12_isTold (kAW (v_5_5 (List.mem_of_getElem? (i := 6) rfl)) rfl) (rfl : vwCl[12]? = some (RX12, TX12, 86)) rfl lb_129.1 (shO hW.2.1 lb_129) (c_X12_isTold _ _ cA ad g0 a hW.2.1 hF) ⟨by decide, by decide⟩ rfl rfl hl.1 (Nat.le_of_ble_eq_true rfl) dX12_kin_8 (fun v g854 H locs hp hW1 => ?_)
    obtain ⟨r853, rfl, hr853, rfl⟩ := hp
    have hW : WS ad cA (fun i k => False) g0 K g0 H locs := ⟨hW1, hW.2.1, hW.2.2⟩
    refine q_if_eq (tgt := 22) hM dX12_kin_11 (by decide) (hr853 : r853.toInt = 0) (fun h11 => ?_) (fun h11 => ?_)
    · refine q_iconst (v := ((-1) : Int32)) hM dX12_kin_22 (by decide) ?_
      exact hE _ _ _ _ _ _ hW.1 ⟨_, rfl, hW.2.1, FR.wk hW.2.2 (fun _ _ h => h.elim), (by have := kc_m1; omega)⟩ dX12_kin_23
    · omega

theorem dX12_skill_0 : decode cX12_skill 0 = .ok (.iload_n 1, 1) := by decide +kernel
theorem dX12_skill_1 : decode cX12_skill 1 = .ok (.i2l, 1) := by decide +kernel
theorem dX12_skill_2 : decode cX12_skill 2 = .ok (.lconst 0, 1) := by decide +kernel
theorem dX12_skill_3 : decode cX12_skill 3 = .ok (.ldc2_w 573, 3) := by decide +kernel
theorem dX12_skill_6 : decode cX12_skill 6 = .ok (.invokestatic 190, 3) := by decide +kernel
theorem dX12_skill_9 : decode cX12_skill 9 = .ok (.ifCond .eq 27, 3) := by decide +kernel
theorem dX12_skill_12 : decode cX12_skill 12 = .ok (.iload_n 2, 1) := by decide +kernel
theorem dX12_skill_13 : decode cX12_skill 13 = .ok (.i2l, 1) := by decide +kernel
theorem dX12_skill_14 : decode cX12_skill 14 = .ok (.lconst 0, 1) := by decide +kernel
theorem dX12_skill_15 : decode cX12_skill 15 = .ok (.ldc2_w 225, 3) := by decide +kernel
theorem dX12_skill_18 : decode cX12_skill 18 = .ok (.invokestatic 190, 3) := by decide +kernel
theorem dX12_skill_21 : decode cX12_skill 21 = .ok (.ifCond .eq 15, 3) := by decide +kernel
theorem dX12_skill_24 : decode cX12_skill 24 = .ok (.iload_n 3, 1) := by decide +kernel
theorem dX12_skill_25 : decode cX12_skill 25 = .ok (.i2l, 1) := by decide +kernel
theorem dX12_skill_26 : decode cX12_skill 26 = .ok (.lconst 0, 1) := by decide +kernel
theorem dX12_skill_27 : decode cX12_skill 27 = .ok (.ldc2_w 419, 3) := by decide +kernel
theorem dX12_skill_30 : decode cX12_skill 30 = .ok (.invokestatic 190, 3) := by decide +kernel
theorem dX12_skill_33 : decode cX12_skill 33 = .ok (.ifCond .ne 5, 3) := by decide +kernel
theorem dX12_skill_36 : decode cX12_skill 36 = .ok (.iconst 0, 1) := by decide +kernel
theorem dX12_skill_37 : decode cX12_skill 37 = .ok (.ireturn, 1) := by decide +kernel
theorem dX12_skill_38 : decode cX12_skill 38 = .ok (.aload_n 0, 1) := by decide +kernel
theorem dX12_skill_39 : decode cX12_skill 39 = .ok (.getfield 154, 3) := by decide +kernel
theorem dX12_skill_42 : decode cX12_skill 42 = .ok (.iload_n 1, 1) := by decide +kernel
theorem dX12_skill_43 : decode cX12_skill 43 = .ok (.iconst 1, 1) := by decide +kernel
theorem dX12_skill_44 : decode cX12_skill 44 = .ok (.bastore, 1) := by decide +kernel
theorem dX12_skill_45 : decode cX12_skill 45 = .ok (.aload_n 0, 1) := by decide +kernel
theorem dX12_skill_46 : decode cX12_skill 46 = .ok (.getfield 157, 3) := by decide +kernel
theorem dX12_skill_49 : decode cX12_skill 49 = .ok (.bipush 6, 2) := by decide +kernel
theorem dX12_skill_51 : decode cX12_skill 51 = .ok (.iload_n 1, 1) := by decide +kernel
theorem dX12_skill_52 : decode cX12_skill 52 = .ok (.imul, 1) := by decide +kernel
theorem dX12_skill_53 : decode cX12_skill 53 = .ok (.iload_n 2, 1) := by decide +kernel
theorem dX12_skill_54 : decode cX12_skill 54 = .ok (.iadd, 1) := by decide +kernel
theorem dX12_skill_55 : decode cX12_skill 55 = .ok (.iload_n 3, 1) := by decide +kernel
theorem dX12_skill_56 : decode cX12_skill 56 = .ok (.iastore, 1) := by decide +kernel
theorem dX12_skill_57 : decode cX12_skill 57 = .ok (.iconst 1, 1) := by decide +kernel
theorem dX12_skill_58 : decode cX12_skill 58 = .ok (.ireturn, 1) := by decide +kernel
theorem FG_X12_157 : FG RX12 157 12 86 83 := ⟨RX12, TX12, rfl, wX12, by decide, kAW (v_4_8 (List.mem_of_getElem? (i := 0) rfl)) rfl, rfl⟩
set_option maxRecDepth 100000 in
set_option maxHeartbeats 4000000 in
theorem p_X12_skill (l : Launch) (D : va_G) (cA : Nat → ClassId) (ad : Nat → Nat) (g0 : Nat → va_E) (a b c : Int32) (hSh : Shp ad cA g0) (hF : (∀ i k, 129 ≤ i → fld g0 i k = fld (gF ad cA) i k) ∧ ∀ i, 129 ≤ i → arI g0 i = arI (gF ad cA) i) : CT l NN ad cA D yX12_skill cX12_skill 4 (some FieldType.boolean) (1, 25) [.ref (ad 129), .int a, .int b, .int c] g0 (fun v g' => ∃ r : Int32, v = some (.int r) ∧ Shp ad cA g' ∧ FR (fun i _ => 129 ≤ i) g0 g' ∧ ((r.toInt = 1 ∧ 0 ≤ a.toInt ∧ a.toInt ≤ 4 ∧ 0 ≤ b.toInt ∧ b.toInt ≤ 5 ∧ 0 ≤ c.toInt ∧ c.toInt ≤ 99) ∨ (r.toInt = 0 ∧ ¬ (0 ≤ a.toInt ∧ a.toInt ≤ 4 ∧ 0 ≤ b.toInt ∧ b.toInt ≤ 5 ∧ 0 ≤ c.toInt ∧ c.toInt ≤ 99)))) := by
  refine q_enterZ (by decide) (Nat.le_of_ble_eq_true rfl) (fun K H locs ls _ _ hM hW0 hR hC hE hl => ?_)
  have hl : lv_has ls 4 [(0, .ref (ad 129)), (1, .int a), (2, .int b), (3, .int c)] := hl
  have hW : WS ad cA (fun i k => i = 176 ∨ i = 177) g0 K g0 H locs := ⟨hW0, hSh, FR.rf⟩
  have := kc_0
  have := kc_1
  refine q_iload_n hM dX12_skill_0 (lv_at hl 1 rfl) ?_
  refine q_i2l hM dX12_skill_1 ?_
  have := l_i2l a
  refine q_lconst (v := 0) hM dX12_skill_2 (by decide) ?_
  have := kl_0
  refine q_ldc2 (v := 4) hM (kAW (v_7_2 (List.mem_of_getElem? (i := 4) rfl)) rfl) dX12_skill_3 ?_
  have := kl_4
  refine q_callS (As := [.long a.toInt64, .long (0 : Int64), .long (4 : Int64)]) (rest := []) hM hW.1 hR hC myX12_lies (kAW (v_5_4 (List.mem_of_getElem? (i := 14) rfl)) rfl) (c_X12_lies _ _ cA ad g0 a.toInt64 (0 : Int64) (4 : Int64) hW.2.1) ⟨by decide, by decide⟩ rfl rfl hl.1 (Nat.le_of_ble_eq_true rfl) dX12_skill_6 (fun v g856 H locs hp hW1 => ?_)
  obtain ⟨r855, rfl, hr855, rfl⟩ := hp
  have hW : WS ad cA (fun i k => i = 176 ∨ i = 177) g0 K g0 H locs := ⟨hW1, hW.2.1, hW.2.2⟩
  refine q_if_eq (tgt := 36) hM dX12_skill_9 (by decide) (rfl : r855.toInt = r855.toInt) (fun h9 => ?_) (fun h9 => ?_)
  · refine q_iconst (v := (0 : Int32)) hM dX12_skill_36 (by decide) ?_
    exact hE _ _ _ _ _ _ hW.1 nz_0 ⟨_, rfl, hW.2.1, FR.wk hW.2.2 (fun i k h => by omega), (by have := kc_0; omega)⟩ dX12_skill_37
  · refine q_iload_n hM dX12_skill_12 (lv_at hl 2 rfl) ?_
    refine q_i2l hM dX12_skill_13 ?_
    have := l_i2l b
    refine q_lconst (v := 0) hM dX12_skill_14 (by decide) ?_
    have := kl_0
    refine q_ldc2 (v := 5) hM (kAW (v_5_8 (List.mem_of_getElem? (i := 5) rfl)) rfl) dX12_skill_15 ?_
    have := kl_5
    refine q_callS (As := [.long b.toInt64, .long (0 : Int64), .long (5 : Int64)]) (rest := []) hM hW.1 hR hC myX12_lies (kAW (v_5_4 (List.mem_of_getElem? (i := 14) rfl)) rfl) (c_X12_lies _ _ cA ad g0 b.toInt64 (0 : Int64) (5 : Int64) hW.2.1) ⟨by decide, by decide⟩ rfl rfl hl.1 (Nat.le_of_ble_eq_true rfl) dX12_skill_18 (fun v g858 H locs hp hW1 => ?_)
    obtain ⟨r857, rfl, hr857, rfl⟩ := hp
    have hW : WS ad cA (fun i k => i = 176 ∨ i = 177) g0 K g0 H locs := ⟨hW1, hW.2.1, hW.2.2⟩
    refine q_if_eq (tgt := 36) hM dX12_skill_21 (by decide) (rfl : r857.toInt = r857.toInt) (fun h21 => ?_) (fun h21 => ?_)
    · refine q_iconst (v := (0 : Int32)) hM dX12_skill_36 (by decide) ?_
      exact hE _ _ _ _ _ _ hW.1 nz_0 ⟨_, rfl, hW.2.1, FR.wk hW.2.2 (fun i k h => by omega), (by have := kc_0; omega)⟩ dX12_skill_37
    · refine q_iload_n hM dX12_skill_24 (lv_at hl 3 rfl) ?_
      refine q_i2l hM dX12_skill_25 ?_
      have := l_i2l c
      refine q_lconst (v := 0) hM dX12_skill_26 (by decide) ?_
      have := kl_0
      refine q_ldc2 (v := 99) hM (kAW (v_6_2 (List.mem_of_getElem? (i := 4) rfl)) rfl) dX12_skill_27 ?_
      have := kl_99
      refine q_callS (As := [.long c.toInt64, .long (0 : Int64), .long (99 : Int64)]) (rest := []) hM hW.1 hR hC myX12_lies (kAW (v_5_4 (List.mem_of_getElem? (i := 14) rfl)) rfl) (c_X12_lies _ _ cA ad g0 c.toInt64 (0 : Int64) (99 : Int64) hW.2.1) ⟨by decide, by decide⟩ rfl rfl hl.1 (Nat.le_of_ble_eq_true rfl) dX12_skill_30 (fun v g860 H locs hp hW1 => ?_)
      obtain ⟨r859, rfl, hr859, rfl⟩ := hp
      have hW : WS ad cA (fun i k => i = 176 ∨ i = 177) g0 K g0 H locs := ⟨hW1, hW.2.1, hW.2.2⟩
      refine q_if_ne (tgt := 38) hM dX12_skill_33 (by decide) (rfl : r859.toInt = r859.toInt) (fun h33 => ?_) (fun h33 => ?_)
      · refine q_aload_n hM dX12_skill_38 (lv_at hl 0 rfl) ?_
        refine w_get (v := .ref (ad 176)) hM hW FG_X12_154 lb_129 (rf_129_82 hW.2.1) dX12_skill_39 ?_
        refine q_iload_n hM dX12_skill_42 (lv_at hl 1 rfl) ?_
        refine q_iconst (v := (1 : Int32)) hM dX12_skill_43 (by decide) ?_
        refine w_zast hM hW lb_176 (by omega) (i_in (by omega) (by omega)) dX12_skill_44 (fun g861 H locs hW e1 e2 => ?_)
        refine q_aload_n hM dX12_skill_45 (lv_at hl 0 rfl) ?_
        refine w_get (v := .ref (ad 177)) hM hW FG_X12_157 lb_129 (rf_129_83 hW.2.1) dX12_skill_46 ?_
        refine q_bipush (v := (6 : Int32)) hM dX12_skill_49 (by decide) ?_
        refine q_iload_n hM dX12_skill_51 (lv_at hl 1 rfl) ?_
        refine q_imul hM dX12_skill_52 (fun z862 hz862 => ?_)
        have tz862 := i_mulT hz862 (kc_6 : (6 : Int32).toInt = 6) (rfl : a.toInt = a.toInt) (by omega) (by omega)
        refine q_iload_n hM dX12_skill_53 (lv_at hl 2 rfl) ?_
        refine q_iadd hM dX12_skill_54 (fun z863 hz863 => ?_)
        have tz863 := i_addT hz863 (rfl : z862.toInt = z862.toInt) (rfl : b.toInt = b.toInt) (by omega) (by omega)
        refine q_iload_n hM dX12_skill_55 (lv_at hl 3 rfl) ?_
        refine w_iast hM hW lb_177 (by omega) (i_in (by omega) (by omega)) dX12_skill_56 (fun g864 H locs hW e1 e2 => ?_)
        refine q_iconst (v := (1 : Int32)) hM dX12_skill_57 (by decide) ?_
        exact hE _ _ _ _ _ _ hW.1 nz_1 ⟨_, rfl, hW.2.1, FR.wk hW.2.2 (fun i k h => by omega), (by have := kc_1; omega)⟩ dX12_skill_58
      · refine q_iconst (v := (0 : Int32)) hM dX12_skill_36 (by decide) ?_
        exact hE _ _ _ _ _ _ hW.1 nz_0 ⟨_, rfl, hW.2.1, FR.wk hW.2.2 (fun i k h => by omega), (by have := kc_0; omega)⟩ dX12_skill_37

theorem dX12_taught_0 : decode cX12_taught 0 = .ok (.iload_n 1, 1) := by decide +kernel
theorem dX12_taught_1 : decode cX12_taught 1 = .ok (.i2l, 1) := by decide +kernel
theorem dX12_taught_2 : decode cX12_taught 2 = .ok (.lconst 1, 1) := by decide +kernel
theorem dX12_taught_3 : decode cX12_taught 3 = .ok (.ldc2_w 575, 3) := by decide +kernel
theorem dX12_taught_6 : decode cX12_taught 6 = .ok (.invokestatic 190, 3) := by decide +kernel
theorem dX12_taught_9 : decode cX12_taught 9 = .ok (.ifCond .eq 63, 3) := by decide +kernel
theorem dX12_taught_12 : decode cX12_taught 12 = .ok (.iload_n 1, 1) := by decide +kernel
theorem dX12_taught_13 : decode cX12_taught 13 = .ok (.aload_n 0, 1) := by decide +kernel
theorem dX12_taught_14 : decode cX12_taught 14 = .ok (.invokevirtual 577, 3) := by decide +kernel
theorem dX12_taught_17 : decode cX12_taught 17 = .ok (.iconst (-1), 1) := by decide +kernel
theorem dX12_taught_18 : decode cX12_taught 18 = .ok (.ixor, 1) := by decide +kernel
theorem dX12_taught_19 : decode cX12_taught 19 = .ok (.iand, 1) := by decide +kernel
theorem dX12_taught_20 : decode cX12_taught 20 = .ok (.ifCond .ne 52, 3) := by decide +kernel
theorem dX12_taught_72 : decode cX12_taught 72 = .ok (.iconst (-1), 1) := by decide +kernel
theorem dX12_taught_73 : decode cX12_taught 73 = .ok (.ireturn, 1) := by decide +kernel
theorem myX12_toldMasters : MI yX12_toldMasters cX12_toldMasters 3 (some FieldType.int) 0 := ⟨kAW (v_7_2 (List.mem_of_getElem? (i := 13) rfl)) rfl, kAW (v_0_0 (List.mem_of_getElem? (i := 13) rfl)) rfl, kAW (v_7_2 (List.mem_of_getElem? (i := 12) rfl)) rfl, kAW (tp_t6 (List.mem_of_getElem? (i := 6) rfl)) rfl, by decide, by decide, by decide +kernel⟩
set_option maxRecDepth 100000 in
set_option maxHeartbeats 4000000 in
theorem p_X12_taught (l : Launch) (D : va_G) (cA : Nat → ClassId) (ad : Nat → Nat) (g0 : Nat → va_E) (a b c : Int32) (hSh : Shp ad cA g0) (hF : (∀ i k, 129 ≤ i → fld g0 i k = fld (gF ad cA) i k) ∧ ∀ i, 129 ≤ i → arI g0 i = arI (gF ad cA) i) : CT l NN ad cA D yX12_taught cX12_taught 10 (some FieldType.int) (1, 25) [.ref (ad 129), .int a, .int b, .int c] g0 (fun v g' => ∃ r : Int32, v = some (.int r) ∧ Shp ad cA g' ∧ FR (fun i _ => 129 ≤ i) g0 g' ∧ (r.toInt = -1)) := by
  refine q_enterI (by decide) (Nat.le_of_ble_eq_true rfl) rfl (fun K H locs ls _ _ hM hW0 hR hC hE hl => ?_)
  have hl : lv_has ls 10 [(0, .ref (ad 129)), (1, .int a), (2, .int b), (3, .int c)] := hl
  have hW : WS ad cA (fun i k => False) g0 K g0 H locs := ⟨hW0, hSh, FR.rf⟩
  have := kc_0
  refine q_iload_n hM dX12_taught_0 (lv_at hl 1 rfl) ?_
  refine q_i2l hM dX12_taught_1 ?_
  have := l_i2l a
  refine q_lconst (v := 1) hM dX12_taught_2 (by decide) ?_
  have := kl_1
  refine q_ldc2 (v := 31) hM (kAW (v_7_2 (List.mem_of_getElem? (i := 9) rfl)) rfl) dX12_taught_3 ?_
  have := kl_31
  refine q_callS (As := [.long a.toInt64, .long (1 : Int64), .long (31 : Int64)]) (rest := []) hM hW.1 hR hC myX12_lies (kAW (v_5_4 (List.mem_of_getElem? (i := 14) rfl)) rfl) (c_X12_lies _ _ cA ad g0 a.toInt64 (1 : Int64) (31 : Int64) hW.2.1) ⟨by decide, by decide⟩ rfl rfl hl.1 (Nat.le_of_ble_eq_true rfl) dX12_taught_6 (fun v g866 H locs hp hW1 => ?_)
  obtain ⟨r865, rfl, hr865, rfl⟩ := hp
  have hW : WS ad cA (fun i k => False) g0 K g0 H locs := ⟨hW1, hW.2.1, hW.2.2⟩
  refine q_if_eq (tgt := 72) hM dX12_taught_9 (by decide) (rfl : r865.toInt = r865.toInt) (fun h9 => ?_) (fun h9 => ?_)
  · refine q_iconst (v := ((-1) : Int32)) hM dX12_taught_72 (by decide) ?_
    exact hE _ _ _ _ _ _ hW.1 ⟨_, rfl, hW.2.1, FR.wk hW.2.2 (fun _ _ h => h.elim), (by have := kc_m1; omega)⟩ dX12_taught_73
  · refine q_iload_n hM dX12_taught_12 (lv_at hl 1 rfl) ?_
    refine q_aload_n hM dX12_taught_13 (lv_at hl 0 rfl) ?_
    refine q_callV (As := []) (rest := [.int a]) hM hW.1 hR hC myX12_toldMasters (kAW (v_7_2 (List.mem_of_getElem? (i := 10) rfl)) rfl) (rfl : vwCl[12]? = some (RX12, TX12, 86)) rfl lb_129.1 (shO hW.2.1 lb_129) (c_X12_toldMasters _ _ cA ad g0  hW.2.1 hF) ⟨by decide, by decide⟩ rfl rfl hl.1 (Nat.le_of_ble_eq_true rfl) dX12_taught_14 (fun v g868 H locs hp hW1 => ?_)
    obtain ⟨r867, rfl, hr867, rfl⟩ := hp
    have hW : WS ad cA (fun i k => False) g0 K g0 H locs := ⟨hW1, hW.2.1, hW.2.2⟩
    refine q_iconst (v := ((-1) : Int32)) hM dX12_taught_17 (by decide) ?_
    refine q_ixor hM dX12_taught_18 (fun z869 hz869 => ?_)
    refine q_iand hM dX12_taught_19 (fun z870 hz870 => ?_)
    refine q_if_ne (tgt := 72) hM dX12_taught_20 (by decide) (rfl : z870.toInt = z870.toInt) (fun h20 => ?_) (fun h20 => ?_)
    · refine q_iconst (v := ((-1) : Int32)) hM dX12_taught_72 (by decide) ?_
      exact hE _ _ _ _ _ _ hW.1 ⟨_, rfl, hW.2.1, FR.wk hW.2.2 (fun _ _ h => h.elim), (by have := kc_m1; omega)⟩ dX12_taught_73
    · exact (tz0 hr867 hz869 hz870 (by omega) h20).elim

theorem dX12_seed_0 : decode cX12_seed 0 = .ok (.iload_n 1, 1) := by decide +kernel
theorem dX12_seed_1 : decode cX12_seed 1 = .ok (.i2l, 1) := by decide +kernel
theorem dX12_seed_2 : decode cX12_seed 2 = .ok (.lconst 0, 1) := by decide +kernel
theorem dX12_seed_3 : decode cX12_seed 3 = .ok (.ldc2_w 601, 3) := by decide +kernel
theorem dX12_seed_6 : decode cX12_seed 6 = .ok (.invokestatic 190, 3) := by decide +kernel
theorem dX12_seed_9 : decode cX12_seed 9 = .ok (.ifCond .ne 5, 3) := by decide +kernel
theorem dX12_seed_12 : decode cX12_seed 12 = .ok (.iconst 0, 1) := by decide +kernel
theorem dX12_seed_13 : decode cX12_seed 13 = .ok (.ireturn, 1) := by decide +kernel
theorem dX12_seed_14 : decode cX12_seed 14 = .ok (.aload_n 0, 1) := by decide +kernel
theorem dX12_seed_15 : decode cX12_seed 15 = .ok (.iload_n 1, 1) := by decide +kernel
theorem dX12_seed_16 : decode cX12_seed 16 = .ok (.putfield 13, 3) := by decide +kernel
theorem dX12_seed_19 : decode cX12_seed 19 = .ok (.iconst 1, 1) := by decide +kernel
theorem dX12_seed_20 : decode cX12_seed 20 = .ok (.ireturn, 1) := by decide +kernel
set_option maxRecDepth 100000 in
set_option maxHeartbeats 4000000 in
theorem p_X12_seed (l : Launch) (D : va_G) (cA : Nat → ClassId) (ad : Nat → Nat) (g0 : Nat → va_E) (a : Int32) (hSh : Shp ad cA g0) (hF : (∀ i k, 129 ≤ i → fld g0 i k = fld (gF ad cA) i k) ∧ ∀ i, 129 ≤ i → arI g0 i = arI (gF ad cA) i) : CT l NN ad cA D yX12_seed cX12_seed 2 (some FieldType.boolean) (1, 25) [.ref (ad 129), .int a] g0 (fun v g' => ∃ r : Int32, v = some (.int r) ∧ Shp ad cA g' ∧ FR (fun i _ => 129 ≤ i) g0 g' ∧ ((r.toInt = 1 ∧ 0 ≤ a.toInt ∧ a.toInt ≤ 65535) ∨ (r.toInt = 0 ∧ ¬ (0 ≤ a.toInt ∧ a.toInt ≤ 65535)))) := by
  refine q_enterZ (by decide) (Nat.le_of_ble_eq_true rfl) (fun K H locs ls _ _ hM hW0 hR hC hE hl => ?_)
  have hl : lv_has ls 2 [(0, .ref (ad 129)), (1, .int a)] := hl
  have hW : WS ad cA (fun i k => (i = 129 ∧ (k = 2))) g0 K g0 H locs := ⟨hW0, hSh, FR.rf⟩
  have := kc_0
  have := kc_1
  have f871 : fld g0 129 2 = .int (1 : Int32) := ((hF.1 129 2 (by decide)).trans rfl : fld g0 129 2 = .int (1 : Int32))
  refine q_iload_n hM dX12_seed_0 (lv_at hl 1 rfl) ?_
  refine q_i2l hM dX12_seed_1 ?_
  have := l_i2l a
  refine q_lconst (v := 0) hM dX12_seed_2 (by decide) ?_
  have := kl_0
  refine q_ldc2 (v := 65535) hM (kAW (v_7_5 (List.mem_of_getElem? (i := 6) rfl)) rfl) dX12_seed_3 ?_
  have := kl_65535
  refine q_callS (As := [.long a.toInt64, .long (0 : Int64), .long (65535 : Int64)]) (rest := []) hM hW.1 hR hC myX12_lies (kAW (v_5_4 (List.mem_of_getElem? (i := 14) rfl)) rfl) (c_X12_lies _ _ cA ad g0 a.toInt64 (0 : Int64) (65535 : Int64) hW.2.1) ⟨by decide, by decide⟩ rfl rfl hl.1 (Nat.le_of_ble_eq_true rfl) dX12_seed_6 (fun v g873 H locs hp hW1 => ?_)
  obtain ⟨r872, rfl, hr872, rfl⟩ := hp
  have hW : WS ad cA (fun i k => (i = 129 ∧ (k = 2))) g0 K g0 H locs := ⟨hW1, hW.2.1, hW.2.2⟩
  refine q_if_ne (tgt := 14) hM dX12_seed_9 (by decide) (rfl : r872.toInt = r872.toInt) (fun h9 => ?_) (fun h9 => ?_)
  · refine q_aload_n hM dX12_seed_14 (lv_at hl 0 rfl) ?_
    refine q_iload_n hM dX12_seed_15 (lv_at hl 1 rfl) ?_
    refine w_put hM hW FP_X12_13 lb_129 (by omega) (Or.inl ⟨_, rfl⟩) rfl rfl dX12_seed_16 (fun g874 H locs hW e1 e2 => ?_)
    have f875 : fld g874 129 2 = .int a := e1
    refine q_iconst (v := (1 : Int32)) hM dX12_seed_19 (by decide) ?_
    exact hE _ _ _ _ _ _ hW.1 nz_1 ⟨_, rfl, hW.2.1, FR.wk hW.2.2 (fun i k h => by omega), (by have := kc_1; omega)⟩ dX12_seed_20
  · refine q_iconst (v := (0 : Int32)) hM dX12_seed_12 (by decide) ?_
    exact hE _ _ _ _ _ _ hW.1 nz_0 ⟨_, rfl, hW.2.1, FR.wk hW.2.2 (fun i k h => by omega), (by have := kc_0; omega)⟩ dX12_seed_13

theorem dX12_keep_0 : decode cX12_keep 0 = .ok (.aload_n 0, 1) := by decide +kernel
theorem dX12_keep_1 : decode cX12_keep 1 = .ok (.iconst 1, 1) := by decide +kernel
theorem dX12_keep_2 : decode cX12_keep 2 = .ok (.putfield 603, 3) := by decide +kernel
theorem dX12_keep_5 : decode cX12_keep 5 = .ok (.aload_n 0, 1) := by decide +kernel
theorem dX12_keep_6 : decode cX12_keep 6 = .ok (.iconst 1, 1) := by decide +kernel
theorem dX12_keep_7 : decode cX12_keep 7 = .ok (.invokevirtual 509, 3) := by decide +kernel
theorem dX12_keep_10 : decode cX12_keep 10 = .ok (.aload_n 0, 1) := by decide +kernel
theorem dX12_keep_11 : decode cX12_keep 11 = .ok (.getfield 416, 3) := by decide +kernel
theorem dX12_keep_14 : decode cX12_keep 14 = .ok (.ireturn, 1) := by decide +kernel
theorem FP_X12_603 : FPX RX12 603 12 86 75 .boolean := ⟨⟨RX12, TX12, tyX12, rfl, wX12, by decide, kAW (v_4_7 (List.mem_of_getElem? (i := 8) rfl)) rfl, rfl, tyX12_ok, nmX12, by decide +kernel, rfl⟩, by decide +kernel⟩
set_option maxRecDepth 100000 in
set_option maxHeartbeats 4000000 in
theorem p_X12_keep (l : Launch) (D : va_G) (cA : Nat → ClassId) (ad : Nat → Nat) (g0 : Nat → va_E)  (hSh : Shp ad cA g0) (hF : (∀ i k, 129 ≤ i → fld g0 i k = fld (gF ad cA) i k) ∧ ∀ i, 129 ≤ i → arI g0 i = arI (gF ad cA) i) : CT l NN ad cA D yX12_keep cX12_keep 1 (some FieldType.int) (1, 22) [.ref (ad 129)] g0 (fun v g' => ∃ r : Int32, v = some (.int r) ∧ Shp ad cA g' ∧ FR (fun i _ => 129 ≤ i) g0 g' ∧ (r.toInt = 0)) := by
  refine q_enterI (by decide) (Nat.le_of_ble_eq_true rfl) rfl (fun K H locs ls _ _ hM hW0 hR hC hE hl => ?_)
  have hl : lv_has ls 1 [(0, .ref (ad 129))] := hl
  have hW : WS ad cA (fun i k => (i = 129 ∧ (k = 75)) ∨ (162 ≤ i ∧ i < 170)) g0 K g0 H locs := ⟨hW0, hSh, FR.rf⟩
  have := kc_1
  have f876 : fld g0 129 75 = .int (0 : Int32) := ((hF.1 129 75 (by decide)).trans rfl : fld g0 129 75 = .int (0 : Int32))
  refine q_aload_n hM dX12_keep_0 (lv_at hl 0 rfl) ?_
  refine q_iconst (v := (1 : Int32)) hM dX12_keep_1 (by decide) ?_
  refine w_put hM hW FP_X12_603 lb_129 (by omega) (Or.inl ⟨_, rfl⟩) rfl rfl dX12_keep_2 (fun g877 H locs hW e1 e2 => ?_)
  have f878 : fld g877 129 75 = .int (1 : Int32) := e1
  refine q_aload_n hM dX12_keep_5 (lv_at hl 0 rfl) ?_
  refine q_iconst (v := (1 : Int32)) hM dX12_keep_6 (by decide) ?_
  refine q_callV (As := [.int (1 : Int32)]) (rest := []) hM hW.1 hR hC myX12_laysAside (kAW (v_6_10 (List.mem_of_getElem? (i := 2) rfl)) rfl) (rfl : vwCl[12]? = some (RX12, TX12, 86)) rfl lb_129.1 (shO hW.2.1 lb_129) (c_X12_laysAside _ _ cA ad g877 (1 : Int32) hW.2.1 (by have := kc_1; omega) (by have := kc_1; omega)) ⟨by decide, by decide⟩ rfl rfl hl.1 (Nat.le_of_ble_eq_true rfl) dX12_keep_7 (fun v g879 H locs hp hW1 => ?_)
  obtain ⟨rfl, hs1, hf1⟩ := hp
  have f880 : fld g879 129 75 = .int (1 : Int32) := (hf1.1 129 75 (by omega)).trans f878
  have hW : WS ad cA (fun i k => (i = 129 ∧ (k = 75)) ∨ (162 ≤ i ∧ i < 170)) g0 K g879 H locs := ⟨hW1, hs1, hW.2.2.tr hf1 (fun i k h => by omega)⟩
  refine q_aload_n hM dX12_keep_10 (lv_at hl 0 rfl) ?_
  refine w_get (v := .int (0 : Int32)) hM hW FG_X12_416 lb_129 ((hW.2.2.1 129 56 (by omega)).trans ((hF.1 129 56 (by decide)).trans rfl : fld g0 129 56 = .int (0 : Int32))) dX12_keep_11 ?_
  exact hE _ _ _ _ _ _ hW.1 ⟨_, rfl, hW.2.1, FR.wk hW.2.2 (fun i k h => by omega), (by have := kc_0; omega)⟩ dX12_keep_14

theorem dX12_feed_0 : decode cX12_feed 0 = .ok (.aload_n 0, 1) := by decide +kernel
theorem dX12_feed_1 : decode cX12_feed 1 = .ok (.getfield 166, 3) := by decide +kernel
theorem dX12_feed_4 : decode cX12_feed 4 = .ok (.bipush 20, 2) := by decide +kernel
theorem dX12_feed_6 : decode cX12_feed 6 = .ok (.iadd, 1) := by decide +kernel
theorem dX12_feed_7 : decode cX12_feed 7 = .ok (.sipush 260, 3) := by decide +kernel
theorem dX12_feed_10 : decode cX12_feed 10 = .ok (.if_icmp .le 5, 3) := by decide +kernel
theorem dX12_feed_15 : decode cX12_feed 15 = .ok (.aload_n 0, 1) := by decide +kernel
theorem dX12_feed_16 : decode cX12_feed 16 = .ok (.iload_n 1, 1) := by decide +kernel
theorem dX12_feed_17 : decode cX12_feed 17 = .ok (.invokevirtual 169, 3) := by decide +kernel
theorem dX12_feed_20 : decode cX12_feed 20 = .ok (.aload_n 0, 1) := by decide +kernel
theorem dX12_feed_21 : decode cX12_feed 21 = .ok (.iload_n 2, 1) := by decide +kernel
theorem dX12_feed_22 : decode cX12_feed 22 = .ok (.invokevirtual 169, 3) := by decide +kernel
theorem dX12_feed_25 : decode cX12_feed 25 = .ok (.aload_n 0, 1) := by decide +kernel
theorem dX12_feed_26 : decode cX12_feed 26 = .ok (.iload_n 3, 1) := by decide +kernel
theorem dX12_feed_27 : decode cX12_feed 27 = .ok (.invokevirtual 169, 3) := by decide +kernel
theorem dX12_feed_30 : decode cX12_feed 30 = .ok (.aload_n 0, 1) := by decide +kernel
theorem dX12_feed_31 : decode cX12_feed 31 = .ok (.iload 4, 2) := by decide +kernel
theorem dX12_feed_33 : decode cX12_feed 33 = .ok (.invokevirtual 169, 3) := by decide +kernel
theorem dX12_feed_36 : decode cX12_feed 36 = .ok (.aload_n 0, 1) := by decide +kernel
theorem dX12_feed_37 : decode cX12_feed 37 = .ok (.iload 5, 2) := by decide +kernel
theorem dX12_feed_39 : decode cX12_feed 39 = .ok (.invokevirtual 169, 3) := by decide +kernel
theorem dX12_feed_42 : decode cX12_feed 42 = .ok (.aload_n 0, 1) := by decide +kernel
theorem dX12_feed_43 : decode cX12_feed 43 = .ok (.getfield 166, 3) := by decide +kernel
theorem dX12_feed_46 : decode cX12_feed 46 = .ok (.ireturn, 1) := by decide +kernel
theorem myX12_push : MI yX12_push cX12_push 3 none 1 := ⟨kAW (v_5_4 (List.mem_of_getElem? (i := 8) rfl)) rfl, kAW (v_0_0 (List.mem_of_getElem? (i := 13) rfl)) rfl, kAW (v_5_4 (List.mem_of_getElem? (i := 7) rfl)) rfl, kAW (tp_t2 (List.mem_of_getElem? (i := 0) rfl)) rfl, by decide, by decide, by decide +kernel⟩
set_option maxRecDepth 100000 in
set_option maxHeartbeats 4000000 in
theorem p_X12_feed (l : Launch) (D : va_G) (cA : Nat → ClassId) (ad : Nat → Nat) (g0 : Nat → va_E) (a b c d e : Int32) (hSh : Shp ad cA g0) (hF : (∀ i k, 129 ≤ i → fld g0 i k = fld (gF ad cA) i k) ∧ ∀ i, 129 ≤ i → arI g0 i = arI (gF ad cA) i) : CT l NN ad cA D yX12_feed cX12_feed 6 (some FieldType.int) (1, 22) [.ref (ad 129), .int a, .int b, .int c, .int d, .int e] g0 (fun v g' => ∃ r : Int32, v = some (.int r) ∧ Shp ad cA g' ∧ FR (fun i _ => 129 ≤ i) g0 g' ∧ (r.toInt = 20)) := by
  refine q_enterI (by decide) (Nat.le_of_ble_eq_true rfl) rfl (fun K H locs ls _ _ hM hW0 hR hC hE hl => ?_)
  have hl : lv_has ls 6 [(0, .ref (ad 129)), (1, .int a), (2, .int b), (3, .int c), (4, .int d), (5, .int e)] := hl
  have hW : WS ad cA (fun i k => (i = 129 ∧ (k = 1)) ∨ i = 130) g0 K g0 H locs := ⟨hW0, hSh, FR.rf⟩
  have := kc_0
  have := kc_20
  have := kc_260
  have f881 : fld g0 129 1 = .int (0 : Int32) := ((hF.1 129 1 (by decide)).trans rfl : fld g0 129 1 = .int (0 : Int32))
  refine q_aload_n hM dX12_feed_0 (lv_at hl 0 rfl) ?_
  refine w_get (v := .int (0 : Int32)) hM hW FG_X12_166 lb_129 f881 dX12_feed_1 ?_
  refine q_bipush (v := (20 : Int32)) hM dX12_feed_4 (by decide) ?_
  refine q_iadd hM dX12_feed_6 (fun z882 hz882 => ?_)
  have tz882 := i_addT hz882 (kc_0 : (0 : Int32).toInt = 0) (kc_20 : (20 : Int32).toInt = 20) (by omega) (by omega)
  refine q_sipush (v := (260 : Int32)) hM dX12_feed_7 (by decide) ?_
  refine q_icmp_le (tgt := 15) hM dX12_feed_10 (by decide) (rfl : z882.toInt = z882.toInt) (kc_260 : (260 : Int32).toInt = 260) (fun h10 => ?_) (fun h10 => ?_)
  · refine q_aload_n hM dX12_feed_15 (lv_at hl 0 rfl) ?_
    refine q_iload_n hM dX12_feed_16 (lv_at hl 1 rfl) ?_
    refine q_callV (As := [.int a]) (rest := []) hM hW.1 hR hC myX12_push (kAW (v_5_4 (List.mem_of_getElem? (i := 5) rfl)) rfl) (rfl : vwCl[12]? = some (RX12, TX12, 86)) rfl lb_129.1 (shO hW.2.1 lb_129) (c_X12_push _ _ cA ad g0 a (0 : Int32) hW.2.1 f881 (by have := kc_0; omega) (by have := kc_0; omega)) ⟨by decide, by decide⟩ rfl rfl hl.1 (Nat.le_of_ble_eq_true rfl) dX12_feed_17 (fun v g886 H locs hp hW1 => ?_)
    obtain ⟨v883, rfl, hs1, hf1, q884, q885⟩ := hp
    have hW : WS ad cA (fun i k => (i = 129 ∧ (k = 1)) ∨ i = 130) g0 K g886 H locs := ⟨hW1, hs1, hW.2.2.tr hf1 (fun i k h => by omega)⟩
    refine q_aload_n hM dX12_feed_20 (lv_at hl 0 rfl) ?_
    refine q_iload_n hM dX12_feed_21 (lv_at hl 2 rfl) ?_
    refine q_callV (As := [.int b]) (rest := []) hM hW.1 hR hC myX12_push (kAW (v_5_4 (List.mem_of_getElem? (i := 5) rfl)) rfl) (rfl : vwCl[12]? = some (RX12, TX12, 86)) rfl lb_129.1 (shO hW.2.1 lb_129) (c_X12_push _ _ cA ad g886 b v883 hW.2.1 q885 (by have := kc_0; omega) (by have := kc_0; omega)) ⟨by decide, by decide⟩ rfl rfl hl.1 (Nat.le_of_ble_eq_true rfl) dX12_feed_22 (fun v g890 H locs hp hW1 => ?_)
    obtain ⟨v887, rfl, hs1, hf1, q888, q889⟩ := hp
    have hW : WS ad cA (fun i k => (i = 129 ∧ (k = 1)) ∨ i = 130) g0 K g890 H locs := ⟨hW1, hs1, hW.2.2.tr hf1 (fun i k h => by omega)⟩
    refine q_aload_n hM dX12_feed_25 (lv_at hl 0 rfl) ?_
    refine q_iload_n hM dX12_feed_26 (lv_at hl 3 rfl) ?_
    refine q_callV (As := [.int c]) (rest := []) hM hW.1 hR hC myX12_push (kAW (v_5_4 (List.mem_of_getElem? (i := 5) rfl)) rfl) (rfl : vwCl[12]? = some (RX12, TX12, 86)) rfl lb_129.1 (shO hW.2.1 lb_129) (c_X12_push _ _ cA ad g890 c v887 hW.2.1 q889 (by have := kc_0; omega) (by have := kc_0; omega)) ⟨by decide, by decide⟩ rfl rfl hl.1 (Nat.le_of_ble_eq_true rfl) dX12_feed_27 (fun v g894 H locs hp hW1 => ?_)
    obtain ⟨v891, rfl, hs1, hf1, q892, q893⟩ := hp
    have hW : WS ad cA (fun i k => (i = 129 ∧ (k = 1)) ∨ i = 130) g0 K g894 H locs := ⟨hW1, hs1, hW.2.2.tr hf1 (fun i k h => by omega)⟩
    refine q_aload_n hM dX12_feed_30 (lv_at hl 0 rfl) ?_
    refine q_iload hM dX12_feed_31 (lv_at hl 4 rfl) ?_
    refine q_callV (As := [.int d]) (rest := []) hM hW.1 hR hC myX12_push (kAW (v_5_4 (List.mem_of_getElem? (i := 5) rfl)) rfl) (rfl : vwCl[12]? = some (RX12, TX12, 86)) rfl lb_129.1 (shO hW.2.1 lb_129) (c_X12_push _ _ cA ad g894 d v891 hW.2.1 q893 (by have := kc_0; omega) (by have := kc_0; omega)) ⟨by decide, by decide⟩ rfl rfl hl.1 (Nat.le_of_ble_eq_true rfl) dX12_feed_33 (fun v g898 H locs hp hW1 => ?_)
    obtain ⟨v895, rfl, hs1, hf1, q896, q897⟩ := hp
    have hW : WS ad cA (fun i k => (i = 129 ∧ (k = 1)) ∨ i = 130) g0 K g898 H locs := ⟨hW1, hs1, hW.2.2.tr hf1 (fun i k h => by omega)⟩
    refine q_aload_n hM dX12_feed_36 (lv_at hl 0 rfl) ?_
    refine q_iload hM dX12_feed_37 (lv_at hl 5 rfl) ?_
    refine q_callV (As := [.int e]) (rest := []) hM hW.1 hR hC myX12_push (kAW (v_5_4 (List.mem_of_getElem? (i := 5) rfl)) rfl) (rfl : vwCl[12]? = some (RX12, TX12, 86)) rfl lb_129.1 (shO hW.2.1 lb_129) (c_X12_push _ _ cA ad g898 e v895 hW.2.1 q897 (by have := kc_0; omega) (by have := kc_0; omega)) ⟨by decide, by decide⟩ rfl rfl hl.1 (Nat.le_of_ble_eq_true rfl) dX12_feed_39 (fun v g902 H locs hp hW1 => ?_)
    obtain ⟨v899, rfl, hs1, hf1, q900, q901⟩ := hp
    have hW : WS ad cA (fun i k => (i = 129 ∧ (k = 1)) ∨ i = 130) g0 K g902 H locs := ⟨hW1, hs1, hW.2.2.tr hf1 (fun i k h => by omega)⟩
    refine q_aload_n hM dX12_feed_42 (lv_at hl 0 rfl) ?_
    refine w_get (v := .int v899) hM hW FG_X12_166 lb_129 q901 dX12_feed_43 ?_
    exact hE _ _ _ _ _ _ hW.1 ⟨_, rfl, hW.2.1, FR.wk hW.2.2 (fun i k h => by omega), (by omega)⟩ dX12_feed_46
  · omega

theorem dX12_count_0 : decode cX12_count 0 = .ok (.aload_n 0, 1) := by decide +kernel
theorem dX12_count_1 : decode cX12_count 1 = .ok (.iload_n 1, 1) := by decide +kernel
theorem dX12_count_2 : decode cX12_count 2 = .ok (.bipush 20, 2) := by decide +kernel
theorem dX12_count_4 : decode cX12_count 4 = .ok (.isub, 1) := by decide +kernel
theorem dX12_count_5 : decode cX12_count 5 = .ok (.invokevirtual 452, 3) := by decide +kernel
theorem dX12_count_8 : decode cX12_count 8 = .ok (.ifCond .eq 13, 3) := by decide +kernel
theorem dX12_count_21 : decode cX12_count 21 = .ok (.iload_n 1, 1) := by decide +kernel
theorem dX12_count_22 : decode cX12_count 22 = .ok (.bipush 30, 2) := by decide +kernel
theorem dX12_count_24 : decode cX12_count 24 = .ok (.isub, 1) := by decide +kernel
theorem dX12_count_25 : decode cX12_count 25 = .ok (.i2l, 1) := by decide +kernel
theorem dX12_count_26 : decode cX12_count 26 = .ok (.lconst 1, 1) := by decide +kernel
theorem dX12_count_27 : decode cX12_count 27 = .ok (.ldc2_w 202, 3) := by decide +kernel
theorem dX12_count_30 : decode cX12_count 30 = .ok (.invokestatic 190, 3) := by decide +kernel
theorem dX12_count_33 : decode cX12_count 33 = .ok (.ifCond .eq 31, 3) := by decide +kernel
theorem dX12_count_36 : decode cX12_count 36 = .ok (.aload_n 0, 1) := by decide +kernel
theorem dX12_count_37 : decode cX12_count 37 = .ok (.getfield 40, 3) := by decide +kernel
theorem dX12_count_40 : decode cX12_count 40 = .ok (.iload_n 1, 1) := by decide +kernel
theorem dX12_count_41 : decode cX12_count 41 = .ok (.bipush 30, 2) := by decide +kernel
theorem dX12_count_43 : decode cX12_count 43 = .ok (.isub, 1) := by decide +kernel
theorem dX12_count_44 : decode cX12_count 44 = .ok (.iaload, 1) := by decide +kernel
theorem dX12_count_45 : decode cX12_count 45 = .ok (.iconst (-1), 1) := by decide +kernel
theorem dX12_count_46 : decode cX12_count 46 = .ok (.if_icmp .ne 8, 3) := by decide +kernel
theorem dX12_count_49 : decode cX12_count 49 = .ok (.bipush (-2), 2) := by decide +kernel
theorem dX12_count_51 : decode cX12_count 51 = .ok (.goto 12, 3) := by decide +kernel
theorem dX12_count_63 : decode cX12_count 63 = .ok (.ireturn, 1) := by decide +kernel
theorem dX12_count_64 : decode cX12_count 64 = .ok (.aload_n 0, 1) := by decide +kernel
theorem dX12_count_65 : decode cX12_count 65 = .ok (.iload_n 1, 1) := by decide +kernel
theorem dX12_count_66 : decode cX12_count 66 = .ok (.bipush 40, 2) := by decide +kernel
theorem dX12_count_68 : decode cX12_count 68 = .ok (.isub, 1) := by decide +kernel
theorem dX12_count_69 : decode cX12_count 69 = .ok (.invokevirtual 198, 3) := by decide +kernel
theorem dX12_count_72 : decode cX12_count 72 = .ok (.ifCond .eq 13, 3) := by decide +kernel
theorem dX12_count_85 : decode cX12_count 85 = .ok (.iload_n 1, 1) := by decide +kernel
theorem dX12_count_86 : decode cX12_count 86 = .ok (.tableswitch 124 0 11 #[62, 67, 72, 77, 82, 87, 92, 97, 104, 109, 114, 119], 62) := by decide +kernel
theorem dX12_count_148 : decode cX12_count 148 = .ok (.aload_n 0, 1) := by decide +kernel
theorem dX12_count_149 : decode cX12_count 149 = .ok (.getfield 416, 3) := by decide +kernel
theorem dX12_count_152 : decode cX12_count 152 = .ok (.ireturn, 1) := by decide +kernel
theorem dX12_count_153 : decode cX12_count 153 = .ok (.aload_n 0, 1) := by decide +kernel
theorem dX12_count_154 : decode cX12_count 154 = .ok (.getfield 471, 3) := by decide +kernel
theorem dX12_count_157 : decode cX12_count 157 = .ok (.ireturn, 1) := by decide +kernel
theorem dX12_count_158 : decode cX12_count 158 = .ok (.aload_n 0, 1) := by decide +kernel
theorem dX12_count_159 : decode cX12_count 159 = .ok (.getfield 486, 3) := by decide +kernel
theorem dX12_count_162 : decode cX12_count 162 = .ok (.ireturn, 1) := by decide +kernel
theorem dX12_count_163 : decode cX12_count 163 = .ok (.aload_n 0, 1) := by decide +kernel
theorem dX12_count_164 : decode cX12_count 164 = .ok (.invokevirtual 222, 3) := by decide +kernel
theorem dX12_count_167 : decode cX12_count 167 = .ok (.ireturn, 1) := by decide +kernel
theorem dX12_count_168 : decode cX12_count 168 = .ok (.aload_n 0, 1) := by decide +kernel
theorem dX12_count_169 : decode cX12_count 169 = .ok (.invokevirtual 606, 3) := by decide +kernel
theorem dX12_count_172 : decode cX12_count 172 = .ok (.ireturn, 1) := by decide +kernel
theorem dX12_count_173 : decode cX12_count 173 = .ok (.aload_n 0, 1) := by decide +kernel
theorem dX12_count_174 : decode cX12_count 174 = .ok (.invokevirtual 609, 3) := by decide +kernel
theorem dX12_count_177 : decode cX12_count 177 = .ok (.ireturn, 1) := by decide +kernel
theorem dX12_count_178 : decode cX12_count 178 = .ok (.aload_n 0, 1) := by decide +kernel
theorem dX12_count_179 : decode cX12_count 179 = .ok (.invokevirtual 577, 3) := by decide +kernel
theorem dX12_count_182 : decode cX12_count 182 = .ok (.ireturn, 1) := by decide +kernel
theorem dX12_count_183 : decode cX12_count 183 = .ok (.aload_n 0, 1) := by decide +kernel
theorem dX12_count_184 : decode cX12_count 184 = .ok (.getfield 70, 3) := by decide +kernel
theorem dX12_count_187 : decode cX12_count 187 = .ok (.iconst 0, 1) := by decide +kernel
theorem dX12_count_188 : decode cX12_count 188 = .ok (.iaload, 1) := by decide +kernel
theorem dX12_count_189 : decode cX12_count 189 = .ok (.ireturn, 1) := by decide +kernel
theorem dX12_count_190 : decode cX12_count 190 = .ok (.aload_n 0, 1) := by decide +kernel
theorem dX12_count_191 : decode cX12_count 191 = .ok (.getfield 166, 3) := by decide +kernel
theorem dX12_count_194 : decode cX12_count 194 = .ok (.ireturn, 1) := by decide +kernel
theorem dX12_count_195 : decode cX12_count 195 = .ok (.aload_n 0, 1) := by decide +kernel
theorem dX12_count_196 : decode cX12_count 196 = .ok (.getfield 13, 3) := by decide +kernel
theorem dX12_count_199 : decode cX12_count 199 = .ok (.ireturn, 1) := by decide +kernel
theorem dX12_count_200 : decode cX12_count 200 = .ok (.aload_n 0, 1) := by decide +kernel
theorem dX12_count_201 : decode cX12_count 201 = .ok (.getfield 428, 3) := by decide +kernel
theorem dX12_count_204 : decode cX12_count 204 = .ok (.ireturn, 1) := by decide +kernel
theorem dX12_count_205 : decode cX12_count 205 = .ok (.aload_n 0, 1) := by decide +kernel
theorem dX12_count_206 : decode cX12_count 206 = .ok (.getfield 431, 3) := by decide +kernel
theorem dX12_count_209 : decode cX12_count 209 = .ok (.ireturn, 1) := by decide +kernel
theorem dX12_count_210 : decode cX12_count 210 = .ok (.iconst (-1), 1) := by decide +kernel
theorem dX12_count_211 : decode cX12_count 211 = .ok (.ireturn, 1) := by decide +kernel
theorem myX12_isThere : MI yX12_isThere cX12_isThere 2 (some FieldType.boolean) 1 := ⟨kAW (v_6_3 (List.mem_of_getElem? (i := 10) rfl)) rfl, kAW (v_0_0 (List.mem_of_getElem? (i := 13) rfl)) rfl, kAW (v_6_3 (List.mem_of_getElem? (i := 9) rfl)) rfl, kAW (tp_t4 (List.mem_of_getElem? (i := 0) rfl)) rfl, by decide, by decide, by decide +kernel⟩
theorem myX12_toldFacts : MI yX12_toldFacts cX12_toldFacts 3 (some FieldType.int) 0 := ⟨kAW (v_5_8 (List.mem_of_getElem? (i := 0) rfl)) rfl, kAW (v_0_0 (List.mem_of_getElem? (i := 13) rfl)) rfl, kAW (v_5_7 (List.mem_of_getElem? (i := 15) rfl)) rfl, kAW (tp_t2 (List.mem_of_getElem? (i := 5) rfl)) rfl, by decide, by decide, by decide +kernel⟩
theorem myX12_toldPupils : MI yX12_toldPupils cX12_toldPupils 3 (some FieldType.int) 0 := ⟨kAW (v_7_6 (List.mem_of_getElem? (i := 10) rfl)) rfl, kAW (v_0_0 (List.mem_of_getElem? (i := 13) rfl)) rfl, kAW (v_7_6 (List.mem_of_getElem? (i := 9) rfl)) rfl, kAW (tp_t6 (List.mem_of_getElem? (i := 12) rfl)) rfl, by decide, by decide, by decide +kernel⟩
theorem myX12_toldArts : MI yX12_toldArts cX12_toldArts 3 (some FieldType.int) 0 := ⟨kAW (v_7_6 (List.mem_of_getElem? (i := 14) rfl)) rfl, kAW (v_0_0 (List.mem_of_getElem? (i := 13) rfl)) rfl, kAW (v_7_6 (List.mem_of_getElem? (i := 13) rfl)) rfl, kAW (tp_t6 (List.mem_of_getElem? (i := 13) rfl)) rfl, by decide, by decide, by decide +kernel⟩
theorem FG_X12_428 : FG RX12 428 12 86 59 := ⟨RX12, TX12, rfl, wX12, by decide, kAW (v_4_6 (List.mem_of_getElem? (i := 8) rfl)) rfl, rfl⟩
theorem FG_X12_431 : FG RX12 431 12 86 60 := ⟨RX12, TX12, rfl, wX12, by decide, kAW (v_4_6 (List.mem_of_getElem? (i := 9) rfl)) rfl, rfl⟩
set_option maxRecDepth 100000 in
set_option maxHeartbeats 4000000 in
theorem p_X12_count (l : Launch) (D : va_G) (cA : Nat → ClassId) (ad : Nat → Nat) (g0 : Nat → va_E) (a : Int32) (hSh : Shp ad cA g0) (hF : (∀ i k, 129 ≤ i → fld g0 i k = fld (gF ad cA) i k) ∧ ∀ i, 129 ≤ i → arI g0 i = arI (gF ad cA) i) : CT l NN ad cA D yX12_count cX12_count 2 (some FieldType.int) (2, 46) [.ref (ad 129), .int a] g0 (fun v g' => ∃ r : Int32, v = some (.int r) ∧ Shp ad cA g' ∧ FR (fun i _ => 129 ≤ i) g0 g' ∧ ((a.toInt = 9 ∧ r.toInt = 1) ∨ (0 ≤ a.toInt ∧ a.toInt ≤ 11 ∧ a.toInt ≠ 9 ∧ r.toInt = 0) ∨ (31 ≤ a.toInt ∧ a.toInt ≤ 39 ∧ r.toInt = -2) ∨ ((a.toInt < 0 ∨ (11 < a.toInt ∧ a.toInt < 31) ∨ 39 < a.toInt) ∧ r.toInt = -1))) := by
  refine q_enterI (by decide) (Nat.le_of_ble_eq_true rfl) rfl (fun K H locs ls _ _ hM hW0 hR hC hE hl => ?_)
  have hl : lv_has ls 2 [(0, .ref (ad 129)), (1, .int a)] := hl
  have hW : WS ad cA (fun i k => False) g0 K g0 H locs := ⟨hW0, hSh, FR.rf⟩
  have := kc_0
  have := kc_m1
  have := kc_m2
  have := kc_1
  refine q_aload_n hM dX12_count_0 (lv_at hl 0 rfl) ?_
  refine q_iload_n hM dX12_count_1 (lv_at hl 1 rfl) ?_
  refine q_bipush (v := (20 : Int32)) hM dX12_count_2 (by decide) ?_
  refine q_isub hM dX12_count_4 (fun z903 hz903 => ?_)
  refine q_callV (As := [.int z903]) (rest := []) hM hW.1 hR hC myX12_isThere (kAW (v_6_3 (List.mem_of_getElem? (i := 7) rfl)) rfl) (rfl : vwCl[12]? = some (RX12, TX12, 86)) rfl lb_129.1 (shO hW.2.1 lb_129) (c_X12_isThere _ _ cA ad g0 z903 hW.2.1 hF) ⟨by decide, by decide⟩ rfl rfl hl.1 (Nat.le_of_ble_eq_true rfl) dX12_count_5 (fun v g905 H locs hp hW1 => ?_)
  obtain ⟨r904, rfl, hr904, rfl⟩ := hp
  have hW : WS ad cA (fun i k => False) g0 K g0 H locs := ⟨hW1, hW.2.1, hW.2.2⟩
  refine q_if_eq (tgt := 21) hM dX12_count_8 (by decide) (hr904 : r904.toInt = 0) (fun h8 => ?_) (fun h8 => ?_)
  · refine q_iload_n hM dX12_count_21 (lv_at hl 1 rfl) ?_
    refine q_bipush (v := (30 : Int32)) hM dX12_count_22 (by decide) ?_
    refine q_isub hM dX12_count_24 (fun z906 hz906 => ?_)
    have wz906 := i_subW hz906 (rfl : a.toInt = a.toInt) (kc_30 : (30 : Int32).toInt = 30)
    refine q_i2l hM dX12_count_25 ?_
    have := l_i2l z906
    refine q_lconst (v := 1) hM dX12_count_26 (by decide) ?_
    have := kl_1
    refine q_ldc2 (v := 9) hM (kAW (v_5_5 (List.mem_of_getElem? (i := 10) rfl)) rfl) dX12_count_27 ?_
    have := kl_9
    refine q_callS (As := [.long z906.toInt64, .long (1 : Int64), .long (9 : Int64)]) (rest := []) hM hW.1 hR hC myX12_lies (kAW (v_5_4 (List.mem_of_getElem? (i := 14) rfl)) rfl) (c_X12_lies _ _ cA ad g0 z906.toInt64 (1 : Int64) (9 : Int64) hW.2.1) ⟨by decide, by decide⟩ rfl rfl hl.1 (Nat.le_of_ble_eq_true rfl) dX12_count_30 (fun v g908 H locs hp hW1 => ?_)
    obtain ⟨r907, rfl, hr907, rfl⟩ := hp
    have hW : WS ad cA (fun i k => False) g0 K g0 H locs := ⟨hW1, hW.2.1, hW.2.2⟩
    refine q_if_eq (tgt := 64) hM dX12_count_33 (by decide) (rfl : r907.toInt = r907.toInt) (fun h33 => ?_) (fun h33 => ?_)
    · refine q_aload_n hM dX12_count_64 (lv_at hl 0 rfl) ?_
      refine q_iload_n hM dX12_count_65 (lv_at hl 1 rfl) ?_
      refine q_bipush (v := (40 : Int32)) hM dX12_count_66 (by decide) ?_
      refine q_isub hM dX12_count_68 (fun z909 hz909 => ?_)
      refine q_callV (As := [.int z909]) (rest := []) hM hW.1 hR hC myX12_isTold (kAW (v_5_5 (List.mem_of_getElem? (i := 6) rfl)) rfl) (rfl : vwCl[12]? = some (RX12, TX12, 86)) rfl lb_129.1 (shO hW.2.1 lb_129) (c_X12_isTold _ _ cA ad g0 z909 hW.2.1 hF) ⟨by decide, by decide⟩ rfl rfl hl.1 (Nat.le_of_ble_eq_true rfl) dX12_count_69 (fun v g911 H locs hp hW1 => ?_)
      obtain ⟨r910, rfl, hr910, rfl⟩ := hp
      have hW : WS ad cA (fun i k => False) g0 K g0 H locs := ⟨hW1, hW.2.1, hW.2.2⟩
      refine q_if_eq (tgt := 85) hM dX12_count_72 (by decide) (hr910 : r910.toInt = 0) (fun h72 => ?_) (fun h72 => ?_)
      · refine q_iload_n hM dX12_count_85 (lv_at hl 1 rfl) ?_
        rcases (show a.toInt < 0 ∨ 11 < a.toInt ∨ a.toInt = 0 ∨ a.toInt = 1 ∨ a.toInt = 2 ∨ a.toInt = 3 ∨ a.toInt = 4 ∨ a.toInt = 5 ∨ a.toInt = 6 ∨ a.toInt = 7 ∨ a.toInt = 8 ∨ a.toInt = 9 ∨ a.toInt = 10 ∨ a.toInt = 11 from by omega) with h86 | h86 | h86 | h86 | h86 | h86 | h86 | h86 | h86 | h86 | h86 | h86 | h86 | h86
        · refine q_tableOut (tgt := 210) hM dX12_count_86 rfl (by omega) (by decide) ?_
          refine q_iconst (v := ((-1) : Int32)) hM dX12_count_210 (by decide) ?_
          exact hE _ _ _ _ _ _ hW.1 ⟨_, rfl, hW.2.1, FR.wk hW.2.2 (fun _ _ h => h.elim), (by have := kc_m1; omega)⟩ dX12_count_211
        · refine q_tableOut (tgt := 210) hM dX12_count_86 rfl (by omega) (by decide) ?_
          refine q_iconst (v := ((-1) : Int32)) hM dX12_count_210 (by decide) ?_
          exact hE _ _ _ _ _ _ hW.1 ⟨_, rfl, hW.2.1, FR.wk hW.2.2 (fun _ _ h => h.elim), (by have := kc_m1; omega)⟩ dX12_count_211
        · refine q_tableIn (tgt := 148) hM dX12_count_86 ((rfl : a.toInt = _).trans h86) (by decide) (by decide) rfl (by decide) ?_
          refine q_aload_n hM dX12_count_148 (lv_at hl 0 rfl) ?_
          refine w_get (v := .int (0 : Int32)) hM hW FG_X12_416 lb_129 ((hW.2.2.1 129 56 (fun h => h)).trans ((hF.1 129 56 (by decide)).trans rfl : fld g0 129 56 = .int (0 : Int32))) dX12_count_149 ?_
          exact hE _ _ _ _ _ _ hW.1 ⟨_, rfl, hW.2.1, FR.wk hW.2.2 (fun _ _ h => h.elim), (by have := kc_0; omega)⟩ dX12_count_152
        · refine q_tableIn (tgt := 153) hM dX12_count_86 ((rfl : a.toInt = _).trans h86) (by decide) (by decide) rfl (by decide) ?_
          refine q_aload_n hM dX12_count_153 (lv_at hl 0 rfl) ?_
          refine w_get (v := .int (0 : Int32)) hM hW FG_X12_471 lb_129 ((hW.2.2.1 129 57 (fun h => h)).trans ((hF.1 129 57 (by decide)).trans rfl : fld g0 129 57 = .int (0 : Int32))) dX12_count_154 ?_
          exact hE _ _ _ _ _ _ hW.1 ⟨_, rfl, hW.2.1, FR.wk hW.2.2 (fun _ _ h => h.elim), (by have := kc_0; omega)⟩ dX12_count_157
        · refine q_tableIn (tgt := 158) hM dX12_count_86 ((rfl : a.toInt = _).trans h86) (by decide) (by decide) rfl (by decide) ?_
          refine q_aload_n hM dX12_count_158 (lv_at hl 0 rfl) ?_
          refine w_get (v := .int (0 : Int32)) hM hW FG_X12_486 lb_129 ((hW.2.2.1 129 58 (fun h => h)).trans ((hF.1 129 58 (by decide)).trans rfl : fld g0 129 58 = .int (0 : Int32))) dX12_count_159 ?_
          exact hE _ _ _ _ _ _ hW.1 ⟨_, rfl, hW.2.1, FR.wk hW.2.2 (fun _ _ h => h.elim), (by have := kc_0; omega)⟩ dX12_count_162
        · refine q_tableIn (tgt := 163) hM dX12_count_86 ((rfl : a.toInt = _).trans h86) (by decide) (by decide) rfl (by decide) ?_
          refine q_aload_n hM dX12_count_163 (lv_at hl 0 rfl) ?_
          refine q_callV (As := []) (rest := []) hM hW.1 hR hC myX12_toldFacts (kAW (v_5_7 (List.mem_of_getElem? (i := 13) rfl)) rfl) (rfl : vwCl[12]? = some (RX12, TX12, 86)) rfl lb_129.1 (shO hW.2.1 lb_129) (c_X12_toldFacts _ _ cA ad g0  hW.2.1 hF) ⟨by decide, by decide⟩ rfl rfl hl.1 (Nat.le_of_ble_eq_true rfl) dX12_count_164 (fun v g913 H locs hp hW1 => ?_)
          obtain ⟨r912, rfl, hr912, rfl⟩ := hp
          have hW : WS ad cA (fun i k => False) g0 K g0 H locs := ⟨hW1, hW.2.1, hW.2.2⟩
          exact hE _ _ _ _ _ _ hW.1 ⟨_, rfl, hW.2.1, FR.wk hW.2.2 (fun _ _ h => h.elim), (by have := hr912; omega)⟩ dX12_count_167
        · refine q_tableIn (tgt := 168) hM dX12_count_86 ((rfl : a.toInt = _).trans h86) (by decide) (by decide) rfl (by decide) ?_
          refine q_aload_n hM dX12_count_168 (lv_at hl 0 rfl) ?_
          refine q_callV (As := []) (rest := []) hM hW.1 hR hC myX12_toldPupils (kAW (v_7_6 (List.mem_of_getElem? (i := 7) rfl)) rfl) (rfl : vwCl[12]? = some (RX12, TX12, 86)) rfl lb_129.1 (shO hW.2.1 lb_129) (c_X12_toldPupils _ _ cA ad g0  hW.2.1 hF) ⟨by decide, by decide⟩ rfl rfl hl.1 (Nat.le_of_ble_eq_true rfl) dX12_count_169 (fun v g915 H locs hp hW1 => ?_)
          obtain ⟨r914, rfl, hr914, rfl⟩ := hp
          have hW : WS ad cA (fun i k => False) g0 K g0 H locs := ⟨hW1, hW.2.1, hW.2.2⟩
          exact hE _ _ _ _ _ _ hW.1 ⟨_, rfl, hW.2.1, FR.wk hW.2.2 (fun _ _ h => h.elim), (by have := hr914; omega)⟩ dX12_count_172
        · refine q_tableIn (tgt := 173) hM dX12_count_86 ((rfl : a.toInt = _).trans h86) (by decide) (by decide) rfl (by decide) ?_
          refine q_aload_n hM dX12_count_173 (lv_at hl 0 rfl) ?_
          refine q_callV (As := []) (rest := []) hM hW.1 hR hC myX12_toldArts (kAW (v_7_6 (List.mem_of_getElem? (i := 11) rfl)) rfl) (rfl : vwCl[12]? = some (RX12, TX12, 86)) rfl lb_129.1 (shO hW.2.1 lb_129) (c_X12_toldArts _ _ cA ad g0  hW.2.1 hF) ⟨by decide, by decide⟩ rfl rfl hl.1 (Nat.le_of_ble_eq_true rfl) dX12_count_174 (fun v g917 H locs hp hW1 => ?_)
          obtain ⟨r916, rfl, hr916, rfl⟩ := hp
          have hW : WS ad cA (fun i k => False) g0 K g0 H locs := ⟨hW1, hW.2.1, hW.2.2⟩
          exact hE _ _ _ _ _ _ hW.1 ⟨_, rfl, hW.2.1, FR.wk hW.2.2 (fun _ _ h => h.elim), (by have := hr916; omega)⟩ dX12_count_177
        · refine q_tableIn (tgt := 178) hM dX12_count_86 ((rfl : a.toInt = _).trans h86) (by decide) (by decide) rfl (by decide) ?_
          refine q_aload_n hM dX12_count_178 (lv_at hl 0 rfl) ?_
          refine q_callV (As := []) (rest := []) hM hW.1 hR hC myX12_toldMasters (kAW (v_7_2 (List.mem_of_getElem? (i := 10) rfl)) rfl) (rfl : vwCl[12]? = some (RX12, TX12, 86)) rfl lb_129.1 (shO hW.2.1 lb_129) (c_X12_toldMasters _ _ cA ad g0  hW.2.1 hF) ⟨by decide, by decide⟩ rfl rfl hl.1 (Nat.le_of_ble_eq_true rfl) dX12_count_179 (fun v g919 H locs hp hW1 => ?_)
          obtain ⟨r918, rfl, hr918, rfl⟩ := hp
          have hW : WS ad cA (fun i k => False) g0 K g0 H locs := ⟨hW1, hW.2.1, hW.2.2⟩
          exact hE _ _ _ _ _ _ hW.1 ⟨_, rfl, hW.2.1, FR.wk hW.2.2 (fun _ _ h => h.elim), (by have := hr918; omega)⟩ dX12_count_182
        · refine q_tableIn (tgt := 183) hM dX12_count_86 ((rfl : a.toInt = _).trans h86) (by decide) (by decide) rfl (by decide) ?_
          refine q_aload_n hM dX12_count_183 (lv_at hl 0 rfl) ?_
          refine w_get (v := .ref (ad 148)) hM hW FG_X12_70 lb_129 (rf_129_30 hW.2.1) dX12_count_184 ?_
          refine q_iconst (v := (0 : Int32)) hM dX12_count_187 (by decide) ?_
          refine w_iald hM hW lb_148 (i_in (by rw [kc_0]; decide) (by rw [kc_0]; decide)) dX12_count_188 ?_
          refine q_top (fun y920 hy920 => ?_)
          have ky920 : y920.toInt = 0 := by rw [hy920, ((hW.2.2.2.1 148 (fun h => h)).trans ((hF.2 148 (by decide)).trans rfl : arI g0 148 = fun _ => 0))]; rfl
          exact hE _ _ _ _ _ _ hW.1 ⟨_, rfl, hW.2.1, FR.wk hW.2.2 (fun _ _ h => h.elim), (by have := ky920; omega)⟩ dX12_count_189
        · refine q_tableIn (tgt := 190) hM dX12_count_86 ((rfl : a.toInt = _).trans h86) (by decide) (by decide) rfl (by decide) ?_
          refine q_aload_n hM dX12_count_190 (lv_at hl 0 rfl) ?_
          refine w_get (v := .int (0 : Int32)) hM hW FG_X12_166 lb_129 ((hW.2.2.1 129 1 (fun h => h)).trans ((hF.1 129 1 (by decide)).trans rfl : fld g0 129 1 = .int (0 : Int32))) dX12_count_191 ?_
          exact hE _ _ _ _ _ _ hW.1 ⟨_, rfl, hW.2.1, FR.wk hW.2.2 (fun _ _ h => h.elim), (by have := kc_0; omega)⟩ dX12_count_194
        · refine q_tableIn (tgt := 195) hM dX12_count_86 ((rfl : a.toInt = _).trans h86) (by decide) (by decide) rfl (by decide) ?_
          refine q_aload_n hM dX12_count_195 (lv_at hl 0 rfl) ?_
          refine w_get (v := .int (1 : Int32)) hM hW FG_X12_13 lb_129 ((hW.2.2.1 129 2 (fun h => h)).trans ((hF.1 129 2 (by decide)).trans rfl : fld g0 129 2 = .int (1 : Int32))) dX12_count_196 ?_
          exact hE _ _ _ _ _ _ hW.1 ⟨_, rfl, hW.2.1, FR.wk hW.2.2 (fun _ _ h => h.elim), (by have := kc_1; omega)⟩ dX12_count_199
        · refine q_tableIn (tgt := 200) hM dX12_count_86 ((rfl : a.toInt = _).trans h86) (by decide) (by decide) rfl (by decide) ?_
          refine q_aload_n hM dX12_count_200 (lv_at hl 0 rfl) ?_
          refine w_get (v := .int (0 : Int32)) hM hW FG_X12_428 lb_129 ((hW.2.2.1 129 59 (fun h => h)).trans ((hF.1 129 59 (by decide)).trans rfl : fld g0 129 59 = .int (0 : Int32))) dX12_count_201 ?_
          exact hE _ _ _ _ _ _ hW.1 ⟨_, rfl, hW.2.1, FR.wk hW.2.2 (fun _ _ h => h.elim), (by have := kc_0; omega)⟩ dX12_count_204
        · refine q_tableIn (tgt := 205) hM dX12_count_86 ((rfl : a.toInt = _).trans h86) (by decide) (by decide) rfl (by decide) ?_
          refine q_aload_n hM dX12_count_205 (lv_at hl 0 rfl) ?_
          refine w_get (v := .int (0 : Int32)) hM hW FG_X12_431 lb_129 ((hW.2.2.1 129 60 (fun h => h)).trans ((hF.1 129 60 (by decide)).trans rfl : fld g0 129 60 = .int (0 : Int32))) dX12_count_206 ?_
          exact hE _ _ _ _ _ _ hW.1 ⟨_, rfl, hW.2.1, FR.wk hW.2.2 (fun _ _ h => h.elim), (by have := kc_0; omega)⟩ dX12_count_209
      · omega
    · refine q_aload_n hM dX12_count_36 (lv_at hl 0 rfl) ?_
      refine w_get (v := .ref (ad 138)) hM hW FG_X12_40 lb_129 (rf_129_17 hW.2.1) dX12_count_37 ?_
      refine q_iload_n hM dX12_count_40 (lv_at hl 1 rfl) ?_
      refine q_bipush (v := (30 : Int32)) hM dX12_count_41 (by decide) ?_
      refine q_isub hM dX12_count_43 (fun z921 hz921 => ?_)
      have wz921 := i_subW hz921 (rfl : a.toInt = a.toInt) (kc_30 : (30 : Int32).toInt = 30)
      refine w_iald hM hW lb_138 (i_in (by omega) (by omega)) dX12_count_44 ?_
      refine q_top (fun y922 hy922 => ?_)
      have ky922 : y922.toInt = (-1) := by rw [hy922, ((hW.2.2.2.1 138 (fun h => h)).trans ((hF.2 138 (by decide)).trans rfl : arI g0 138 = fun _ => (-1)))]; rfl
      refine q_iconst (v := ((-1) : Int32)) hM dX12_count_45 (by decide) ?_
      refine q_icmp_ne (tgt := 54) hM dX12_count_46 (by decide) (ky922 : y922.toInt = (-1)) (kc_m1 : ((-1) : Int32).toInt = (-1)) (fun h46 => ?_) (fun h46 => ?_)
      · omega
      · refine q_bipush (v := ((-2) : Int32)) hM dX12_count_49 (by decide) ?_
        refine q_goto (tgt := 63) hM dX12_count_51 (by decide) ?_
        exact hE _ _ _ _ _ _ hW.1 ⟨_, rfl, hW.2.1, FR.wk hW.2.2 (fun _ _ h => h.elim), (by have := kc_m2; omega)⟩ dX12_count_63
  · omega

theorem dX12_pupil_0 : decode cX12_pupil 0 = .ok (.iload_n 1, 1) := by decide +kernel
theorem dX12_pupil_1 : decode cX12_pupil 1 = .ok (.i2l, 1) := by decide +kernel
theorem dX12_pupil_2 : decode cX12_pupil 2 = .ok (.lconst 0, 1) := by decide +kernel
theorem dX12_pupil_3 : decode cX12_pupil 3 = .ok (.ldc2_w 411, 3) := by decide +kernel
theorem dX12_pupil_6 : decode cX12_pupil 6 = .ok (.invokestatic 190, 3) := by decide +kernel
theorem dX12_pupil_9 : decode cX12_pupil 9 = .ok (.ifCond .eq 27, 3) := by decide +kernel
theorem dX12_pupil_12 : decode cX12_pupil 12 = .ok (.iload_n 2, 1) := by decide +kernel
theorem dX12_pupil_13 : decode cX12_pupil 13 = .ok (.i2l, 1) := by decide +kernel
theorem dX12_pupil_14 : decode cX12_pupil 14 = .ok (.lconst 1, 1) := by decide +kernel
theorem dX12_pupil_15 : decode cX12_pupil 15 = .ok (.ldc2_w 202, 3) := by decide +kernel
theorem dX12_pupil_18 : decode cX12_pupil 18 = .ok (.invokestatic 190, 3) := by decide +kernel
theorem dX12_pupil_21 : decode cX12_pupil 21 = .ok (.ifCond .eq 15, 3) := by decide +kernel
theorem dX12_pupil_24 : decode cX12_pupil 24 = .ok (.iload_n 3, 1) := by decide +kernel
theorem dX12_pupil_25 : decode cX12_pupil 25 = .ok (.i2l, 1) := by decide +kernel
theorem dX12_pupil_26 : decode cX12_pupil 26 = .ok (.lconst 0, 1) := by decide +kernel
theorem dX12_pupil_27 : decode cX12_pupil 27 = .ok (.ldc2_w 419, 3) := by decide +kernel
theorem dX12_pupil_30 : decode cX12_pupil 30 = .ok (.invokestatic 190, 3) := by decide +kernel
theorem dX12_pupil_33 : decode cX12_pupil 33 = .ok (.ifCond .ne 5, 3) := by decide +kernel
theorem dX12_pupil_36 : decode cX12_pupil 36 = .ok (.iconst 0, 1) := by decide +kernel
theorem dX12_pupil_37 : decode cX12_pupil 37 = .ok (.ireturn, 1) := by decide +kernel
theorem dX12_pupil_38 : decode cX12_pupil 38 = .ok (.aload_n 0, 1) := by decide +kernel
theorem dX12_pupil_39 : decode cX12_pupil 39 = .ok (.getfield 100, 3) := by decide +kernel
theorem dX12_pupil_42 : decode cX12_pupil 42 = .ok (.iload_n 1, 1) := by decide +kernel
theorem dX12_pupil_43 : decode cX12_pupil 43 = .ok (.iconst 1, 1) := by decide +kernel
theorem dX12_pupil_44 : decode cX12_pupil 44 = .ok (.bastore, 1) := by decide +kernel
theorem dX12_pupil_45 : decode cX12_pupil 45 = .ok (.aload_n 0, 1) := by decide +kernel
theorem dX12_pupil_46 : decode cX12_pupil 46 = .ok (.getfield 103, 3) := by decide +kernel
theorem dX12_pupil_49 : decode cX12_pupil 49 = .ok (.iload_n 1, 1) := by decide +kernel
theorem dX12_pupil_50 : decode cX12_pupil 50 = .ok (.iload_n 2, 1) := by decide +kernel
theorem dX12_pupil_51 : decode cX12_pupil 51 = .ok (.iastore, 1) := by decide +kernel
theorem dX12_pupil_52 : decode cX12_pupil 52 = .ok (.aload_n 0, 1) := by decide +kernel
theorem dX12_pupil_53 : decode cX12_pupil 53 = .ok (.getfield 106, 3) := by decide +kernel
theorem dX12_pupil_56 : decode cX12_pupil 56 = .ok (.iload_n 1, 1) := by decide +kernel
theorem dX12_pupil_57 : decode cX12_pupil 57 = .ok (.iload_n 3, 1) := by decide +kernel
theorem dX12_pupil_58 : decode cX12_pupil 58 = .ok (.iastore, 1) := by decide +kernel
theorem dX12_pupil_59 : decode cX12_pupil 59 = .ok (.iconst 0, 1) := by decide +kernel
theorem dX12_pupil_60 : decode cX12_pupil 60 = .ok (.istore 4, 2) := by decide +kernel
theorem dX12_pupil_62 : decode cX12_pupil 62 = .ok (.iload 4, 2) := by decide +kernel
theorem dX12_pupil_64 : decode cX12_pupil 64 = .ok (.bipush 12, 2) := by decide +kernel
theorem dX12_pupil_66 : decode cX12_pupil 66 = .ok (.if_icmp .ge 22, 3) := by decide +kernel
theorem dX12_pupil_69 : decode cX12_pupil 69 = .ok (.aload_n 0, 1) := by decide +kernel
theorem dX12_pupil_70 : decode cX12_pupil 70 = .ok (.getfield 109, 3) := by decide +kernel
theorem dX12_pupil_73 : decode cX12_pupil 73 = .ok (.bipush 12, 2) := by decide +kernel
theorem dX12_pupil_75 : decode cX12_pupil 75 = .ok (.iload_n 1, 1) := by decide +kernel
theorem dX12_pupil_76 : decode cX12_pupil 76 = .ok (.imul, 1) := by decide +kernel
theorem dX12_pupil_77 : decode cX12_pupil 77 = .ok (.iload 4, 2) := by decide +kernel
theorem dX12_pupil_79 : decode cX12_pupil 79 = .ok (.iadd, 1) := by decide +kernel
theorem dX12_pupil_80 : decode cX12_pupil 80 = .ok (.iconst 0, 1) := by decide +kernel
theorem dX12_pupil_81 : decode cX12_pupil 81 = .ok (.iastore, 1) := by decide +kernel
theorem dX12_pupil_82 : decode cX12_pupil 82 = .ok (.iinc 4 1, 3) := by decide +kernel
theorem dX12_pupil_85 : decode cX12_pupil 85 = .ok (.goto (-23), 3) := by decide +kernel
theorem dX12_pupil_88 : decode cX12_pupil 88 = .ok (.iconst 1, 1) := by decide +kernel
theorem dX12_pupil_89 : decode cX12_pupil 89 = .ok (.ireturn, 1) := by decide +kernel
set_option maxRecDepth 100000 in
set_option maxHeartbeats 4000000 in
theorem p_X12_pupil (l : Launch) (D : va_G) (cA : Nat → ClassId) (ad : Nat → Nat) (g0 : Nat → va_E) (a b c : Int32) (hSh : Shp ad cA g0) (hF : (∀ i k, 129 ≤ i → fld g0 i k = fld (gF ad cA) i k) ∧ ∀ i, 129 ≤ i → arI g0 i = arI (gF ad cA) i) : CT l NN ad cA D yX12_pupil cX12_pupil 5 (some FieldType.boolean) (1, 25) [.ref (ad 129), .int a, .int b, .int c] g0 (fun v g' => ∃ r : Int32, v = some (.int r) ∧ Shp ad cA g' ∧ FR (fun i _ => 129 ≤ i) g0 g' ∧ ((r.toInt = 1 ∧ 0 ≤ a.toInt ∧ a.toInt ≤ 7 ∧ 1 ≤ b.toInt ∧ b.toInt ≤ 9 ∧ 0 ≤ c.toInt ∧ c.toInt ≤ 99) ∨ (r.toInt = 0 ∧ ¬ (0 ≤ a.toInt ∧ a.toInt ≤ 7 ∧ 1 ≤ b.toInt ∧ b.toInt ≤ 9 ∧ 0 ≤ c.toInt ∧ c.toInt ≤ 99)))) := by
  refine q_enterZ (by decide) (Nat.le_of_ble_eq_true rfl) (fun K H locs ls _ _ hM hW0 hR hC hE hl => ?_)
  have hl : lv_has ls 5 [(0, .ref (ad 129)), (1, .int a), (2, .int b), (3, .int c)] := hl
  have hW : WS ad cA (fun i k => (158 ≤ i ∧ i < 162)) g0 K g0 H locs := ⟨hW0, hSh, FR.rf⟩
  have := kc_0
  have := kc_1
  refine q_iload_n hM dX12_pupil_0 (lv_at hl 1 rfl) ?_
  refine q_i2l hM dX12_pupil_1 ?_
  have := l_i2l a
  refine q_lconst (v := 0) hM dX12_pupil_2 (by decide) ?_
  have := kl_0
  refine q_ldc2 (v := 7) hM (kAW (v_6_2 (List.mem_of_getElem? (i := 3) rfl)) rfl) dX12_pupil_3 ?_
  have := kl_7
  refine q_callS (As := [.long a.toInt64, .long (0 : Int64), .long (7 : Int64)]) (rest := []) hM hW.1 hR hC myX12_lies (kAW (v_5_4 (List.mem_of_getElem? (i := 14) rfl)) rfl) (c_X12_lies _ _ cA ad g0 a.toInt64 (0 : Int64) (7 : Int64) hW.2.1) ⟨by decide, by decide⟩ rfl rfl hl.1 (Nat.le_of_ble_eq_true rfl) dX12_pupil_6 (fun v g924 H locs hp hW1 => ?_)
  obtain ⟨r923, rfl, hr923, rfl⟩ := hp
  have hW : WS ad cA (fun i k => (158 ≤ i ∧ i < 162)) g0 K g0 H locs := ⟨hW1, hW.2.1, hW.2.2⟩
  refine q_if_eq (tgt := 36) hM dX12_pupil_9 (by decide) (rfl : r923.toInt = r923.toInt) (fun h9 => ?_) (fun h9 => ?_)
  · refine q_iconst (v := (0 : Int32)) hM dX12_pupil_36 (by decide) ?_
    exact hE _ _ _ _ _ _ hW.1 nz_0 ⟨_, rfl, hW.2.1, FR.wk hW.2.2 (fun i k h => by omega), (by have := kc_0; omega)⟩ dX12_pupil_37
  · refine q_iload_n hM dX12_pupil_12 (lv_at hl 2 rfl) ?_
    refine q_i2l hM dX12_pupil_13 ?_
    have := l_i2l b
    refine q_lconst (v := 1) hM dX12_pupil_14 (by decide) ?_
    have := kl_1
    refine q_ldc2 (v := 9) hM (kAW (v_5_5 (List.mem_of_getElem? (i := 10) rfl)) rfl) dX12_pupil_15 ?_
    have := kl_9
    refine q_callS (As := [.long b.toInt64, .long (1 : Int64), .long (9 : Int64)]) (rest := []) hM hW.1 hR hC myX12_lies (kAW (v_5_4 (List.mem_of_getElem? (i := 14) rfl)) rfl) (c_X12_lies _ _ cA ad g0 b.toInt64 (1 : Int64) (9 : Int64) hW.2.1) ⟨by decide, by decide⟩ rfl rfl hl.1 (Nat.le_of_ble_eq_true rfl) dX12_pupil_18 (fun v g926 H locs hp hW1 => ?_)
    obtain ⟨r925, rfl, hr925, rfl⟩ := hp
    have hW : WS ad cA (fun i k => (158 ≤ i ∧ i < 162)) g0 K g0 H locs := ⟨hW1, hW.2.1, hW.2.2⟩
    refine q_if_eq (tgt := 36) hM dX12_pupil_21 (by decide) (rfl : r925.toInt = r925.toInt) (fun h21 => ?_) (fun h21 => ?_)
    · refine q_iconst (v := (0 : Int32)) hM dX12_pupil_36 (by decide) ?_
      exact hE _ _ _ _ _ _ hW.1 nz_0 ⟨_, rfl, hW.2.1, FR.wk hW.2.2 (fun i k h => by omega), (by have := kc_0; omega)⟩ dX12_pupil_37
    · refine q_iload_n hM dX12_pupil_24 (lv_at hl 3 rfl) ?_
      refine q_i2l hM dX12_pupil_25 ?_
      have := l_i2l c
      refine q_lconst (v := 0) hM dX12_pupil_26 (by decide) ?_
      have := kl_0
      refine q_ldc2 (v := 99) hM (kAW (v_6_2 (List.mem_of_getElem? (i := 4) rfl)) rfl) dX12_pupil_27 ?_
      have := kl_99
      refine q_callS (As := [.long c.toInt64, .long (0 : Int64), .long (99 : Int64)]) (rest := []) hM hW.1 hR hC myX12_lies (kAW (v_5_4 (List.mem_of_getElem? (i := 14) rfl)) rfl) (c_X12_lies _ _ cA ad g0 c.toInt64 (0 : Int64) (99 : Int64) hW.2.1) ⟨by decide, by decide⟩ rfl rfl hl.1 (Nat.le_of_ble_eq_true rfl) dX12_pupil_30 (fun v g928 H locs hp hW1 => ?_)
      obtain ⟨r927, rfl, hr927, rfl⟩ := hp
      have hW : WS ad cA (fun i k => (158 ≤ i ∧ i < 162)) g0 K g0 H locs := ⟨hW1, hW.2.1, hW.2.2⟩
      refine q_if_ne (tgt := 38) hM dX12_pupil_33 (by decide) (rfl : r927.toInt = r927.toInt) (fun h33 => ?_) (fun h33 => ?_)
      · refine q_aload_n hM dX12_pupil_38 (lv_at hl 0 rfl) ?_
        refine w_get (v := .ref (ad 158)) hM hW FG_X12_100 lb_129 (rf_129_52 hW.2.1) dX12_pupil_39 ?_
        refine q_iload_n hM dX12_pupil_42 (lv_at hl 1 rfl) ?_
        refine q_iconst (v := (1 : Int32)) hM dX12_pupil_43 (by decide) ?_
        refine w_zast hM hW lb_158 (by omega) (i_in (by omega) (by omega)) dX12_pupil_44 (fun g929 H locs hW e1 e2 => ?_)
        refine q_aload_n hM dX12_pupil_45 (lv_at hl 0 rfl) ?_
        refine w_get (v := .ref (ad 159)) hM hW FG_X12_103 lb_129 (rf_129_53 hW.2.1) dX12_pupil_46 ?_
        refine q_iload_n hM dX12_pupil_49 (lv_at hl 1 rfl) ?_
        refine q_iload_n hM dX12_pupil_50 (lv_at hl 2 rfl) ?_
        refine w_iast hM hW lb_159 (by omega) (i_in (by omega) (by omega)) dX12_pupil_51 (fun g930 H locs hW e1 e2 => ?_)
        refine q_aload_n hM dX12_pupil_52 (lv_at hl 0 rfl) ?_
        refine w_get (v := .ref (ad 160)) hM hW FG_X12_106 lb_129 (rf_129_54 hW.2.1) dX12_pupil_53 ?_
        refine q_iload_n hM dX12_pupil_56 (lv_at hl 1 rfl) ?_
        refine q_iload_n hM dX12_pupil_57 (lv_at hl 3 rfl) ?_
        refine w_iast hM hW lb_160 (by omega) (i_in (by omega) (by omega)) dX12_pupil_58 (fun g931 H locs hW e1 e2 => ?_)
        refine q_iconst (v := (0 : Int32)) hM dX12_pupil_59 (by decide) ?_
        refine q_istore (lv9 := [(4, .int (0 : Int32)), (0, .ref (ad 129)), (1, .int a), (2, .int b), (3, .int c)]) hM dX12_pupil_60 hl (by decide) rfl (fun ls hl => ?_)
        have L62 : ∀ (fu62 : Nat) (i : Int32) (g9 : Nat → va_E) (H : Heap) (locs : List Loc) (ls : Array Slot), (12 - i.toInt).toNat < fu62 → (0 ≤ i.toInt) → (i.toInt ≤ 12) → lv_has ls 5 [(0, .ref (ad 129)), (1, .int a), (2, .int b), (3, .int c), (4, .int i)] → WS ad cA (fun i k => (158 ≤ i ∧ i < 162)) g0 K g9 H locs → XX K 0 0 H locs 62 ls [] := by
          intro fu62
          induction fu62 with
          | zero => intro i g9 H locs ls h0; omega
          | succ fu62 ih62 =>
            intro i g9 H locs ls hm62 i62_0 i62_1 hl hW
            refine q_iload hM dX12_pupil_62 (lv_at hl 4 rfl) ?_
            refine q_bipush (v := (12 : Int32)) hM dX12_pupil_64 (by decide) ?_
            refine q_icmp_ge (tgt := 88) hM dX12_pupil_66 (by decide) (rfl : i.toInt = i.toInt) (kc_12 : (12 : Int32).toInt = 12) (fun h66 => ?_) (fun h66 => ?_)
            · refine q_iconst (v := (1 : Int32)) hM dX12_pupil_88 (by decide) ?_
              exact hE _ _ _ _ _ _ hW.1 nz_1 ⟨_, rfl, hW.2.1, FR.wk hW.2.2 (fun i k h => by omega), (by have := kc_1; omega)⟩ dX12_pupil_89
            · refine q_aload_n hM dX12_pupil_69 (lv_at hl 0 rfl) ?_
              refine w_get (v := .ref (ad 161)) hM hW FG_X12_109 lb_129 (rf_129_55 hW.2.1) dX12_pupil_70 ?_
              refine q_bipush (v := (12 : Int32)) hM dX12_pupil_73 (by decide) ?_
              refine q_iload_n hM dX12_pupil_75 (lv_at hl 1 rfl) ?_
              refine q_imul hM dX12_pupil_76 (fun z932 hz932 => ?_)
              have tz932 := i_mulT hz932 (kc_12 : (12 : Int32).toInt = 12) (rfl : a.toInt = a.toInt) (by omega) (by omega)
              refine q_iload hM dX12_pupil_77 (lv_at hl 4 rfl) ?_
              refine q_iadd hM dX12_pupil_79 (fun z933 hz933 => ?_)
              have tz933 := i_addT hz933 (rfl : z932.toInt = z932.toInt) (rfl : i.toInt = i.toInt) (by omega) (by omega)
              refine q_iconst (v := (0 : Int32)) hM dX12_pupil_80 (by decide) ?_
              refine w_iast hM hW lb_161 (by omega) (i_in (by omega) (by omega)) dX12_pupil_81 (fun g934 H locs hW e1 e2 => ?_)
              refine q_iinc (lv9 := fun z935 => [(4, .int z935), (0, .ref (ad 129)), (1, .int a), (2, .int b), (3, .int c)]) hM dX12_pupil_82 hl (kq := 4) rfl (by decide) (fun _ => rfl) (fun z935 ls hz935 hl => ?_)
              have tz935 := i_addT hz935 (rfl : i.toInt = i.toInt) (kc_1 : (Int32.ofInt 1).toInt = 1) (by omega) (by omega)
              refine q_goto (tgt := 62) hM dX12_pupil_85 (by decide) ?_
              exact ih62 z935 _ _ _ _ (by omega) (by omega) (by omega) (lv_sub hl [1, 2, 3, 4, 0] rfl) hW
        have := kc_0
        exact L62 _ (0 : Int32) _ _ _ _ (Nat.lt_succ_self _) (by omega) (by omega) (lv_sub hl [1, 2, 3, 4, 0] rfl) hW
      · refine q_iconst (v := (0 : Int32)) hM dX12_pupil_36 (by decide) ?_
        exact hE _ _ _ _ _ _ hW.1 nz_0 ⟨_, rfl, hW.2.1, FR.wk hW.2.2 (fun i k h => by omega), (by have := kc_0; omega)⟩ dX12_pupil_37
