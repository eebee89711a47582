
set_option maxRecDepth 100000 in
set_option maxHeartbeats 4000000 in
theorem s3_X11_link (l : Launch) (D : va_G) (cA : Nat → ClassId) (ad : Nat → Nat) (g0 : Nat → va_E) (a : Int32) (b : Int32) (c : Int32) (td : Int32)  (hSh : Shp ad cA g0) (hG : Rng g0) (h_td : fld g0 3 2 = .int td) : CT l NN ad cA D yX11_link cX11_link 4 (some FieldType.boolean) (1, 22) [.ref (ad 0), .int a, .int b, .int c] g0 (fun v g' => ∃ (r : Int32), v = some (.int r) ∧ Shp ad cA g' ∧ Rng g' ∧ FR (fun i k => (6 ≤ i ∧ i < 18)) g0 g' ∧ ((r.toInt = 1 ∧ bi td a = 1 ∧ bi td b = 1 ∧ a.toInt ≠ b.toInt ∧ 0 ≤ c.toInt ∧ c.toInt ≤ 9) ∨ (r.toInt = 0 ∧ ¬ (bi td a = 1 ∧ bi td b = 1 ∧ a.toInt ≠ b.toInt ∧ 0 ≤ c.toInt ∧ c.toInt ≤ 9)))) := by
  refine q_enterZ (by decide) (Nat.le_of_ble_eq_true rfl) (fun K H locs ls _ _ hM hW0 hR hC hE hl => ?_)
  have hl : lv_has ls 4 [(0, .ref (ad 0)), (1, .int a), (2, .int b), (3, .int c)] := hl
  have hW : WS ad cA (fun i k => (6 ≤ i ∧ i < 18)) g0 K g0 H locs := ⟨hW0, hSh, FR.rf⟩
  have b_td := hG.f h_td rF_3_2 (by decide)
  have := kc_0
  have := kc_1
  refine q_aload_n hM dX11_link_0 (lv_at hl 0 rfl) ?_
  refine w_get (v := .ref (ad 3)) hM hW FG_X11_19 lb_0 (rf_0_1 hW.2.1) dX11_link_1 ?_
  refine w_get (v := .int td) hM hW FG_X11_116 lb_3 ((hW.2.2.1 3 2 (by omega)).trans h_td) dX11_link_4 ?_
  refine q_iload_n hM dX11_link_7 (lv_at hl 1 rfl) ?_
  refine q_callS (As := [.int td, .int a]) (rest := []) hM hW.1 hR hC myX11_has (kAW (v_1_10 (List.mem_of_getElem? (i := 8) rfl)) rfl) (c_X11_has _ _ cA ad g0 td a hW.2.1) ⟨by decide, by decide⟩ rfl rfl hl.1 (Nat.le_of_ble_eq_true rfl) dX11_link_8 (fun v g13533 H locs hp hW1 => ?_)
  obtain ⟨r13532, rfl, hr13532, rfl⟩ := hp
  have hW : WS ad cA (fun i k => (6 ≤ i ∧ i < 18)) g0 K g0 H locs := ⟨hW1, hW.2.1, hW.2.2⟩
  have hbr13532 := has_bi hr13532
  have hcr13532 := bi_01 td a
  first | have ltr13532 := has_lt 5 hr13532 (by omega) (by omega) | have ltr13532 := has_lt 6 hr13532 (by omega) (by omega) | have ltr13532 := has_lt 8 hr13532 (by omega) (by omega) | have ltr13532 := has_lt 12 hr13532 (by omega) (by omega) | skip
  refine q_if_eq (tgt := 43) hM dX11_link_11 (by decide) (rfl : r13532.toInt = r13532.toInt) (fun h11 => ?_) (fun h11 => ?_)
  · refine q_iconst (v := (0 : Int32)) hM dX11_link_43 (by decide) ?_
    exact hE _ _ _ _ _ _ hW.1 nz_0 ⟨_, rfl, hW.2.1, hG, hW.2.2, (by have := kc_0; omega)⟩ dX11_link_44
  · refine q_aload_n hM dX11_link_14 (lv_at hl 0 rfl) ?_
    refine w_get (v := .ref (ad 3)) hM hW FG_X11_19 lb_0 (rf_0_1 hW.2.1) dX11_link_15 ?_
    refine w_get (v := .int td) hM hW FG_X11_116 lb_3 ((hW.2.2.1 3 2 (by omega)).trans h_td) dX11_link_18 ?_
    refine q_iload_n hM dX11_link_21 (lv_at hl 2 rfl) ?_
    refine q_callS (As := [.int td, .int b]) (rest := []) hM hW.1 hR hC myX11_has (kAW (v_1_10 (List.mem_of_getElem? (i := 8) rfl)) rfl) (c_X11_has _ _ cA ad g0 td b hW.2.1) ⟨by decide, by decide⟩ rfl rfl hl.1 (Nat.le_of_ble_eq_true rfl) dX11_link_22 (fun v g13537 H locs hp hW1 => ?_)
    obtain ⟨r13536, rfl, hr13536, rfl⟩ := hp
    have hW : WS ad cA (fun i k => (6 ≤ i ∧ i < 18)) g0 K g0 H locs := ⟨hW1, hW.2.1, hW.2.2⟩
    have hbr13536 := has_bi hr13536
    have hcr13536 := bi_01 td b
    first | have ltr13536 := has_lt 5 hr13536 (by omega) (by omega) | have ltr13536 := has_lt 6 hr13536 (by omega) (by omega) | have ltr13536 := has_lt 8 hr13536 (by omega) (by omega) | have ltr13536 := has_lt 12 hr13536 (by omega) (by omega) | skip
    refine q_if_eq (tgt := 43) hM dX11_link_25 (by decide) (rfl : r13536.toInt = r13536.toInt) (fun h25 => ?_) (fun h25 => ?_)
    · refine q_iconst (v := (0 : Int32)) hM dX11_link_43 (by decide) ?_
      exact hE _ _ _ _ _ _ hW.1 nz_0 ⟨_, rfl, hW.2.1, hG, hW.2.2, (by have := kc_0; omega)⟩ dX11_link_44
    · refine q_iload_n hM dX11_link_28 (lv_at hl 1 rfl) ?_
      refine q_iload_n hM dX11_link_29 (lv_at hl 2 rfl) ?_
      refine q_icmp_eq (tgt := 43) hM dX11_link_30 (by decide) (rfl : a.toInt = a.toInt) (rfl : b.toInt = b.toInt) (fun h30 => ?_) (fun h30 => ?_)
      · refine q_iconst (v := (0 : Int32)) hM dX11_link_43 (by decide) ?_
        exact hE _ _ _ _ _ _ hW.1 nz_0 ⟨_, rfl, hW.2.1, hG, hW.2.2, (by have := kc_0; omega)⟩ dX11_link_44
      · refine q_iload_n hM dX11_link_33 (lv_at hl 3 rfl) ?_
        refine q_iconst (v := (0 : Int32)) hM dX11_link_34 (by decide) ?_
        refine q_bipush (v := (9 : Int32)) hM dX11_link_35 (by decide) ?_
        refine q_callS (As := [.int c, .int (0 : Int32), .int (9 : Int32)]) (rest := []) hM hW.1 hR hC myX11_within (kAW (v_1_10 (List.mem_of_getElem? (i := 1) rfl)) rfl) (c_X11_within _ _ cA ad g0 c (0 : Int32) (9 : Int32) hW.2.1) ⟨by decide, by decide⟩ rfl rfl hl.1 (Nat.le_of_ble_eq_true rfl) dX11_link_37 (fun v g13543 H locs hp hW1 => ?_)
        obtain ⟨r13542, rfl, hr13542, rfl⟩ := hp
        have hW : WS ad cA (fun i k => (6 ≤ i ∧ i < 18)) g0 K g0 H locs := ⟨hW1, hW.2.1, hW.2.2⟩
        have := kc_0
        have := kc_9
        refine q_if_ne (tgt := 45) hM dX11_link_40 (by decide) (rfl : r13542.toInt = r13542.toInt) (fun h40 => ?_) (fun h40 => ?_)
        · refine q_aload_n hM dX11_link_45 (lv_at hl 0 rfl) ?_
          refine w_get (v := .ref (ad 3)) hM hW FG_X11_19 lb_0 (rf_0_1 hW.2.1) dX11_link_46 ?_
          refine w_get (v := .ref (ad 5)) hM hW FG_X11_127 lb_3 (rf_3_1 hW.2.1) dX11_link_49 ?_
          refine q_iload_n hM dX11_link_52 (lv_at hl 1 rfl) ?_
          refine w_aald hM hW lb_5 (Or.inl rfl) (i_in (by omega) (by omega)) (aq (aq_5 hW.2.1) (by omega) (by omega)) dX11_link_53 ?_
          refine q_iload_n hM dX11_link_54 (lv_at hl 2 rfl) ?_
          refine q_iload_n hM dX11_link_55 (lv_at hl 3 rfl) ?_
          refine w_iast hM hW (lr_6 (by omega)) (by omega) (i_in (by omega) (by omega)) dX11_link_56 (fun g13545 H locs hW e1 e2 => ?_)
          have hG := hG.st e1 e2 (rA_row_6 (by omega)) (by have := i_rng c; omega) (by have := i_rng c; omega)
          refine q_iconst (v := (1 : Int32)) hM dX11_link_57 (by decide) ?_
          exact hE _ _ _ _ _ _ hW.1 nz_1 ⟨_, rfl, hW.2.1, hG, hW.2.2, (by have := kc_1; omega)⟩ dX11_link_58
        · refine q_iconst (v := (0 : Int32)) hM dX11_link_43 (by decide) ?_
          exact hE _ _ _ _ _ _ hW.1 nz_0 ⟨_, rfl, hW.2.1, hG, hW.2.2, (by have := kc_0; omega)⟩ dX11_link_44


set_option maxRecDepth 100000 in
set_option maxHeartbeats 4000000 in
theorem s_X12_isTold (l : Launch) (D : va_G) (cA : Nat → ClassId) (ad : Nat → Nat) (g0 : Nat → va_E) (i : Int32) (hSh : Shp ad cA g0) (hG : Rng g0) : CT l NN ad cA D yX12_isTold cX12_isTold 2 (some FieldType.boolean) (1, 25) [.ref (ad 129), .int i] g0 (PU g0 (fun r => r.toInt = ti (arI g0 131) 12 i ∧ (r.toInt = 0 ∨ (r.toInt = 1 ∧ 0 ≤ i.toInt ∧ i.toInt < 12)))) := by
  refine q_enterZ (by decide) (Nat.le_of_ble_eq_true rfl) (fun K H locs ls _ _ hM hW0 hR hC hE hl => ?_)
  have hl : lv_has ls 2 [(0, .ref (ad 129)), (1, .int i)] := hl
  have hW : WS ad cA (fun i k => False) g0 K g0 H locs := ⟨hW0, hSh, FR.rf⟩
  have := kc_0
  have := kc_1
  refine q_iload_n hM dX12_isTold_0 (lv_at hl 1 rfl) ?_
  refine q_i2l hM dX12_isTold_1 ?_
  have := l_i2l i
  refine q_lconst (v := 0) hM dX12_isTold_2 (by decide) ?_
  have := kl_0
  refine q_ldc2 (v := 11) hM (kAW (v_5_4 (List.mem_of_getElem? (i := 13) rfl)) rfl) dX12_isTold_3 ?_
  have := kl_11
  refine q_callS (As := [.long i.toInt64, .long (0 : Int64), .long (11 : Int64)]) (rest := []) hM hW.1 hR hC myX12_lies (kAW (v_5_4 (List.mem_of_getElem? (i := 14) rfl)) rfl) (c_X12_lies _ _ cA ad g0 i.toInt64 (0 : Int64) (11 : Int64) hW.2.1) ⟨by decide, by decide⟩ rfl rfl hl.1 (Nat.le_of_ble_eq_true rfl) dX12_isTold_6 (fun v g13548 H locs hp hW1 => ?_)
  obtain ⟨r13547, rfl, hr13547, rfl⟩ := hp
  have hW : WS ad cA (fun i k => False) g0 K g0 H locs := ⟨hW1, hW.2.1, hW.2.2⟩
  refine q_if_eq (tgt := 25) hM dX12_isTold_9 (by decide) (rfl : r13547.toInt = r13547.toInt) (fun h9 => ?_) (fun h9 => ?_)
  · refine q_iconst (v := (0 : Int32)) hM dX12_isTold_25 (by decide) ?_
    exact hE _ _ _ _ _ _ hW.1 nz_0 ⟨_, rfl, ⟨(by unfold ti; rw [if_neg (fun ⟨h3, h4, h5⟩ => by omega)]; exact kc_0), by omega⟩, rfl⟩ dX12_isTold_26
  · refine q_aload_n hM dX12_isTold_12 (lv_at hl 0 rfl) ?_
    refine w_get (v := .ref (ad 131)) hM hW FG_X12_17 lb_129 (rf_129_10 hW.2.1) dX12_isTold_13 ?_
    refine q_iload_n hM dX12_isTold_16 (lv_at hl 1 rfl) ?_
    refine w_zald hM hW lb_131 (i_in (by omega) (by omega)) dX12_isTold_17 ?_
    refine q_top (fun y13551 hy13551 => ?_)
    refine q_if_eq (tgt := 25) hM dX12_isTold_18 (by decide) (rfl : y13551.toInt = y13551.toInt) (fun h18 => ?_) (fun h18 => ?_)
    · refine q_iconst (v := (0 : Int32)) hM dX12_isTold_25 (by decide) ?_
      exact hE _ _ _ _ _ _ hW.1 nz_0 ⟨_, rfl, ⟨(by unfold ti; rw [if_neg (fun ⟨h3, h4, h5⟩ => absurd h5 (by show ¬ (arI g0 131 i.toNatClampNeg).toInt ≠ 0; rw [← hy13551]; omega))]; exact kc_0), by omega⟩, rfl⟩ dX12_isTold_26
    · refine q_iconst (v := (1 : Int32)) hM dX12_isTold_21 (by decide) ?_
      refine q_goto (tgt := 26) hM dX12_isTold_22 (by decide) ?_
      exact hE _ _ _ _ _ _ hW.1 nz_1 ⟨_, rfl, ⟨(by unfold ti; rw [if_pos ⟨by omega, by omega, by show (arI g0 131 i.toNatClampNeg).toInt ≠ 0; rw [← hy13551]; omega⟩]; exact kc_1), by omega⟩, rfl⟩ dX12_isTold_26


set_option maxRecDepth 100000 in
set_option maxHeartbeats 4000000 in
theorem s3_X12_link (l : Launch) (D : va_G) (cA : Nat → ClassId) (ad : Nat → Nat) (g0 : Nat → va_E) (a : Int32) (b : Int32) (c : Int32)   (hSh : Shp ad cA g0) (hG : Rng g0) : CT l NN ad cA D yX12_link cX12_link 4 (some FieldType.boolean) (2, 46) [.ref (ad 129), .int a, .int b, .int c] g0 (fun v g' => ∃ (r : Int32), v = some (.int r) ∧ Shp ad cA g' ∧ Rng g' ∧ FR (fun i k => i = 133) g0 g' ∧ ((r.toInt = 1 ∧ ti (arI g0 131) 12 a = 1 ∧ ti (arI g0 131) 12 b = 1 ∧ a.toInt ≠ b.toInt ∧ 0 ≤ c.toInt ∧ c.toInt ≤ 9) ∨ (r.toInt = 0 ∧ ¬ (ti (arI g0 131) 12 a = 1 ∧ ti (arI g0 131) 12 b = 1 ∧ a.toInt ≠ b.toInt ∧ 0 ≤ c.toInt ∧ c.toInt ≤ 9)))) := by
  refine q_enterZ (by decide) (Nat.le_of_ble_eq_true rfl) (fun K H locs ls _ _ hM hW0 hR hC hE hl => ?_)
  have hl : lv_has ls 4 [(0, .ref (ad 129)), (1, .int a), (2, .int b), (3, .int c)] := hl
  have hW : WS ad cA (fun i k => i = 133) g0 K g0 H locs := ⟨hW0, hSh, FR.rf⟩
  have := kc_0
  have := kc_1
  refine q_aload_n hM dX12_link_0 (lv_at hl 0 rfl) ?_
  refine q_iload_n hM dX12_link_1 (lv_at hl 1 rfl) ?_
  refine q_callV (As := [.int a]) (rest := []) hM hW.1 hR hC myX12_isTold (kAW (v_5_5 (List.mem_of_getElem? (i := 6) rfl)) rfl) (rfl : vwCl[12]? = some (RX12, TX12, 86)) rfl lb_129.1 (shO hW.2.1 lb_129) (s_X12_isTold _ _ cA ad g0 a hW.2.1 hG) ⟨by decide, by decide⟩ rfl rfl hl.1 (Nat.le_of_ble_eq_true rfl) dX12_link_2 (fun v g13555 H locs hp hW1 => ?_)
  obtain ⟨r13554, rfl, hr13554, rfl⟩ := hp
  have hW : WS ad cA (fun i k => i = 133) g0 K g0 H locs := ⟨hW1, hW.2.1, hW.2.2⟩
  refine q_if_eq (tgt := 33) hM dX12_link_5 (by decide) (rfl : r13554.toInt = r13554.toInt) (fun h5 => ?_) (fun h5 => ?_)
  · refine q_iconst (v := (0 : Int32)) hM dX12_link_33 (by decide) ?_
    exact hE _ _ _ _ _ _ hW.1 nz_0 ⟨_, rfl, hW.2.1, hG, hW.2.2, (by have := kc_0; omega)⟩ dX12_link_34
  · refine q_aload_n hM dX12_link_8 (lv_at hl 0 rfl) ?_
    refine q_iload_n hM dX12_link_9 (lv_at hl 2 rfl) ?_
    refine q_callV (As := [.int b]) (rest := []) hM hW.1 hR hC myX12_isTold (kAW (v_5_5 (List.mem_of_getElem? (i := 6) rfl)) rfl) (rfl : vwCl[12]? = some (RX12, TX12, 86)) rfl lb_129.1 (shO hW.2.1 lb_129) (s_X12_isTold _ _ cA ad g0 b hW.2.1 hG) ⟨by decide, by decide⟩ rfl rfl hl.1 (Nat.le_of_ble_eq_true rfl) dX12_link_10 (fun v g13559 H locs hp hW1 => ?_)
    obtain ⟨r13558, rfl, hr13558, rfl⟩ := hp
    have hW : WS ad cA (fun i k => i = 133) g0 K g0 H locs := ⟨hW1, hW.2.1, hW.2.2⟩
    refine q_if_eq (tgt := 33) hM dX12_link_13 (by decide) (rfl : r13558.toInt = r13558.toInt) (fun h13 => ?_) (fun h13 => ?_)
    · refine q_iconst (v := (0 : Int32)) hM dX12_link_33 (by decide) ?_
      exact hE _ _ _ _ _ _ hW.1 nz_0 ⟨_, rfl, hW.2.1, hG, hW.2.2, (by have := kc_0; omega)⟩ dX12_link_34
    · refine q_iload_n hM dX12_link_16 (lv_at hl 1 rfl) ?_
      refine q_iload_n hM dX12_link_17 (lv_at hl 2 rfl) ?_
      refine q_icmp_eq (tgt := 33) hM dX12_link_18 (by decide) (rfl : a.toInt = a.toInt) (rfl : b.toInt = b.toInt) (fun h18 => ?_) (fun h18 => ?_)
      · refine q_iconst (v := (0 : Int32)) hM dX12_link_33 (by decide) ?_
        exact hE _ _ _ _ _ _ hW.1 nz_0 ⟨_, rfl, hW.2.1, hG, hW.2.2, (by have := kc_0; omega)⟩ dX12_link_34
      · refine q_iload_n hM dX12_link_21 (lv_at hl 3 rfl) ?_
        refine q_i2l hM dX12_link_22 ?_
        have := l_i2l c
        refine q_lconst (v := 0) hM dX12_link_23 (by decide) ?_
        have := kl_0
        refine q_ldc2 (v := 9) hM (kAW (v_5_5 (List.mem_of_getElem? (i := 10) rfl)) rfl) dX12_link_24 ?_
        have := kl_9
        refine q_callS (As := [.long c.toInt64, .long (0 : Int64), .long (9 : Int64)]) (rest := []) hM hW.1 hR hC myX12_lies (kAW (v_5_4 (List.mem_of_getElem? (i := 14) rfl)) rfl) (c_X12_lies _ _ cA ad g0 c.toInt64 (0 : Int64) (9 : Int64) hW.2.1) ⟨by decide, by decide⟩ rfl rfl hl.1 (Nat.le_of_ble_eq_true rfl) dX12_link_27 (fun v g13565 H locs hp hW1 => ?_)
        obtain ⟨r13564, rfl, hr13564, rfl⟩ := hp
        have hW : WS ad cA (fun i k => i = 133) g0 K g0 H locs := ⟨hW1, hW.2.1, hW.2.2⟩
        refine q_if_ne (tgt := 35) hM dX12_link_30 (by decide) (rfl : r13564.toInt = r13564.toInt) (fun h30 => ?_) (fun h30 => ?_)
        · refine q_aload_n hM dX12_link_35 (lv_at hl 0 rfl) ?_
          refine w_get (v := .ref (ad 133)) hM hW FG_X12_25 lb_129 (rf_129_12 hW.2.1) dX12_link_36 ?_
          refine q_bipush (v := (12 : Int32)) hM dX12_link_39 (by decide) ?_
          refine q_iload_n hM dX12_link_41 (lv_at hl 1 rfl) ?_
          refine q_imul hM dX12_link_42 (fun z13567 hz13567 => ?_)
          first | have tz13567 := i_mulT hz13567 (kc_12 : (12 : Int32).toInt = 12) (rfl : a.toInt = a.toInt) (by omega) (by omega) | skip
          refine q_iload_n hM dX12_link_43 (lv_at hl 2 rfl) ?_
          refine q_iadd hM dX12_link_44 (fun z13568 hz13568 => ?_)
          first | have tz13568 := i_addT hz13568 (rfl : z13567.toInt = z13567.toInt) (rfl : b.toInt = b.toInt) (by omega) (by omega) | skip
          refine q_iload_n hM dX12_link_45 (lv_at hl 3 rfl) ?_
          refine w_iast hM hW lb_133 (by omega) (i_in (by omega) (by omega)) dX12_link_46 (fun g13569 H locs hW e1 e2 => ?_)
          have hG := hG.st e1 e2 (rfl : rA 133 = (-2147483648, 2147483647)) (by have := i_rng c; omega) (by have := i_rng c; omega)
          refine q_iconst (v := (1 : Int32)) hM dX12_link_47 (by decide) ?_
          exact hE _ _ _ _ _ _ hW.1 nz_1 ⟨_, rfl, hW.2.1, hG, hW.2.2, (by have := kc_1; omega)⟩ dX12_link_48
        · refine q_iconst (v := (0 : Int32)) hM dX12_link_33 (by decide) ?_
          exact hE _ _ _ _ _ _ hW.1 nz_0 ⟨_, rfl, hW.2.1, hG, hW.2.2, (by have := kc_0; omega)⟩ dX12_link_34
