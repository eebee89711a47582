
set_option maxRecDepth 100000 in
set_option maxHeartbeats 4000000 in
theorem s3_X11_reminds (l : Launch) (D : va_G) (cA : Nat → ClassId) (ad : Nat → Nat) (g0 : Nat → va_E) (a : Int32) (b : Int32) (c : Int32) (tp : Int32)  (hSh : Shp ad cA g0) (hG : Rng g0) (h_tp : fld g0 18 3 = .int tp) : CT l NN ad cA D yX11_reminds cX11_reminds 4 (some FieldType.boolean) (1, 22) [.ref (ad 0), .int a, .int b, .int c] g0 (fun v g' => ∃ (r : Int32), v = some (.int r) ∧ Shp ad cA g' ∧ Rng g' ∧ FR (fun i k => (104 ≤ i ∧ i < 112)) g0 g' ∧ ((r.toInt = 1 ∧ bi tp a = 1 ∧ bi tp b = 1 ∧ a.toInt ≠ b.toInt ∧ 0 ≤ c.toInt ∧ c.toInt ≤ 99) ∨ (r.toInt = 0 ∧ ¬ (bi tp a = 1 ∧ bi tp b = 1 ∧ a.toInt ≠ b.toInt ∧ 0 ≤ c.toInt ∧ c.toInt ≤ 99)))) := by
  refine q_enterZ (by decide) (Nat.le_of_ble_eq_true rfl) (fun K H locs ls _ _ hM hW0 hR hC hE hl => ?_)
  have hl : lv_has ls 4 [(0, .ref (ad 0)), (1, .int a), (2, .int b), (3, .int c)] := hl
  have hW : WS ad cA (fun i k => (104 ≤ i ∧ i < 112)) g0 K g0 H locs := ⟨hW0, hSh, FR.rf⟩
  have b_tp := hG.f h_tp rF_18_3 (by decide)
  have := kc_0
  have := kc_1
  refine q_aload_n hM dX11_reminds_0 (lv_at hl 0 rfl) ?_
  refine w_get (v := .ref (ad 18)) hM hW FG_X11_26 lb_0 (rf_0_10 hW.2.1) dX11_reminds_1 ?_
  refine w_get (v := .int tp) hM hW FG_X11_135 lb_18 ((hW.2.2.1 18 3 (by omega)).trans h_tp) dX11_reminds_4 ?_
  refine q_iload_n hM dX11_reminds_7 (lv_at hl 1 rfl) ?_
  refine q_callS (As := [.int tp, .int a]) (rest := []) hM hW.1 hR hC myX11_has (kAW (v_1_10 (List.mem_of_getElem? (i := 8) rfl)) rfl) (c_X11_has _ _ cA ad g0 tp a hW.2.1) ⟨by decide, by decide⟩ rfl rfl hl.1 (Nat.le_of_ble_eq_true rfl) dX11_reminds_8 (fun v g13533 H locs hp hW1 => ?_)
  obtain ⟨r13532, rfl, hr13532, rfl⟩ := hp
  have hW : WS ad cA (fun i k => (104 ≤ i ∧ i < 112)) g0 K g0 H locs := ⟨hW1, hW.2.1, hW.2.2⟩
  have hbr13532 := has_bi hr13532
  have hcr13532 := bi_01 tp a
  first | have ltr13532 := has_lt 5 hr13532 (by omega) (by omega) | have ltr13532 := has_lt 6 hr13532 (by omega) (by omega) | have ltr13532 := has_lt 8 hr13532 (by omega) (by omega) | have ltr13532 := has_lt 12 hr13532 (by omega) (by omega) | skip
  refine q_if_eq (tgt := 43) hM dX11_reminds_11 (by decide) (rfl : r13532.toInt = r13532.toInt) (fun h11 => ?_) (fun h11 => ?_)
  · refine q_iconst (v := (0 : Int32)) hM dX11_reminds_43 (by decide) ?_
    exact hE _ _ _ _ _ _ hW.1 nz_0 ⟨_, rfl, hW.2.1, hG, hW.2.2, (by have := kc_0; omega)⟩ dX11_reminds_44
  · refine q_aload_n hM dX11_reminds_14 (lv_at hl 0 rfl) ?_
    refine w_get (v := .ref (ad 18)) hM hW FG_X11_26 lb_0 (rf_0_10 hW.2.1) dX11_reminds_15 ?_
    refine w_get (v := .int tp) hM hW FG_X11_135 lb_18 ((hW.2.2.1 18 3 (by omega)).trans h_tp) dX11_reminds_18 ?_
    refine q_iload_n hM dX11_reminds_21 (lv_at hl 2 rfl) ?_
    refine q_callS (As := [.int tp, .int b]) (rest := []) hM hW.1 hR hC myX11_has (kAW (v_1_10 (List.mem_of_getElem? (i := 8) rfl)) rfl) (c_X11_has _ _ cA ad g0 tp b hW.2.1) ⟨by decide, by decide⟩ rfl rfl hl.1 (Nat.le_of_ble_eq_true rfl) dX11_reminds_22 (fun v g13537 H locs hp hW1 => ?_)
    obtain ⟨r13536, rfl, hr13536, rfl⟩ := hp
    have hW : WS ad cA (fun i k => (104 ≤ i ∧ i < 112)) g0 K g0 H locs := ⟨hW1, hW.2.1, hW.2.2⟩
    have hbr13536 := has_bi hr13536
    have hcr13536 := bi_01 tp b
    first | have ltr13536 := has_lt 5 hr13536 (by omega) (by omega) | have ltr13536 := has_lt 6 hr13536 (by omega) (by omega) | have ltr13536 := has_lt 8 hr13536 (by omega) (by omega) | have ltr13536 := has_lt 12 hr13536 (by omega) (by omega) | skip
    refine q_if_eq (tgt := 43) hM dX11_reminds_25 (by decide) (rfl : r13536.toInt = r13536.toInt) (fun h25 => ?_) (fun h25 => ?_)
    · refine q_iconst (v := (0 : Int32)) hM dX11_reminds_43 (by decide) ?_
      exact hE _ _ _ _ _ _ hW.1 nz_0 ⟨_, rfl, hW.2.1, hG, hW.2.2, (by have := kc_0; omega)⟩ dX11_reminds_44
    · refine q_iload_n hM dX11_reminds_28 (lv_at hl 1 rfl) ?_
      refine q_iload_n hM dX11_reminds_29 (lv_at hl 2 rfl) ?_
      refine q_icmp_eq (tgt := 43) hM dX11_reminds_30 (by decide) (rfl : a.toInt = a.toInt) (rfl : b.toInt = b.toInt) (fun h30 => ?_) (fun h30 => ?_)
      · refine q_iconst (v := (0 : Int32)) hM dX11_reminds_43 (by decide) ?_
        exact hE _ _ _ _ _ _ hW.1 nz_0 ⟨_, rfl, hW.2.1, hG, hW.2.2, (by have := kc_0; omega)⟩ dX11_reminds_44
      · refine q_iload_n hM dX11_reminds_33 (lv_at hl 3 rfl) ?_
        refine q_iconst (v := (0 : Int32)) hM dX11_reminds_34 (by decide) ?_
        refine q_bipush (v := (99 : Int32)) hM dX11_reminds_35 (by decide) ?_
        refine q_callS (As := [.int c, .int (0 : Int32), .int (99 : Int32)]) (rest := []) hM hW.1 hR hC myX11_within (kAW (v_1_10 (List.mem_of_getElem? (i := 1) rfl)) rfl) (c_X11_within _ _ cA ad g0 c (0 : Int32) (99 : Int32) hW.2.1) ⟨by decide, by decide⟩ rfl rfl hl.1 (Nat.le_of_ble_eq_true rfl) dX11_reminds_37 (fun v g13543 H locs hp hW1 => ?_)
        obtain ⟨r13542, rfl, hr13542, rfl⟩ := hp
        have hW : WS ad cA (fun i k => (104 ≤ i ∧ i < 112)) g0 K g0 H locs := ⟨hW1, hW.2.1, hW.2.2⟩
        have := kc_0
        have := kc_99
        refine q_if_ne (tgt := 45) hM dX11_reminds_40 (by decide) (rfl : r13542.toInt = r13542.toInt) (fun h40 => ?_) (fun h40 => ?_)
        · refine q_aload_n hM dX11_reminds_45 (lv_at hl 0 rfl) ?_
          refine w_get (v := .ref (ad 102)) hM hW FG_X11_90 lb_0 (rf_0_3 hW.2.1) dX11_reminds_46 ?_
          refine w_get (v := .ref (ad 103)) hM hW FG_X11_264 lb_102 (rf_102_0 hW.2.1) dX11_reminds_49 ?_
          refine q_iload_n hM dX11_reminds_52 (lv_at hl 1 rfl) ?_
          refine w_aald hM hW lb_103 (Or.inl rfl) (i_in (by omega) (by omega)) (aq (aq_103 hW.2.1) (by omega) (by omega)) dX11_reminds_53 ?_
          refine q_iload_n hM dX11_reminds_54 (lv_at hl 2 rfl) ?_
          refine q_iload_n hM dX11_reminds_55 (lv_at hl 3 rfl) ?_
          refine w_iast hM hW (lr_104 (by omega)) (by omega) (i_in (by omega) (by omega)) dX11_reminds_56 (fun g13545 H locs hW e1 e2 => ?_)
          have hG := hG.st e1 e2 (rA_row_104 (by omega)) (by have := i_rng c; omega) (by have := i_rng c; omega)
          refine q_aload_n hM dX11_reminds_57 (lv_at hl 0 rfl) ?_
          refine w_get (v := .ref (ad 102)) hM hW FG_X11_90 lb_0 (rf_0_3 hW.2.1) dX11_reminds_58 ?_
          refine w_get (v := .ref (ad 103)) hM hW FG_X11_264 lb_102 (rf_102_0 hW.2.1) dX11_reminds_61 ?_
          refine q_iload_n hM dX11_reminds_64 (lv_at hl 2 rfl) ?_
          refine w_aald hM hW lb_103 (Or.inl rfl) (i_in (by omega) (by omega)) (aq (aq_103 hW.2.1) (by omega) (by omega)) dX11_reminds_65 ?_
          refine q_iload_n hM dX11_reminds_66 (lv_at hl 1 rfl) ?_
          refine q_iload_n hM dX11_reminds_67 (lv_at hl 3 rfl) ?_
          refine w_iast hM hW (lr_104 (by omega)) (by omega) (i_in (by omega) (by omega)) dX11_reminds_68 (fun g13546 H locs hW e1 e2 => ?_)
          have hG := hG.st e1 e2 (rA_row_104 (by omega)) (by have := i_rng c; omega) (by have := i_rng c; omega)
          refine q_iconst (v := (1 : Int32)) hM dX11_reminds_69 (by decide) ?_
          exact hE _ _ _ _ _ _ hW.1 nz_1 ⟨_, rfl, hW.2.1, hG, hW.2.2, (by have := kc_1; omega)⟩ dX11_reminds_70
        · refine q_iconst (v := (0 : Int32)) hM dX11_reminds_43 (by decide) ?_
          exact hE _ _ _ _ _ _ hW.1 nz_0 ⟨_, rfl, hW.2.1, hG, hW.2.2, (by have := kc_0; omega)⟩ dX11_reminds_44


set_option maxRecDepth 100000 in
set_option maxHeartbeats 4000000 in
theorem s_X12_isThat (l : Launch) (D : va_G) (cA : Nat → ClassId) (ad : Nat → Nat) (g0 : Nat → va_E) (i : Int32) (hSh : Shp ad cA g0) (hG : Rng g0) : CT l NN ad cA D yX12_isThat cX12_isThat 2 (some FieldType.boolean) (1, 25) [.ref (ad 129), .int i] g0 (PU g0 (fun r => r.toInt = ti (arI g0 158) 8 i ∧ (r.toInt = 0 ∨ (r.toInt = 1 ∧ 0 ≤ i.toInt ∧ i.toInt < 8)))) := by
  refine q_enterZ (by decide) (Nat.le_of_ble_eq_true rfl) (fun K H locs ls _ _ hM hW0 hR hC hE hl => ?_)
  have hl : lv_has ls 2 [(0, .ref (ad 129)), (1, .int i)] := hl
  have hW : WS ad cA (fun i k => False) g0 K g0 H locs := ⟨hW0, hSh, FR.rf⟩
  have := kc_0
  have := kc_1
  refine q_iload_n hM dX12_isThat_0 (lv_at hl 1 rfl) ?_
  refine q_i2l hM dX12_isThat_1 ?_
  have := l_i2l i
  refine q_lconst (v := 0) hM dX12_isThat_2 (by decide) ?_
  have := kl_0
  refine q_ldc2 (v := 7) hM (kAW (v_6_2 (List.mem_of_getElem? (i := 3) rfl)) rfl) dX12_isThat_3 ?_
  have := kl_7
  refine q_callS (As := [.long i.toInt64, .long (0 : Int64), .long (7 : Int64)]) (rest := []) hM hW.1 hR hC myX12_lies (kAW (v_5_4 (List.mem_of_getElem? (i := 14) rfl)) rfl) (c_X12_lies _ _ cA ad g0 i.toInt64 (0 : Int64) (7 : Int64) hW.2.1) ⟨by decide, by decide⟩ rfl rfl hl.1 (Nat.le_of_ble_eq_true rfl) dX12_isThat_6 (fun v g13549 H locs hp hW1 => ?_)
  obtain ⟨r13548, rfl, hr13548, rfl⟩ := hp
  have hW : WS ad cA (fun i k => False) g0 K g0 H locs := ⟨hW1, hW.2.1, hW.2.2⟩
  refine q_if_eq (tgt := 25) hM dX12_isThat_9 (by decide) (rfl : r13548.toInt = r13548.toInt) (fun h9 => ?_) (fun h9 => ?_)
  · refine q_iconst (v := (0 : Int32)) hM dX12_isThat_25 (by decide) ?_
    exact hE _ _ _ _ _ _ hW.1 nz_0 ⟨_, rfl, ⟨(by unfold ti; rw [if_neg (fun ⟨h3, h4, h5⟩ => by omega)]; exact kc_0), by omega⟩, rfl⟩ dX12_isThat_26
  · refine q_aload_n hM dX12_isThat_12 (lv_at hl 0 rfl) ?_
    refine w_get (v := .ref (ad 158)) hM hW FG_X12_100 lb_129 (rf_129_52 hW.2.1) dX12_isThat_13 ?_
    refine q_iload_n hM dX12_isThat_16 (lv_at hl 1 rfl) ?_
    refine w_zald hM hW lb_158 (i_in (by omega) (by omega)) dX12_isThat_17 ?_
    refine q_top (fun y13552 hy13552 => ?_)
    refine q_if_eq (tgt := 25) hM dX12_isThat_18 (by decide) (rfl : y13552.toInt = y13552.toInt) (fun h18 => ?_) (fun h18 => ?_)
    · refine q_iconst (v := (0 : Int32)) hM dX12_isThat_25 (by decide) ?_
      exact hE _ _ _ _ _ _ hW.1 nz_0 ⟨_, rfl, ⟨(by unfold ti; rw [if_neg (fun ⟨h3, h4, h5⟩ => absurd h5 (by show ¬ (arI g0 158 i.toNatClampNeg).toInt ≠ 0; rw [← hy13552]; omega))]; exact kc_0), by omega⟩, rfl⟩ dX12_isThat_26
    · refine q_iconst (v := (1 : Int32)) hM dX12_isThat_21 (by decide) ?_
      refine q_goto (tgt := 26) hM dX12_isThat_22 (by decide) ?_
      exact hE _ _ _ _ _ _ hW.1 nz_1 ⟨_, rfl, ⟨(by unfold ti; rw [if_pos ⟨by omega, by omega, by show (arI g0 158 i.toNatClampNeg).toInt ≠ 0; rw [← hy13552]; omega⟩]; exact kc_1), by omega⟩, rfl⟩ dX12_isThat_26


set_option maxRecDepth 100000 in
set_option maxHeartbeats 4000000 in
theorem s3_X12_reminds (l : Launch) (D : va_G) (cA : Nat → ClassId) (ad : Nat → Nat) (g0 : Nat → va_E) (a : Int32) (b : Int32) (c : Int32)   (hSh : Shp ad cA g0) (hG : Rng g0) : CT l NN ad cA D yX12_reminds cX12_reminds 4 (some FieldType.boolean) (2, 46) [.ref (ad 129), .int a, .int b, .int c] g0 (fun v g' => ∃ (r : Int32), v = some (.int r) ∧ Shp ad cA g' ∧ Rng g' ∧ FR (fun i k => i = 175) g0 g' ∧ ((r.toInt = 1 ∧ ti (arI g0 158) 8 a = 1 ∧ ti (arI g0 158) 8 b = 1 ∧ a.toInt ≠ b.toInt ∧ 0 ≤ c.toInt ∧ c.toInt ≤ 99) ∨ (r.toInt = 0 ∧ ¬ (ti (arI g0 158) 8 a = 1 ∧ ti (arI g0 158) 8 b = 1 ∧ a.toInt ≠ b.toInt ∧ 0 ≤ c.toInt ∧ c.toInt ≤ 99)))) := by
  refine q_enterZ (by decide) (Nat.le_of_ble_eq_true rfl) (fun K H locs ls _ _ hM hW0 hR hC hE hl => ?_)
  have hl : lv_has ls 4 [(0, .ref (ad 129)), (1, .int a), (2, .int b), (3, .int c)] := hl
  have hW : WS ad cA (fun i k => i = 175) g0 K g0 H locs := ⟨hW0, hSh, FR.rf⟩
  have := kc_0
  have := kc_1
  refine q_aload_n hM dX12_reminds_0 (lv_at hl 0 rfl) ?_
  refine q_iload_n hM dX12_reminds_1 (lv_at hl 1 rfl) ?_
  refine q_callV (As := [.int a]) (rest := []) hM hW.1 hR hC myX12_isThat (kAW (v_6_2 (List.mem_of_getElem? (i := 9) rfl)) rfl) (rfl : vwCl[12]? = some (RX12, TX12, 86)) rfl lb_129.1 (shO hW.2.1 lb_129) (s_X12_isThat _ _ cA ad g0 a hW.2.1 hG) ⟨by decide, by decide⟩ rfl rfl hl.1 (Nat.le_of_ble_eq_true rfl) dX12_reminds_2 (fun v g13556 H locs hp hW1 => ?_)
  obtain ⟨r13555, rfl, hr13555, rfl⟩ := hp
  have hW : WS ad cA (fun i k => i = 175) g0 K g0 H locs := ⟨hW1, hW.2.1, hW.2.2⟩
  refine q_if_eq (tgt := 33) hM dX12_reminds_5 (by decide) (rfl : r13555.toInt = r13555.toInt) (fun h5 => ?_) (fun h5 => ?_)
  · refine q_iconst (v := (0 : Int32)) hM dX12_reminds_33 (by decide) ?_
    exact hE _ _ _ _ _ _ hW.1 nz_0 ⟨_, rfl, hW.2.1, hG, hW.2.2, (by have := kc_0; omega)⟩ dX12_reminds_34
  · refine q_aload_n hM dX12_reminds_8 (lv_at hl 0 rfl) ?_
    refine q_iload_n hM dX12_reminds_9 (lv_at hl 2 rfl) ?_
    refine q_callV (As := [.int b]) (rest := []) hM hW.1 hR hC myX12_isThat (kAW (v_6_2 (List.mem_of_getElem? (i := 9) rfl)) rfl) (rfl : vwCl[12]? = some (RX12, TX12, 86)) rfl lb_129.1 (shO hW.2.1 lb_129) (s_X12_isThat _ _ cA ad g0 b hW.2.1 hG) ⟨by decide, by decide⟩ rfl rfl hl.1 (Nat.le_of_ble_eq_true rfl) dX12_reminds_10 (fun v g13560 H locs hp hW1 => ?_)
    obtain ⟨r13559, rfl, hr13559, rfl⟩ := hp
    have hW : WS ad cA (fun i k => i = 175) g0 K g0 H locs := ⟨hW1, hW.2.1, hW.2.2⟩
    refine q_if_eq (tgt := 33) hM dX12_reminds_13 (by decide) (rfl : r13559.toInt = r13559.toInt) (fun h13 => ?_) (fun h13 => ?_)
    · refine q_iconst (v := (0 : Int32)) hM dX12_reminds_33 (by decide) ?_
      exact hE _ _ _ _ _ _ hW.1 nz_0 ⟨_, rfl, hW.2.1, hG, hW.2.2, (by have := kc_0; omega)⟩ dX12_reminds_34
    · refine q_iload_n hM dX12_reminds_16 (lv_at hl 1 rfl) ?_
      refine q_iload_n hM dX12_reminds_17 (lv_at hl 2 rfl) ?_
      refine q_icmp_eq (tgt := 33) hM dX12_reminds_18 (by decide) (rfl : a.toInt = a.toInt) (rfl : b.toInt = b.toInt) (fun h18 => ?_) (fun h18 => ?_)
      · refine q_iconst (v := (0 : Int32)) hM dX12_reminds_33 (by decide) ?_
        exact hE _ _ _ _ _ _ hW.1 nz_0 ⟨_, rfl, hW.2.1, hG, hW.2.2, (by have := kc_0; omega)⟩ dX12_reminds_34
      · refine q_iload_n hM dX12_reminds_21 (lv_at hl 3 rfl) ?_
        refine q_i2l hM dX12_reminds_22 ?_
        have := l_i2l c
        refine q_lconst (v := 0) hM dX12_reminds_23 (by decide) ?_
        have := kl_0
        refine q_ldc2 (v := 99) hM (kAW (v_6_2 (List.mem_of_getElem? (i := 4) rfl)) rfl) dX12_reminds_24 ?_
        have := kl_99
        refine q_callS (As := [.long c.toInt64, .long (0 : Int64), .long (99 : Int64)]) (rest := []) hM hW.1 hR hC myX12_lies (kAW (v_5_4 (List.mem_of_getElem? (i := 14) rfl)) rfl) (c_X12_lies _ _ cA ad g0 c.toInt64 (0 : Int64) (99 : Int64) hW.2.1) ⟨by decide, by decide⟩ rfl rfl hl.1 (Nat.le_of_ble_eq_true rfl) dX12_reminds_27 (fun v g13566 H locs hp hW1 => ?_)
        obtain ⟨r13565, rfl, hr13565, rfl⟩ := hp
        have hW : WS ad cA (fun i k => i = 175) g0 K g0 H locs := ⟨hW1, hW.2.1, hW.2.2⟩
        refine q_if_ne (tgt := 35) hM dX12_reminds_30 (by decide) (rfl : r13565.toInt = r13565.toInt) (fun h30 => ?_) (fun h30 => ?_)
        · refine q_aload_n hM dX12_reminds_35 (lv_at hl 0 rfl) ?_
          refine w_get (v := .ref (ad 175)) hM hW FG_X12_151 lb_129 (rf_129_81 hW.2.1) dX12_reminds_36 ?_
          refine q_bipush (v := (8 : Int32)) hM dX12_reminds_39 (by decide) ?_
          refine q_iload_n hM dX12_reminds_41 (lv_at hl 1 rfl) ?_
          refine q_imul hM dX12_reminds_42 (fun z13568 hz13568 => ?_)
          first | have tz13568 := i_mulT hz13568 (kc_8 : (8 : Int32).toInt = 8) (rfl : a.toInt = a.toInt) (by omega) (by omega) | skip
          refine q_iload_n hM dX12_reminds_43 (lv_at hl 2 rfl) ?_
          refine q_iadd hM dX12_reminds_44 (fun z13569 hz13569 => ?_)
          first | have tz13569 := i_addT hz13569 (rfl : z13568.toInt = z13568.toInt) (rfl : b.toInt = b.toInt) (by omega) (by omega) | skip
          refine q_iload_n hM dX12_reminds_45 (lv_at hl 3 rfl) ?_
          refine w_iast hM hW lb_175 (by omega) (i_in (by omega) (by omega)) dX12_reminds_46 (fun g13570 H locs hW e1 e2 => ?_)
          have hG := hG.st e1 e2 (rfl : rA 175 = (-2147483648, 2147483647)) (by have := i_rng c; omega) (by have := i_rng c; omega)
          refine q_aload_n hM dX12_reminds_47 (lv_at hl 0 rfl) ?_
          refine w_get (v := .ref (ad 175)) hM hW FG_X12_151 lb_129 (rf_129_81 hW.2.1) dX12_reminds_48 ?_
          refine q_bipush (v := (8 : Int32)) hM dX12_reminds_51 (by decide) ?_
          refine q_iload_n hM dX12_reminds_53 (lv_at hl 2 rfl) ?_
          refine q_imul hM dX12_reminds_54 (fun z13571 hz13571 => ?_)
          first | have tz13571 := i_mulT hz13571 (kc_8 : (8 : Int32).toInt = 8) (rfl : b.toInt = b.toInt) (by omega) (by omega) | skip
          refine q_iload_n hM dX12_reminds_55 (lv_at hl 1 rfl) ?_
          refine q_iadd hM dX12_reminds_56 (fun z13572 hz13572 => ?_)
          first | have tz13572 := i_addT hz13572 (rfl : z13571.toInt = z13571.toInt) (rfl : a.toInt = a.toInt) (by omega) (by omega) | skip
          refine q_iload_n hM dX12_reminds_57 (lv_at hl 3 rfl) ?_
          refine w_iast hM hW lb_175 (by omega) (i_in (by omega) (by omega)) dX12_reminds_58 (fun g13573 H locs hW e1 e2 => ?_)
          have hG := hG.st e1 e2 (rfl : rA 175 = (-2147483648, 2147483647)) (by have := i_rng c; omega) (by have := i_rng c; omega)
          refine q_iconst (v := (1 : Int32)) hM dX12_reminds_59 (by decide) ?_
          exact hE _ _ _ _ _ _ hW.1 nz_1 ⟨_, rfl, hW.2.1, hG, hW.2.2, (by have := kc_1; omega)⟩ dX12_reminds_60
        · refine q_iconst (v := (0 : Int32)) hM dX12_reminds_33 (by decide) ?_
          exact hE _ _ _ _ _ _ hW.1 nz_0 ⟨_, rfl, hW.2.1, hG, hW.2.2, (by have := kc_0; omega)⟩ dX12_reminds_34
