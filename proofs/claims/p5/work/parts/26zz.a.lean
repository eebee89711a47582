
set_option maxRecDepth 100000 in
set_option maxHeartbeats 4000000 in
theorem s3_X11_knows (l : Launch) (D : va_G) (cA : Nat → ClassId) (ad : Nat → Nat) (g0 : Nat → va_E) (a : Int32) (b : Int32) (c : Int32) (tp : Int32) (td : Int32)  (hSh : Shp ad cA g0) (hG : Rng g0) (h_tp : fld g0 18 3 = .int tp) (h_td : fld g0 3 2 = .int td) : CT l NN ad cA D yX11_knows cX11_knows 4 (some FieldType.boolean) (1, 22) [.ref (ad 0), .int a, .int b, .int c] g0 (fun v g' => ∃ (r : Int32), v = some (.int r) ∧ Shp ad cA g' ∧ Rng g' ∧ FR (fun i k => (22 ≤ i ∧ i < 30)) g0 g' ∧ ((r.toInt = 1 ∧ bi tp a = 1 ∧ bi td b = 1 ∧ 0 ≤ c.toInt ∧ c.toInt ≤ 99) ∨ (r.toInt = 0 ∧ ¬ (bi tp a = 1 ∧ bi td b = 1 ∧ 0 ≤ c.toInt ∧ c.toInt ≤ 99)))) := by
  refine q_enterZ (by decide) (Nat.le_of_ble_eq_true rfl) (fun K H locs ls _ _ hM hW0 hR hC hE hl => ?_)
  have hl : lv_has ls 4 [(0, .ref (ad 0)), (1, .int a), (2, .int b), (3, .int c)] := hl
  have hW : WS ad cA (fun i k => (22 ≤ i ∧ i < 30)) g0 K g0 H locs := ⟨hW0, hSh, FR.rf⟩
  have b_tp := hG.f h_tp rF_18_3 (by decide)
  have b_td := hG.f h_td rF_3_2 (by decide)
  have := kc_0
  have := kc_1
  refine q_aload_n hM dX11_knows_0 (lv_at hl 0 rfl) ?_
  refine w_get (v := .ref (ad 18)) hM hW FG_X11_26 lb_0 (rf_0_10 hW.2.1) dX11_knows_1 ?_
  refine w_get (v := .int tp) hM hW FG_X11_135 lb_18 ((hW.2.2.1 18 3 (by omega)).trans h_tp) dX11_knows_4 ?_
  refine q_iload_n hM dX11_knows_7 (lv_at hl 1 rfl) ?_
  refine q_callS (As := [.int tp, .int a]) (rest := []) hM hW.1 hR hC myX11_has (kAW (v_1_10 (List.mem_of_getElem? (i := 8) rfl)) rfl) (c_X11_has _ _ cA ad g0 tp a hW.2.1) ⟨by decide, by decide⟩ rfl rfl hl.1 (Nat.le_of_ble_eq_true rfl) dX11_knows_8 (fun v g13533 H locs hp hW1 => ?_)
  obtain ⟨r13532, rfl, hr13532, rfl⟩ := hp
  have hW : WS ad cA (fun i k => (22 ≤ i ∧ i < 30)) g0 K g0 H locs := ⟨hW1, hW.2.1, hW.2.2⟩
  have hbr13532 := has_bi hr13532
  have hcr13532 := bi_01 tp a
  first | have ltr13532 := has_lt 5 hr13532 (by omega) (by omega) | have ltr13532 := has_lt 6 hr13532 (by omega) (by omega) | have ltr13532 := has_lt 8 hr13532 (by omega) (by omega) | have ltr13532 := has_lt 12 hr13532 (by omega) (by omega) | skip
  refine q_if_eq (tgt := 38) hM dX11_knows_11 (by decide) (rfl : r13532.toInt = r13532.toInt) (fun h11 => ?_) (fun h11 => ?_)
  · refine q_iconst (v := (0 : Int32)) hM dX11_knows_38 (by decide) ?_
    exact hE _ _ _ _ _ _ hW.1 nz_0 ⟨_, rfl, hW.2.1, hG, hW.2.2, (by have := kc_0; omega)⟩ dX11_knows_39
  · refine q_aload_n hM dX11_knows_14 (lv_at hl 0 rfl) ?_
    refine w_get (v := .ref (ad 3)) hM hW FG_X11_19 lb_0 (rf_0_1 hW.2.1) dX11_knows_15 ?_
    refine w_get (v := .int td) hM hW FG_X11_116 lb_3 ((hW.2.2.1 3 2 (by omega)).trans h_td) dX11_knows_18 ?_
    refine q_iload_n hM dX11_knows_21 (lv_at hl 2 rfl) ?_
    refine q_callS (As := [.int td, .int b]) (rest := []) hM hW.1 hR hC myX11_has (kAW (v_1_10 (List.mem_of_getElem? (i := 8) rfl)) rfl) (c_X11_has _ _ cA ad g0 td b hW.2.1) ⟨by decide, by decide⟩ rfl rfl hl.1 (Nat.le_of_ble_eq_true rfl) dX11_knows_22 (fun v g13537 H locs hp hW1 => ?_)
    obtain ⟨r13536, rfl, hr13536, rfl⟩ := hp
    have hW : WS ad cA (fun i k => (22 ≤ i ∧ i < 30)) g0 K g0 H locs := ⟨hW1, hW.2.1, hW.2.2⟩
    have hbr13536 := has_bi hr13536
    have hcr13536 := bi_01 td b
    first | have ltr13536 := has_lt 5 hr13536 (by omega) (by omega) | have ltr13536 := has_lt 6 hr13536 (by omega) (by omega) | have ltr13536 := has_lt 8 hr13536 (by omega) (by omega) | have ltr13536 := has_lt 12 hr13536 (by omega) (by omega) | skip
    refine q_if_eq (tgt := 38) hM dX11_knows_25 (by decide) (rfl : r13536.toInt = r13536.toInt) (fun h25 => ?_) (fun h25 => ?_)
    · refine q_iconst (v := (0 : Int32)) hM dX11_knows_38 (by decide) ?_
      exact hE _ _ _ _ _ _ hW.1 nz_0 ⟨_, rfl, hW.2.1, hG, hW.2.2, (by have := kc_0; omega)⟩ dX11_knows_39
    · refine q_iload_n hM dX11_knows_28 (lv_at hl 3 rfl) ?_
      refine q_iconst (v := (0 : Int32)) hM dX11_knows_29 (by decide) ?_
      refine q_bipush (v := (99 : Int32)) hM dX11_knows_30 (by decide) ?_
      refine q_callS (As := [.int c, .int (0 : Int32), .int (99 : Int32)]) (rest := []) hM hW.1 hR hC myX11_within (kAW (v_1_10 (List.mem_of_getElem? (i := 1) rfl)) rfl) (c_X11_within _ _ cA ad g0 c (0 : Int32) (99 : Int32) hW.2.1) ⟨by decide, by decide⟩ rfl rfl hl.1 (Nat.le_of_ble_eq_true rfl) dX11_knows_32 (fun v g13541 H locs hp hW1 => ?_)
      obtain ⟨r13540, rfl, hr13540, rfl⟩ := hp
      have hW : WS ad cA (fun i k => (22 ≤ i ∧ i < 30)) g0 K g0 H locs := ⟨hW1, hW.2.1, hW.2.2⟩
      have := kc_0
      have := kc_99
      refine q_if_ne (tgt := 40) hM dX11_knows_35 (by decide) (rfl : r13540.toInt = r13540.toInt) (fun h35 => ?_) (fun h35 => ?_)
      · refine q_aload_n hM dX11_knows_40 (lv_at hl 0 rfl) ?_
        refine w_get (v := .ref (ad 18)) hM hW FG_X11_26 lb_0 (rf_0_10 hW.2.1) dX11_knows_41 ?_
        refine w_get (v := .ref (ad 21)) hM hW FG_X11_136 lb_18 (rf_18_2 hW.2.1) dX11_knows_44 ?_
        refine q_iload_n hM dX11_knows_47 (lv_at hl 1 rfl) ?_
        refine w_aald hM hW lb_21 (Or.inl rfl) (i_in (by omega) (by omega)) (aq (aq_21 hW.2.1) (by omega) (by omega)) dX11_knows_48 ?_
        refine q_iload_n hM dX11_knows_49 (lv_at hl 2 rfl) ?_
        refine q_iload_n hM dX11_knows_50 (lv_at hl 3 rfl) ?_
        refine w_iast hM hW (lr_22 (by omega)) (by omega) (i_in (by omega) (by omega)) dX11_knows_51 (fun g13543 H locs hW e1 e2 => ?_)
        have hG := hG.st e1 e2 (rA_row_22 (by omega)) (by have := i_rng c; omega) (by have := i_rng c; omega)
        refine q_iconst (v := (1 : Int32)) hM dX11_knows_52 (by decide) ?_
        exact hE _ _ _ _ _ _ hW.1 nz_1 ⟨_, rfl, hW.2.1, hG, hW.2.2, (by have := kc_1; omega)⟩ dX11_knows_53
      · refine q_iconst (v := (0 : Int32)) hM dX11_knows_38 (by decide) ?_
        exact hE _ _ _ _ _ _ hW.1 nz_0 ⟨_, rfl, hW.2.1, hG, hW.2.2, (by have := kc_0; omega)⟩ dX11_knows_39


set_option maxRecDepth 100000 in
set_option maxHeartbeats 4000000 in
theorem s_X12_isTold (l : Launch) (D : va_G) (cA : Nat → ClassId) (ad : Nat → Nat) (g0 : Nat → va_E) (i : Int32) (hSh : Shp ad cA g0) (hG : Rng g0) : CT l NN ad cA D yX12_isTold cX12_isTold 2 (some FieldType.boolean) (1, 25) [.ref (ad 129), .int i] g0 (PU g0 (fun r => r.toInt = ti (arI g0 131) 12 i ∧ (r.toInt = 0 ∨ (r.toInt = 1 ∧ 0 ≤ i.toInt ∧ i.toInt < 12)))) := by
  refine q_enterZ (by decide) (Nat.le_of_ble_eq_true rfl) (fun K H locs ls _ _ hM hW0 hR hC hE hl => ?_)
  have hl : lv_has ls 2 [(0, .ref (ad 129)), (1, .int i)] := hl
  have hW : WS ad cA (fun i k => False) g0 K g0 H locs := ⟨hW0, hSh, FR.rf⟩
  have := kc_0
  have := kc_1
  refine q_iload_n hM dX12_isTold_0 (lv_at hl 1 rfl) ?_
  refine q_i2l hM dX12_isTold_1 ?_
  have := l_i2l i
  refine q_lconst (v := 0) hM dX12_isTold_2 (by decide) ?_
  have := kl_0
  refine q_ldc2 (v := 11) hM (kAW (v_5_4 (List.mem_of_getElem? (i := 13) rfl)) rfl) dX12_isTold_3 ?_
  have := kl_11
  refine q_callS (As := [.long i.toInt64, .long (0 : Int64), .long (11 : Int64)]) (rest := []) hM hW.1 hR hC myX12_lies (kAW (v_5_4 (List.mem_of_getElem? (i := 14) rfl)) rfl) (c_X12_lies _ _ cA ad g0 i.toInt64 (0 : Int64) (11 : Int64) hW.2.1) ⟨by decide, by decide⟩ rfl rfl hl.1 (Nat.le_of_ble_eq_true rfl) dX12_isTold_6 (fun v g13546 H locs hp hW1 => ?_)
  obtain ⟨r13545, rfl, hr13545, rfl⟩ := hp
  have hW : WS ad cA (fun i k => False) g0 K g0 H locs := ⟨hW1, hW.2.1, hW.2.2⟩
  refine q_if_eq (tgt := 25) hM dX12_isTold_9 (by decide) (rfl : r13545.toInt = r13545.toInt) (fun h9 => ?_) (fun h9 => ?_)
  · refine q_iconst (v := (0 : Int32)) hM dX12_isTold_25 (by decide) ?_
    exact hE _ _ _ _ _ _ hW.1 nz_0 ⟨_, rfl, ⟨(by unfold ti; rw [if_neg (fun ⟨h3, h4, h5⟩ => by omega)]; exact kc_0), by omega⟩, rfl⟩ dX12_isTold_26
  · refine q_aload_n hM dX12_isTold_12 (lv_at hl 0 rfl) ?_
    refine w_get (v := .ref (ad 131)) hM hW FG_X12_17 lb_129 (rf_129_10 hW.2.1) dX12_isTold_13 ?_
    refine q_iload_n hM dX12_isTold_16 (lv_at hl 1 rfl) ?_
    refine w_zald hM hW lb_131 (i_in (by omega) (by omega)) dX12_isTold_17 ?_
    refine q_top (fun y13549 hy13549 => ?_)
    refine q_if_eq (tgt := 25) hM dX12_isTold_18 (by decide) (rfl : y13549.toInt = y13549.toInt) (fun h18 => ?_) (fun h18 => ?_)
    · refine q_iconst (v := (0 : Int32)) hM dX12_isTold_25 (by decide) ?_
      exact hE _ _ _ _ _ _ hW.1 nz_0 ⟨_, rfl, ⟨(by unfold ti; rw [if_neg (fun ⟨h3, h4, h5⟩ => absurd h5 (by show ¬ (arI g0 131 i.toNatClampNeg).toInt ≠ 0; rw [← hy13549]; omega))]; exact kc_0), by omega⟩, rfl⟩ dX12_isTold_26
    · refine q_iconst (v := (1 : Int32)) hM dX12_isTold_21 (by decide) ?_
      refine q_goto (tgt := 26) hM dX12_isTold_22 (by decide) ?_
      exact hE _ _ _ _ _ _ hW.1 nz_1 ⟨_, rfl, ⟨(by unfold ti; rw [if_pos ⟨by omega, by omega, by show (arI g0 131 i.toNatClampNeg).toInt ≠ 0; rw [← hy13549]; omega⟩]; exact kc_1), by omega⟩, rfl⟩ dX12_isTold_26


set_option maxRecDepth 100000 in
set_option maxHeartbeats 4000000 in
theorem s_X12_isThat (l : Launch) (D : va_G) (cA : Nat → ClassId) (ad : Nat → Nat) (g0 : Nat → va_E) (i : Int32) (hSh : Shp ad cA g0) (hG : Rng g0) : CT l NN ad cA D yX12_isThat cX12_isThat 2 (some FieldType.boolean) (1, 25) [.ref (ad 129), .int i] g0 (PU g0 (fun r => r.toInt = ti (arI g0 158) 8 i ∧ (r.toInt = 0 ∨ (r.toInt = 1 ∧ 0 ≤ i.toInt ∧ i.toInt < 8)))) := by
  refine q_enterZ (by decide) (Nat.le_of_ble_eq_true rfl) (fun K H locs ls _ _ hM hW0 hR hC hE hl => ?_)
  have hl : lv_has ls 2 [(0, .ref (ad 129)), (1, .int i)] := hl
  have hW : WS ad cA (fun i k => False) g0 K g0 H locs := ⟨hW0, hSh, FR.rf⟩
  have := kc_0
  have := kc_1
  refine q_iload_n hM dX12_isThat_0 (lv_at hl 1 rfl) ?_
  refine q_i2l hM dX12_isThat_1 ?_
  have := l_i2l i
  refine q_lconst (v := 0) hM dX12_isThat_2 (by decide) ?_
  have := kl_0
  refine q_ldc2 (v := 7) hM (kAW (v_6_2 (List.mem_of_getElem? (i := 3) rfl)) rfl) dX12_isThat_3 ?_
  have := kl_7
  refine q_callS (As := [.long i.toInt64, .long (0 : Int64), .long (7 : Int64)]) (rest := []) hM hW.1 hR hC myX12_lies (kAW (v_5_4 (List.mem_of_getElem? (i := 14) rfl)) rfl) (c_X12_lies _ _ cA ad g0 i.toInt64 (0 : Int64) (7 : Int64) hW.2.1) ⟨by decide, by decide⟩ rfl rfl hl.1 (Nat.le_of_ble_eq_true rfl) dX12_isThat_6 (fun v g13553 H locs hp hW1 => ?_)
  obtain ⟨r13552, rfl, hr13552, rfl⟩ := hp
  have hW : WS ad cA (fun i k => False) g0 K g0 H locs := ⟨hW1, hW.2.1, hW.2.2⟩
  refine q_if_eq (tgt := 25) hM dX12_isThat_9 (by decide) (rfl : r13552.toInt = r13552.toInt) (fun h9 => ?_) (fun h9 => ?_)
  · refine q_iconst (v := (0 : Int32)) hM dX12_isThat_25 (by decide) ?_
    exact hE _ _ _ _ _ _ hW.1 nz_0 ⟨_, rfl, ⟨(by unfold ti; rw [if_neg (fun ⟨h3, h4, h5⟩ => by omega)]; exact kc_0), by omega⟩, rfl⟩ dX12_isThat_26
  · refine q_aload_n hM dX12_isThat_12 (lv_at hl 0 rfl) ?_
    refine w_get (v := .ref (ad 158)) hM hW FG_X12_100 lb_129 (rf_129_52 hW.2.1) dX12_isThat_13 ?_
    refine q_iload_n hM dX12_isThat_16 (lv_at hl 1 rfl) ?_
    refine w_zald hM hW lb_158 (i_in (by omega) (by omega)) dX12_isThat_17 ?_
    refine q_top (fun y13556 hy13556 => ?_)
    refine q_if_eq (tgt := 25) hM dX12_isThat_18 (by decide) (rfl : y13556.toInt = y13556.toInt) (fun h18 => ?_) (fun h18 => ?_)
    · refine q_iconst (v := (0 : Int32)) hM dX12_isThat_25 (by decide) ?_
      exact hE _ _ _ _ _ _ hW.1 nz_0 ⟨_, rfl, ⟨(by unfold ti; rw [if_neg (fun ⟨h3, h4, h5⟩ => absurd h5 (by show ¬ (arI g0 158 i.toNatClampNeg).toInt ≠ 0; rw [← hy13556]; omega))]; exact kc_0), by omega⟩, rfl⟩ dX12_isThat_26
    · refine q_iconst (v := (1 : Int32)) hM dX12_isThat_21 (by decide) ?_
      refine q_goto (tgt := 26) hM dX12_isThat_22 (by decide) ?_
      exact hE _ _ _ _ _ _ hW.1 nz_1 ⟨_, rfl, ⟨(by unfold ti; rw [if_pos ⟨by omega, by omega, by show (arI g0 158 i.toNatClampNeg).toInt ≠ 0; rw [← hy13556]; omega⟩]; exact kc_1), by omega⟩, rfl⟩ dX12_isThat_26


set_option maxRecDepth 100000 in
set_option maxHeartbeats 4000000 in
theorem s3_X12_knows (l : Launch) (D : va_G) (cA : Nat → ClassId) (ad : Nat → Nat) (g0 : Nat → va_E) (a : Int32) (b : Int32) (c : Int32)   (hSh : Shp ad cA g0) (hG : Rng g0) : CT l NN ad cA D yX12_knows cX12_knows 4 (some FieldType.boolean) (2, 46) [.ref (ad 129), .int a, .int b, .int c] g0 (fun v g' => ∃ (r : Int32), v = some (.int r) ∧ Shp ad cA g' ∧ Rng g' ∧ FR (fun i k => i = 161) g0 g' ∧ ((r.toInt = 1 ∧ ti (arI g0 158) 8 a = 1 ∧ ti (arI g0 131) 12 b = 1 ∧ 0 ≤ c.toInt ∧ c.toInt ≤ 99) ∨ (r.toInt = 0 ∧ ¬ (ti (arI g0 158) 8 a = 1 ∧ ti (arI g0 131) 12 b = 1 ∧ 0 ≤ c.toInt ∧ c.toInt ≤ 99)))) := by
  refine q_enterZ (by decide) (Nat.le_of_ble_eq_true rfl) (fun K H locs ls _ _ hM hW0 hR hC hE hl => ?_)
  have hl : lv_has ls 4 [(0, .ref (ad 129)), (1, .int a), (2, .int b), (3, .int c)] := hl
  have hW : WS ad cA (fun i k => i = 161) g0 K g0 H locs := ⟨hW0, hSh, FR.rf⟩
  have := kc_0
  have := kc_1
  refine q_aload_n hM dX12_knows_0 (lv_at hl 0 rfl) ?_
  refine q_iload_n hM dX12_knows_1 (lv_at hl 1 rfl) ?_
  refine q_callV (As := [.int a]) (rest := []) hM hW.1 hR hC myX12_isThat (kAW (v_6_2 (List.mem_of_getElem? (i := 9) rfl)) rfl) (rfl : vwCl[12]? = some (RX12, TX12, 86)) rfl lb_129.1 (shO hW.2.1 lb_129) (s_X12_isThat _ _ cA ad g0 a hW.2.1 hG) ⟨by decide, by decide⟩ rfl rfl hl.1 (Nat.le_of_ble_eq_true rfl) dX12_knows_2 (fun v g13560 H locs hp hW1 => ?_)
  obtain ⟨r13559, rfl, hr13559, rfl⟩ := hp
  have hW : WS ad cA (fun i k => i = 161) g0 K g0 H locs := ⟨hW1, hW.2.1, hW.2.2⟩
  refine q_if_eq (tgt := 28) hM dX12_knows_5 (by decide) (rfl : r13559.toInt = r13559.toInt) (fun h5 => ?_) (fun h5 => ?_)
  · refine q_iconst (v := (0 : Int32)) hM dX12_knows_28 (by decide) ?_
    exact hE _ _ _ _ _ _ hW.1 nz_0 ⟨_, rfl, hW.2.1, hG, hW.2.2, (by have := kc_0; omega)⟩ dX12_knows_29
  · refine q_aload_n hM dX12_knows_8 (lv_at hl 0 rfl) ?_
    refine q_iload_n hM dX12_knows_9 (lv_at hl 2 rfl) ?_
    refine q_callV (As := [.int b]) (rest := []) hM hW.1 hR hC myX12_isTold (kAW (v_5_5 (List.mem_of_getElem? (i := 6) rfl)) rfl) (rfl : vwCl[12]? = some (RX12, TX12, 86)) rfl lb_129.1 (shO hW.2.1 lb_129) (s_X12_isTold _ _ cA ad g0 b hW.2.1 hG) ⟨by decide, by decide⟩ rfl rfl hl.1 (Nat.le_of_ble_eq_true rfl) dX12_knows_10 (fun v g13564 H locs hp hW1 => ?_)
    obtain ⟨r13563, rfl, hr13563, rfl⟩ := hp
    have hW : WS ad cA (fun i k => i = 161) g0 K g0 H locs := ⟨hW1, hW.2.1, hW.2.2⟩
    refine q_if_eq (tgt := 28) hM dX12_knows_13 (by decide) (rfl : r13563.toInt = r13563.toInt) (fun h13 => ?_) (fun h13 => ?_)
    · refine q_iconst (v := (0 : Int32)) hM dX12_knows_28 (by decide) ?_
      exact hE _ _ _ _ _ _ hW.1 nz_0 ⟨_, rfl, hW.2.1, hG, hW.2.2, (by have := kc_0; omega)⟩ dX12_knows_29
    · refine q_iload_n hM dX12_knows_16 (lv_at hl 3 rfl) ?_
      refine q_i2l hM dX12_knows_17 ?_
      have := l_i2l c
      refine q_lconst (v := 0) hM dX12_knows_18 (by decide) ?_
      have := kl_0
      refine q_ldc2 (v := 99) hM (kAW (v_6_2 (List.mem_of_getElem? (i := 4) rfl)) rfl) dX12_knows_19 ?_
      have := kl_99
      refine q_callS (As := [.long c.toInt64, .long (0 : Int64), .long (99 : Int64)]) (rest := []) hM hW.1 hR hC myX12_lies (kAW (v_5_4 (List.mem_of_getElem? (i := 14) rfl)) rfl) (c_X12_lies _ _ cA ad g0 c.toInt64 (0 : Int64) (99 : Int64) hW.2.1) ⟨by decide, by decide⟩ rfl rfl hl.1 (Nat.le_of_ble_eq_true rfl) dX12_knows_22 (fun v g13568 H locs hp hW1 => ?_)
      obtain ⟨r13567, rfl, hr13567, rfl⟩ := hp
      have hW : WS ad cA (fun i k => i = 161) g0 K g0 H locs := ⟨hW1, hW.2.1, hW.2.2⟩
      refine q_if_ne (tgt := 30) hM dX12_knows_25 (by decide) (rfl : r13567.toInt = r13567.toInt) (fun h25 => ?_) (fun h25 => ?_)
      · refine q_aload_n hM dX12_knows_30 (lv_at hl 0 rfl) ?_
        refine w_get (v := .ref (ad 161)) hM hW FG_X12_109 lb_129 (rf_129_55 hW.2.1) dX12_knows_31 ?_
        refine q_bipush (v := (12 : Int32)) hM dX12_knows_34 (by decide) ?_
        refine q_iload_n hM dX12_knows_36 (lv_at hl 1 rfl) ?_
        refine q_imul hM dX12_knows_37 (fun z13570 hz13570 => ?_)
        first | have tz13570 := i_mulT hz13570 (kc_12 : (12 : Int32).toInt = 12) (rfl : a.toInt = a.toInt) (by omega) (by omega) | skip
        refine q_iload_n hM dX12_knows_38 (lv_at hl 2 rfl) ?_
        refine q_iadd hM dX12_knows_39 (fun z13571 hz13571 => ?_)
        first | have tz13571 := i_addT hz13571 (rfl : z13570.toInt = z13570.toInt) (rfl : b.toInt = b.toInt) (by omega) (by omega) | skip
        refine q_iload_n hM dX12_knows_40 (lv_at hl 3 rfl) ?_
        refine w_iast hM hW lb_161 (by omega) (i_in (by omega) (by omega)) dX12_knows_41 (fun g13572 H locs hW e1 e2 => ?_)
        have hG := hG.st e1 e2 (rfl : rA 161 = (-2147483648, 2147483647)) (by have := i_rng c; omega) (by have := i_rng c; omega)
        refine q_iconst (v := (1 : Int32)) hM dX12_knows_42 (by decide) ?_
        exact hE _ _ _ _ _ _ hW.1 nz_1 ⟨_, rfl, hW.2.1, hG, hW.2.2, (by have := kc_1; omega)⟩ dX12_knows_43
      · refine q_iconst (v := (0 : Int32)) hM dX12_knows_28 (by decide) ?_
        exact hE _ _ _ _ _ _ hW.1 nz_0 ⟨_, rfl, hW.2.1, hG, hW.2.2, (by have := kc_0; omega)⟩ dX12_knows_29
