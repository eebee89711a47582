
set_option maxRecDepth 100000 in
set_option maxHeartbeats 4000000 in
theorem s_X12_reachOf (l : Launch) (D : va_G) (cA : Nat → ClassId) (ad : Nat → Nat) (g0 : Nat → va_E) (i : Int32) (wi : Int32) (hSh : Shp ad cA g0) (hG : Rng g0) (i0 : 0 ≤ i.toInt) (i12 : i.toInt < 12) : CT l NN ad cA D yX12_reachOf cX12_reachOf 5 (some FieldType.int) (2, 46) [.ref (ad 129), .int i, .int wi] g0 (PU g0 (fun r => 0 ≤ r.toInt ∧ r.toInt < 4096 ∧ BS r (Rch (Lm g0) (fun q => bt wi q = true) i.toInt.toNat))) := by
  refine q_enterI (by decide) (Nat.le_of_ble_eq_true rfl) rfl (fun K H locs ls _ _ hM hW0 hR hC hE hl => ?_)
  have hl : lv_has ls 5 [(0, .ref (ad 129)), (1, .int i), (2, .int wi)] := hl
  have hW : WS ad cA (fun i k => False) g0 K g0 H locs := ⟨hW0, hSh, FR.rf⟩
  refine q_iconst (v := (0 : Int32)) hM dX12_reachOf_0 (by decide) ?_
  refine q_istore_n (lv9 := [(3, .int (0 : Int32)), (0, .ref (ad 129)), (1, .int i), (2, .int wi)]) hM dX12_reachOf_1 hl (by decide) rfl (fun ls hl => ?_)
  refine q_aload_n hM dX12_reachOf_2 (lv_at hl 1 rfl) ?_
  refine q_iconst (v := (1 : Int32)) hM dX12_reachOf_3 (by decide) ?_
  refine q_iload_n hM dX12_reachOf_4 (lv_at hl 2 rfl) ?_
  refine q_ishl hM dX12_reachOf_5 (fun z13594 hz13594 => ?_)
  first | have sz13594 := i_shl1 12 (by decide) hz13594 (by omega) (by omega) | skip
  refine q_iload_n hM dX12_reachOf_6 (lv_at hl 3 rfl) ?_
  refine q_callV (As := [.int z13594, .int wi]) (rest := []) hM hW.1 hR hC myX12_comesTo (kAW (v_5_6 (List.mem_of_getElem? (i := 3) rfl)) rfl) (rfl : vwCl[12]? = some (RX12, TX12, 86)) rfl lb_129.1 (shO hW.2.1 lb_129) (s_X12_comesTo _ _ cA ad g0 z13594 wi hW.2.1 hG) ⟨by decide, by decide⟩ rfl rfl hl.1 (Nat.le_of_ble_eq_true rfl) dX12_reachOf_7 (fun v g13596 H locs hp hW1 => ?_)
  obtain ⟨r13595, rfl, hr13595, rfl⟩ := hp
  have hW : WS ad cA (fun i k => False) g0 K g0 H locs := ⟨hW1, hW.2.1, hW.2.2⟩
  refine q_istore (lv9 := [(4, .int r13595), (3, .int (0 : Int32)), (0, .ref (ad 129)), (1, .int i), (2, .int wi)]) hM dX12_reachOf_10 hl (by decide) rfl (fun ls hl => ?_)
  have L12 : ∀ (fu12 : Nat) (w12_3 : Int32) (w12_4 : Int32) (H : Heap) (locs : List Loc) (ls : Array Slot), (4096 - w12_3.toInt).toNat < fu12 → (0 ≤ w12_3.toInt) → (w12_3.toInt ≤ w12_4.toInt) → (w12_4.toInt < 4096) → (RMs (Lm g0) wi i w12_3 w12_4) → lv_has ls 5 [(0, .ref (ad 129)), (1, .int i), (2, .int wi), (3, .int w12_3), (4, .int w12_4)] → WS ad cA (fun i k => False) g0 K g0 H locs → XX K 0 0 H locs 12 ls [] := by
    intro fu12
    induction fu12 with
    | zero => intro w12_3 w12_4 H locs ls h0; omega
    | succ fu12 ih12 =>
      intro w12_3 w12_4 H locs ls hm12 i12_0 i12_1 i12_2 i12_3 hl hW
      refine q_iload hM dX12_reachOf_12 (lv_at hl 4 rfl) ?_
      refine q_iload_n hM dX12_reachOf_14 (lv_at hl 3 rfl) ?_
      refine q_icmp_eq (tgt := 34) hM dX12_reachOf_15 (by decide) (rfl : w12_4.toInt = w12_4.toInt) (rfl : w12_3.toInt = w12_3.toInt) (fun h15 => ?_) (fun h15 => ?_)
      · refine q_iload_n hM dX12_reachOf_34 (lv_at hl 3 rfl) ?_
        exact hE _ _ _ _ _ _ hW.1 ⟨_, rfl, ⟨by omega, by omega, RM_end i12_3 (by omega)⟩, rfl⟩ dX12_reachOf_35
      · refine q_iload hM dX12_reachOf_18 (lv_at hl 4 rfl) ?_
        refine q_istore_n (lv9 := [(3, .int w12_4), (0, .ref (ad 129)), (1, .int i), (2, .int wi), (4, .int w12_4)]) hM dX12_reachOf_20 hl (by decide) rfl (fun ls hl => ?_)
        refine q_iload_n hM dX12_reachOf_21 (lv_at hl 0 rfl) ?_
        refine q_aload_n hM dX12_reachOf_22 (lv_at hl 1 rfl) ?_
        refine q_iload_n hM dX12_reachOf_23 (lv_at hl 0 rfl) ?_
        refine q_iload_n hM dX12_reachOf_24 (lv_at hl 3 rfl) ?_
        refine q_callV (As := [.int w12_4, .int wi]) (rest := [.int w12_4]) hM hW.1 hR hC myX12_comesTo (kAW (v_5_6 (List.mem_of_getElem? (i := 3) rfl)) rfl) (rfl : vwCl[12]? = some (RX12, TX12, 86)) rfl lb_129.1 (shO hW.2.1 lb_129) (s_X12_comesTo _ _ cA ad g0 w12_4 wi hW.2.1 hG) ⟨by decide, by decide⟩ rfl rfl hl.1 (Nat.le_of_ble_eq_true rfl) dX12_reachOf_25 (fun v g13601 H locs hp hW1 => ?_)
        obtain ⟨r13600, rfl, hr13600, rfl⟩ := hp
        have hW : WS ad cA (fun i k => False) g0 K g0 H locs := ⟨hW1, hW.2.1, hW.2.2⟩
        refine q_ior hM dX12_reachOf_28 (fun z13602 hz13602 => ?_)
        first | have oz13602 := i_ork 12 (by decide) hz13602 (by omega) (by omega) (by omega) (by omega) | skip
        first | have ogz13602 := i_or_ge hz13602 (by omega) (by omega) | skip
        refine q_istore (lv9 := [(4, .int z13602), (3, .int w12_4), (0, .ref (ad 129)), (1, .int i), (2, .int wi)]) hM dX12_reachOf_29 hl (by decide) rfl (fun ls hl => ?_)
        refine q_goto (tgt := 12) hM dX12_reachOf_31 (by decide) ?_
        exact ih12 w12_4 z13602 _ _ _ (by omega) (by omega) (by omega) (by omega) (RM_next Lmb i12_3 hr13600.2.2 hz13602) (lv_sub hl [2, 3, 4, 1, 0] rfl) hW
  have := kc_0
  exact L12 _ (0 : Int32) r13595 _ _ _ (Nat.lt_succ_self _) (by omega) (by omega) (by omega) (RM_0 Lmb (by omega) (by omega) hz13594 hr13595.2.2) (lv_sub hl [2, 3, 4, 1, 0] rfl) hW


set_option maxRecDepth 100000 in
set_option maxHeartbeats 4000000 in
theorem s_X11_link (l : Launch) (D : va_G) (cA : Nat → ClassId) (ad : Nat → Nat) (g0 : Nat → va_E) (a : Int32) (b : Int32) (c : Int32) (td : Int32)  (hSh : Shp ad cA g0) (hG : Rng g0) (h_td : fld g0 3 2 = .int td) : CT l NN ad cA D yX11_link cX11_link 4 (some FieldType.boolean) (1, 22) [.ref (ad 0), .int a, .int b, .int c] g0 (fun v g' => ∃ (r : Int32), v = some (.int r) ∧ Shp ad cA g' ∧ Rng g' ∧ FR (fun i k => (6 ≤ i ∧ i < 18)) g0 g' ∧ (((0 ≤ a.toInt ∧ a.toInt < 12 ∧ 0 ≤ b.toInt ∧ b.toInt < 12 ∧ bi td a = 1 ∧ bi td b = 1 ∧ a.toInt ≠ b.toInt ∧ 0 ≤ c.toInt ∧ c.toInt ≤ 9) ∧ ∀ k : Nat, k < 12 → arI g' (6 + 1 * k) = if k = a.toInt.toNat then upd (arI g0 (6 + 1 * k)) b.toNatClampNeg c else arI g0 (6 + 1 * k)) ∨ (¬ (0 ≤ a.toInt ∧ a.toInt < 12 ∧ 0 ≤ b.toInt ∧ b.toInt < 12 ∧ bi td a = 1 ∧ bi td b = 1 ∧ a.toInt ≠ b.toInt ∧ 0 ≤ c.toInt ∧ c.toInt ≤ 9) ∧ ∀ k : Nat, k < 12 → arI g' (6 + 1 * k) = arI g0 (6 + 1 * k))) ∧ (r.toInt = 0 ∨ r.toInt = 1)) := by
  refine q_enterZ (by decide) (Nat.le_of_ble_eq_true rfl) (fun K H locs ls _ _ hM hW0 hR hC hE hl => ?_)
  have hl : lv_has ls 4 [(0, .ref (ad 0)), (1, .int a), (2, .int b), (3, .int c)] := hl
  have hW : WS ad cA (fun i k => (6 ≤ i ∧ i < 18)) g0 K g0 H locs := ⟨hW0, hSh, FR.rf⟩
  have b_td := hG.f h_td rF_3_2 (by decide)
  have := kc_0
  have := kc_1
  refine q_aload_n hM dX11_link_0 (lv_at hl 0 rfl) ?_
  refine w_get (v := .ref (ad 3)) hM hW FG_X11_19 lb_0 (rf_0_1 hW.2.1) dX11_link_1 ?_
  refine w_get (v := .int td) hM hW FG_X11_116 lb_3 ((hW.2.2.1 3 2 (by omega)).trans h_td) dX11_link_4 ?_
  refine q_iload_n hM dX11_link_7 (lv_at hl 1 rfl) ?_
  refine q_callS (As := [.int td, .int a]) (rest := []) hM hW.1 hR hC myX11_has (kAW (v_1_10 (List.mem_of_getElem? (i := 8) rfl)) rfl) (c_X11_has _ _ cA ad g0 td a hW.2.1) ⟨by decide, by decide⟩ rfl rfl hl.1 (Nat.le_of_ble_eq_true rfl) dX11_link_8 (fun v g13604 H locs hp hW1 => ?_)
  obtain ⟨r13603, rfl, hr13603, rfl⟩ := hp
  have hW : WS ad cA (fun i k => (6 ≤ i ∧ i < 18)) g0 K g0 H locs := ⟨hW1, hW.2.1, hW.2.2⟩
  have hbr13603 := has_bi hr13603
  have hcr13603 := bi_01 td a
  first | have ltr13603 := has_lt 5 hr13603 (by omega) (by omega) | have ltr13603 := has_lt 6 hr13603 (by omega) (by omega) | have ltr13603 := has_lt 8 hr13603 (by omega) (by omega) | have ltr13603 := has_lt 12 hr13603 (by omega) (by omega) | skip
  refine q_if_eq (tgt := 43) hM dX11_link_11 (by decide) (rfl : r13603.toInt = r13603.toInt) (fun h11 => ?_) (fun h11 => ?_)
  · refine q_iconst (v := (0 : Int32)) hM dX11_link_43 (by decide) ?_
    exact hE _ _ _ _ _ _ hW.1 nz_0 ⟨_, rfl, hW.2.1, hG, hW.2.2, (Or.inr ⟨by omega, fun _ _ => rfl⟩), (by have := kc_0; omega)⟩ dX11_link_44
  · refine q_aload_n hM dX11_link_14 (lv_at hl 0 rfl) ?_
    refine w_get (v := .ref (ad 3)) hM hW FG_X11_19 lb_0 (rf_0_1 hW.2.1) dX11_link_15 ?_
    refine w_get (v := .int td) hM hW FG_X11_116 lb_3 ((hW.2.2.1 3 2 (by omega)).trans h_td) dX11_link_18 ?_
    refine q_iload_n hM dX11_link_21 (lv_at hl 2 rfl) ?_
    refine q_callS (As := [.int td, .int b]) (rest := []) hM hW.1 hR hC myX11_has (kAW (v_1_10 (List.mem_of_getElem? (i := 8) rfl)) rfl) (c_X11_has _ _ cA ad g0 td b hW.2.1) ⟨by decide, by decide⟩ rfl rfl hl.1 (Nat.le_of_ble_eq_true rfl) dX11_link_22 (fun v g13608 H locs hp hW1 => ?_)
    obtain ⟨r13607, rfl, hr13607, rfl⟩ := hp
    have hW : WS ad cA (fun i k => (6 ≤ i ∧ i < 18)) g0 K g0 H locs := ⟨hW1, hW.2.1, hW.2.2⟩
    have hbr13607 := has_bi hr13607
    have hcr13607 := bi_01 td b
    first | have ltr13607 := has_lt 5 hr13607 (by omega) (by omega) | have ltr13607 := has_lt 6 hr13607 (by omega) (by omega) | have ltr13607 := has_lt 8 hr13607 (by omega) (by omega) | have ltr13607 := has_lt 12 hr13607 (by omega) (by omega) | skip
    refine q_if_eq (tgt := 43) hM dX11_link_25 (by decide) (rfl : r13607.toInt = r13607.toInt) (fun h25 => ?_) (fun h25 => ?_)
    · refine q_iconst (v := (0 : Int32)) hM dX11_link_43 (by decide) ?_
      exact hE _ _ _ _ _ _ hW.1 nz_0 ⟨_, rfl, hW.2.1, hG, hW.2.2, (Or.inr ⟨by omega, fun _ _ => rfl⟩), (by have := kc_0; omega)⟩ dX11_link_44
    · refine q_iload_n hM dX11_link_28 (lv_at hl 1 rfl) ?_
      refine q_iload_n hM dX11_link_29 (lv_at hl 2 rfl) ?_
      refine q_icmp_eq (tgt := 43) hM dX11_link_30 (by decide) (rfl : a.toInt = a.toInt) (rfl : b.toInt = b.toInt) (fun h30 => ?_) (fun h30 => ?_)
      · refine q_iconst (v := (0 : Int32)) hM dX11_link_43 (by decide) ?_
        exact hE _ _ _ _ _ _ hW.1 nz_0 ⟨_, rfl, hW.2.1, hG, hW.2.2, (Or.inr ⟨by omega, fun _ _ => rfl⟩), (by have := kc_0; omega)⟩ dX11_link_44
      · refine q_iload_n hM dX11_link_33 (lv_at hl 3 rfl) ?_
        refine q_iconst (v := (0 : Int32)) hM dX11_link_34 (by decide) ?_
        refine q_bipush (v := (9 : Int32)) hM dX11_link_35 (by decide) ?_
        refine q_callS (As := [.int c, .int (0 : Int32), .int (9 : Int32)]) (rest := []) hM hW.1 hR hC myX11_within (kAW (v_1_10 (List.mem_of_getElem? (i := 1) rfl)) rfl) (c_X11_within _ _ cA ad g0 c (0 : Int32) (9 : Int32) hW.2.1) ⟨by decide, by decide⟩ rfl rfl hl.1 (Nat.le_of_ble_eq_true rfl) dX11_link_37 (fun v g13614 H locs hp hW1 => ?_)
        obtain ⟨r13613, rfl, hr13613, rfl⟩ := hp
        have hW : WS ad cA (fun i k => (6 ≤ i ∧ i < 18)) g0 K g0 H locs := ⟨hW1, hW.2.1, hW.2.2⟩
        have := kc_0
        have := kc_9
        refine q_if_ne (tgt := 45) hM dX11_link_40 (by decide) (rfl : r13613.toInt = r13613.toInt) (fun h40 => ?_) (fun h40 => ?_)
        · refine q_aload_n hM dX11_link_45 (lv_at hl 0 rfl) ?_
          refine w_get (v := .ref (ad 3)) hM hW FG_X11_19 lb_0 (rf_0_1 hW.2.1) dX11_link_46 ?_
          refine w_get (v := .ref (ad 5)) hM hW FG_X11_127 lb_3 (rf_3_1 hW.2.1) dX11_link_49 ?_
          refine q_iload_n hM dX11_link_52 (lv_at hl 1 rfl) ?_
          refine w_aald hM hW lb_5 (Or.inl rfl) (i_in (by omega) (by omega)) (aq (aq_5 hW.2.1) (by omega) (by omega)) dX11_link_53 ?_
          refine q_iload_n hM dX11_link_54 (lv_at hl 2 rfl) ?_
          refine q_iload_n hM dX11_link_55 (lv_at hl 3 rfl) ?_
          refine w_iast hM hW (lr_6 (by omega)) (by omega) (i_in (by omega) (by omega)) dX11_link_56 (fun g13616 H locs hW e1 e2 => ?_)
          have hLK := e1
          have eLK := e2
          have hG := hG.st e1 e2 (rA_row_6 (by omega)) (by have := i_rng c; omega) (by have := i_rng c; omega)
          refine q_iconst (v := (1 : Int32)) hM dX11_link_57 (by decide) ?_
          exact hE _ _ _ _ _ _ hW.1 nz_1 ⟨_, rfl, hW.2.1, hG, hW.2.2, (Or.inl ⟨by omega, fun k hk => by
              by_cases e : k = a.toInt.toNat
              · rw [if_pos e, e]; exact hLK
              · rw [if_neg e]; exact eLK.2.1 (6 + 1 * k) (by unfold Only; omega)⟩), (by have := kc_1; omega)⟩ dX11_link_58
        · refine q_iconst (v := (0 : Int32)) hM dX11_link_43 (by decide) ?_
          exact hE _ _ _ _ _ _ hW.1 nz_0 ⟨_, rfl, hW.2.1, hG, hW.2.2, (Or.inr ⟨by omega, fun _ _ => rfl⟩), (by have := kc_0; omega)⟩ dX11_link_44


set_option maxRecDepth 100000 in
set_option maxHeartbeats 4000000 in
theorem s_X11_recalls (l : Launch) (D : va_G) (cA : Nat → ClassId) (ad : Nat → Nat) (g0 : Nat → va_E) (a : Int32) (td : Int32)  (hSh : Shp ad cA g0) (hG : Rng g0) (h_td : fld g0 3 2 = .int td) : CT l NN ad cA D yX11_recalls cX11_recalls 2 (some FieldType.int) (2, 50) [.ref (ad 0), .int a] g0 (fun v g' => ∃ (r : Int32), v = some (.int r) ∧ Shp ad cA g' ∧ Rng g' ∧ FR (fun i k => False) g0 g' ∧ ((bi td a = 1 ∧ BS r (Rch (Lx g0) (fun q => bt 0 q = true) a.toInt.toNat)) ∨ (¬ bi td a = 1 ∧ r.toInt = -1))) := by
  refine q_enterI (by decide) (Nat.le_of_ble_eq_true rfl) rfl (fun K H locs ls _ _ hM hW0 hR hC hE hl => ?_)
  have hl : lv_has ls 2 [(0, .ref (ad 0)), (1, .int a)] := hl
  have hW : WS ad cA (fun i k => False) g0 K g0 H locs := ⟨hW0, hSh, FR.rf⟩
  have b_td := hG.f h_td rF_3_2 (by decide)
  have := kc_0
  have := kc_1
  have := kc_m1
  have := kc_m2
  refine q_aload_n hM dX11_recalls_0 (lv_at hl 0 rfl) ?_
  refine w_get (v := .ref (ad 3)) hM hW FG_X11_19 lb_0 (rf_0_1 hW.2.1) dX11_recalls_1 ?_
  refine w_get (v := .int td) hM hW FG_X11_116 lb_3 ((hW.2.2.1 3 2 (fun h => h)).trans h_td) dX11_recalls_4 ?_
  refine q_iload_n hM dX11_recalls_7 (lv_at hl 1 rfl) ?_
  refine q_callS (As := [.int td, .int a]) (rest := []) hM hW.1 hR hC myX11_has (kAW (v_1_10 (List.mem_of_getElem? (i := 8) rfl)) rfl) (c_X11_has _ _ cA ad g0 td a hW.2.1) ⟨by decide, by decide⟩ rfl rfl hl.1 (Nat.le_of_ble_eq_true rfl) dX11_recalls_8 (fun v g13619 H locs hp hW1 => ?_)
  obtain ⟨r13618, rfl, hr13618, rfl⟩ := hp
  have hW : WS ad cA (fun i k => False) g0 K g0 H locs := ⟨hW1, hW.2.1, hW.2.2⟩
  have hbr13618 := has_bi hr13618
  have hcr13618 := bi_01 td a
  first | have ltr13618 := has_lt 5 hr13618 (by omega) (by omega) | have ltr13618 := has_lt 6 hr13618 (by omega) (by omega) | have ltr13618 := has_lt 8 hr13618 (by omega) (by omega) | have ltr13618 := has_lt 12 hr13618 (by omega) (by omega) | skip
  refine q_if_eq (tgt := 26) hM dX11_recalls_11 (by decide) (rfl : r13618.toInt = r13618.toInt) (fun h11 => ?_) (fun h11 => ?_)
  · refine q_iconst (v := ((-1) : Int32)) hM dX11_recalls_26 (by decide) ?_
    exact hE _ _ _ _ _ _ hW.1 ⟨_, rfl, hW.2.1, hG, hW.2.2, (Or.inr ⟨by omega, kc_m1⟩)⟩ dX11_recalls_27
  · refine q_aload_n hM dX11_recalls_14 (lv_at hl 0 rfl) ?_
    refine w_get (v := .ref (ad 3)) hM hW FG_X11_19 lb_0 (rf_0_1 hW.2.1) dX11_recalls_15 ?_
    refine q_iload_n hM dX11_recalls_18 (lv_at hl 1 rfl) ?_
    refine q_iconst (v := (0 : Int32)) hM dX11_recalls_19 (by decide) ?_
    refine q_callV (As := [.int a, .int (0 : Int32)]) (rest := []) hM hW.1 hR hC myX5_reached (kAW (v_3_8 (List.mem_of_getElem? (i := 9) rfl)) rfl) (rfl : vwCl[5]? = some (RX5, TX5, 3)) rfl lb_3.1 (shO hW.2.1 lb_3) (s_X5_reached _ _ cA ad g0 a (0 : Int32) hW.2.1 hG (by have := kc_0; omega) (by have := kc_0; omega)) ⟨by decide, by decide⟩ rfl rfl hl.1 (Nat.le_of_ble_eq_true rfl) dX11_recalls_20 (fun v g13623 H locs hp hW1 => ?_)
    obtain ⟨r13622, rfl, hr13622, rfl⟩ := hp
    have hW : WS ad cA (fun i k => False) g0 K g0 H locs := ⟨hW1, hW.2.1, hW.2.2⟩
    refine q_goto (tgt := 27) hM dX11_recalls_23 (by decide) ?_
    exact hE _ _ _ _ _ _ hW.1 ⟨_, rfl, hW.2.1, hG, hW.2.2, (Or.inl ⟨by omega, hr13622⟩)⟩ dX11_recalls_27


set_option maxRecDepth 100000 in
set_option maxHeartbeats 4000000 in
theorem s_X12_isTold (l : Launch) (D : va_G) (cA : Nat → ClassId) (ad : Nat → Nat) (g0 : Nat → va_E) (i : Int32) (hSh : Shp ad cA g0) (hG : Rng g0) : CT l NN ad cA D yX12_isTold cX12_isTold 2 (some FieldType.boolean) (1, 25) [.ref (ad 129), .int i] g0 (PU g0 (fun r => r.toInt = ti (arI g0 131) 12 i ∧ (r.toInt = 0 ∨ (r.toInt = 1 ∧ 0 ≤ i.toInt ∧ i.toInt < 12)))) := by
  refine q_enterZ (by decide) (Nat.le_of_ble_eq_true rfl) (fun K H locs ls _ _ hM hW0 hR hC hE hl => ?_)
  have hl : lv_has ls 2 [(0, .ref (ad 129)), (1, .int i)] := hl
  have hW : WS ad cA (fun i k => False) g0 K g0 H locs := ⟨hW0, hSh, FR.rf⟩
  have := kc_0
  have := kc_1
  refine q_iload_n hM dX12_isTold_0 (lv_at hl 1 rfl) ?_
  refine q_i2l hM dX12_isTold_1 ?_
  have := l_i2l i
  refine q_lconst (v := 0) hM dX12_isTold_2 (by decide) ?_
  have := kl_0
  refine q_ldc2 (v := 11) hM (kAW (v_5_4 (List.mem_of_getElem? (i := 13) rfl)) rfl) dX12_isTold_3 ?_
  have := kl_11
  refine q_callS (As := [.long i.toInt64, .long (0 : Int64), .long (11 : Int64)]) (rest := []) hM hW.1 hR hC myX12_lies (kAW (v_5_4 (List.mem_of_getElem? (i := 14) rfl)) rfl) (c_X12_lies _ _ cA ad g0 i.toInt64 (0 : Int64) (11 : Int64) hW.2.1) ⟨by decide, by decide⟩ rfl rfl hl.1 (Nat.le_of_ble_eq_true rfl) dX12_isTold_6 (fun v g13625 H locs hp hW1 => ?_)
  obtain ⟨r13624, rfl, hr13624, rfl⟩ := hp
  have hW : WS ad cA (fun i k => False) g0 K g0 H locs := ⟨hW1, hW.2.1, hW.2.2⟩
  refine q_if_eq (tgt := 25) hM dX12_isTold_9 (by decide) (rfl : r13624.toInt = r13624.toInt) (fun h9 => ?_) (fun h9 => ?_)
  · refine q_iconst (v := (0 : Int32)) hM dX12_isTold_25 (by decide) ?_
    exact hE _ _ _ _ _ _ hW.1 nz_0 ⟨_, rfl, ⟨(by unfold ti; rw [if_neg (fun ⟨h3, h4, h5⟩ => by omega)]; exact kc_0), by omega⟩, rfl⟩ dX12_isTold_26
  · refine q_aload_n hM dX12_isTold_12 (lv_at hl 0 rfl) ?_
    refine w_get (v := .ref (ad 131)) hM hW FG_X12_17 lb_129 (rf_129_10 hW.2.1) dX12_isTold_13 ?_
    refine q_iload_n hM dX12_isTold_16 (lv_at hl 1 rfl) ?_
    refine w_zald hM hW lb_131 (i_in (by omega) (by omega)) dX12_isTold_17 ?_
    refine q_top (fun y13628 hy13628 => ?_)
    refine q_if_eq (tgt := 25) hM dX12_isTold_18 (by decide) (rfl : y13628.toInt = y13628.toInt) (fun h18 => ?_) (fun h18 => ?_)
    · refine q_iconst (v := (0 : Int32)) hM dX12_isTold_25 (by decide) ?_
      exact hE _ _ _ _ _ _ hW.1 nz_0 ⟨_, rfl, ⟨(by unfold ti; rw [if_neg (fun ⟨h3, h4, h5⟩ => absurd h5 (by show ¬ (arI g0 131 i.toNatClampNeg).toInt ≠ 0; rw [← hy13628]; omega))]; exact kc_0), by omega⟩, rfl⟩ dX12_isTold_26
    · refine q_iconst (v := (1 : Int32)) hM dX12_isTold_21 (by decide) ?_
      refine q_goto (tgt := 26) hM dX12_isTold_22 (by decide) ?_
      exact hE _ _ _ _ _ _ hW.1 nz_1 ⟨_, rfl, ⟨(by unfold ti; rw [if_pos ⟨by omega, by omega, by show (arI g0 131 i.toNatClampNeg).toInt ≠ 0; rw [← hy13628]; omega⟩]; exact kc_1), by omega⟩, rfl⟩ dX12_isTold_26


set_option maxRecDepth 100000 in
set_option maxHeartbeats 4000000 in
theorem s_X12_link (l : Launch) (D : va_G) (cA : Nat → ClassId) (ad : Nat → Nat) (g0 : Nat → va_E) (a : Int32) (b : Int32) (c : Int32)   (hSh : Shp ad cA g0) (hG : Rng g0) : CT l NN ad cA D yX12_link cX12_link 4 (some FieldType.boolean) (2, 46) [.ref (ad 129), .int a, .int b, .int c] g0 (fun v g' => ∃ (r : Int32), v = some (.int r) ∧ Shp ad cA g' ∧ Rng g' ∧ FR (fun i k => i = 133) g0 g' ∧ (((ti (arI g0 131) 12 a = 1 ∧ ti (arI g0 131) 12 b = 1 ∧ a.toInt ≠ b.toInt ∧ 0 ≤ c.toInt ∧ c.toInt ≤ 9) ∧ arI g' 133 = upd (arI g0 133) (12 * a.toInt.toNat + b.toInt.toNat) c) ∨ (¬ (ti (arI g0 131) 12 a = 1 ∧ ti (arI g0 131) 12 b = 1 ∧ a.toInt ≠ b.toInt ∧ 0 ≤ c.toInt ∧ c.toInt ≤ 9) ∧ arI g' 133 = arI g0 133)) ∧ (r.toInt = 0 ∨ r.toInt = 1)) := by
  refine q_enterZ (by decide) (Nat.le_of_ble_eq_true rfl) (fun K H locs ls _ _ hM hW0 hR hC hE hl => ?_)
  have hl : lv_has ls 4 [(0, .ref (ad 129)), (1, .int a), (2, .int b), (3, .int c)] := hl
  have hW : WS ad cA (fun i k => i = 133) g0 K g0 H locs := ⟨hW0, hSh, FR.rf⟩
  have := kc_0
  have := kc_1
  refine q_aload_n hM dX12_link_0 (lv_at hl 0 rfl) ?_
  refine q_iload_n hM dX12_link_1 (lv_at hl 1 rfl) ?_
  refine q_callV (As := [.int a]) (rest := []) hM hW.1 hR hC myX12_isTold (kAW (v_5_5 (List.mem_of_getElem? (i := 6) rfl)) rfl) (rfl : vwCl[12]? = some (RX12, TX12, 86)) rfl lb_129.1 (shO hW.2.1 lb_129) (s_X12_isTold _ _ cA ad g0 a hW.2.1 hG) ⟨by decide, by decide⟩ rfl rfl hl.1 (Nat.le_of_ble_eq_true rfl) dX12_link_2 (fun v g13632 H locs hp hW1 => ?_)
  obtain ⟨r13631, rfl, hr13631, rfl⟩ := hp
  have hW : WS ad cA (fun i k => i = 133) g0 K g0 H locs := ⟨hW1, hW.2.1, hW.2.2⟩
  refine q_if_eq (tgt := 33) hM dX12_link_5 (by decide) (rfl : r13631.toInt = r13631.toInt) (fun h5 => ?_) (fun h5 => ?_)
  · refine q_iconst (v := (0 : Int32)) hM dX12_link_33 (by decide) ?_
    exact hE _ _ _ _ _ _ hW.1 nz_0 ⟨_, rfl, hW.2.1, hG, hW.2.2, (Or.inr ⟨by omega, rfl⟩), (by have := kc_0; omega)⟩ dX12_link_34
  · refine q_aload_n hM dX12_link_8 (lv_at hl 0 rfl) ?_
    refine q_iload_n hM dX12_link_9 (lv_at hl 2 rfl) ?_
    refine q_callV (As := [.int b]) (rest := []) hM hW.1 hR hC myX12_isTold (kAW (v_5_5 (List.mem_of_getElem? (i := 6) rfl)) rfl) (rfl : vwCl[12]? = some (RX12, TX12, 86)) rfl lb_129.1 (shO hW.2.1 lb_129) (s_X12_isTold _ _ cA ad g0 b hW.2.1 hG) ⟨by decide, by decide⟩ rfl rfl hl.1 (Nat.le_of_ble_eq_true rfl) dX12_link_10 (fun v g13636 H locs hp hW1 => ?_)
    obtain ⟨r13635, rfl, hr13635, rfl⟩ := hp
    have hW : WS ad cA (fun i k => i = 133) g0 K g0 H locs := ⟨hW1, hW.2.1, hW.2.2⟩
    refine q_if_eq (tgt := 33) hM dX12_link_13 (by decide) (rfl : r13635.toInt = r13635.toInt) (fun h13 => ?_) (fun h13 => ?_)
    · refine q_iconst (v := (0 : Int32)) hM dX12_link_33 (by decide) ?_
      exact hE _ _ _ _ _ _ hW.1 nz_0 ⟨_, rfl, hW.2.1, hG, hW.2.2, (Or.inr ⟨by omega, rfl⟩), (by have := kc_0; omega)⟩ dX12_link_34
    · refine q_iload_n hM dX12_link_16 (lv_at hl 1 rfl) ?_
      refine q_iload_n hM dX12_link_17 (lv_at hl 2 rfl) ?_
      refine q_icmp_eq (tgt := 33) hM dX12_link_18 (by decide) (rfl : a.toInt = a.toInt) (rfl : b.toInt = b.toInt) (fun h18 => ?_) (fun h18 => ?_)
      · refine q_iconst (v := (0 : Int32)) hM dX12_link_33 (by decide) ?_
        exact hE _ _ _ _ _ _ hW.1 nz_0 ⟨_, rfl, hW.2.1, hG, hW.2.2, (Or.inr ⟨by omega, rfl⟩), (by have := kc_0; omega)⟩ dX12_link_34
      · refine q_iload_n hM dX12_link_21 (lv_at hl 3 rfl) ?_
        refine q_i2l hM dX12_link_22 ?_
        have := l_i2l c
        refine q_lconst (v := 0) hM dX12_link_23 (by decide) ?_
        have := kl_0
        refine q_ldc2 (v := 9) hM (kAW (v_5_5 (List.mem_of_getElem? (i := 10) rfl)) rfl) dX12_link_24 ?_
        have := kl_9
        refine q_callS (As := [.long c.toInt64, .long (0 : Int64), .long (9 : Int64)]) (rest := []) hM hW.1 hR hC myX12_lies (kAW (v_5_4 (List.mem_of_getElem? (i := 14) rfl)) rfl) (c_X12_lies _ _ cA ad g0 c.toInt64 (0 : Int64) (9 : Int64) hW.2.1) ⟨by decide, by decide⟩ rfl rfl hl.1 (Nat.le_of_ble_eq_true rfl) dX12_link_27 (fun v g13642 H locs hp hW1 => ?_)
        obtain ⟨r13641, rfl, hr13641, rfl⟩ := hp
        have hW : WS ad cA (fun i k => i = 133) g0 K g0 H locs := ⟨hW1, hW.2.1, hW.2.2⟩
        refine q_if_ne (tgt := 35) hM dX12_link_30 (by decide) (rfl : r13641.toInt = r13641.toInt) (fun h30 => ?_) (fun h30 => ?_)
        · refine q_aload_n hM dX12_link_35 (lv_at hl 0 rfl) ?_
          refine w_get (v := .ref (ad 133)) hM hW FG_X12_25 lb_129 (rf_129_12 hW.2.1) dX12_link_36 ?_
          refine q_bipush (v := (12 : Int32)) hM dX12_link_39 (by decide) ?_
          refine q_iload_n hM dX12_link_41 (lv_at hl 1 rfl) ?_
          refine q_imul hM dX12_link_42 (fun z13644 hz13644 => ?_)
          first | have tz13644 := i_mulT hz13644 (kc_12 : (12 : Int32).toInt = 12) (rfl : a.toInt = a.toInt) (by omega) (by omega) | skip
          refine q_iload_n hM dX12_link_43 (lv_at hl 2 rfl) ?_
          refine q_iadd hM dX12_link_44 (fun z13645 hz13645 => ?_)
          first | have tz13645 := i_addT hz13645 (rfl : z13644.toInt = z13644.toInt) (rfl : b.toInt = b.toInt) (by omega) (by omega) | skip
          refine q_iload_n hM dX12_link_45 (lv_at hl 3 rfl) ?_
          refine w_iast hM hW lb_133 (by omega) (i_in (by omega) (by omega)) dX12_link_46 (fun g13646 H locs hW e1 e2 => ?_)
          have hLK := e1
          rw [show z13645.toNatClampNeg = 12 * a.toInt.toNat + b.toInt.toNat by show z13645.toInt.toNat = _; omega] at hLK
          have hG := hG.st e1 e2 (rfl : rA 133 = (-2147483648, 2147483647)) (by have := i_rng c; omega) (by have := i_rng c; omega)
          refine q_iconst (v := (1 : Int32)) hM dX12_link_47 (by decide) ?_
          exact hE _ _ _ _ _ _ hW.1 nz_1 ⟨_, rfl, hW.2.1, hG, hW.2.2, (Or.inl ⟨by omega, hLK⟩), (by have := kc_1; omega)⟩ dX12_link_48
        · refine q_iconst (v := (0 : Int32)) hM dX12_link_33 (by decide) ?_
          exact hE _ _ _ _ _ _ hW.1 nz_0 ⟨_, rfl, hW.2.1, hG, hW.2.2, (Or.inr ⟨by omega, rfl⟩), (by have := kc_0; omega)⟩ dX12_link_34


set_option maxRecDepth 100000 in
set_option maxHeartbeats 4000000 in
theorem s_X12_recalls (l : Launch) (D : va_G) (cA : Nat → ClassId) (ad : Nat → Nat) (g0 : Nat → va_E) (a : Int32)   (hSh : Shp ad cA g0) (hG : Rng g0) : CT l NN ad cA D yX12_recalls cX12_recalls 2 (some FieldType.int) (3, 70) [.ref (ad 129), .int a] g0 (fun v g' => ∃ (r : Int32), v = some (.int r) ∧ Shp ad cA g' ∧ Rng g' ∧ FR (fun i k => False) g0 g' ∧ ((ti (arI g0 131) 12 a = 1 ∧ BS r (Rch (Lm g0) (fun q => bt 0 q = true) a.toInt.toNat)) ∨ (¬ ti (arI g0 131) 12 a = 1 ∧ r.toInt = -1))) := by
  refine q_enterI (by decide) (Nat.le_of_ble_eq_true rfl) rfl (fun K H locs ls _ _ hM hW0 hR hC hE hl => ?_)
  have hl : lv_has ls 2 [(0, .ref (ad 129)), (1, .int a)] := hl
  have hW : WS ad cA (fun i k => False) g0 K g0 H locs := ⟨hW0, hSh, FR.rf⟩
  have := kc_0
  have := kc_1
  have := kc_m1
  have := kc_m2
  refine q_aload_n hM dX12_recalls_0 (lv_at hl 0 rfl) ?_
  refine q_iload_n hM dX12_recalls_1 (lv_at hl 1 rfl) ?_
  refine q_callV (As := [.int a]) (rest := []) hM hW.1 hR hC myX12_isTold (kAW (v_5_5 (List.mem_of_getElem? (i := 6) rfl)) rfl) (rfl : vwCl[12]? = some (RX12, TX12, 86)) rfl lb_129.1 (shO hW.2.1 lb_129) (s_X12_isTold _ _ cA ad g0 a hW.2.1 hG) ⟨by decide, by decide⟩ rfl rfl hl.1 (Nat.le_of_ble_eq_true rfl) dX12_recalls_2 (fun v g13649 H locs hp hW1 => ?_)
  obtain ⟨r13648, rfl, hr13648, rfl⟩ := hp
  have hW : WS ad cA (fun i k => False) g0 K g0 H locs := ⟨hW1, hW.2.1, hW.2.2⟩
  refine q_if_eq (tgt := 17) hM dX12_recalls_5 (by decide) (rfl : r13648.toInt = r13648.toInt) (fun h5 => ?_) (fun h5 => ?_)
  · refine q_iconst (v := ((-1) : Int32)) hM dX12_recalls_17 (by decide) ?_
    exact hE _ _ _ _ _ _ hW.1 ⟨_, rfl, hW.2.1, hG, hW.2.2, (Or.inr ⟨by omega, kc_m1⟩)⟩ dX12_recalls_18
  · refine q_aload_n hM dX12_recalls_8 (lv_at hl 0 rfl) ?_
    refine q_iload_n hM dX12_recalls_9 (lv_at hl 1 rfl) ?_
    refine q_iconst (v := (0 : Int32)) hM dX12_recalls_10 (by decide) ?_
    refine q_callV (As := [.int a, .int (0 : Int32)]) (rest := []) hM hW.1 hR hC myX12_reachOf (kAW (v_5_5 (List.mem_of_getElem? (i := 15) rfl)) rfl) (rfl : vwCl[12]? = some (RX12, TX12, 86)) rfl lb_129.1 (shO hW.2.1 lb_129) (s_X12_reachOf _ _ cA ad g0 a (0 : Int32) hW.2.1 hG (by have := kc_0; omega) (by have := kc_0; omega)) ⟨by decide, by decide⟩ rfl rfl hl.1 (Nat.le_of_ble_eq_true rfl) dX12_recalls_11 (fun v g13653 H locs hp hW1 => ?_)
    obtain ⟨r13652, rfl, hr13652, rfl⟩ := hp
    have hW : WS ad cA (fun i k => False) g0 K g0 H locs := ⟨hW1, hW.2.1, hW.2.2⟩
    refine q_goto (tgt := 18) hM dX12_recalls_14 (by decide) ?_
    exact hE _ _ _ _ _ _ hW.1 ⟨_, rfl, hW.2.1, hG, hW.2.2, (Or.inl ⟨by omega, hr13652.2.2⟩)⟩ dX12_recalls_18
