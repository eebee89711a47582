
set_option maxRecDepth 100000 in
set_option maxHeartbeats 4000000 in
theorem s_X5_fewestBetween (l : Launch) (D : va_G) (cA : Nat → ClassId) (ad : Nat → Nat) (g0 : Nat → va_E) (i : Int32) (j : Int32) (td : Int32) (hSh : Shp ad cA g0) (hG : Rng g0) (h_td : fld g0 3 2 = .int td) (i0 : 0 ≤ i.toInt) (i12 : i.toInt < 12) (j0 : 0 ≤ j.toInt) (j12 : j.toInt < 12) : CT l NN ad cA D yX5_fewestBetween cX5_fewestBetween 6 (some FieldType.int) (2, 50) [.ref (ad 3), .int i, .int j] g0 (PU g0 (fun r => r = ctB (oth td i j) (Av (Lx g0) i.toInt.toNat j.toInt.toNat) 4096 ∧ 0 ≤ r.toInt ∧ r.toInt < 4096)) := by
  refine q_enterI (by decide) (Nat.le_of_ble_eq_true rfl) rfl (fun K H locs ls _ _ hM hW0 hR hC hE hl => ?_)
  have hl : lv_has ls 6 [(0, .ref (ad 3)), (1, .int i), (2, .int j)] := hl
  have hW : WS ad cA (fun i k => False) g0 K g0 H locs := ⟨hW0, hSh, FR.rf⟩
  have := kc_0
  have := kc_1
  have := kc_m1
  have := kc_m2
  have := kc_4096
  have bt9 := hG.f h_td rF_3_2 (by decide)
  refine q_aload_n hM dX5_fewestBetween_0 (lv_at hl 0 rfl) ?_
  refine w_get (v := .int td) hM hW FG_X5_20 lb_3 ((hW.2.2.1 3 2 (fun h => h)).trans h_td) dX5_fewestBetween_1 ?_
  refine q_iconst (v := (1 : Int32)) hM dX5_fewestBetween_4 (by decide) ?_
  refine q_iload_n hM dX5_fewestBetween_5 (lv_at hl 1 rfl) ?_
  refine q_ishl hM dX5_fewestBetween_6 (fun z13691 hz13691 => ?_)
  refine q_iconst (v := ((-1) : Int32)) hM dX5_fewestBetween_7 (by decide) ?_
  refine q_ixor hM dX5_fewestBetween_8 (fun z13692 hz13692 => ?_)
  refine q_iand hM dX5_fewestBetween_9 (fun z13693 hz13693 => ?_)
  refine q_iconst (v := (1 : Int32)) hM dX5_fewestBetween_10 (by decide) ?_
  refine q_iload_n hM dX5_fewestBetween_11 (lv_at hl 2 rfl) ?_
  refine q_ishl hM dX5_fewestBetween_12 (fun z13694 hz13694 => ?_)
  refine q_iconst (v := ((-1) : Int32)) hM dX5_fewestBetween_13 (by decide) ?_
  refine q_ixor hM dX5_fewestBetween_14 (fun z13695 hz13695 => ?_)
  refine q_iand hM dX5_fewestBetween_15 (fun z13696 hz13696 => ?_)
  have he9 : z13696 = oth td i j := by unfold oth; rw [hz13691, hz13692, hz13693, hz13694, hz13695, hz13696]
  have k9 := i_andk (i_comm hz13693) (by omega)
  have k8 := i_andk (i_comm hz13696) (by omega)
  refine q_istore_n (lv9 := [(3, .int z13696), (0, .ref (ad 3)), (1, .int i), (2, .int j)]) hM dX5_fewestBetween_16 hl (by decide) rfl (fun ls hl => ?_)
  refine q_iload_n hM dX5_fewestBetween_17 (lv_at hl 0 rfl) ?_
  refine q_istore (lv9 := [(4, .int z13696), (3, .int z13696), (0, .ref (ad 3)), (1, .int i), (2, .int j)]) hM dX5_fewestBetween_18 hl (by decide) rfl (fun ls hl => ?_)
  refine q_iconst (v := (0 : Int32)) hM dX5_fewestBetween_20 (by decide) ?_
  refine q_istore (lv9 := [(5, .int (0 : Int32)), (4, .int z13696), (3, .int z13696), (0, .ref (ad 3)), (1, .int i), (2, .int j)]) hM dX5_fewestBetween_21 hl (by decide) rfl (fun ls hl => ?_)
  have L23 : ∀ (fu23 : Nat) (w23_4 : Int32) (w23_5 : Int32) (H : Heap) (locs : List Loc) (ls : Array Slot), (4096 - w23_5.toInt).toNat < fu23 → (0 ≤ w23_5.toInt) → (w23_5.toInt ≤ 4096) → (0 ≤ w23_4.toInt) → (w23_4.toInt < 4096) → (w23_4 = ctB (oth td i j) (Av (Lx g0) i.toInt.toNat j.toInt.toNat) w23_5.toInt.toNat) → lv_has ls 6 [(0, .ref (ad 3)), (1, .int i), (2, .int j), (3, .int z13696), (4, .int w23_4), (5, .int w23_5)] → WS ad cA (fun i k => False) g0 K g0 H locs → XX K 0 0 H locs 23 ls [] := by
    intro fu23
    induction fu23 with
    | zero => intro w23_4 w23_5 H locs ls h0; omega
    | succ fu23 ih23 =>
      intro w23_4 w23_5 H locs ls hm23 i23_0 i23_1 i23_2 i23_3 i23_4 hl hW
      have := kc_4096
      refine q_iload hM dX5_fewestBetween_23 (lv_at hl 5 rfl) ?_
      refine q_sipush (v := (4096 : Int32)) hM dX5_fewestBetween_25 (by decide) ?_
      refine q_icmp_ge (tgt := 77) hM dX5_fewestBetween_28 (by decide) (rfl : w23_5.toInt = w23_5.toInt) (kc_4096 : (4096 : Int32).toInt = 4096) (fun h28 => ?_) (fun h28 => ?_)
      · refine q_iload hM dX5_fewestBetween_77 (lv_at hl 4 rfl) ?_
        exact hE _ _ _ _ _ _ hW.1 ⟨_, rfl, ⟨by have e9 := i23_4; rw [show w23_5.toInt.toNat = 4096 by omega] at e9; exact e9, by omega, by omega⟩, rfl⟩ dX5_fewestBetween_79
      · refine q_iload hM dX5_fewestBetween_31 (lv_at hl 5 rfl) ?_
        refine q_iload_n hM dX5_fewestBetween_33 (lv_at hl 3 rfl) ?_
        refine q_callN (host := "ForgetSchool") (As := [.int w23_5, .int z13696]) (rest := []) hM hW.1 hR hC myX11_areOf (List.mem_of_getElem? (i := 8) rfl) (c_X11_areOf _ _ cA ad g0 w23_5 z13696 hW.2.1) ⟨by decide, by decide⟩ rfl rfl hl.1 (Nat.le_of_ble_eq_true rfl) dX5_fewestBetween_34 (fun v g13701 H locs hp hW1 => ?_)
        obtain ⟨r13700, rfl, hr13700, rfl⟩ := hp
        have hW : WS ad cA (fun i k => False) g0 K g0 H locs := ⟨hW1, hW.2.1, hW.2.2⟩
        refine q_if_eq (tgt := 71) hM dX5_fewestBetween_37 (by decide) (rfl : r13700.toInt = r13700.toInt) (fun h37 => ?_) (fun h37 => ?_)
        · refine q_iinc (lv9 := fun z13703 => [(5, .int z13703), (0, .ref (ad 3)), (1, .int i), (2, .int j), (3, .int z13696), (4, .int w23_4)]) hM dX5_fewestBetween_71 hl (kq := 5) rfl (by decide) (fun _ => rfl) (fun z13703 ls hz13703 hl => ?_)
          first | have tz13703 := i_addT hz13703 (rfl : w23_5.toInt = w23_5.toInt) (kc_1 : (Int32.ofInt 1).toInt = 1) (by omega) (by omega) | skip
          refine q_goto (tgt := 23) hM dX5_fewestBetween_74 (by decide) ?_
          exact ih23 w23_4 z13703 _ _ _ (by omega) (by omega) (by omega) (by omega) (by omega) (ct_no i23_4 (by omega) (by omega) (Or.inl (by rw [← he9]; exact a_f hr13700 (by omega)))) (lv_sub hl [1, 2, 3, 4, 5, 0] rfl) hW
        · refine q_iload hM dX5_fewestBetween_40 (lv_at hl 5 rfl) ?_
          refine q_callS (As := [.int w23_5]) (rest := []) hM hW.1 hR hC myJ6_bitCount_0f7a4 (kAW (v_3_7 (List.mem_of_getElem? (i := 11) rfl)) rfl) (c_J6_bitCount_0f7a4 _ _ cA ad g0 w23_5 hW.2.1) ⟨by decide, by decide⟩ rfl rfl hl.1 (Nat.le_of_ble_eq_true rfl) dX5_fewestBetween_42 (fun v g13706 H locs hp hW1 => ?_)
          obtain ⟨r13705, rfl, hr13705, rfl⟩ := hp
          have hW : WS ad cA (fun i k => False) g0 K g0 H locs := ⟨hW1, hW.2.1, hW.2.2⟩
          have n9 := (congrArg Int32.toInt hr13705).trans (bc_cb (by omega) (by omega))
          refine q_iload hM dX5_fewestBetween_45 (lv_at hl 4 rfl) ?_
          refine q_callS (As := [.int w23_4]) (rest := [.int r13705]) hM hW.1 hR hC myJ6_bitCount_0f7a4 (kAW (v_3_7 (List.mem_of_getElem? (i := 11) rfl)) rfl) (c_J6_bitCount_0f7a4 _ _ cA ad g0 w23_4 hW.2.1) ⟨by decide, by decide⟩ rfl rfl hl.1 (Nat.le_of_ble_eq_true rfl) dX5_fewestBetween_47 (fun v g13708 H locs hp hW1 => ?_)
          obtain ⟨r13707, rfl, hr13707, rfl⟩ := hp
          have hW : WS ad cA (fun i k => False) g0 K g0 H locs := ⟨hW1, hW.2.1, hW.2.2⟩
          have m9 := (congrArg Int32.toInt hr13707).trans (bc_cb (by omega) (by omega))
          refine q_icmp_ge (tgt := 71) hM dX5_fewestBetween_50 (by decide) (rfl : r13705.toInt = r13705.toInt) (rfl : r13707.toInt = r13707.toInt) (fun h50 => ?_) (fun h50 => ?_)
          · refine q_iinc (lv9 := fun z13710 => [(5, .int z13710), (0, .ref (ad 3)), (1, .int i), (2, .int j), (3, .int z13696), (4, .int w23_4)]) hM dX5_fewestBetween_71 hl (kq := 5) rfl (by decide) (fun _ => rfl) (fun z13710 ls hz13710 hl => ?_)
            first | have tz13710 := i_addT hz13710 (rfl : w23_5.toInt = w23_5.toInt) (kc_1 : (Int32.ofInt 1).toInt = 1) (by omega) (by omega) | skip
            refine q_goto (tgt := 23) hM dX5_fewestBetween_74 (by decide) ?_
            exact ih23 w23_4 z13710 _ _ _ (by omega) (by omega) (by omega) (by omega) (by omega) (ct_no i23_4 (by omega) (by omega) (Or.inr (Or.inl (by omega)))) (lv_sub hl [1, 2, 3, 4, 5, 0] rfl) hW
          · refine q_aload_n hM dX5_fewestBetween_53 (lv_at hl 0 rfl) ?_
            refine q_iload_n hM dX5_fewestBetween_54 (lv_at hl 1 rfl) ?_
            refine q_iload hM dX5_fewestBetween_55 (lv_at hl 5 rfl) ?_
            refine q_callV (As := [.int i, .int w23_5]) (rest := []) hM hW.1 hR hC myX5_reached (kAW (v_3_7 (List.mem_of_getElem? (i := 12) rfl)) rfl) (rfl : vwCl[5]? = some (RX5, TX5, 3)) rfl lb_3.1 (shO hW.2.1 lb_3) (s_X5_reached _ _ cA ad g0 i w23_5 hW.2.1 hG (by  omega) (by  omega)) ⟨by decide, by decide⟩ rfl rfl hl.1 (Nat.le_of_ble_eq_true rfl) dX5_fewestBetween_57 (fun v g13713 H locs hp hW1 => ?_)
            obtain ⟨r13712, rfl, hr13712, rfl⟩ := hp
            have hW : WS ad cA (fun i k => False) g0 K g0 H locs := ⟨hW1, hW.2.1, hW.2.2⟩
            refine q_iload_n hM dX5_fewestBetween_60 (lv_at hl 2 rfl) ?_
            refine q_callN (host := "ForgetSchool") (As := [.int r13712, .int j]) (rest := []) hM hW.1 hR hC myX11_has (List.mem_of_getElem? (i := 9) rfl) (c_X11_has _ _ cA ad g0 r13712 j hW.2.1) ⟨by decide, by decide⟩ rfl rfl hl.1 (Nat.le_of_ble_eq_true rfl) dX5_fewestBetween_61 (fun v g13715 H locs hp hW1 => ?_)
            obtain ⟨r13714, rfl, hr13714, rfl⟩ := hp
            have hW : WS ad cA (fun i k => False) g0 K g0 H locs := ⟨hW1, hW.2.1, hW.2.2⟩
            have hbr13714 := has_bi hr13714
            have hcr13714 := bi_01 r13712 j
            first | have ltr13714 := has_lt 5 hr13714 (by omega) (by omega) | have ltr13714 := has_lt 6 hr13714 (by omega) (by omega) | have ltr13714 := has_lt 8 hr13714 (by omega) (by omega) | have ltr13714 := has_lt 12 hr13714 (by omega) (by omega) | skip
            refine q_if_ne (tgt := 71) hM dX5_fewestBetween_64 (by decide) (rfl : r13714.toInt = r13714.toInt) (fun h64 => ?_) (fun h64 => ?_)
            · refine q_iinc (lv9 := fun z13717 => [(5, .int z13717), (0, .ref (ad 3)), (1, .int i), (2, .int j), (3, .int z13696), (4, .int w23_4)]) hM dX5_fewestBetween_71 hl (kq := 5) rfl (by decide) (fun _ => rfl) (fun z13717 ls hz13717 hl => ?_)
              first | have tz13717 := i_addT hz13717 (rfl : w23_5.toInt = w23_5.toInt) (kc_1 : (Int32.ofInt 1).toInt = 1) (by omega) (by omega) | skip
              refine q_goto (tgt := 23) hM dX5_fewestBetween_74 (by decide) ?_
              exact ih23 w23_4 z13717 _ _ _ (by omega) (by omega) (by omega) (by omega) (by omega) (ct_no i23_4 (by omega) (by omega) (Or.inr (Or.inr (fun q9 => q9 ((hr13712 _ (by omega)).mp (has_t hr13714 (by omega))))))) (lv_sub hl [1, 2, 3, 4, 5, 0] rfl) hW
            · refine q_iload hM dX5_fewestBetween_67 (lv_at hl 5 rfl) ?_
              refine q_istore (lv9 := [(4, .int w23_5), (0, .ref (ad 3)), (1, .int i), (2, .int j), (3, .int z13696), (5, .int w23_5)]) hM dX5_fewestBetween_69 hl (by decide) rfl (fun ls hl => ?_)
              refine q_iinc (lv9 := fun z13719 => [(5, .int z13719), (4, .int w23_5), (0, .ref (ad 3)), (1, .int i), (2, .int j), (3, .int z13696)]) hM dX5_fewestBetween_71 hl (kq := 5) rfl (by decide) (fun _ => rfl) (fun z13719 ls hz13719 hl => ?_)
              first | have tz13719 := i_addT hz13719 (rfl : w23_5.toInt = w23_5.toInt) (kc_1 : (Int32.ofInt 1).toInt = 1) (by omega) (by omega) | skip
              refine q_goto (tgt := 23) hM dX5_fewestBetween_74 (by decide) ?_
              exact ih23 w23_5 z13719 _ _ _ (by omega) (by omega) (by omega) (by omega) (by omega) (ct_yes i23_4 (by omega) (by omega) (by rw [← he9]; exact a_t hr13700 (by omega)) (by omega) (fun q9 => absurd ((hr13712 _ (by omega)).mpr q9) (bff (has_f hr13714 (by omega) (by omega) (by omega))))) (lv_sub hl [2, 3, 4, 5, 1, 0] rfl) hW
  have := kc_0
  exact L23 _ z13696 (0 : Int32) _ _ _ (Nat.lt_succ_self _) (by omega) (by omega) (by omega) (by omega) (by rw [kc_0]; rfl) (lv_sub hl [3, 4, 5, 2, 1, 0] rfl) hW


set_option maxRecDepth 100000 in
set_option maxHeartbeats 4000000 in
theorem s_X11_cut (l : Launch) (D : va_G) (cA : Nat → ClassId) (ad : Nat → Nat) (g0 : Nat → va_E) (a : Int32) (b : Int32) (c : Int32) (td : Int32)  (hSh : Shp ad cA g0) (hG : Rng g0) (h_td : fld g0 3 2 = .int td) : CT l NN ad cA D yX11_cut cX11_cut 5 (some FieldType.int) (3, 75) [.ref (ad 0), .int a, .int b, .int c] g0 (fun v g' => ∃ (r : Int32), v = some (.int r) ∧ Shp ad cA g' ∧ Rng g' ∧ FR (fun i k => False) g0 g' ∧ ((¬ (bi td a = 1 ∧ bi td b = 1 ∧ a.toInt ≠ b.toInt ∧ 0 ≤ c.toInt ∧ c.toInt ≤ 1) ∧ r.toInt = -1) ∨ ((bi td a = 1 ∧ bi td b = 1 ∧ a.toInt ≠ b.toInt ∧ 0 ≤ c.toInt ∧ c.toInt ≤ 1) ∧ 0 < (arI g0 (6 + 1 * a.toInt.toNat) b.toInt.toNat).toInt ∧ r.toInt = -2) ∨ ((bi td a = 1 ∧ bi td b = 1 ∧ a.toInt ≠ b.toInt ∧ 0 ≤ c.toInt ∧ c.toInt ≤ 1) ∧ ¬ 0 < (arI g0 (6 + 1 * a.toInt.toNat) b.toInt.toNat).toInt ∧ c.toInt = 0 ∧ r.toInt = cb (ctB (oth td a b) (Av (Lx g0) a.toInt.toNat b.toInt.toNat) 4096) 12) ∨ ((bi td a = 1 ∧ bi td b = 1 ∧ a.toInt ≠ b.toInt ∧ 0 ≤ c.toInt ∧ c.toInt ≤ 1) ∧ ¬ 0 < (arI g0 (6 + 1 * a.toInt.toNat) b.toInt.toNat).toInt ∧ c.toInt ≠ 0 ∧ r = ctB (oth td a b) (Av (Lx g0) a.toInt.toNat b.toInt.toNat) 4096))) := by
  refine q_enterI (by decide) (Nat.le_of_ble_eq_true rfl) rfl (fun K H locs ls _ _ hM hW0 hR hC hE hl => ?_)
  have hl : lv_has ls 5 [(0, .ref (ad 0)), (1, .int a), (2, .int b), (3, .int c)] := hl
  have hW : WS ad cA (fun i k => False) g0 K g0 H locs := ⟨hW0, hSh, FR.rf⟩
  have b_td := hG.f h_td rF_3_2 (by decide)
  have := kc_0
  have := kc_1
  have := kc_m1
  have := kc_m2
  refine q_aload_n hM dX11_cut_0 (lv_at hl 0 rfl) ?_
  refine w_get (v := .ref (ad 3)) hM hW FG_X11_19 lb_0 (rf_0_1 hW.2.1) dX11_cut_1 ?_
  refine w_get (v := .int td) hM hW FG_X11_116 lb_3 ((hW.2.2.1 3 2 (fun h => h)).trans h_td) dX11_cut_4 ?_
  refine q_iload_n hM dX11_cut_7 (lv_at hl 1 rfl) ?_
  refine q_callS (As := [.int td, .int a]) (rest := []) hM hW.1 hR hC myX11_has (kAW (v_1_10 (List.mem_of_getElem? (i := 8) rfl)) rfl) (c_X11_has _ _ cA ad g0 td a hW.2.1) ⟨by decide, by decide⟩ rfl rfl hl.1 (Nat.le_of_ble_eq_true rfl) dX11_cut_8 (fun v g13721 H locs hp hW1 => ?_)
  obtain ⟨r13720, rfl, hr13720, rfl⟩ := hp
  have hW : WS ad cA (fun i k => False) g0 K g0 H locs := ⟨hW1, hW.2.1, hW.2.2⟩
  have hbr13720 := has_bi hr13720
  have hcr13720 := bi_01 td a
  first | have ltr13720 := has_lt 5 hr13720 (by omega) (by omega) | have ltr13720 := has_lt 6 hr13720 (by omega) (by omega) | have ltr13720 := has_lt 8 hr13720 (by omega) (by omega) | have ltr13720 := has_lt 12 hr13720 (by omega) (by omega) | skip
  refine q_if_eq (tgt := 42) hM dX11_cut_11 (by decide) (rfl : r13720.toInt = r13720.toInt) (fun h11 => ?_) (fun h11 => ?_)
  · refine q_iconst (v := ((-1) : Int32)) hM dX11_cut_42 (by decide) ?_
    exact hE _ _ _ _ _ _ hW.1 ⟨_, rfl, hW.2.1, hG, hW.2.2, (Or.inl ⟨by omega, kc_m1⟩)⟩ dX11_cut_43
  · refine q_aload_n hM dX11_cut_14 (lv_at hl 0 rfl) ?_
    refine w_get (v := .ref (ad 3)) hM hW FG_X11_19 lb_0 (rf_0_1 hW.2.1) dX11_cut_15 ?_
    refine w_get (v := .int td) hM hW FG_X11_116 lb_3 ((hW.2.2.1 3 2 (fun h => h)).trans h_td) dX11_cut_18 ?_
    refine q_iload_n hM dX11_cut_21 (lv_at hl 2 rfl) ?_
    refine q_callS (As := [.int td, .int b]) (rest := []) hM hW.1 hR hC myX11_has (kAW (v_1_10 (List.mem_of_getElem? (i := 8) rfl)) rfl) (c_X11_has _ _ cA ad g0 td b hW.2.1) ⟨by decide, by decide⟩ rfl rfl hl.1 (Nat.le_of_ble_eq_true rfl) dX11_cut_22 (fun v g13725 H locs hp hW1 => ?_)
    obtain ⟨r13724, rfl, hr13724, rfl⟩ := hp
    have hW : WS ad cA (fun i k => False) g0 K g0 H locs := ⟨hW1, hW.2.1, hW.2.2⟩
    have hbr13724 := has_bi hr13724
    have hcr13724 := bi_01 td b
    first | have ltr13724 := has_lt 5 hr13724 (by omega) (by omega) | have ltr13724 := has_lt 6 hr13724 (by omega) (by omega) | have ltr13724 := has_lt 8 hr13724 (by omega) (by omega) | have ltr13724 := has_lt 12 hr13724 (by omega) (by omega) | skip
    refine q_if_eq (tgt := 42) hM dX11_cut_25 (by decide) (rfl : r13724.toInt = r13724.toInt) (fun h25 => ?_) (fun h25 => ?_)
    · refine q_iconst (v := ((-1) : Int32)) hM dX11_cut_42 (by decide) ?_
      exact hE _ _ _ _ _ _ hW.1 ⟨_, rfl, hW.2.1, hG, hW.2.2, (Or.inl ⟨by omega, kc_m1⟩)⟩ dX11_cut_43
    · refine q_iload_n hM dX11_cut_28 (lv_at hl 1 rfl) ?_
      refine q_iload_n hM dX11_cut_29 (lv_at hl 2 rfl) ?_
      refine q_icmp_eq (tgt := 42) hM dX11_cut_30 (by decide) (rfl : a.toInt = a.toInt) (rfl : b.toInt = b.toInt) (fun h30 => ?_) (fun h30 => ?_)
      · refine q_iconst (v := ((-1) : Int32)) hM dX11_cut_42 (by decide) ?_
        exact hE _ _ _ _ _ _ hW.1 ⟨_, rfl, hW.2.1, hG, hW.2.2, (Or.inl ⟨by omega, kc_m1⟩)⟩ dX11_cut_43
      · refine q_iload_n hM dX11_cut_33 (lv_at hl 3 rfl) ?_
        refine q_iconst (v := (0 : Int32)) hM dX11_cut_34 (by decide) ?_
        refine q_iconst (v := (1 : Int32)) hM dX11_cut_35 (by decide) ?_
        refine q_callS (As := [.int c, .int (0 : Int32), .int (1 : Int32)]) (rest := []) hM hW.1 hR hC myX11_within (kAW (v_1_10 (List.mem_of_getElem? (i := 1) rfl)) rfl) (c_X11_within _ _ cA ad g0 c (0 : Int32) (1 : Int32) hW.2.1) ⟨by decide, by decide⟩ rfl rfl hl.1 (Nat.le_of_ble_eq_true rfl) dX11_cut_36 (fun v g13731 H locs hp hW1 => ?_)
        obtain ⟨r13730, rfl, hr13730, rfl⟩ := hp
        have hW : WS ad cA (fun i k => False) g0 K g0 H locs := ⟨hW1, hW.2.1, hW.2.2⟩
        have := kc_0
        have := kc_1
        refine q_if_ne (tgt := 44) hM dX11_cut_39 (by decide) (rfl : r13730.toInt = r13730.toInt) (fun h39 => ?_) (fun h39 => ?_)
        · refine q_aload_n hM dX11_cut_44 (lv_at hl 0 rfl) ?_
          refine w_get (v := .ref (ad 3)) hM hW FG_X11_19 lb_0 (rf_0_1 hW.2.1) dX11_cut_45 ?_
          refine w_get (v := .ref (ad 5)) hM hW FG_X11_127 lb_3 (rf_3_1 hW.2.1) dX11_cut_48 ?_
          refine q_iload_n hM dX11_cut_51 (lv_at hl 1 rfl) ?_
          refine w_aald hM hW lb_5 (Or.inl rfl) (i_in (by omega) (by omega)) (aq (aq_5 hW.2.1) (by omega) (by omega)) dX11_cut_52 ?_
          refine q_iload_n hM dX11_cut_53 (lv_at hl 2 rfl) ?_
          refine w_iald hM hW (lr_6 (by omega)) (i_in (by omega) (by omega)) dX11_cut_54 ?_
          refine q_top (fun y13733 hy13733 => ?_)
          have tyy13733 : y13733.toInt = (arI g0 (6 + 1 * a.toInt.toNat) b.toInt.toNat).toInt := congrArg Int32.toInt hy13733
          refine q_if_le (tgt := 61) hM dX11_cut_55 (by decide) (rfl : y13733.toInt = y13733.toInt) (fun h55 => ?_) (fun h55 => ?_)
          · refine q_aload_n hM dX11_cut_61 (lv_at hl 0 rfl) ?_
            refine w_get (v := .ref (ad 3)) hM hW FG_X11_19 lb_0 (rf_0_1 hW.2.1) dX11_cut_62 ?_
            refine q_iload_n hM dX11_cut_65 (lv_at hl 1 rfl) ?_
            refine q_iload_n hM dX11_cut_66 (lv_at hl 2 rfl) ?_
            refine q_callV (As := [.int a, .int b]) (rest := []) hM hW.1 hR hC myX5_fewestBetween (kAW (v_3_7 (List.mem_of_getElem? (i := 6) rfl)) rfl) (rfl : vwCl[5]? = some (RX5, TX5, 3)) rfl lb_3.1 (shO hW.2.1 lb_3) (s_X5_fewestBetween _ _ cA ad g0 a b td hW.2.1 hG ((hW.2.2.1 3 2 (fun h => h)).trans h_td) (by  omega) (by  omega) (by  omega) (by  omega)) ⟨by decide, by decide⟩ rfl rfl hl.1 (Nat.le_of_ble_eq_true rfl) dX11_cut_67 (fun v g13736 H locs hp hW1 => ?_)
            obtain ⟨r13735, rfl, hr13735, rfl⟩ := hp
            have hW : WS ad cA (fun i k => False) g0 K g0 H locs := ⟨hW1, hW.2.1, hW.2.2⟩
            refine q_istore (lv9 := [(4, .int r13735), (0, .ref (ad 0)), (1, .int a), (2, .int b), (3, .int c)]) hM dX11_cut_70 hl (by decide) rfl (fun ls hl => ?_)
            refine q_iload_n hM dX11_cut_72 (lv_at hl 4 rfl) ?_
            refine q_if_ne (tgt := 84) hM dX11_cut_73 (by decide) (rfl : c.toInt = c.toInt) (fun h73 => ?_) (fun h73 => ?_)
            · refine q_iload hM dX11_cut_84 (lv_at hl 0 rfl) ?_
              exact hE _ _ _ _ _ _ hW.1 ⟨_, rfl, hW.2.1, hG, hW.2.2, (Or.inr (Or.inr (Or.inr ⟨⟨by omega, by omega, by omega, by omega, by omega⟩, by omega, by omega, hr13735.1⟩)))⟩ dX11_cut_86
            · refine q_iload hM dX11_cut_76 (lv_at hl 0 rfl) ?_
              refine q_callS (As := [.int r13735]) (rest := []) hM hW.1 hR hC myJ6_bitCount_0f7a4 (kAW (v_3_1 (List.mem_of_getElem? (i := 2) rfl)) rfl) (c_J6_bitCount_0f7a4 _ _ cA ad g0 r13735 hW.2.1) ⟨by decide, by decide⟩ rfl rfl hl.1 (Nat.le_of_ble_eq_true rfl) dX11_cut_78 (fun v g13740 H locs hp hW1 => ?_)
              obtain ⟨r13739, rfl, hr13739, rfl⟩ := hp
              have hW : WS ad cA (fun i k => False) g0 K g0 H locs := ⟨hW1, hW.2.1, hW.2.2⟩
              refine q_goto (tgt := 86) hM dX11_cut_81 (by decide) ?_
              exact hE _ _ _ _ _ _ hW.1 ⟨_, rfl, hW.2.1, hG, hW.2.2, (Or.inr (Or.inr (Or.inl ⟨⟨by omega, by omega, by omega, by omega, by omega⟩, by omega, by omega, by rw [← hr13735.1]; exact (congrArg Int32.toInt hr13739).trans (bc_cb (by omega) (by omega))⟩)))⟩ dX11_cut_86
          · refine q_bipush (v := ((-2) : Int32)) hM dX11_cut_58 (by decide) ?_
            exact hE _ _ _ _ _ _ hW.1 ⟨_, rfl, hW.2.1, hG, hW.2.2, (Or.inr (Or.inl ⟨⟨by omega, by omega, by omega, by omega, by omega⟩, by omega, kc_m2⟩))⟩ dX11_cut_60
        · refine q_iconst (v := ((-1) : Int32)) hM dX11_cut_42 (by decide) ?_
          exact hE _ _ _ _ _ _ hW.1 ⟨_, rfl, hW.2.1, hG, hW.2.2, (Or.inl ⟨by omega, kc_m1⟩)⟩ dX11_cut_43

theorem pos_cb {x : Int32} (h0 : 0 ≤ x.toInt) (h : 2 ≤ cb x 12) : 1 ≤ x.toInt := by
  by_cases c : x.toInt = 0
  · rw [cb_00 c] at h; omega
  · omega

/-- how much two of s remind each other -/
def rT (w : Nat → Nat → Int32) (s : Int32) (p q : Nat) : Int := if bt s p = true ∧ bt s q = true then (w p q).toInt else 0
def rX (g : Nat → va_E) (p q : Nat) : Int32 := arI g (104 + 1 * p) q
def rM (g : Nat → va_E) (p q : Nat) : Int32 := arI g 175 (8 * p + q)
theorem rT_a {w : Nat → Nat → Int32} {s : Int32} {p q : Nat} (h : bt s p = false) : rT w s p q = 0 := by
  unfold rT
  rw [if_neg (fun h9 => by rw [h] at h9; exact absurd h9.1 (by decide))]
theorem rT_b {w : Nat → Nat → Int32} {s : Int32} {p q : Nat} (h : bt s q = false) : rT w s p q = 0 := by
  unfold rT
  rw [if_neg (fun h9 => by rw [h] at h9; exact absurd h9.2 (by decide))]
theorem rT_c {w : Nat → Nat → Int32} {s : Int32} {p q : Nat} (h : bt s p = true) (h1 : bt s q = true) : rT w s p q = (w p q).toInt := by
  unfold rT
  rw [if_pos ⟨h, h1⟩]
def rowX (t : Nat → Nat → Int) (p : Nat) : Nat → Int
  | 0 => 0
  | n + 1 => rowX t p n + if p < n then t p n else 0
def allX (t : Nat → Nat → Int) : Nat → Int
  | 0 => 0
  | p + 1 => allX t p + rowX t p 8
def rowM (t : Nat → Nat → Int) (p : Nat) : Nat → Int
  | 0 => 0
  | n + 1 => rowM t p n + t p n
def allM (t : Nat → Nat → Int) : Nat → Int
  | 0 => 0
  | p + 1 => allM t p + rowM t p p
theorem rowX_s (t : Nat → Nat → Int) (p n : Nat) : rowX t p (n + 1) = rowX t p n + if p < n then t p n else 0 := rfl
theorem allX_s (t : Nat → Nat → Int) (p : Nat) : allX t (p + 1) = allX t p + rowX t p 8 := rfl
theorem rowM_s (t : Nat → Nat → Int) (p n : Nat) : rowM t p (n + 1) = rowM t p n + t p n := rfl
theorem allM_s (t : Nat → Nat → Int) (p : Nat) : allM t (p + 1) = allM t p + rowM t p p := rfl
theorem rowX_0 (t : Nat → Nat → Int) (p : Nat) : ∀ n : Nat, n ≤ p + 1 → rowX t p n = 0
  | 0, _ => rfl
  | n + 1, h => by rw [rowX_s, rowX_0 t p n (by omega), if_neg (by omega)]; rfl
theorem rowX_cg {t u : Nat → Nat → Int} (p : Nat) : ∀ n : Nat, (∀ q, q < n → p < q → t p q = u p q) → rowX t p n = rowX u p n
  | 0, _ => rfl
  | n + 1, h => by
    rw [rowX_s, rowX_s, rowX_cg p n (fun q hq => h q (by omega))]
    by_cases c : p < n
    · rw [if_pos c, if_pos c, h n (by omega) c]
    · rw [if_neg c, if_neg c]
theorem allX_cg {t u : Nat → Nat → Int} : ∀ n : Nat, n ≤ 8 → (∀ p q, p < 8 → q < 8 → p < q → t p q = u p q) → allX t n = allX u n
  | 0, _, _ => rfl
  | n + 1, h8, h => by rw [allX_s, allX_s, allX_cg n (by omega) h, rowX_cg n 8 (fun q hq hl => h n q (by omega) hq hl)]
theorem rowX_z {t : Nat → Nat → Int} (p : Nat) : ∀ n : Nat, (∀ q, q < n → p < q → t p q = 0) → rowX t p n = 0
  | 0, _ => rfl
  | n + 1, h => by
    rw [rowX_s, rowX_z p n (fun q hq => h q (by omega))]
    by_cases c : p < n
    · rw [if_pos c, h n (by omega) c]; rfl
    · rw [if_neg c]; rfl
theorem allX_z {t : Nat → Nat → Int} : ∀ n : Nat, n ≤ 8 → (∀ p q, p < 8 → q < 8 → p < q → t p q = 0) → allX t n = 0
  | 0, _, _ => rfl
  | n + 1, h8, h => by rw [allX_s, allX_z n (by omega) h, rowX_z n 8 (fun q hq hl => h n q (by omega) hq hl)]; rfl
/-- by rows of the lower, by rows of the higher -/
theorem all_eq {t u : Nat → Nat → Int} (h : ∀ p q, p < 8 → q < 8 → p < q → t p q = u q p) : allX t 8 = allM u 8 := by
  have e : allX t 8 = allX (fun p q => u q p) 8 := allX_cg 8 (by decide) h
  rw [e]
  simp [allX, rowX, allM, rowM]
  omega
theorem rx_no {t : Nat → Nat → Int} {s : Int} {p q q1 : Int32} (h : s = allX t p.toInt.toNat + rowX t p.toInt.toNat q.toInt.toNat) (h0 : 0 ≤ q.toInt) (hj : q1.toInt = q.toInt + 1) (ht : t p.toInt.toNat q.toInt.toNat = 0) : s = allX t p.toInt.toNat + rowX t p.toInt.toNat q1.toInt.toNat := by
  rw [show q1.toInt.toNat = q.toInt.toNat + 1 by omega, rowX_s, ht]
  split <;> omega
theorem rx_yes {t : Nat → Nat → Int} {s s1 x : Int} {p q q1 : Int32} (h : s = allX t p.toInt.toNat + rowX t p.toInt.toNat q.toInt.toNat) (h0 : 0 ≤ p.toInt) (hl : p.toInt < q.toInt) (hj : q1.toInt = q.toInt + 1) (ht : t p.toInt.toNat q.toInt.toNat = x) (hs : s1 = s + x) : s1 = allX t p.toInt.toNat + rowX t p.toInt.toNat q1.toInt.toNat := by
  rw [show q1.toInt.toNat = q.toInt.toNat + 1 by omega, rowX_s, ht, if_pos (by omega)]
  omega
theorem rx_0 {t : Nat → Nat → Int} {s : Int} {p q : Int32} (h : s = allX t p.toInt.toNat) (h0 : 0 ≤ p.toInt) (hq : q.toInt = p.toInt + 1) : s = allX t p.toInt.toNat + rowX t p.toInt.toNat q.toInt.toNat := by
  rw [rowX_0 t _ _ (by omega)]
  omega
theorem rx_end {t : Nat → Nat → Int} {s : Int} {p p1 q : Int32} (h : s = allX t p.toInt.toNat + rowX t p.toInt.toNat q.toInt.toNat) (h0 : 0 ≤ p.toInt) (hq : q.toInt = 8) (hp : p1.toInt = p.toInt + 1) : s = allX t p1.toInt.toNat := by
  rw [show p1.toInt.toNat = p.toInt.toNat + 1 by omega, allX_s, ← show q.toInt.toNat = 8 by omega]
  exact h
theorem rm_st {t : Nat → Nat → Int} {s s1 x : Int} {p q q1 : Int32} (h : s = allM t p.toInt.toNat + rowM t p.toInt.toNat q.toInt.toNat) (h0 : 0 ≤ q.toInt) (hj : q1.toInt = q.toInt + 1) (ht : t p.toInt.toNat q.toInt.toNat = x) (hs : s1 = s + x) : s1 = allM t p.toInt.toNat + rowM t p.toInt.toNat q1.toInt.toNat := by
  rw [show q1.toInt.toNat = q.toInt.toNat + 1 by omega, rowM_s, ht]
  omega
theorem rm_0 {t : Nat → Nat → Int} {s : Int} {p q : Int32} (h : s = allM t p.toInt.toNat) (hq : q.toInt = 0) : s = allM t p.toInt.toNat + rowM t p.toInt.toNat q.toInt.toNat := by
  rw [hq]
  show s = allM t p.toInt.toNat + 0
  omega
theorem rm_end {t : Nat → Nat → Int} {s : Int} {p p1 q : Int32} (h : s = allM t p.toInt.toNat + rowM t p.toInt.toNat q.toInt.toNat) (h0 : 0 ≤ p.toInt) (hq : q.toInt = p.toInt) (hp : p1.toInt = p.toInt + 1) : s = allM t p1.toInt.toNat := by
  rw [show p1.toInt.toNat = p.toInt.toNat + 1 by omega, allM_s]
  rw [hq] at h
  exact h
/-- how much those in one room remind each other, if s is one -/
def sub (b o : Int32) : Prop := b &&& (o ^^^ (-1)) = 0
def vX (w : Nat → Nat → Int32) (so s : Int32) : Int := allX (rT w s) 8 + allX (rT w (so &&& (s ^^^ (-1)))) 8
def vM (w : Nat → Nat → Int32) (so s : Int32) : Int := allM (rT w s) 8 + allM (rT w (so &&& (s ^^^ (-1)))) 8
def AR (v : Int32 → Int) (o b : Int32) : Prop := sub b o ∧ 1 ≤ b.toInt ∧ ∀ s : Int32, 1 ≤ s.toInt → sub s o → v b < v s ∨ (v b = v s ∧ b.toInt ≤ s.toInt)
theorem AR_1 {v : Int32 → Int} {o a b : Int32} (h : AR v o a) (h1 : AR v o b) : a = b := by
  have e1 := h.2.2 b h1.2.1 h1.1
  have e2 := h1.2.2 a h.2.1 h.1
  exact Int32.toInt_inj.mp (by omega)
theorem sub_in {f o : Int32} (h1 : 0 ≤ o.toInt) (h : f &&& (o ^^^ (-1)) = 0) : 0 ≤ f.toInt ∧ f.toInt ≤ o.toInt := by
  have e : f &&& o = f := b_ext (fun q hq => by
    have e1 : bt (f &&& (o ^^^ (-1))) q = false := by rw [h, b_0]
    rw [b_and, b_xor, b_m1 q hq] at e1
    rw [b_and]
    revert e1
    cases bt f q <;> cases bt o q <;> decide)
  exact i_andk e h1
theorem sub_self (o : Int32) : sub o o := b_ext (fun q hq => by
  rw [b_and, b_xor, b_m1 q hq, b_0]
  cases bt o q <;> decide)
/-- the best of those before f, of o -/
def BR (v : Int32 → Int) (o b : Int32) (m : Int) (f : Int) : Prop := sub b o ∧ 1 ≤ b.toInt ∧ m = v b ∧ ∀ s : Int32, (1 ≤ s.toInt ∧ s.toInt < f) ∨ s = o → sub s o → m < v s ∨ (m = v s ∧ b.toInt ≤ s.toInt)
theorem BR_0 {v : Int32 → Int} {o : Int32} {m : Int} (h : 1 ≤ o.toInt) (hm : m = v o) : BR v o o m 1 := ⟨sub_self o, h, hm, fun s hs _ => by
  rcases hs with hs | hs
  · omega
  · rw [hs]; omega⟩
theorem BR_no {v : Int32 → Int} {o b f f1 : Int32} {m : Int} (h : BR v o b m f.toInt) (hj : f1.toInt = f.toInt + 1) (hn : ¬ sub f o ∨ m < v f ∨ (m = v f ∧ b.toInt ≤ f.toInt)) : BR v o b m f1.toInt := by
  obtain ⟨h1, h2, h3, h4⟩ := h
  refine ⟨h1, h2, h3, fun s hs hu => ?_⟩
  by_cases e : s.toInt = f.toInt
  · have e2 : s = f := Int32.toInt_inj.mp e
    rw [e2] at hu ⊢
    rcases hn with hn | hn
    · exact absurd hu hn
    · exact hn
  · refine h4 s ?_ hu
    rcases hs with hs | hs
    · exact Or.inl (by omega)
    · exact Or.inr hs
theorem BR_yes {v : Int32 → Int} {o b f f1 : Int32} {m m1 : Int} (h : BR v o b m f.toInt) (h0 : 1 ≤ f.toInt) (hj : f1.toInt = f.toInt + 1) (hu : sub f o) (hm : m1 = v f) (hl : m1 < m ∨ (m1 = m ∧ f.toInt < b.toInt)) : BR v o f m1 f1.toInt := by
  obtain ⟨h1, h2, h3, h4⟩ := h
  refine ⟨hu, h0, hm, fun s hs hu2 => ?_⟩
  by_cases e : s.toInt = f.toInt
  · have e2 : s = f := Int32.toInt_inj.mp e
    rw [e2]; omega
  · have := h4 s (by
      rcases hs with hs | hs
      · exact Or.inl (by omega)
      · exact Or.inr hs) hu2
    omega
theorem BR_end {v : Int32 → Int} {o b f : Int32} {m : Int} (h : BR v o b m f.toInt) (h0 : 0 ≤ o.toInt) (hf : o.toInt ≤ f.toInt) : AR v o b := by
  obtain ⟨h1, h2, h3, h4⟩ := h
  refine ⟨h1, h2, fun s hs hu => ?_⟩
  have e := sub_in h0 hu
  rw [← h3]
  refine h4 s ?_ hu
  by_cases c : s.toInt = o.toInt
  · exact Or.inr (Int32.toInt_inj.mp c)
  · exact Or.inl (by omega)
/-- the reference's: none yet, or the best of those before f -/
def BM (v : Int32 → Int) (o b : Int32) (m : Int) (f : Int) : Prop := ((b.toInt = 0 ∧ m = 1000000000) ∨ (sub b o ∧ 1 ≤ b.toInt ∧ b.toInt < f ∧ m = v b)) ∧ ∀ s : Int32, 1 ≤ s.toInt → s.toInt < f → sub s o → m < v s ∨ (m = v s ∧ b.toInt ≤ s.toInt)
theorem BM_0 {v : Int32 → Int} {o : Int32} : BM v o 0 1000000000 1 := ⟨Or.inl ⟨by decide, rfl⟩, fun s h1 h2 => by omega⟩
theorem BM_no {v : Int32 → Int} {o b f f1 : Int32} {m : Int} (h : BM v o b m f.toInt) (hj : f1.toInt = f.toInt + 1) (hn : ¬ sub f o ∨ (v f < 1000000000 ∧ m ≤ v f)) : BM v o b m f1.toInt := by
  obtain ⟨h1, h4⟩ := h
  refine ⟨h1.elim Or.inl (fun h => Or.inr ⟨h.1, h.2.1, by have := h.2.2.1; omega, h.2.2.2⟩), fun s a1 a2 hu => ?_⟩
  by_cases e : s.toInt = f.toInt
  · have e2 : s = f := Int32.toInt_inj.mp e
    rw [e2] at hu ⊢
    rcases hn with hn | hn
    · exact absurd hu hn
    · rcases h1 with h1 | h1
      · omega
      · have := h1.2.2.1
        omega
  · exact h4 s a1 (by omega) hu
theorem BM_yes {v : Int32 → Int} {o b f f1 : Int32} {m m1 : Int} (h : BM v o b m f.toInt) (h0 : 1 ≤ f.toInt) (hj : f1.toInt = f.toInt + 1) (hu : sub f o) (hm : m1 = v f) (hl : m1 < m) : BM v o f m1 f1.toInt := by
  obtain ⟨h1, h4⟩ := h
  refine ⟨Or.inr ⟨hu, h0, by omega, hm⟩, fun s a1 a2 hu2 => ?_⟩
  by_cases e : s.toInt = f.toInt
  · have e2 : s = f := Int32.toInt_inj.mp e
    rw [e2]; omega
  · have := h4 s a1 (by omega) hu2
    omega
theorem BM_end {v : Int32 → Int} {o b f : Int32} {m : Int} (h : BM v o b m f.toInt) (h0 : 1 ≤ o.toInt) (hf : o.toInt < f.toInt) (hv : v o < 1000000000) : AR v o b ∧ m = v b := by
  obtain ⟨h1, h4⟩ := h
  have h2 := h4 o h0 hf (sub_self o)
  rcases h1 with h1 | h1
  · omega
  · refine ⟨⟨h1.1, h1.2.1, fun s a1 hu => ?_⟩, h1.2.2.2⟩
    have := sub_in (by omega) hu
    have := h4 s a1 (by omega) hu
    rw [h1.2.2.2] at this
    exact this
theorem rowM_b {t : Nat → Nat → Int} (h : ∀ p q, p < 8 → q < 8 → 0 ≤ t p q ∧ t p q ≤ 99) (p : Nat) (hp : p < 8) : ∀ n : Nat, n ≤ 8 → 0 ≤ rowM t p n ∧ rowM t p n ≤ 99 * n
  | 0, _ => ⟨Int.le_refl 0, Int.le_refl 0⟩
  | n + 1, hn => by
    have h1 := rowM_b h p hp n (by omega)
    have h2 := h p n hp (by omega)
    rw [rowM_s]
    omega
theorem allM_b {t : Nat → Nat → Int} (h : ∀ p q, p < 8 → q < 8 → 0 ≤ t p q ∧ t p q ≤ 99) : ∀ n : Nat, n ≤ 8 → 0 ≤ allM t n ∧ allM t n ≤ 800 * n
  | 0, _ => ⟨Int.le_refl 0, Int.le_refl 0⟩
  | n + 1, hn => by
    have h1 := allM_b h n (by omega)
    have h2 := rowM_b h n (by omega) n (by omega)
    rw [allM_s]
    omega
theorem rT_rg {w : Nat → Nat → Int32} (h : ∀ p q, p < 8 → q < 8 → 0 ≤ (w p q).toInt ∧ (w p q).toInt ≤ 99) (s : Int32) (p q : Nat) (hp : p < 8) (hq : q < 8) : 0 ≤ rT w s p q ∧ rT w s p q ≤ 99 := by
  unfold rT
  have := h p q hp hq
  split <;> omega
theorem vM_b {w : Nat → Nat → Int32} (h : ∀ p q, p < 8 → q < 8 → 0 ≤ (w p q).toInt ∧ (w p q).toInt ≤ 99) (so s : Int32) : vM w so s < 1000000000 := by
  have h1 := allM_b (rT_rg h s) 8 (by decide)
  have h2 := allM_b (rT_rg h (so &&& (s ^^^ (-1)))) 8 (by decide)
  unfold vM
  omega
/-- the rest without the lowest: by both ways; what is left of it then; how many there are -/
theorem rest_dec1 : ∀ a, a < 16 → ∀ b, b < 16 → 2 ≤ cb (nI (16 * a + b)) 12 → nI (16 * a + b) &&& ((nI (16 * a + b) &&& (-(nI (16 * a + b)))) ^^^ (-1)) = nI (16 * a + b) &&& (nI (16 * a + b) - 1) ∧ 1 ≤ (nI (16 * a + b) &&& (nI (16 * a + b) - 1)).toInt ∧ (nI (16 * a + b) &&& (nI (16 * a + b) - 1)).toInt < 256 := by decide +kernel
def onebit (n : Int32) : Bool := (List.range 8).all (fun p => (List.range 8).all (fun q => !(decide (p < q)) || !(bt (n &&& ((n &&& (n - 1)) ^^^ (-1))) p && bt (n &&& ((n &&& (n - 1)) ^^^ (-1))) q)))
theorem rest_dec2 : ∀ a, a < 16 → ∀ b, b < 16 → onebit (nI (16 * a + b)) = true := by decide +kernel
theorem rest_of {so : Int32} (h0 : 0 ≤ so.toInt) (h1 : so.toInt < 256) (h2 : 2 ≤ cb so 12) : so &&& ((so &&& (-so)) ^^^ (-1)) = so &&& (so - 1) ∧ 1 ≤ (so &&& (so - 1)).toInt ∧ (so &&& (so - 1)).toInt < 256 ∧ ∀ p, p < 8 → ∀ q, q < 8 → p < q → (bt (so &&& ((so &&& (so - 1)) ^^^ (-1))) p && bt (so &&& ((so &&& (so - 1)) ^^^ (-1))) q) = false := by
  obtain ⟨k, hk⟩ : ∃ k : Nat, so.toInt = k := ⟨so.toInt.toNat, by omega⟩
  have hx : so = nI k := nI_k hk (by omega)
  have h := rest_dec1 (k / 16) (by omega) (k % 16) (by omega)
  have h3 := rest_dec2 (k / 16) (by omega) (k % 16) (by omega)
  rw [show 16 * (k / 16) + k % 16 = k by omega, ← hx] at h h3
  obtain ⟨e1, e2, e3⟩ := h h2
  refine ⟨e1, e2, e3, fun p hp q hq hl => ?_⟩
  unfold onebit at h3
  have h4 := List.all_eq_true.mp (List.all_eq_true.mp h3 p (List.mem_range.mpr hp)) q (List.mem_range.mpr hq)
  rw [decide_eq_true hl, Bool.not_true, Bool.false_or, Bool.not_eq_true'] at h4
  exact h4
theorem noise_1 {w : Nat → Nat → Int32} {so : Int32} (h0 : 0 ≤ so.toInt) (h1 : so.toInt < 256) (h2 : 2 ≤ cb so 12) : allX (rT w (so &&& ((so &&& (so - 1)) ^^^ (-1)))) 8 = 0 := allX_z 8 (by decide) (fun p q hp hq hl => by
  have h3 := (rest_of h0 h1 h2).2.2.2 p hp q hq hl
  cases c : bt (so &&& ((so &&& (so - 1)) ^^^ (-1))) p with
  | false => exact rT_a c
  | true =>
    rw [c, Bool.true_and] at h3
    exact rT_b h3)
/-- reminding, alike on both sides -/
def RMr (g : Nat → va_E) : Prop := ∀ p q : Nat, p < 8 → q < 8 → arI g (104 + 1 * p) q = arI g 175 (8 * p + q) ∧ arI g 175 (8 * p + q) = arI g 175 (8 * q + p) ∧ 0 ≤ (arI g 175 (8 * p + q)).toInt ∧ (arI g 175 (8 * p + q)).toInt ≤ 99
theorem vXM {g g1 : Nat → va_E} (h : RMr g) (e : arI g1 175 = arI g 175) : vX (rX g) = vM (rM g1) := by
  have key : ∀ s : Int32, allX (rT (rX g) s) 8 = allM (rT (rM g1) s) 8 := fun s => all_eq (fun p q hp hq hl => by
    have h1 := h p q hp hq
    have e2 : rX g p q = rM g1 q p := by
      unfold rX rM
      rw [e, h1.1, h1.2.1]
    unfold rT
    rw [e2]
    by_cases c : bt s p = true ∧ bt s q = true
    · rw [if_pos c, if_pos ⟨c.2, c.1⟩]
    · rw [if_neg c, if_neg (fun c2 => c ⟨c2.2, c2.1⟩)])
  funext so s
  unfold vX vM
  rw [key, key]
def RS (g : Nat → va_E) : Prop := RP g ∧ RMr g
theorem RS_0 (ad : Nat → Nat) (cA : Nat → ClassId) : RS (gF ad cA) := ⟨RP_0 ad cA, fun p q hp hq => by
  have e1 : arI (gF ad cA) (104 + 1 * p) q = 0 := (az_all ad cA _ _).resolve_right (by omega)
  have e2 : ∀ j, arI (gF ad cA) 175 j = 0 := fun j => (az_all ad cA _ _).resolve_right (by omega)
  rw [e1, e2, e2]
  exact ⟨rfl, rfl, by decide, by decide⟩⟩
/-- who is asked: told ones, two at least -/
theorem some_iff {td so : Int32} {f : Nat → Int32} (h : SMr td f 8) (h0 : 0 ≤ td.toInt) (h1 : td.toInt < 256) : so &&& (td ^^^ (-1)) = 0 ↔ (0 ≤ so.toInt ∧ so.toInt < 256 ∧ ∀ p : Nat, p < 8 → bt so p = true → tM f p ≠ 0) := by
  refine ⟨fun e => ?_, fun ⟨a, b, c⟩ => ?_⟩
  · have e1 := sub_in h0 e
    refine ⟨e1.1, by omega, fun p hp hb => ?_⟩
    have e2 : bt (so &&& (td ^^^ (-1))) p = false := by rw [e, b_0]
    rw [b_and, b_xor, b_m1 p (by omega), hb] at e2
    rw [← SM_t h p hp]
    unfold tB
    cases d : bt td p with
    | true => rw [if_pos rfl]; decide
    | false => rw [d] at e2; exact absurd e2 (by decide)
  · refine b_ext (fun q hq => ?_)
    rw [b_and, b_xor, b_m1 q hq, b_0]
    cases d : bt so q with
    | false => rfl
    | true =>
      have q8 := bt_lt (n := 8) a b d
      have e1 := c q q8 d
      rw [← SM_t h q q8] at e1
      unfold tB at e1
      cases d2 : bt td q with
      | true => rfl
      | false => rw [d2, if_neg (by decide)] at e1; exact absurd rfl e1
theorem RM_upd {g g2 : Nat → va_E} {a b c : Int32} (h : RMr g) (a0 : 0 ≤ a.toInt) (a1 : a.toInt < 8) (b0 : 0 ≤ b.toInt) (b1 : b.toInt < 8) (hne : a.toInt ≠ b.toInt) (c0 : 0 ≤ c.toInt) (c1 : c.toInt ≤ 99) (e1 : ∀ k : Nat, k < 8 → arI g2 (104 + 1 * k) = if k = b.toInt.toNat then upd (arI g (104 + 1 * k)) a.toNatClampNeg c else if k = a.toInt.toNat then upd (arI g (104 + 1 * k)) b.toNatClampNeg c else arI g (104 + 1 * k)) (e2 : arI g2 175 = upd (upd (arI g 175) (8 * a.toInt.toNat + b.toInt.toNat) c) (8 * b.toInt.toNat + a.toInt.toNat) c) : RMr g2 := by
  have ea : a.toNatClampNeg = a.toInt.toNat := rfl
  have eb : b.toNatClampNeg = b.toInt.toNat := rfl
  obtain ⟨x, hx⟩ : ∃ x : Nat, a.toInt.toNat = x := ⟨_, rfl⟩
  obtain ⟨y, hy⟩ : ∃ y : Nat, b.toInt.toNat = y := ⟨_, rfl⟩
  have hx8 : x < 8 := by omega
  have hy8 : y < 8 := by omega
  have hxy : x ≠ y := by omega
  have kM : ∀ p q : Nat, p < 8 → q < 8 → arI g2 175 (8 * p + q) = if (p = y ∧ q = x) ∨ (p = x ∧ q = y) then c else arI g 175 (8 * p + q) := fun p q hp hq => by
    rw [e2, hx, hy]
    unfold upd
    by_cases u : p = y ∧ q = x
    · rw [if_pos (by omega), if_pos (Or.inl u)]
    · rw [if_neg (by omega)]
      by_cases v : p = x ∧ q = y
      · rw [if_pos (by omega), if_pos (Or.inr v)]
      · rw [if_neg (by omega), if_neg (fun z => z.elim u v)]
  have kX : ∀ p q : Nat, p < 8 → q < 8 → arI g2 (104 + 1 * p) q = if (p = y ∧ q = x) ∨ (p = x ∧ q = y) then c else arI g (104 + 1 * p) q := fun p q hp hq => by
    rw [e1 p hp, ea, eb, hx, hy]
    unfold upd
    by_cases u : p = y
    · rw [if_pos u]
      by_cases v : q = x
      · rw [if_pos v, if_pos (Or.inl ⟨u, v⟩)]
      · rw [if_neg v, if_neg (by omega)]
    · rw [if_neg u]
      by_cases v : p = x
      · rw [if_pos v]
        by_cases z : q = y
        · rw [if_pos z, if_pos (Or.inr ⟨v, z⟩)]
        · rw [if_neg z, if_neg (by omega)]
      · rw [if_neg v, if_neg (by omega)]
  intro p q hp hq
  obtain ⟨h1, h2, h3, h4⟩ := h p q hp hq
  rw [kX p q hp hq, kM p q hp hq, kM q p hq hp]
  by_cases u : (p = y ∧ q = x) ∨ (p = x ∧ q = y)
  · have u2 : (q = y ∧ p = x) ∨ (q = x ∧ p = y) := by omega
    rw [if_pos u, if_pos u, if_pos u2]
    exact ⟨rfl, rfl, c0, c1⟩
  · have u2 : ¬ ((q = y ∧ p = x) ∨ (q = x ∧ p = y)) := by omega
    rw [if_neg u, if_neg u, if_neg u2]
    exact ⟨h1, h2, h3, h4⟩


set_option maxRecDepth 100000 in
set_option maxHeartbeats 4000000 in
theorem s_X11_reminds (l : Launch) (D : va_G) (cA : Nat → ClassId) (ad : Nat → Nat) (g0 : Nat → va_E) (a : Int32) (b : Int32) (c : Int32) (td : Int32)  (hSh : Shp ad cA g0) (hG : Rng g0) (h_td : fld g0 18 3 = .int td) : CT l NN ad cA D yX11_reminds cX11_reminds 4 (some FieldType.boolean) (1, 22) [.ref (ad 0), .int a, .int b, .int c] g0 (fun v g' => ∃ (r : Int32), v = some (.int r) ∧ Shp ad cA g' ∧ Rng g' ∧ FR (fun i k => (104 ≤ i ∧ i < 112)) g0 g' ∧ (((bi td a = 1 ∧ bi td b = 1 ∧ a.toInt ≠ b.toInt ∧ 0 ≤ c.toInt ∧ c.toInt ≤ 99) ∧ ∀ k : Nat, k < 8 → arI g' (104 + 1 * k) = if k = b.toInt.toNat then upd (arI g0 (104 + 1 * k)) a.toNatClampNeg c else if k = a.toInt.toNat then upd (arI g0 (104 + 1 * k)) b.toNatClampNeg c else arI g0 (104 + 1 * k)) ∨ (¬ (bi td a = 1 ∧ bi td b = 1 ∧ a.toInt ≠ b.toInt ∧ 0 ≤ c.toInt ∧ c.toInt ≤ 99) ∧ ∀ k : Nat, k < 8 → arI g' (104 + 1 * k) = arI g0 (104 + 1 * k))) ∧ (r.toInt = 0 ∨ r.toInt = 1)) := by
  refine q_enterZ (by decide) (Nat.le_of_ble_eq_true rfl) (fun K H locs ls _ _ hM hW0 hR hC hE hl => ?_)
  have hl : lv_has ls 4 [(0, .ref (ad 0)), (1, .int a), (2, .int b), (3, .int c)] := hl
  have hW : WS ad cA (fun i k => (104 ≤ i ∧ i < 112)) g0 K g0 H locs := ⟨hW0, hSh, FR.rf⟩
  have b_td := hG.f h_td rF_18_3 (by decide)
  have := kc_0
  have := kc_1
  refine q_aload_n hM dX11_reminds_0 (lv_at hl 0 rfl) ?_
  refine w_get (v := .ref (ad 18)) hM hW FG_X11_26 lb_0 (rf_0_10 hW.2.1) dX11_reminds_1 ?_
  refine w_get (v := .int td) hM hW FG_X11_135 lb_18 ((hW.2.2.1 18 3 (by omega)).trans h_td) dX11_reminds_4 ?_
  refine q_iload_n hM dX11_reminds_7 (lv_at hl 1 rfl) ?_
  refine q_callS (As := [.int td, .int a]) (rest := []) hM hW.1 hR hC myX11_has (kAW (v_1_10 (List.mem_of_getElem? (i := 8) rfl)) rfl) (c_X11_has _ _ cA ad g0 td a hW.2.1) ⟨by decide, by decide⟩ rfl rfl hl.1 (Nat.le_of_ble_eq_true rfl) dX11_reminds_8 (fun v g13744 H locs hp hW1 => ?_)
  obtain ⟨r13743, rfl, hr13743, rfl⟩ := hp
  have hW : WS ad cA (fun i k => (104 ≤ i ∧ i < 112)) g0 K g0 H locs := ⟨hW1, hW.2.1, hW.2.2⟩
  have hbr13743 := has_bi hr13743
  have hcr13743 := bi_01 td a
  first | have ltr13743 := has_lt 5 hr13743 (by omega) (by omega) | have ltr13743 := has_lt 6 hr13743 (by omega) (by omega) | have ltr13743 := has_lt 8 hr13743 (by omega) (by omega) | have ltr13743 := has_lt 12 hr13743 (by omega) (by omega) | skip
  refine q_if_eq (tgt := 43) hM dX11_reminds_11 (by decide) (rfl : r13743.toInt = r13743.toInt) (fun h11 => ?_) (fun h11 => ?_)
  · refine q_iconst (v := (0 : Int32)) hM dX11_reminds_43 (by decide) ?_
    exact hE _ _ _ _ _ _ hW.1 nz_0 ⟨_, rfl, hW.2.1, hG, hW.2.2, (Or.inr ⟨by omega, fun _ _ => rfl⟩), (by have := kc_0; omega)⟩ dX11_reminds_44
  · refine q_aload_n hM dX11_reminds_14 (lv_at hl 0 rfl) ?_
    refine w_get (v := .ref (ad 18)) hM hW FG_X11_26 lb_0 (rf_0_10 hW.2.1) dX11_reminds_15 ?_
    refine w_get (v := .int td) hM hW FG_X11_135 lb_18 ((hW.2.2.1 18 3 (by omega)).trans h_td) dX11_reminds_18 ?_
    refine q_iload_n hM dX11_reminds_21 (lv_at hl 2 rfl) ?_
    refine q_callS (As := [.int td, .int b]) (rest := []) hM hW.1 hR hC myX11_has (kAW (v_1_10 (List.mem_of_getElem? (i := 8) rfl)) rfl) (c_X11_has _ _ cA ad g0 td b hW.2.1) ⟨by decide, by decide⟩ rfl rfl hl.1 (Nat.le_of_ble_eq_true rfl) dX11_reminds_22 (fun v g13748 H locs hp hW1 => ?_)
    obtain ⟨r13747, rfl, hr13747, rfl⟩ := hp
    have hW : WS ad cA (fun i k => (104 ≤ i ∧ i < 112)) g0 K g0 H locs := ⟨hW1, hW.2.1, hW.2.2⟩
    have hbr13747 := has_bi hr13747
    have hcr13747 := bi_01 td b
    first | have ltr13747 := has_lt 5 hr13747 (by omega) (by omega) | have ltr13747 := has_lt 6 hr13747 (by omega) (by omega) | have ltr13747 := has_lt 8 hr13747 (by omega) (by omega) | have ltr13747 := has_lt 12 hr13747 (by omega) (by omega) | skip
    refine q_if_eq (tgt := 43) hM dX11_reminds_25 (by decide) (rfl : r13747.toInt = r13747.toInt) (fun h25 => ?_) (fun h25 => ?_)
    · refine q_iconst (v := (0 : Int32)) hM dX11_reminds_43 (by decide) ?_
      exact hE _ _ _ _ _ _ hW.1 nz_0 ⟨_, rfl, hW.2.1, hG, hW.2.2, (Or.inr ⟨by omega, fun _ _ => rfl⟩), (by have := kc_0; omega)⟩ dX11_reminds_44
    · refine q_iload_n hM dX11_reminds_28 (lv_at hl 1 rfl) ?_
      refine q_iload_n hM dX11_reminds_29 (lv_at hl 2 rfl) ?_
      refine q_icmp_eq (tgt := 43) hM dX11_reminds_30 (by decide) (rfl : a.toInt = a.toInt) (rfl : b.toInt = b.toInt) (fun h30 => ?_) (fun h30 => ?_)
      · refine q_iconst (v := (0 : Int32)) hM dX11_reminds_43 (by decide) ?_
        exact hE _ _ _ _ _ _ hW.1 nz_0 ⟨_, rfl, hW.2.1, hG, hW.2.2, (Or.inr ⟨by omega, fun _ _ => rfl⟩), (by have := kc_0; omega)⟩ dX11_reminds_44
      · refine q_iload_n hM dX11_reminds_33 (lv_at hl 3 rfl) ?_
        refine q_iconst (v := (0 : Int32)) hM dX11_reminds_34 (by decide) ?_
        refine q_bipush (v := (99 : Int32)) hM dX11_reminds_35 (by decide) ?_
        refine q_callS (As := [.int c, .int (0 : Int32), .int (99 : Int32)]) (rest := []) hM hW.1 hR hC myX11_within (kAW (v_1_10 (List.mem_of_getElem? (i := 1) rfl)) rfl) (c_X11_within _ _ cA ad g0 c (0 : Int32) (99 : Int32) hW.2.1) ⟨by decide, by decide⟩ rfl rfl hl.1 (Nat.le_of_ble_eq_true rfl) dX11_reminds_37 (fun v g13754 H locs hp hW1 => ?_)
        obtain ⟨r13753, rfl, hr13753, rfl⟩ := hp
        have hW : WS ad cA (fun i k => (104 ≤ i ∧ i < 112)) g0 K g0 H locs := ⟨hW1, hW.2.1, hW.2.2⟩
        have := kc_0
        have := kc_99
        refine q_if_ne (tgt := 45) hM dX11_reminds_40 (by decide) (rfl : r13753.toInt = r13753.toInt) (fun h40 => ?_) (fun h40 => ?_)
        · refine q_aload_n hM dX11_reminds_45 (lv_at hl 0 rfl) ?_
          refine w_get (v := .ref (ad 102)) hM hW FG_X11_90 lb_0 (rf_0_3 hW.2.1) dX11_reminds_46 ?_
          refine w_get (v := .ref (ad 103)) hM hW FG_X11_264 lb_102 (rf_102_0 hW.2.1) dX11_reminds_49 ?_
          refine q_iload_n hM dX11_reminds_52 (lv_at hl 1 rfl) ?_
          refine w_aald hM hW lb_103 (Or.inl rfl) (i_in (by omega) (by omega)) (aq (aq_103 hW.2.1) (by omega) (by omega)) dX11_reminds_53 ?_
          refine q_iload_n hM dX11_reminds_54 (lv_at hl 2 rfl) ?_
          refine q_iload_n hM dX11_reminds_55 (lv_at hl 3 rfl) ?_
          refine w_iast hM hW (lr_104 (by omega)) (by omega) (i_in (by omega) (by omega)) dX11_reminds_56 (fun g13756 H locs hW e1 e2 => ?_)
          have hS0 := e1
          have eS0 := e2
          have hG := hG.st e1 e2 (rA_row_104 (by omega)) (by have := i_rng c; omega) (by have := i_rng c; omega)
          refine q_aload_n hM dX11_reminds_57 (lv_at hl 0 rfl) ?_
          refine w_get (v := .ref (ad 102)) hM hW FG_X11_90 lb_0 (rf_0_3 hW.2.1) dX11_reminds_58 ?_
          refine w_get (v := .ref (ad 103)) hM hW FG_X11_264 lb_102 (rf_102_0 hW.2.1) dX11_reminds_61 ?_
          refine q_iload_n hM dX11_reminds_64 (lv_at hl 2 rfl) ?_
          refine w_aald hM hW lb_103 (Or.inl rfl) (i_in (by omega) (by omega)) (aq (aq_103 hW.2.1) (by omega) (by omega)) dX11_reminds_65 ?_
          refine q_iload_n hM dX11_reminds_66 (lv_at hl 1 rfl) ?_
          refine q_iload_n hM dX11_reminds_67 (lv_at hl 3 rfl) ?_
          refine w_iast hM hW (lr_104 (by omega)) (by omega) (i_in (by omega) (by omega)) dX11_reminds_68 (fun g13757 H locs hW e1 e2 => ?_)
          have hS1 := e1
          have eS1 := e2
          have hG := hG.st e1 e2 (rA_row_104 (by omega)) (by have := i_rng c; omega) (by have := i_rng c; omega)
          refine q_iconst (v := (1 : Int32)) hM dX11_reminds_69 (by decide) ?_
          exact hE _ _ _ _ _ _ hW.1 nz_1 ⟨_, rfl, hW.2.1, hG, hW.2.2, (Or.inl ⟨by omega, fun k hk => by
              unfold rX at *
              by_cases e : k = b.toInt.toNat
              · rw [if_pos e, if_neg (by omega), e, hS1]
                exact congrArg (fun z => upd z a.toNatClampNeg c) (eS0.2.1 (104 + 1 * b.toInt.toNat) (by unfold Only; omega))
              · rw [if_neg e]
                by_cases e3 : k = a.toInt.toNat
                · rw [if_pos e3, e3, eS1.2.1 (104 + 1 * a.toInt.toNat) (by unfold Only; omega)]; exact hS0
                · rw [if_neg e3]; exact (eS1.2.1 (104 + 1 * k) (by unfold Only; omega)).trans (eS0.2.1 (104 + 1 * k) (by unfold Only; omega))⟩), (by have := kc_1; omega)⟩ dX11_reminds_70
        · refine q_iconst (v := (0 : Int32)) hM dX11_reminds_43 (by decide) ?_
          exact hE _ _ _ _ _ _ hW.1 nz_0 ⟨_, rfl, hW.2.1, hG, hW.2.2, (Or.inr ⟨by omega, fun _ _ => rfl⟩), (by have := kc_0; omega)⟩ dX11_reminds_44


set_option maxRecDepth 100000 in
set_option maxHeartbeats 4000000 in
theorem s_X9_noise (l : Launch) (D : va_G) (cA : Nat → ClassId) (ad : Nat → Nat) (g0 : Nat → va_E) (ro : Int32) (hSh : Shp ad cA g0) (hG : Rng g0) (hR : ∀ p q : Nat, p < 8 → q < 8 → 0 ≤ (rX g0 p q).toInt ∧ (rX g0 p q).toInt ≤ 99) : CT l NN ad cA D yX9_noise cX9_noise 5 (some FieldType.int) (1, 21) [.ref (ad 102), .int ro] g0 (PU g0 (fun r => r.toInt = allX (rT (rX g0) ro) 8 ∧ 0 ≤ r.toInt ∧ r.toInt ≤ 6400)) := by
  refine q_enterI (by decide) (Nat.le_of_ble_eq_true rfl) rfl (fun K H locs ls _ _ hM hW0 hR hC hE hl => ?_)
  have hl : lv_has ls 5 [(0, .ref (ad 102)), (1, .int ro)] := hl
  have hW : WS ad cA (fun i k => False) g0 K g0 H locs := ⟨hW0, hSh, FR.rf⟩
  have := kc_0
  have := kc_1
  refine q_iconst (v := (0 : Int32)) hM dX9_noise_0 (by decide) ?_
  refine q_istore_n (lv9 := [(2, .int (0 : Int32)), (0, .ref (ad 102)), (1, .int ro)]) hM dX9_noise_1 hl (by decide) rfl (fun ls hl => ?_)
  refine q_iconst (v := (0 : Int32)) hM dX9_noise_2 (by decide) ?_
  refine q_istore_n (lv9 := [(3, .int (0 : Int32)), (2, .int (0 : Int32)), (0, .ref (ad 102)), (1, .int ro)]) hM dX9_noise_3 hl (by decide) rfl (fun ls hl => ?_)
  have L4 : ∀ (fu4 : Nat) (w4_2 : Int32) (w4_3 : Int32) (H : Heap) (locs : List Loc) (ls : Array Slot), (8 - w4_3.toInt).toNat < fu4 → (0 ≤ w4_3.toInt) → (w4_3.toInt ≤ 8) → (w4_2.toInt = allX (rT (rX g0) ro) w4_3.toInt.toNat) → (0 ≤ w4_2.toInt) → (w4_2.toInt ≤ 800 * w4_3.toInt) → lv_has ls 5 [(0, .ref (ad 102)), (1, .int ro), (2, .int w4_2), (3, .int w4_3)] → WS ad cA (fun i k => False) g0 K g0 H locs → XX K 0 0 H locs 4 ls [] := by
    intro fu4
    induction fu4 with
    | zero => intro w4_2 w4_3 H locs ls h0; omega
    | succ fu4 ih4 =>
      intro w4_2 w4_3 H locs ls hm4 i4_0 i4_1 i4_2 i4_3 i4_4 hl hW
      refine q_iload_n hM dX9_noise_4 (lv_at hl 3 rfl) ?_
      refine q_bipush (v := (8 : Int32)) hM dX9_noise_5 (by decide) ?_
      refine q_icmp_ge (tgt := 63) hM dX9_noise_7 (by decide) (rfl : w4_3.toInt = w4_3.toInt) (kc_8 : (8 : Int32).toInt = 8) (fun h7 => ?_) (fun h7 => ?_)
      · refine q_iload_n hM dX9_noise_63 (lv_at hl 2 rfl) ?_
        exact hE _ _ _ _ _ _ hW.1 ⟨_, rfl, (by have e9 := i4_2; rw [show w4_3.toInt.toNat = 8 by omega] at e9; exact ⟨e9, by omega, by omega⟩), rfl⟩ dX9_noise_64
      · refine q_iload_n hM dX9_noise_10 (lv_at hl 3 rfl) ?_
        refine q_iconst (v := (1 : Int32)) hM dX9_noise_11 (by decide) ?_
        refine q_iadd hM dX9_noise_12 (fun z13762 hz13762 => ?_)
        first | have tz13762 := i_addT hz13762 (rfl : w4_3.toInt = w4_3.toInt) (kc_1 : (1 : Int32).toInt = 1) (by omega) (by omega) | skip
        refine q_istore (lv9 := [(4, .int z13762), (0, .ref (ad 102)), (1, .int ro), (2, .int w4_2), (3, .int w4_3)]) hM dX9_noise_13 hl (by decide) rfl (fun ls hl => ?_)
        have L15 : ∀ (fu15 : Nat) (w15_2 : Int32) (w15_4 : Int32) (H : Heap) (locs : List Loc) (ls : Array Slot), (8 - w15_4.toInt).toNat < fu15 → (z13762.toInt ≤ w15_4.toInt) → (w15_4.toInt ≤ 8) → (w15_2.toInt = allX (rT (rX g0) ro) w4_3.toInt.toNat + rowX (rT (rX g0) ro) w4_3.toInt.toNat w15_4.toInt.toNat) → (0 ≤ w15_2.toInt) → (w15_2.toInt ≤ 800 * w4_3.toInt + 99 * w15_4.toInt) → lv_has ls 5 [(0, .ref (ad 102)), (1, .int ro), (2, .int w15_2), (3, .int w4_3), (4, .int w15_4)] → WS ad cA (fun i k => False) g0 K g0 H locs → XX K 0 0 H locs 15 ls [] := by
          intro fu15
          induction fu15 with
          | zero => intro w15_2 w15_4 H locs ls h0; omega
          | succ fu15 ih15 =>
            intro w15_2 w15_4 H locs ls hm15 i15_0 i15_1 i15_2 i15_3 i15_4 hl hW
            refine q_iload hM dX9_noise_15 (lv_at hl 4 rfl) ?_
            refine q_bipush (v := (8 : Int32)) hM dX9_noise_17 (by decide) ?_
            refine q_icmp_ge (tgt := 57) hM dX9_noise_19 (by decide) (rfl : w15_4.toInt = w15_4.toInt) (kc_8 : (8 : Int32).toInt = 8) (fun h19 => ?_) (fun h19 => ?_)
            · refine q_iinc (lv9 := fun z13765 => [(3, .int z13765), (0, .ref (ad 102)), (1, .int ro), (2, .int w15_2), (4, .int w15_4)]) hM dX9_noise_57 hl (kq := 3) rfl (by decide) (fun _ => rfl) (fun z13765 ls hz13765 hl => ?_)
              first | have tz13765 := i_addT hz13765 (rfl : w4_3.toInt = w4_3.toInt) (kc_1 : (Int32.ofInt 1).toInt = 1) (by omega) (by omega) | skip
              refine q_goto (tgt := 4) hM dX9_noise_60 (by decide) ?_
              exact ih4 w15_2 z13765 _ _ _ (by omega) (by omega) (by omega) (rx_end i15_2 (by omega) (by omega) (by omega)) (by omega) (by omega) (lv_sub hl [1, 2, 3, 0] rfl) hW
            · refine q_iload_n hM dX9_noise_22 (lv_at hl 1 rfl) ?_
              refine q_iload_n hM dX9_noise_23 (lv_at hl 3 rfl) ?_
              refine q_callN (host := "ForgetSchool") (As := [.int ro, .int w4_3]) (rest := []) hM hW.1 hR hC myX11_has (List.mem_of_getElem? (i := 12) rfl) (c_X11_has _ _ cA ad g0 ro w4_3 hW.2.1) ⟨by decide, by decide⟩ rfl rfl hl.1 (Nat.le_of_ble_eq_true rfl) dX9_noise_24 (fun v g13768 H locs hp hW1 => ?_)
              obtain ⟨r13767, rfl, hr13767, rfl⟩ := hp
              have hW : WS ad cA (fun i k => False) g0 K g0 H locs := ⟨hW1, hW.2.1, hW.2.2⟩
              have hbr13767 := has_bi hr13767
              have hcr13767 := bi_01 ro w4_3
              first | have ltr13767 := has_lt 5 hr13767 (by omega) (by omega) | have ltr13767 := has_lt 6 hr13767 (by omega) (by omega) | have ltr13767 := has_lt 8 hr13767 (by omega) (by omega) | have ltr13767 := has_lt 12 hr13767 (by omega) (by omega) | skip
              refine q_if_eq (tgt := 51) hM dX9_noise_27 (by decide) (rfl : r13767.toInt = r13767.toInt) (fun h27 => ?_) (fun h27 => ?_)
              · refine q_iinc (lv9 := fun z13770 => [(4, .int z13770), (0, .ref (ad 102)), (1, .int ro), (2, .int w15_2), (3, .int w4_3)]) hM dX9_noise_51 hl (kq := 4) rfl (by decide) (fun _ => rfl) (fun z13770 ls hz13770 hl => ?_)
                first | have tz13770 := i_addT hz13770 (rfl : w15_4.toInt = w15_4.toInt) (kc_1 : (Int32.ofInt 1).toInt = 1) (by omega) (by omega) | skip
                refine q_goto (tgt := 15) hM dX9_noise_54 (by decide) ?_
                exact ih15 w15_2 z13770 _ _ _ (by omega) (by omega) (by omega) (rx_no i15_2 (by omega) (by omega) (rT_a (has_f hr13767 (by omega) (by omega) (by omega)))) (by omega) (by omega) (lv_sub hl [1, 2, 3, 4, 0] rfl) hW
              · refine q_iload_n hM dX9_noise_30 (lv_at hl 1 rfl) ?_
                refine q_iload hM dX9_noise_31 (lv_at hl 4 rfl) ?_
                refine q_callN (host := "ForgetSchool") (As := [.int ro, .int w15_4]) (rest := []) hM hW.1 hR hC myX11_has (List.mem_of_getElem? (i := 12) rfl) (c_X11_has _ _ cA ad g0 ro w15_4 hW.2.1) ⟨by decide, by decide⟩ rfl rfl hl.1 (Nat.le_of_ble_eq_true rfl) dX9_noise_33 (fun v g13773 H locs hp hW1 => ?_)
                obtain ⟨r13772, rfl, hr13772, rfl⟩ := hp
                have hW : WS ad cA (fun i k => False) g0 K g0 H locs := ⟨hW1, hW.2.1, hW.2.2⟩
                have hbr13772 := has_bi hr13772
                have hcr13772 := bi_01 ro w15_4
                first | have ltr13772 := has_lt 5 hr13772 (by omega) (by omega) | have ltr13772 := has_lt 6 hr13772 (by omega) (by omega) | have ltr13772 := has_lt 8 hr13772 (by omega) (by omega) | have ltr13772 := has_lt 12 hr13772 (by omega) (by omega) | skip
                refine q_if_eq (tgt := 51) hM dX9_noise_36 (by decide) (rfl : r13772.toInt = r13772.toInt) (fun h36 => ?_) (fun h36 => ?_)
                · refine q_iinc (lv9 := fun z13775 => [(4, .int z13775), (0, .ref (ad 102)), (1, .int ro), (2, .int w15_2), (3, .int w4_3)]) hM dX9_noise_51 hl (kq := 4) rfl (by decide) (fun _ => rfl) (fun z13775 ls hz13775 hl => ?_)
                  first | have tz13775 := i_addT hz13775 (rfl : w15_4.toInt = w15_4.toInt) (kc_1 : (Int32.ofInt 1).toInt = 1) (by omega) (by omega) | skip
                  refine q_goto (tgt := 15) hM dX9_noise_54 (by decide) ?_
                  exact ih15 w15_2 z13775 _ _ _ (by omega) (by omega) (by omega) (rx_no i15_2 (by omega) (by omega) (rT_b (has_f hr13772 (by omega) (by omega) (by omega)))) (by omega) (by omega) (lv_sub hl [1, 2, 3, 4, 0] rfl) hW
                · refine q_iload_n hM dX9_noise_39 (lv_at hl 2 rfl) ?_
                  refine q_aload_n hM dX9_noise_40 (lv_at hl 0 rfl) ?_
                  refine w_get (v := .ref (ad 103)) hM hW FG_X9_11 lb_102 (rf_102_0 hW.2.1) dX9_noise_41 ?_
                  refine q_iload_n hM dX9_noise_44 (lv_at hl 3 rfl) ?_
                  refine w_aald hM hW lb_103 (Or.inl rfl) (i_in (by omega) (by omega)) (aq (aq_103 hW.2.1) (by omega) (by omega)) dX9_noise_45 ?_
                  refine q_iload hM dX9_noise_46 (lv_at hl 4 rfl) ?_
                  refine w_iald hM hW (lr_104 (by omega)) (i_in (by omega) (by omega)) dX9_noise_48 ?_
                  refine q_top (fun y13777 hy13777 => ?_)
                  have tyy13777 : y13777.toInt = (rX g0 w4_3.toInt.toNat w15_4.toInt.toNat).toInt := congrArg Int32.toInt hy13777
                  have rby13777 := hR w4_3.toInt.toNat w15_4.toInt.toNat (by omega) (by omega)
                  refine q_iadd hM dX9_noise_49 (fun z13778 hz13778 => ?_)
                  first | have tz13778 := i_addT hz13778 (rfl : w15_2.toInt = w15_2.toInt) (rfl : y13777.toInt = y13777.toInt) (by omega) (by omega) | skip
                  refine q_istore_n (lv9 := [(2, .int z13778), (0, .ref (ad 102)), (1, .int ro), (3, .int w4_3), (4, .int w15_4)]) hM dX9_noise_50 hl (by decide) rfl (fun ls hl => ?_)
                  refine q_iinc (lv9 := fun z13779 => [(4, .int z13779), (2, .int z13778), (0, .ref (ad 102)), (1, .int ro), (3, .int w4_3)]) hM dX9_noise_51 hl (kq := 4) rfl (by decide) (fun _ => rfl) (fun z13779 ls hz13779 hl => ?_)
                  first | have tz13779 := i_addT hz13779 (rfl : w15_4.toInt = w15_4.toInt) (kc_1 : (Int32.ofInt 1).toInt = 1) (by omega) (by omega) | skip
                  refine q_goto (tgt := 15) hM dX9_noise_54 (by decide) ?_
                  exact ih15 z13778 z13779 _ _ _ (by omega) (by omega) (by omega) (rx_yes i15_2 (by omega) (by omega) (by omega) (rT_c (has_t hr13767 (by omega)) (has_t hr13772 (by omega))) (by omega)) (by omega) (by omega) (lv_sub hl [2, 3, 1, 4, 0] rfl) hW
        exact L15 _ w4_2 z13762 _ _ _ (Nat.lt_succ_self _) (by omega) (by omega) (rx_0 i4_2 (by omega) (by omega)) (by omega) (by omega) (lv_sub hl [1, 2, 3, 4, 0] rfl) hW
  have := kc_0
  have := kc_0
  exact L4 _ (0 : Int32) (0 : Int32) _ _ _ (Nat.lt_succ_self _) (by omega) (by omega) (by rw [kc_0]; rfl) (by omega) (by omega) (lv_sub hl [2, 3, 1, 0] rfl) hW


set_option maxRecDepth 100000 in
set_option maxHeartbeats 4000000 in
theorem s8_X11_lowestBit (l : Launch) (D : va_G) (cA : Nat → ClassId) (ad : Nat → Nat) (g0 : Nat → va_E) (b : Int32) (hSh : Shp ad cA g0) (hG : Rng g0) : CT l NN ad cA D yX11_lowestBit cX11_lowestBit 1 (some FieldType.int) (0, 0) [.int b] g0 (PU g0 (fun r => r = b &&& (-b))) := by
  refine q_enterI (by decide) (Nat.le_of_ble_eq_true rfl) rfl (fun K H locs ls _ _ hM hW0 hR hC hE hl => ?_)
  have hl : lv_has ls 1 [(0, .int b)] := hl
  have hW : WS ad cA (fun i k => False) g0 K g0 H locs := ⟨hW0, hSh, FR.rf⟩
  refine q_iload_n hM dX11_lowestBit_0 (lv_at hl 0 rfl) ?_
  refine q_iload_n hM dX11_lowestBit_1 (lv_at hl 0 rfl) ?_
  refine q_ineg hM dX11_lowestBit_2 (fun z13780 hz13780 => ?_)
  refine q_iand hM dX11_lowestBit_3 (fun z13781 hz13781 => ?_)
  exact hE _ _ _ _ _ _ hW.1 ⟨_, rfl, (by rw [hz13780, hz13781]), rfl⟩ dX11_lowestBit_4
