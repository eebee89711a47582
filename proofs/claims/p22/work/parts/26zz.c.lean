
set_option maxRecDepth 100000 in
set_option maxHeartbeats 4000000 in
theorem s_X12_toldFacts (l : Launch) (D : va_G) (cA : Nat → ClassId) (ad : Nat → Nat) (g0 : Nat → va_E)  (hSh : Shp ad cA g0) (hG : Rng g0) : CT l NN ad cA D yX12_toldFacts cX12_toldFacts 3 (some FieldType.int) (0, 0) [.ref (ad 129)] g0 (PU g0 (fun r => 0 ≤ r.toInt ∧ r.toInt < 4096 ∧ BS r (fun q => (q : Int) < 12 ∧ tM (arI g0 131) q ≠ 0))) := by
  refine q_enterI (by decide) (Nat.le_of_ble_eq_true rfl) rfl (fun K H locs ls _ _ hM hW0 hR hC hE hl => ?_)
  have hl : lv_has ls 3 [(0, .ref (ad 129))] := hl
  have hW : WS ad cA (fun i k => False) g0 K g0 H locs := ⟨hW0, hSh, FR.rf⟩
  have := kc_0
  have := kc_1
  have := kc_m1
  have := kc_m2
  refine q_iconst (v := (0 : Int32)) hM dX12_toldFacts_0 (by decide) ?_
  refine q_istore_n (lv9 := [(1, .int (0 : Int32)), (0, .ref (ad 129))]) hM dX12_toldFacts_1 hl (by decide) rfl (fun ls hl => ?_)
  refine q_iconst (v := (0 : Int32)) hM dX12_toldFacts_2 (by decide) ?_
  refine q_istore_n (lv9 := [(2, .int (0 : Int32)), (1, .int (0 : Int32)), (0, .ref (ad 129))]) hM dX12_toldFacts_3 hl (by decide) rfl (fun ls hl => ?_)
  have L4 : ∀ (fu4 : Nat) (w4_1 : Int32) (w4_2 : Int32) (H : Heap) (locs : List Loc) (ls : Array Slot), (12 - w4_2.toInt).toNat < fu4 → (0 ≤ w4_2.toInt) → (w4_2.toInt ≤ 12) → (0 ≤ w4_1.toInt) → (w4_1.toInt < 4096) → (BS w4_1 (fun q => (q : Int) < w4_2.toInt ∧ tM (arI g0 131) q ≠ 0)) → lv_has ls 3 [(0, .ref (ad 129)), (1, .int w4_1), (2, .int w4_2)] → WS ad cA (fun i k => False) g0 K g0 H locs → XX K 0 0 H locs 4 ls [] := by
    intro fu4
    induction fu4 with
    | zero => intro w4_1 w4_2 H locs ls h0; omega
    | succ fu4 ih4 =>
      intro w4_1 w4_2 H locs ls hm4 i4_0 i4_1 i4_2 i4_3 i4_4 hl hW
      refine q_iload_n hM dX12_toldFacts_4 (lv_at hl 2 rfl) ?_
      refine q_bipush (v := (12 : Int32)) hM dX12_toldFacts_5 (by decide) ?_
      refine q_icmp_ge (tgt := 35) hM dX12_toldFacts_7 (by decide) (rfl : w4_2.toInt = w4_2.toInt) (kc_12 : (12 : Int32).toInt = 12) (fun h7 => ?_) (fun h7 => ?_)
      · refine q_iload_n hM dX12_toldFacts_35 (lv_at hl 1 rfl) ?_
        exact hE _ _ _ _ _ _ hW.1 ⟨_, rfl, ⟨by omega, by omega, by have e9 := i4_4; rw [show w4_2.toInt = 12 by omega] at e9; exact e9⟩, rfl⟩ dX12_toldFacts_36
      · refine q_iload_n hM dX12_toldFacts_10 (lv_at hl 1 rfl) ?_
        refine q_aload_n hM dX12_toldFacts_11 (lv_at hl 0 rfl) ?_
        refine w_get (v := .ref (ad 131)) hM hW FG_X12_17 lb_129 (rf_129_10 hW.2.1) dX12_toldFacts_12 ?_
        refine q_iload_n hM dX12_toldFacts_15 (lv_at hl 2 rfl) ?_
        refine w_zald hM hW lb_131 (i_in (by omega) (by omega)) dX12_toldFacts_16 ?_
        refine q_top (fun y13703 hy13703 => ?_)
        have tyy13703 : y13703.toInt = tM (arI g0 131) w4_2.toInt.toNat := congrArg Int32.toInt hy13703
        refine q_if_eq (tgt := 26) hM dX12_toldFacts_17 (by decide) (rfl : y13703.toInt = y13703.toInt) (fun h17 => ?_) (fun h17 => ?_)
        · refine q_iconst (v := (0 : Int32)) hM dX12_toldFacts_26 (by decide) ?_
          refine q_ior hM dX12_toldFacts_27 (fun z13705 hz13705 => ?_)
          first | have oz13705 := i_ork 12 (by decide) hz13705 (by have := kc_0; omega) (by have := kc_0; omega) (by have := kc_0; omega) (by have := kc_0; omega) | skip
          first | have ogz13705 := i_or_ge hz13705 (by have := kc_0; omega) (by have := kc_0; omega) | skip
          refine q_istore_n (lv9 := [(1, .int z13705), (0, .ref (ad 129)), (2, .int w4_2)]) hM dX12_toldFacts_28 hl (by decide) rfl (fun ls hl => ?_)
          refine q_iinc (lv9 := fun z13706 => [(2, .int z13706), (1, .int z13705), (0, .ref (ad 129))]) hM dX12_toldFacts_29 hl (kq := 2) rfl (by decide) (fun _ => rfl) (fun z13706 ls hz13706 hl => ?_)
          first | have tz13706 := i_addT hz13706 (rfl : w4_2.toInt = w4_2.toInt) (kc_1 : (Int32.ofInt 1).toInt = 1) (by omega) (by omega) | skip
          refine q_goto (tgt := 4) hM dX12_toldFacts_32 (by decide) ?_
          exact ih4 z13705 z13706 _ _ _ (by omega) (by omega) (by omega) (by omega) (by omega) (MK_or i4_4 hz13705 (by omega) (fun q9 => q9 (by omega)) (by omega)) (lv_sub hl [2, 1, 0] rfl) hW
        · refine q_iconst (v := (1 : Int32)) hM dX12_toldFacts_20 (by decide) ?_
          refine q_iload_n hM dX12_toldFacts_21 (lv_at hl 2 rfl) ?_
          refine q_ishl hM dX12_toldFacts_22 (fun z13708 hz13708 => ?_)
          first | have sz13708 := i_shl1 12 (by decide) hz13708 (by omega) (by omega) | skip
          refine q_goto (tgt := 27) hM dX12_toldFacts_23 (by decide) ?_
          refine q_ior hM dX12_toldFacts_27 (fun z13709 hz13709 => ?_)
          first | have oz13709 := i_ork 12 (by decide) hz13709 (by omega) (by omega) (by omega) (by omega) | skip
          first | have ogz13709 := i_or_ge hz13709 (by omega) (by omega) | skip
          refine q_istore_n (lv9 := [(1, .int z13709), (0, .ref (ad 129)), (2, .int w4_2)]) hM dX12_toldFacts_28 hl (by decide) rfl (fun ls hl => ?_)
          refine q_iinc (lv9 := fun z13710 => [(2, .int z13710), (1, .int z13709), (0, .ref (ad 129))]) hM dX12_toldFacts_29 hl (kq := 2) rfl (by decide) (fun _ => rfl) (fun z13710 ls hz13710 hl => ?_)
          first | have tz13710 := i_addT hz13710 (rfl : w4_2.toInt = w4_2.toInt) (kc_1 : (Int32.ofInt 1).toInt = 1) (by omega) (by omega) | skip
          refine q_goto (tgt := 4) hM dX12_toldFacts_32 (by decide) ?_
          exact ih4 z13709 z13710 _ _ _ (by omega) (by omega) (by omega) (by omega) (by omega) (MK_set i4_4 hz13708 hz13709 (by omega) (by omega) (by omega) (by omega)) (lv_sub hl [2, 1, 0] rfl) hW
  have := kc_0
  have := kc_0
  exact L4 _ (0 : Int32) (0 : Int32) _ _ _ (Nat.lt_succ_self _) (by omega) (by omega) (by omega) (by omega) (BS_0 (fun q h => absurd h.1 (by have := kc_0; omega))) (lv_sub hl [2, 1, 0] rfl) hW


set_option maxRecDepth 100000 in
set_option maxHeartbeats 4000000 in
theorem s_X12_cut (l : Launch) (D : va_G) (cA : Nat → ClassId) (ad : Nat → Nat) (g0 : Nat → va_E) (a : Int32) (b : Int32) (c : Int32)   (hSh : Shp ad cA g0) (hG : Rng g0) : CT l NN ad cA D yX12_cut cX12_cut 7 (some FieldType.int) (3, 70) [.ref (ad 129), .int a, .int b, .int c] g0 (fun v g' => ∃ (r : Int32), v = some (.int r) ∧ Shp ad cA g' ∧ Rng g' ∧ FR (fun i k => False) g0 g' ∧ ((¬ (ti (arI g0 131) 12 a = 1 ∧ ti (arI g0 131) 12 b = 1 ∧ a.toInt ≠ b.toInt ∧ 0 ≤ c.toInt ∧ c.toInt ≤ 1) ∧ r.toInt = -1) ∨ ((ti (arI g0 131) 12 a = 1 ∧ ti (arI g0 131) 12 b = 1 ∧ a.toInt ≠ b.toInt ∧ 0 ≤ c.toInt ∧ c.toInt ≤ 1) ∧ 0 < (arI g0 133 (12 * a.toInt.toNat + b.toInt.toNat)).toInt ∧ r.toInt = -2) ∨ ((ti (arI g0 131) 12 a = 1 ∧ ti (arI g0 131) 12 b = 1 ∧ a.toInt ≠ b.toInt ∧ 0 ≤ c.toInt ∧ c.toInt ≤ 1) ∧ ¬ 0 < (arI g0 133 (12 * a.toInt.toNat + b.toInt.toNat)).toInt ∧ c.toInt = 0 ∧ (∃ t9 : Int32, BS t9 (fun q => (q : Int) < 12 ∧ tM (arI g0 131) q ≠ 0) ∧ r.toInt = cb (ctB (oth t9 a b) (Av (Lm g0) a.toInt.toNat b.toInt.toNat) 4096) 12)) ∨ ((ti (arI g0 131) 12 a = 1 ∧ ti (arI g0 131) 12 b = 1 ∧ a.toInt ≠ b.toInt ∧ 0 ≤ c.toInt ∧ c.toInt ≤ 1) ∧ ¬ 0 < (arI g0 133 (12 * a.toInt.toNat + b.toInt.toNat)).toInt ∧ c.toInt ≠ 0 ∧ (∃ t9 : Int32, BS t9 (fun q => (q : Int) < 12 ∧ tM (arI g0 131) q ≠ 0) ∧ r = ctB (oth t9 a b) (Av (Lm g0) a.toInt.toNat b.toInt.toNat) 4096)))) := by
  refine q_enterI (by decide) (Nat.le_of_ble_eq_true rfl) rfl (fun K H locs ls _ _ hM hW0 hR hC hE hl => ?_)
  have hl : lv_has ls 7 [(0, .ref (ad 129)), (1, .int a), (2, .int b), (3, .int c)] := hl
  have hW : WS ad cA (fun i k => False) g0 K g0 H locs := ⟨hW0, hSh, FR.rf⟩
  have := kc_0
  have := kc_1
  have := kc_m1
  have := kc_m2
  refine q_aload_n hM dX12_cut_0 (lv_at hl 0 rfl) ?_
  refine q_iload_n hM dX12_cut_1 (lv_at hl 1 rfl) ?_
  refine q_callV (As := [.int a]) (rest := []) hM hW.1 hR hC myX12_isTold (kAW (v_5_5 (List.mem_of_getElem? (i := 6) rfl)) rfl) (rfl : vwCl[12]? = some (RX12, TX12, 86)) rfl lb_129.1 (shO hW.2.1 lb_129) (s_X12_isTold _ _ cA ad g0 a hW.2.1 hG) ⟨by decide, by decide⟩ rfl rfl hl.1 (Nat.le_of_ble_eq_true rfl) dX12_cut_2 (fun v g13712 H locs hp hW1 => ?_)
  obtain ⟨r13711, rfl, hr13711, rfl⟩ := hp
  have hW : WS ad cA (fun i k => False) g0 K g0 H locs := ⟨hW1, hW.2.1, hW.2.2⟩
  refine q_if_eq (tgt := 31) hM dX12_cut_5 (by decide) (rfl : r13711.toInt = r13711.toInt) (fun h5 => ?_) (fun h5 => ?_)
  · refine q_iconst (v := ((-1) : Int32)) hM dX12_cut_31 (by decide) ?_
    exact hE _ _ _ _ _ _ hW.1 ⟨_, rfl, hW.2.1, hG, hW.2.2, (Or.inl ⟨by omega, kc_m1⟩)⟩ dX12_cut_32
  · refine q_aload_n hM dX12_cut_8 (lv_at hl 0 rfl) ?_
    refine q_iload_n hM dX12_cut_9 (lv_at hl 2 rfl) ?_
    refine q_callV (As := [.int b]) (rest := []) hM hW.1 hR hC myX12_isTold (kAW (v_5_5 (List.mem_of_getElem? (i := 6) rfl)) rfl) (rfl : vwCl[12]? = some (RX12, TX12, 86)) rfl lb_129.1 (shO hW.2.1 lb_129) (s_X12_isTold _ _ cA ad g0 b hW.2.1 hG) ⟨by decide, by decide⟩ rfl rfl hl.1 (Nat.le_of_ble_eq_true rfl) dX12_cut_10 (fun v g13716 H locs hp hW1 => ?_)
    obtain ⟨r13715, rfl, hr13715, rfl⟩ := hp
    have hW : WS ad cA (fun i k => False) g0 K g0 H locs := ⟨hW1, hW.2.1, hW.2.2⟩
    refine q_if_eq (tgt := 31) hM dX12_cut_13 (by decide) (rfl : r13715.toInt = r13715.toInt) (fun h13 => ?_) (fun h13 => ?_)
    · refine q_iconst (v := ((-1) : Int32)) hM dX12_cut_31 (by decide) ?_
      exact hE _ _ _ _ _ _ hW.1 ⟨_, rfl, hW.2.1, hG, hW.2.2, (Or.inl ⟨by omega, kc_m1⟩)⟩ dX12_cut_32
    · refine q_iload_n hM dX12_cut_16 (lv_at hl 1 rfl) ?_
      refine q_iload_n hM dX12_cut_17 (lv_at hl 2 rfl) ?_
      refine q_icmp_eq (tgt := 31) hM dX12_cut_18 (by decide) (rfl : a.toInt = a.toInt) (rfl : b.toInt = b.toInt) (fun h18 => ?_) (fun h18 => ?_)
      · refine q_iconst (v := ((-1) : Int32)) hM dX12_cut_31 (by decide) ?_
        exact hE _ _ _ _ _ _ hW.1 ⟨_, rfl, hW.2.1, hG, hW.2.2, (Or.inl ⟨by omega, kc_m1⟩)⟩ dX12_cut_32
      · refine q_iload_n hM dX12_cut_21 (lv_at hl 3 rfl) ?_
        refine q_i2l hM dX12_cut_22 ?_
        have := l_i2l c
        refine q_lconst (v := 0) hM dX12_cut_23 (by decide) ?_
        have := kl_0
        refine q_lconst (v := 1) hM dX12_cut_24 (by decide) ?_
        have := kl_1
        refine q_callS (As := [.long c.toInt64, .long (0 : Int64), .long (1 : Int64)]) (rest := []) hM hW.1 hR hC myX12_lies (kAW (v_5_4 (List.mem_of_getElem? (i := 14) rfl)) rfl) (c_X12_lies _ _ cA ad g0 c.toInt64 (0 : Int64) (1 : Int64) hW.2.1) ⟨by decide, by decide⟩ rfl rfl hl.1 (Nat.le_of_ble_eq_true rfl) dX12_cut_25 (fun v g13722 H locs hp hW1 => ?_)
        obtain ⟨r13721, rfl, hr13721, rfl⟩ := hp
        have hW : WS ad cA (fun i k => False) g0 K g0 H locs := ⟨hW1, hW.2.1, hW.2.2⟩
        refine q_if_ne (tgt := 33) hM dX12_cut_28 (by decide) (rfl : r13721.toInt = r13721.toInt) (fun h28 => ?_) (fun h28 => ?_)
        · refine q_aload_n hM dX12_cut_33 (lv_at hl 0 rfl) ?_
          refine w_get (v := .ref (ad 133)) hM hW FG_X12_25 lb_129 (rf_129_12 hW.2.1) dX12_cut_34 ?_
          refine q_bipush (v := (12 : Int32)) hM dX12_cut_37 (by decide) ?_
          refine q_iload_n hM dX12_cut_39 (lv_at hl 1 rfl) ?_
          refine q_imul hM dX12_cut_40 (fun z13724 hz13724 => ?_)
          first | have tz13724 := i_mulT hz13724 (kc_12 : (12 : Int32).toInt = 12) (rfl : a.toInt = a.toInt) (by omega) (by omega) | skip
          refine q_iload_n hM dX12_cut_41 (lv_at hl 2 rfl) ?_
          refine q_iadd hM dX12_cut_42 (fun z13725 hz13725 => ?_)
          first | have tz13725 := i_addT hz13725 (rfl : z13724.toInt = z13724.toInt) (rfl : b.toInt = b.toInt) (by omega) (by omega) | skip
          refine w_iald hM hW lb_133 (i_in (by omega) (by omega)) dX12_cut_43 ?_
          refine q_top (fun y13726 hy13726 => ?_)
          have tyy13726 : y13726.toInt = (arI g0 133 (12 * a.toInt.toNat + b.toInt.toNat)).toInt := by rw [hy13726, show z13725.toNatClampNeg = 12 * a.toInt.toNat + b.toInt.toNat by show z13725.toInt.toNat = _; omega]
          refine q_if_le (tgt := 50) hM dX12_cut_44 (by decide) (rfl : y13726.toInt = y13726.toInt) (fun h44 => ?_) (fun h44 => ?_)
          · refine q_aload_n hM dX12_cut_50 (lv_at hl 0 rfl) ?_
            refine q_callV (As := []) (rest := []) hM hW.1 hR hC myX12_toldFacts (kAW (v_5_7 (List.mem_of_getElem? (i := 13) rfl)) rfl) (rfl : vwCl[12]? = some (RX12, TX12, 86)) rfl lb_129.1 (shO hW.2.1 lb_129) (s_X12_toldFacts _ _ cA ad g0  hW.2.1 hG) ⟨by decide, by decide⟩ rfl rfl hl.1 (Nat.le_of_ble_eq_true rfl) dX12_cut_51 (fun v g13729 H locs hp hW1 => ?_)
            obtain ⟨r13728, rfl, hr13728, rfl⟩ := hp
            have hW : WS ad cA (fun i k => False) g0 K g0 H locs := ⟨hW1, hW.2.1, hW.2.2⟩
            refine q_iconst (v := (1 : Int32)) hM dX12_cut_54 (by decide) ?_
            refine q_iload_n hM dX12_cut_55 (lv_at hl 1 rfl) ?_
            refine q_ishl hM dX12_cut_56 (fun z13730 hz13730 => ?_)
            first | have sz13730 := i_shl1 12 (by decide) hz13730 (by omega) (by omega) | skip
            refine q_iconst (v := ((-1) : Int32)) hM dX12_cut_57 (by decide) ?_
            refine q_ixor hM dX12_cut_58 (fun z13731 hz13731 => ?_)
            refine q_iand hM dX12_cut_59 (fun z13732 hz13732 => ?_)
            first | have az13732 := i_andk hz13732 (by omega) | have az13732 := i_andk (i_comm hz13732) (by omega) | skip
            refine q_iconst (v := (1 : Int32)) hM dX12_cut_60 (by decide) ?_
            refine q_iload_n hM dX12_cut_61 (lv_at hl 2 rfl) ?_
            refine q_ishl hM dX12_cut_62 (fun z13733 hz13733 => ?_)
            first | have sz13733 := i_shl1 12 (by decide) hz13733 (by omega) (by omega) | skip
            refine q_iconst (v := ((-1) : Int32)) hM dX12_cut_63 (by decide) ?_
            refine q_ixor hM dX12_cut_64 (fun z13734 hz13734 => ?_)
            refine q_iand hM dX12_cut_65 (fun z13735 hz13735 => ?_)
            first | have az13735 := i_andk hz13735 (by omega) | have az13735 := i_andk (i_comm hz13735) (by omega) | skip
            have he9 : z13735 = oth r13728 a b := by unfold oth; rw [hz13730, hz13731, hz13732, hz13733, hz13734, hz13735]
            have k9 := i_andk (i_comm hz13732) (by omega)
            have k8 := i_andk (i_comm hz13735) (by omega)
            refine q_istore (lv9 := [(4, .int z13735), (0, .ref (ad 129)), (1, .int a), (2, .int b), (3, .int c)]) hM dX12_cut_66 hl (by decide) rfl (fun ls hl => ?_)
            refine q_iload hM dX12_cut_68 (lv_at hl 0 rfl) ?_
            refine q_istore (lv9 := [(5, .int z13735), (4, .int z13735), (0, .ref (ad 129)), (1, .int a), (2, .int b), (3, .int c)]) hM dX12_cut_70 hl (by decide) rfl (fun ls hl => ?_)
            refine q_iconst (v := (0 : Int32)) hM dX12_cut_72 (by decide) ?_
            refine q_istore (lv9 := [(6, .int (0 : Int32)), (5, .int z13735), (4, .int z13735), (0, .ref (ad 129)), (1, .int a), (2, .int b), (3, .int c)]) hM dX12_cut_73 hl (by decide) rfl (fun ls hl => ?_)
            have L75 : ∀ (fu75 : Nat) (w75_5 : Int32) (w75_6 : Int32) (H : Heap) (locs : List Loc) (ls : Array Slot), (z13735.toInt - w75_6.toInt + 1).toNat < fu75 → (Rng g0) → (0 ≤ w75_6.toInt) → (w75_6.toInt ≤ z13735.toInt + 1) → (0 ≤ w75_5.toInt) → (w75_5.toInt < 4096) → (w75_5 = ctB (oth r13728 a b) (Av (Lm g0) a.toInt.toNat b.toInt.toNat) w75_6.toInt.toNat) → lv_has ls 7 [(0, .ref (ad 129)), (1, .int a), (2, .int b), (3, .int c), (4, .int z13735), (5, .int w75_5), (6, .int w75_6)] → WS ad cA (fun i k => False) g0 K g0 H locs → XX K 0 0 H locs 75 ls [] := by
              intro fu75
              induction fu75 with
              | zero => intro w75_5 w75_6 H locs ls h0; omega
              | succ fu75 ih75 =>
                intro w75_5 w75_6 H locs ls hm75 i75_0 i75_1 i75_2 i75_3 i75_4 i75_5 hl hW
                have hG := i75_0
                have := i_rng z13735
                refine q_iload hM dX12_cut_75 (lv_at hl 6 rfl) ?_
                refine q_iload hM dX12_cut_77 (lv_at hl 4 rfl) ?_
                refine q_icmp_gt (tgt := 129) hM dX12_cut_79 (by decide) (rfl : w75_6.toInt = w75_6.toInt) (rfl : z13735.toInt = z13735.toInt) (fun h79 => ?_) (fun h79 => ?_)
                · refine q_iload_n hM dX12_cut_129 (lv_at hl 3 rfl) ?_
                  refine q_if_ne (tgt := 141) hM dX12_cut_130 (by decide) (rfl : c.toInt = c.toInt) (fun h130 => ?_) (fun h130 => ?_)
                  · refine q_iload hM dX12_cut_141 (lv_at hl 5 rfl) ?_
                    exact hE _ _ _ _ _ _ hW.1 ⟨_, rfl, hW.2.1, hG, hW.2.2, (Or.inr (Or.inr (Or.inr ⟨⟨by omega, by omega, by omega, by omega, by omega⟩, by omega, by omega, r13728, hr13728.2.2, (ct_end i75_5 (by rw [← he9]; omega) (by rw [← he9]; omega) (by omega))⟩)))⟩ dX12_cut_143
                  · refine q_iload hM dX12_cut_133 (lv_at hl 5 rfl) ?_
                    refine q_callS (As := [.int w75_5]) (rest := []) hM hW.1 hR hC myX12_sizeOf (kAW (v_5_6 (List.mem_of_getElem? (i := 14) rfl)) rfl) (s_X12_sizeOf _ _ cA ad g0 w75_5 hW.2.1 hG (by  omega) (by  omega)) ⟨by decide, by decide⟩ rfl rfl hl.1 (Nat.le_of_ble_eq_true rfl) dX12_cut_135 (fun v g13741 H locs hp hW1 => ?_)
                    obtain ⟨r13740, rfl, hr13740, rfl⟩ := hp
                    have hW : WS ad cA (fun i k => False) g0 K g0 H locs := ⟨hW1, hW.2.1, hW.2.2⟩
                    refine q_goto (tgt := 143) hM dX12_cut_138 (by decide) ?_
                    exact hE _ _ _ _ _ _ hW.1 ⟨_, rfl, hW.2.1, hG, hW.2.2, (Or.inr (Or.inr (Or.inl ⟨⟨by omega, by omega, by omega, by omega, by omega⟩, by omega, by omega, r13728, hr13728.2.2, by rw [← (ct_end i75_5 (by rw [← he9]; omega) (by rw [← he9]; omega) (by omega))]; exact hr13740⟩)))⟩ dX12_cut_143
                · refine q_iload hM dX12_cut_82 (lv_at hl 6 rfl) ?_
                  refine q_iload hM dX12_cut_84 (lv_at hl 4 rfl) ?_
                  refine q_iconst (v := ((-1) : Int32)) hM dX12_cut_86 (by decide) ?_
                  refine q_ixor hM dX12_cut_87 (fun z13743 hz13743 => ?_)
                  refine q_iand hM dX12_cut_88 (fun z13744 hz13744 => ?_)
                  first | have az13744 := i_andk hz13744 (by omega) | have az13744 := i_andk (i_comm hz13744) (by omega) | skip
                  refine q_if_ne (tgt := 123) hM dX12_cut_89 (by decide) (rfl : z13744.toInt = z13744.toInt) (fun h89 => ?_) (fun h89 => ?_)
                  · refine q_iinc (lv9 := fun z13746 => [(6, .int z13746), (0, .ref (ad 129)), (1, .int a), (2, .int b), (3, .int c), (4, .int z13735), (5, .int w75_5)]) hM dX12_cut_123 hl (kq := 6) rfl (by decide) (fun _ => rfl) (fun z13746 ls hz13746 hl => ?_)
                    first | have tz13746 := i_addT hz13746 (rfl : w75_6.toInt = w75_6.toInt) (kc_1 : (Int32.ofInt 1).toInt = 1) (by omega) (by omega) | skip
                    refine q_goto (tgt := 75) hM dX12_cut_126 (by decide) ?_
                    exact ih75 w75_5 z13746 _ _ _ (by omega) hG (by omega) (by omega) (by omega) (by omega) (ct_no i75_5 (by omega) (by omega) (Or.inl (by rw [← he9]; exact z_f hz13743 hz13744 h89))) (lv_sub hl [1, 2, 3, 4, 5, 6, 0] rfl) hW
                  · refine q_iload hM dX12_cut_92 (lv_at hl 6 rfl) ?_
                    refine q_callS (As := [.int w75_6]) (rest := []) hM hW.1 hR hC myX12_sizeOf (kAW (v_5_6 (List.mem_of_getElem? (i := 14) rfl)) rfl) (s_X12_sizeOf _ _ cA ad g0 w75_6 hW.2.1 hG (by  omega) (by  omega)) ⟨by decide, by decide⟩ rfl rfl hl.1 (Nat.le_of_ble_eq_true rfl) dX12_cut_94 (fun v g13749 H locs hp hW1 => ?_)
                    obtain ⟨r13748, rfl, hr13748, rfl⟩ := hp
                    have hW : WS ad cA (fun i k => False) g0 K g0 H locs := ⟨hW1, hW.2.1, hW.2.2⟩
                    refine q_iload hM dX12_cut_97 (lv_at hl 5 rfl) ?_
                    refine q_callS (As := [.int w75_5]) (rest := [.int r13748]) hM hW.1 hR hC myX12_sizeOf (kAW (v_5_6 (List.mem_of_getElem? (i := 14) rfl)) rfl) (s_X12_sizeOf _ _ cA ad g0 w75_5 hW.2.1 hG (by  omega) (by  omega)) ⟨by decide, by decide⟩ rfl rfl hl.1 (Nat.le_of_ble_eq_true rfl) dX12_cut_99 (fun v g13751 H locs hp hW1 => ?_)
                    obtain ⟨r13750, rfl, hr13750, rfl⟩ := hp
                    have hW : WS ad cA (fun i k => False) g0 K g0 H locs := ⟨hW1, hW.2.1, hW.2.2⟩
                    refine q_icmp_ge (tgt := 123) hM dX12_cut_102 (by decide) (rfl : r13748.toInt = r13748.toInt) (rfl : r13750.toInt = r13750.toInt) (fun h102 => ?_) (fun h102 => ?_)
                    · refine q_iinc (lv9 := fun z13753 => [(6, .int z13753), (0, .ref (ad 129)), (1, .int a), (2, .int b), (3, .int c), (4, .int z13735), (5, .int w75_5)]) hM dX12_cut_123 hl (kq := 6) rfl (by decide) (fun _ => rfl) (fun z13753 ls hz13753 hl => ?_)
                      first | have tz13753 := i_addT hz13753 (rfl : w75_6.toInt = w75_6.toInt) (kc_1 : (Int32.ofInt 1).toInt = 1) (by omega) (by omega) | skip
                      refine q_goto (tgt := 75) hM dX12_cut_126 (by decide) ?_
                      exact ih75 w75_5 z13753 _ _ _ (by omega) hG (by omega) (by omega) (by omega) (by omega) (ct_no i75_5 (by omega) (by omega) (Or.inr (Or.inl (by omega)))) (lv_sub hl [1, 2, 3, 4, 5, 6, 0] rfl) hW
                    · refine q_aload_n hM dX12_cut_105 (lv_at hl 0 rfl) ?_
                      refine q_iload_n hM dX12_cut_106 (lv_at hl 1 rfl) ?_
                      refine q_iload hM dX12_cut_107 (lv_at hl 6 rfl) ?_
                      refine q_callV (As := [.int a, .int w75_6]) (rest := []) hM hW.1 hR hC myX12_reachOf (kAW (v_5_5 (List.mem_of_getElem? (i := 15) rfl)) rfl) (rfl : vwCl[12]? = some (RX12, TX12, 86)) rfl lb_129.1 (shO hW.2.1 lb_129) (s_X12_reachOf _ _ cA ad g0 a w75_6 hW.2.1 hG (by  omega) (by  omega)) ⟨by decide, by decide⟩ rfl rfl hl.1 (Nat.le_of_ble_eq_true rfl) dX12_cut_109 (fun v g13756 H locs hp hW1 => ?_)
                      obtain ⟨r13755, rfl, hr13755, rfl⟩ := hp
                      have hW : WS ad cA (fun i k => False) g0 K g0 H locs := ⟨hW1, hW.2.1, hW.2.2⟩
                      refine q_iload_n hM dX12_cut_112 (lv_at hl 2 rfl) ?_
                      refine q_callS (As := [.int r13755, .int b]) (rest := []) hM hW.1 hR hC myX12_has (kAW (v_5_6 (List.mem_of_getElem? (i := 7) rfl)) rfl) (c_X12_has _ _ cA ad g0 r13755 b hW.2.1 (by omega) (by omega)) ⟨by decide, by decide⟩ rfl rfl hl.1 (Nat.le_of_ble_eq_true rfl) dX12_cut_113 (fun v g13758 H locs hp hW1 => ?_)
                      obtain ⟨r13757, rfl, hr13757, rfl⟩ := hp
                      have hW : WS ad cA (fun i k => False) g0 K g0 H locs := ⟨hW1, hW.2.1, hW.2.2⟩
                      refine q_if_ne (tgt := 123) hM dX12_cut_116 (by decide) (rfl : r13757.toInt = r13757.toInt) (fun h116 => ?_) (fun h116 => ?_)
                      · refine q_iinc (lv9 := fun z13760 => [(6, .int z13760), (0, .ref (ad 129)), (1, .int a), (2, .int b), (3, .int c), (4, .int z13735), (5, .int w75_5)]) hM dX12_cut_123 hl (kq := 6) rfl (by decide) (fun _ => rfl) (fun z13760 ls hz13760 hl => ?_)
                        first | have tz13760 := i_addT hz13760 (rfl : w75_6.toInt = w75_6.toInt) (kc_1 : (Int32.ofInt 1).toInt = 1) (by omega) (by omega) | skip
                        refine q_goto (tgt := 75) hM dX12_cut_126 (by decide) ?_
                        exact ih75 w75_5 z13760 _ _ _ (by omega) hG (by omega) (by omega) (by omega) (by omega) (ct_no i75_5 (by omega) (by omega) (Or.inr (Or.inr (fun q9 => q9 ((hr13755.2.2 _ (by omega)).mp (mh_t hr13757 (by omega))))))) (lv_sub hl [1, 2, 3, 4, 5, 6, 0] rfl) hW
                      · refine q_iload hM dX12_cut_119 (lv_at hl 6 rfl) ?_
                        refine q_istore (lv9 := [(5, .int w75_6), (0, .ref (ad 129)), (1, .int a), (2, .int b), (3, .int c), (4, .int z13735), (6, .int w75_6)]) hM dX12_cut_121 hl (by decide) rfl (fun ls hl => ?_)
                        refine q_iinc (lv9 := fun z13762 => [(6, .int z13762), (5, .int w75_6), (0, .ref (ad 129)), (1, .int a), (2, .int b), (3, .int c), (4, .int z13735)]) hM dX12_cut_123 hl (kq := 6) rfl (by decide) (fun _ => rfl) (fun z13762 ls hz13762 hl => ?_)
                        first | have tz13762 := i_addT hz13762 (rfl : w75_6.toInt = w75_6.toInt) (kc_1 : (Int32.ofInt 1).toInt = 1) (by omega) (by omega) | skip
                        refine q_goto (tgt := 75) hM dX12_cut_126 (by decide) ?_
                        exact ih75 w75_6 z13762 _ _ _ (by omega) hG (by omega) (by omega) (by omega) (by omega) (ct_yes i75_5 (by omega) (by omega) (by rw [← he9]; exact z_t hz13743 hz13744 h89) (by omega) (fun q9 => absurd ((hr13755.2.2 _ (by omega)).mpr q9) (bff (mh_f hr13757 (by omega))))) (lv_sub hl [2, 3, 4, 5, 6, 1, 0] rfl) hW
            have := kc_0
            exact L75 _ z13735 (0 : Int32) _ _ _ (Nat.lt_succ_self _) hG (by omega) (by omega) (by omega) (by omega) (by rw [kc_0]; exact he9) (lv_sub hl [3, 4, 5, 6, 2, 1, 0] rfl) hW
          · refine q_bipush (v := ((-2) : Int32)) hM dX12_cut_47 (by decide) ?_
            exact hE _ _ _ _ _ _ hW.1 ⟨_, rfl, hW.2.1, hG, hW.2.2, (Or.inr (Or.inl ⟨⟨by omega, by omega, by omega, by omega, by omega⟩, by omega, kc_m2⟩))⟩ dX12_cut_49
        · refine q_iconst (v := ((-1) : Int32)) hM dX12_cut_31 (by decide) ?_
          exact hE _ _ _ _ _ _ hW.1 ⟨_, rfl, hW.2.1, hG, hW.2.2, (Or.inl ⟨by omega, kc_m1⟩)⟩ dX12_cut_32
