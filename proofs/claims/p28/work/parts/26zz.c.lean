
set_option maxRecDepth 100000 in
set_option maxHeartbeats 4000000 in
theorem s_X12_remindedIn (l : Launch) (D : va_G) (cA : Nat → ClassId) (ad : Nat → Nat) (g0 : Nat → va_E) (s : Int32) (hSh : Shp ad cA g0) (hG : Rng g0) (hRw : ∀ p q : Nat, p < 8 → q < 8 → 0 ≤ (rM g0 p q).toInt ∧ (rM g0 p q).toInt ≤ 99) : CT l NN ad cA D yX12_remindedIn cX12_remindedIn 5 (some FieldType.int) (1, 21) [.ref (ad 129), .int s] g0 (PU g0 (fun r => r.toInt = allM (rT (rM g0) s) 8 ∧ 0 ≤ r.toInt ∧ r.toInt ≤ 6400)) := by
  refine q_enterI (by decide) (Nat.le_of_ble_eq_true rfl) rfl (fun K H locs ls _ _ hM hW0 hR hC hE hl => ?_)
  have hl : lv_has ls 5 [(0, .ref (ad 129)), (1, .int s)] := hl
  have hW : WS ad cA (fun i k => False) g0 K g0 H locs := ⟨hW0, hSh, FR.rf⟩
  have := kc_0
  have := kc_1
  have := kc_m1
  refine q_iconst (v := (0 : Int32)) hM dX12_remindedIn_0 (by decide) ?_
  refine q_istore_n (lv9 := [(2, .int (0 : Int32)), (0, .ref (ad 129)), (1, .int s)]) hM dX12_remindedIn_1 hl (by decide) rfl (fun ls hl => ?_)
  refine q_iconst (v := (0 : Int32)) hM dX12_remindedIn_2 (by decide) ?_
  refine q_istore_n (lv9 := [(3, .int (0 : Int32)), (2, .int (0 : Int32)), (0, .ref (ad 129)), (1, .int s)]) hM dX12_remindedIn_3 hl (by decide) rfl (fun ls hl => ?_)
  have L4 : ∀ (fu4 : Nat) (w4_2 : Int32) (w4_3 : Int32) (H : Heap) (locs : List Loc) (ls : Array Slot), (8 - w4_3.toInt).toNat < fu4 → (0 ≤ w4_3.toInt) → (w4_3.toInt ≤ 8) → (w4_2.toInt = allM (rT (rM g0) s) w4_3.toInt.toNat) → (0 ≤ w4_2.toInt) → (w4_2.toInt ≤ 800 * w4_3.toInt) → lv_has ls 5 [(0, .ref (ad 129)), (1, .int s), (2, .int w4_2), (3, .int w4_3)] → WS ad cA (fun i k => False) g0 K g0 H locs → XX K 0 0 H locs 4 ls [] := by
    intro fu4
    induction fu4 with
    | zero => intro w4_2 w4_3 H locs ls h0; omega
    | succ fu4 ih4 =>
      intro w4_2 w4_3 H locs ls hm4 i4_0 i4_1 i4_2 i4_3 i4_4 hl hW
      refine q_iload_n hM dX12_remindedIn_4 (lv_at hl 3 rfl) ?_
      refine q_bipush (v := (8 : Int32)) hM dX12_remindedIn_5 (by decide) ?_
      refine q_icmp_ge (tgt := 67) hM dX12_remindedIn_7 (by decide) (rfl : w4_3.toInt = w4_3.toInt) (kc_8 : (8 : Int32).toInt = 8) (fun h7 => ?_) (fun h7 => ?_)
      · refine q_iload_n hM dX12_remindedIn_67 (lv_at hl 2 rfl) ?_
        exact hE _ _ _ _ _ _ hW.1 ⟨_, rfl, (by have e9 := i4_2; rw [show w4_3.toInt.toNat = 8 by omega] at e9; exact ⟨e9, by omega, by omega⟩), rfl⟩ dX12_remindedIn_68
      · refine q_iconst (v := (0 : Int32)) hM dX12_remindedIn_10 (by decide) ?_
        refine q_istore (lv9 := [(4, .int (0 : Int32)), (0, .ref (ad 129)), (1, .int s), (2, .int w4_2), (3, .int w4_3)]) hM dX12_remindedIn_11 hl (by decide) rfl (fun ls hl => ?_)
        have L13 : ∀ (fu13 : Nat) (w13_2 : Int32) (w13_4 : Int32) (H : Heap) (locs : List Loc) (ls : Array Slot), (w4_3.toInt - w13_4.toInt + 1).toNat < fu13 → (0 ≤ w13_4.toInt) → (w13_2.toInt = allM (rT (rM g0) s) w4_3.toInt.toNat + rowM (rT (rM g0) s) w4_3.toInt.toNat w13_4.toInt.toNat) → (0 ≤ w13_2.toInt) → (w13_2.toInt ≤ 800 * w4_3.toInt + 99 * w13_4.toInt) → (w13_4.toInt ≤ w4_3.toInt) → lv_has ls 5 [(0, .ref (ad 129)), (1, .int s), (2, .int w13_2), (3, .int w4_3), (4, .int w13_4)] → WS ad cA (fun i k => False) g0 K g0 H locs → XX K 0 0 H locs 13 ls [] := by
          intro fu13
          induction fu13 with
          | zero => intro w13_2 w13_4 H locs ls h0; omega
          | succ fu13 ih13 =>
            intro w13_2 w13_4 H locs ls hm13 i13_0 i13_1 i13_2 i13_3 i13_4 hl hW
            have := i_rng w4_3
            refine q_iload hM dX12_remindedIn_13 (lv_at hl 4 rfl) ?_
            refine q_iload_n hM dX12_remindedIn_15 (lv_at hl 3 rfl) ?_
            refine q_icmp_ge (tgt := 61) hM dX12_remindedIn_16 (by decide) (rfl : w13_4.toInt = w13_4.toInt) (rfl : w4_3.toInt = w4_3.toInt) (fun h16 => ?_) (fun h16 => ?_)
            · refine q_iinc (lv9 := fun z13667 => [(3, .int z13667), (0, .ref (ad 129)), (1, .int s), (2, .int w13_2), (4, .int w13_4)]) hM dX12_remindedIn_61 hl (kq := 3) rfl (by decide) (fun _ => rfl) (fun z13667 ls hz13667 hl => ?_)
              first | have tz13667 := i_addT hz13667 (rfl : w4_3.toInt = w4_3.toInt) (kc_1 : (Int32.ofInt 1).toInt = 1) (by omega) (by omega) | skip
              refine q_goto (tgt := 4) hM dX12_remindedIn_64 (by decide) ?_
              exact ih4 w13_2 z13667 _ _ _ (by omega) (by omega) (by omega) (rm_end i13_1 (by omega) (by omega) (by omega)) (by omega) (by omega) (lv_sub hl [1, 2, 3, 0] rfl) hW
            · refine q_iload_n hM dX12_remindedIn_19 (lv_at hl 2 rfl) ?_
              refine q_iload_n hM dX12_remindedIn_20 (lv_at hl 1 rfl) ?_
              refine q_iload_n hM dX12_remindedIn_21 (lv_at hl 3 rfl) ?_
              refine q_callS (As := [.int s, .int w4_3]) (rest := [.int w13_2]) hM hW.1 hR hC myX12_has (kAW (v_5_6 (List.mem_of_getElem? (i := 7) rfl)) rfl) (c_X12_has _ _ cA ad g0 s w4_3 hW.2.1 (by omega) (by omega)) ⟨by decide, by decide⟩ rfl rfl hl.1 (Nat.le_of_ble_eq_true rfl) dX12_remindedIn_22 (fun v g13670 H locs hp hW1 => ?_)
              obtain ⟨r13669, rfl, hr13669, rfl⟩ := hp
              have hW : WS ad cA (fun i k => False) g0 K g0 H locs := ⟨hW1, hW.2.1, hW.2.2⟩
              refine q_if_eq (tgt := 52) hM dX12_remindedIn_25 (by decide) (rfl : r13669.toInt = r13669.toInt) (fun h25 => ?_) (fun h25 => ?_)
              · refine q_iconst (v := (0 : Int32)) hM dX12_remindedIn_52 (by decide) ?_
                refine q_iadd hM dX12_remindedIn_53 (fun z13672 hz13672 => ?_)
                first | have tz13672 := i_addT hz13672 (rfl : w13_2.toInt = w13_2.toInt) (kc_0 : (0 : Int32).toInt = 0) (by omega) (by omega) | skip
                refine q_istore_n (lv9 := [(2, .int z13672), (0, .ref (ad 129)), (1, .int s), (3, .int w4_3), (4, .int w13_4)]) hM dX12_remindedIn_54 hl (by decide) rfl (fun ls hl => ?_)
                refine q_iinc (lv9 := fun z13673 => [(4, .int z13673), (2, .int z13672), (0, .ref (ad 129)), (1, .int s), (3, .int w4_3)]) hM dX12_remindedIn_55 hl (kq := 4) rfl (by decide) (fun _ => rfl) (fun z13673 ls hz13673 hl => ?_)
                first | have tz13673 := i_addT hz13673 (rfl : w13_4.toInt = w13_4.toInt) (kc_1 : (Int32.ofInt 1).toInt = 1) (by omega) (by omega) | skip
                refine q_goto (tgt := 13) hM dX12_remindedIn_58 (by decide) ?_
                exact ih13 z13672 z13673 _ _ _ (by omega) (by omega) (rm_st i13_1 (by omega) (by omega) (rT_a (mh_f hr13669 (by omega))) (by omega)) (by omega) (by omega) (by omega) (lv_sub hl [2, 3, 1, 4, 0] rfl) hW
              · refine q_iload_n hM dX12_remindedIn_28 (lv_at hl 1 rfl) ?_
                refine q_iload hM dX12_remindedIn_29 (lv_at hl 4 rfl) ?_
                refine q_callS (As := [.int s, .int w13_4]) (rest := [.int w13_2]) hM hW.1 hR hC myX12_has (kAW (v_5_6 (List.mem_of_getElem? (i := 7) rfl)) rfl) (c_X12_has _ _ cA ad g0 s w13_4 hW.2.1 (by omega) (by omega)) ⟨by decide, by decide⟩ rfl rfl hl.1 (Nat.le_of_ble_eq_true rfl) dX12_remindedIn_31 (fun v g13676 H locs hp hW1 => ?_)
                obtain ⟨r13675, rfl, hr13675, rfl⟩ := hp
                have hW : WS ad cA (fun i k => False) g0 K g0 H locs := ⟨hW1, hW.2.1, hW.2.2⟩
                refine q_if_eq (tgt := 52) hM dX12_remindedIn_34 (by decide) (rfl : r13675.toInt = r13675.toInt) (fun h34 => ?_) (fun h34 => ?_)
                · refine q_iconst (v := (0 : Int32)) hM dX12_remindedIn_52 (by decide) ?_
                  refine q_iadd hM dX12_remindedIn_53 (fun z13678 hz13678 => ?_)
                  first | have tz13678 := i_addT hz13678 (rfl : w13_2.toInt = w13_2.toInt) (kc_0 : (0 : Int32).toInt = 0) (by omega) (by omega) | skip
                  refine q_istore_n (lv9 := [(2, .int z13678), (0, .ref (ad 129)), (1, .int s), (3, .int w4_3), (4, .int w13_4)]) hM dX12_remindedIn_54 hl (by decide) rfl (fun ls hl => ?_)
                  refine q_iinc (lv9 := fun z13679 => [(4, .int z13679), (2, .int z13678), (0, .ref (ad 129)), (1, .int s), (3, .int w4_3)]) hM dX12_remindedIn_55 hl (kq := 4) rfl (by decide) (fun _ => rfl) (fun z13679 ls hz13679 hl => ?_)
                  first | have tz13679 := i_addT hz13679 (rfl : w13_4.toInt = w13_4.toInt) (kc_1 : (Int32.ofInt 1).toInt = 1) (by omega) (by omega) | skip
                  refine q_goto (tgt := 13) hM dX12_remindedIn_58 (by decide) ?_
                  exact ih13 z13678 z13679 _ _ _ (by omega) (by omega) (rm_st i13_1 (by omega) (by omega) (rT_b (mh_f hr13675 (by omega))) (by omega)) (by omega) (by omega) (by omega) (lv_sub hl [2, 3, 1, 4, 0] rfl) hW
                · refine q_aload_n hM dX12_remindedIn_37 (lv_at hl 0 rfl) ?_
                  refine w_get (v := .ref (ad 175)) hM hW FG_X12_151 lb_129 (rf_129_81 hW.2.1) dX12_remindedIn_38 ?_
                  refine q_bipush (v := (8 : Int32)) hM dX12_remindedIn_41 (by decide) ?_
                  refine q_iload_n hM dX12_remindedIn_43 (lv_at hl 3 rfl) ?_
                  refine q_imul hM dX12_remindedIn_44 (fun z13681 hz13681 => ?_)
                  first | have tz13681 := i_mulT hz13681 (kc_8 : (8 : Int32).toInt = 8) (rfl : w4_3.toInt = w4_3.toInt) (by omega) (by omega) | skip
                  refine q_iload hM dX12_remindedIn_45 (lv_at hl 4 rfl) ?_
                  refine q_iadd hM dX12_remindedIn_47 (fun z13682 hz13682 => ?_)
                  first | have tz13682 := i_addT hz13682 (rfl : z13681.toInt = z13681.toInt) (rfl : w13_4.toInt = w13_4.toInt) (by omega) (by omega) | skip
                  refine w_iald hM hW lb_175 (i_in (by omega) (by omega)) dX12_remindedIn_48 ?_
                  refine q_top (fun y13683 hy13683 => ?_)
                  have tyy13683 : y13683.toInt = (rM g0 w4_3.toInt.toNat w13_4.toInt.toNat).toInt := by rw [hy13683, show z13682.toNatClampNeg = 8 * w4_3.toInt.toNat + w13_4.toInt.toNat by show z13682.toInt.toNat = _; omega]; rfl
                  have rby13683 := hRw w4_3.toInt.toNat w13_4.toInt.toNat (by omega) (by omega)
                  refine q_goto (tgt := 53) hM dX12_remindedIn_49 (by decide) ?_
                  refine q_iadd hM dX12_remindedIn_53 (fun z13684 hz13684 => ?_)
                  first | have tz13684 := i_addT hz13684 (rfl : w13_2.toInt = w13_2.toInt) (rfl : y13683.toInt = y13683.toInt) (by omega) (by omega) | skip
                  refine q_istore_n (lv9 := [(2, .int z13684), (0, .ref (ad 129)), (1, .int s), (3, .int w4_3), (4, .int w13_4)]) hM dX12_remindedIn_54 hl (by decide) rfl (fun ls hl => ?_)
                  refine q_iinc (lv9 := fun z13685 => [(4, .int z13685), (2, .int z13684), (0, .ref (ad 129)), (1, .int s), (3, .int w4_3)]) hM dX12_remindedIn_55 hl (kq := 4) rfl (by decide) (fun _ => rfl) (fun z13685 ls hz13685 hl => ?_)
                  first | have tz13685 := i_addT hz13685 (rfl : w13_4.toInt = w13_4.toInt) (kc_1 : (Int32.ofInt 1).toInt = 1) (by omega) (by omega) | skip
                  refine q_goto (tgt := 13) hM dX12_remindedIn_58 (by decide) ?_
                  exact ih13 z13684 z13685 _ _ _ (by omega) (by omega) (rm_st i13_1 (by omega) (by omega) (rT_c (mh_t hr13669 (by omega)) (mh_t hr13675 (by omega))) (by omega)) (by omega) (by omega) (by omega) (lv_sub hl [2, 3, 1, 4, 0] rfl) hW
        have := kc_0
        exact L13 _ w4_2 (0 : Int32) _ _ _ (Nat.lt_succ_self _) (by omega) (rm_0 i4_2 (by omega)) (by omega) (by omega) (by omega) (lv_sub hl [1, 2, 3, 4, 0] rfl) hW
  have := kc_0
  have := kc_0
  exact L4 _ (0 : Int32) (0 : Int32) _ _ _ (Nat.lt_succ_self _) (by omega) (by omega) (by rw [kc_0]; rfl) (by omega) (by omega) (lv_sub hl [2, 3, 1, 0] rfl) hW


set_option maxRecDepth 100000 in
set_option maxHeartbeats 4000000 in
theorem s_X12_arePupils (l : Launch) (D : va_G) (cA : Nat → ClassId) (ad : Nat → Nat) (g0 : Nat → va_E) (s : Int32) (hSh : Shp ad cA g0) (hG : Rng g0) : CT l NN ad cA D yX12_arePupils cX12_arePupils 3 (some FieldType.boolean) (1, 25) [.ref (ad 129), .int s] g0 (PU g0 (fun r => (r.toInt = 1 ∧ 1 ≤ s.toInt ∧ s.toInt < 256 ∧ 2 ≤ cb s 12 ∧ ∀ p : Nat, p < 8 → bt s p = true → tM (arI g0 158) p ≠ 0) ∨ (r.toInt = 0 ∧ ¬ (1 ≤ s.toInt ∧ s.toInt < 256 ∧ 2 ≤ cb s 12 ∧ ∀ p : Nat, p < 8 → bt s p = true → tM (arI g0 158) p ≠ 0)))) := by
  refine q_enterZ (by decide) (Nat.le_of_ble_eq_true rfl) (fun K H locs ls _ _ hM hW0 hR hC hE hl => ?_)
  have hl : lv_has ls 3 [(0, .ref (ad 129)), (1, .int s)] := hl
  have hW : WS ad cA (fun i k => False) g0 K g0 H locs := ⟨hW0, hSh, FR.rf⟩
  have := kc_0
  have := kc_1
  have := kc_m1
  have := kc_2
  have := i_rng s
  refine q_iload_n hM dX12_arePupils_0 (lv_at hl 1 rfl) ?_
  refine q_i2l hM dX12_arePupils_1 ?_
  have := l_i2l s
  refine q_lconst (v := 1) hM dX12_arePupils_2 (by decide) ?_
  have := kl_1
  refine q_ldc2 (v := 255) hM (kAW (v_7_0 (List.mem_of_getElem? (i := 14) rfl)) rfl) dX12_arePupils_3 ?_
  have := kl_255
  refine q_callS (As := [.long s.toInt64, .long (1 : Int64), .long (255 : Int64)]) (rest := []) hM hW.1 hR hC myX12_lies (kAW (v_5_4 (List.mem_of_getElem? (i := 14) rfl)) rfl) (c_X12_lies _ _ cA ad g0 s.toInt64 (1 : Int64) (255 : Int64) hW.2.1) ⟨by decide, by decide⟩ rfl rfl hl.1 (Nat.le_of_ble_eq_true rfl) dX12_arePupils_6 (fun v g13687 H locs hp hW1 => ?_)
  obtain ⟨r13686, rfl, hr13686, rfl⟩ := hp
  have hW : WS ad cA (fun i k => False) g0 K g0 H locs := ⟨hW1, hW.2.1, hW.2.2⟩
  refine q_if_eq (tgt := 20) hM dX12_arePupils_9 (by decide) (rfl : r13686.toInt = r13686.toInt) (fun h9 => ?_) (fun h9 => ?_)
  · refine q_iconst (v := (0 : Int32)) hM dX12_arePupils_20 (by decide) ?_
    exact hE _ _ _ _ _ _ hW.1 nz_0 ⟨_, rfl, (Or.inr ⟨by omega, fun q9 => by have q1 := q9.1; have q2 := q9.2.1; have q3 := q9.2.2.1; omega⟩), rfl⟩ dX12_arePupils_21
  · refine q_iload_n hM dX12_arePupils_12 (lv_at hl 1 rfl) ?_
    refine q_callS (As := [.int s]) (rest := []) hM hW.1 hR hC myX12_sizeOf (kAW (v_5_6 (List.mem_of_getElem? (i := 14) rfl)) rfl) (s_X12_sizeOf _ _ cA ad g0 s hW.2.1 hG (by  omega) (by  omega)) ⟨by decide, by decide⟩ rfl rfl hl.1 (Nat.le_of_ble_eq_true rfl) dX12_arePupils_13 (fun v g13691 H locs hp hW1 => ?_)
    obtain ⟨r13690, rfl, hr13690, rfl⟩ := hp
    have hW : WS ad cA (fun i k => False) g0 K g0 H locs := ⟨hW1, hW.2.1, hW.2.2⟩
    refine q_iconst (v := (2 : Int32)) hM dX12_arePupils_16 (by decide) ?_
    refine q_icmp_ge (tgt := 22) hM dX12_arePupils_17 (by decide) (rfl : r13690.toInt = r13690.toInt) (kc_2 : (2 : Int32).toInt = 2) (fun h17 => ?_) (fun h17 => ?_)
    · refine q_iconst (v := (0 : Int32)) hM dX12_arePupils_22 (by decide) ?_
      refine q_istore_n (lv9 := [(2, .int (0 : Int32)), (0, .ref (ad 129)), (1, .int s)]) hM dX12_arePupils_23 hl (by decide) rfl (fun ls hl => ?_)
      have L24 : ∀ (fu24 : Nat) (w24_2 : Int32) (H : Heap) (locs : List Loc) (ls : Array Slot), (8 - w24_2.toInt).toNat < fu24 → (0 ≤ w24_2.toInt) → (w24_2.toInt ≤ 8) → (∀ p : Nat, (p : Int) < w24_2.toInt → bt s p = true → tM (arI g0 158) p ≠ 0) → lv_has ls 3 [(0, .ref (ad 129)), (1, .int s), (2, .int w24_2)] → WS ad cA (fun i k => False) g0 K g0 H locs → XX K 0 0 H locs 24 ls [] := by
        intro fu24
        induction fu24 with
        | zero => intro w24_2 H locs ls h0; omega
        | succ fu24 ih24 =>
          intro w24_2 H locs ls hm24 i24_0 i24_1 i24_2 hl hW
          refine q_iload_n hM dX12_arePupils_24 (lv_at hl 2 rfl) ?_
          refine q_bipush (v := (8 : Int32)) hM dX12_arePupils_25 (by decide) ?_
          refine q_icmp_ge (tgt := 55) hM dX12_arePupils_27 (by decide) (rfl : w24_2.toInt = w24_2.toInt) (kc_8 : (8 : Int32).toInt = 8) (fun h27 => ?_) (fun h27 => ?_)
          · refine q_iconst (v := (1 : Int32)) hM dX12_arePupils_55 (by decide) ?_
            exact hE _ _ _ _ _ _ hW.1 nz_1 ⟨_, rfl, (Or.inl ⟨by omega, by omega, by omega, by omega, fun p hp hb => i24_2 p (by omega) hb⟩), rfl⟩ dX12_arePupils_56
          · refine q_iload_n hM dX12_arePupils_30 (lv_at hl 1 rfl) ?_
            refine q_iload_n hM dX12_arePupils_31 (lv_at hl 2 rfl) ?_
            refine q_callS (As := [.int s, .int w24_2]) (rest := []) hM hW.1 hR hC myX12_has (kAW (v_5_6 (List.mem_of_getElem? (i := 7) rfl)) rfl) (c_X12_has _ _ cA ad g0 s w24_2 hW.2.1 (by omega) (by omega)) ⟨by decide, by decide⟩ rfl rfl hl.1 (Nat.le_of_ble_eq_true rfl) dX12_arePupils_32 (fun v g13697 H locs hp hW1 => ?_)
            obtain ⟨r13696, rfl, hr13696, rfl⟩ := hp
            have hW : WS ad cA (fun i k => False) g0 K g0 H locs := ⟨hW1, hW.2.1, hW.2.2⟩
            refine q_if_eq (tgt := 49) hM dX12_arePupils_35 (by decide) (rfl : r13696.toInt = r13696.toInt) (fun h35 => ?_) (fun h35 => ?_)
            · refine q_iinc (lv9 := fun z13699 => [(2, .int z13699), (0, .ref (ad 129)), (1, .int s)]) hM dX12_arePupils_49 hl (kq := 2) rfl (by decide) (fun _ => rfl) (fun z13699 ls hz13699 hl => ?_)
              first | have tz13699 := i_addT hz13699 (rfl : w24_2.toInt = w24_2.toInt) (kc_1 : (Int32.ofInt 1).toInt = 1) (by omega) (by omega) | skip
              refine q_goto (tgt := 24) hM dX12_arePupils_52 (by decide) ?_
              exact ih24 z13699 _ _ _ (by omega) (by omega) (by omega) (fun p h1 hb => by
                  by_cases e : p = w24_2.toInt.toNat
                  · rw [e] at hb; rw [mh_f hr13696 (by omega)] at hb; exact absurd hb (by decide)
                  · exact i24_2 p (by omega) hb) (lv_sub hl [1, 2, 0] rfl) hW
            · refine q_aload_n hM dX12_arePupils_38 (lv_at hl 0 rfl) ?_
              refine w_get (v := .ref (ad 158)) hM hW FG_X12_100 lb_129 (rf_129_52 hW.2.1) dX12_arePupils_39 ?_
              refine q_iload_n hM dX12_arePupils_42 (lv_at hl 2 rfl) ?_
              refine w_zald hM hW lb_158 (i_in (by omega) (by omega)) dX12_arePupils_43 ?_
              refine q_top (fun y13701 hy13701 => ?_)
              have tyy13701 : y13701.toInt = tM (arI g0 158) w24_2.toInt.toNat := congrArg Int32.toInt hy13701
              refine q_if_ne (tgt := 49) hM dX12_arePupils_44 (by decide) (rfl : y13701.toInt = y13701.toInt) (fun h44 => ?_) (fun h44 => ?_)
              · refine q_iinc (lv9 := fun z13703 => [(2, .int z13703), (0, .ref (ad 129)), (1, .int s)]) hM dX12_arePupils_49 hl (kq := 2) rfl (by decide) (fun _ => rfl) (fun z13703 ls hz13703 hl => ?_)
                first | have tz13703 := i_addT hz13703 (rfl : w24_2.toInt = w24_2.toInt) (kc_1 : (Int32.ofInt 1).toInt = 1) (by omega) (by omega) | skip
                refine q_goto (tgt := 24) hM dX12_arePupils_52 (by decide) ?_
                exact ih24 z13703 _ _ _ (by omega) (by omega) (by omega) (fun p h1 hb => by
                    by_cases e : p = w24_2.toInt.toNat
                    · rw [e]; omega
                    · exact i24_2 p (by omega) hb) (lv_sub hl [1, 2, 0] rfl) hW
              · refine q_iconst (v := (0 : Int32)) hM dX12_arePupils_47 (by decide) ?_
                exact hE _ _ _ _ _ _ hW.1 nz_0 ⟨_, rfl, (Or.inr ⟨by omega, fun q9 => q9.2.2.2 w24_2.toInt.toNat (by omega) (mh_t hr13696 (by omega)) (by omega)⟩), rfl⟩ dX12_arePupils_48
      have := kc_0
      exact L24 _ (0 : Int32) _ _ _ (Nat.lt_succ_self _) (by omega) (by omega) (fun p h1 h2 => absurd h1 (by have := kc_0; omega)) (lv_sub hl [1, 2, 0] rfl) hW
    · refine q_iconst (v := (0 : Int32)) hM dX12_arePupils_20 (by decide) ?_
      exact hE _ _ _ _ _ _ hW.1 nz_0 ⟨_, rfl, (Or.inr ⟨by omega, fun q9 => by have q1 := q9.1; have q2 := q9.2.1; have q3 := q9.2.2.1; omega⟩), rfl⟩ dX12_arePupils_21


set_option maxRecDepth 100000 in
set_option maxHeartbeats 4000000 in
theorem s_X12_parted (l : Launch) (D : va_G) (cA : Nat → ClassId) (ad : Nat → Nat) (g0 : Nat → va_E) (a : Int32) (b : Int32)   (hSh : Shp ad cA g0) (hG : Rng g0) (hRw : ∀ p q : Nat, p < 8 → q < 8 → 0 ≤ (rM g0 p q).toInt ∧ (rM g0 p q).toInt ≤ 99) : CT l NN ad cA D yX12_parted cX12_parted 8 (some FieldType.int) (2, 47) [.ref (ad 129), .int a, .int b] g0 (fun v g' => ∃ (r : Int32), v = some (.int r) ∧ Shp ad cA g' ∧ Rng g' ∧ FR (fun i k => False) g0 g' ∧ ((¬ (1 ≤ a.toInt ∧ a.toInt < 256 ∧ 2 ≤ cb a 12 ∧ (∀ p : Nat, p < 8 → bt a p = true → tM (arI g0 158) p ≠ 0) ∧ 0 ≤ b.toInt ∧ b.toInt ≤ 1) ∧ r.toInt = -1) ∨ ((1 ≤ a.toInt ∧ a.toInt < 256 ∧ 2 ≤ cb a 12 ∧ (∀ p : Nat, p < 8 → bt a p = true → tM (arI g0 158) p ≠ 0) ∧ 0 ≤ b.toInt ∧ b.toInt ≤ 1) ∧ ∃ m9 : Int32, AR (vM (rM g0) a) (a &&& (a - 1)) m9 ∧ ((b.toInt = 0 ∧ r.toInt = (vM (rM g0) a) m9) ∨ (b.toInt ≠ 0 ∧ r = m9))))) := by
  refine q_enterI (by decide) (Nat.le_of_ble_eq_true rfl) rfl (fun K H locs ls _ _ hM hW0 hR hC hE hl => ?_)
  have hl : lv_has ls 8 [(0, .ref (ad 129)), (1, .int a), (2, .int b)] := hl
  have hW : WS ad cA (fun i k => False) g0 K g0 H locs := ⟨hW0, hSh, FR.rf⟩
  have := kc_0
  have := kc_1
  have := kc_m1
  have := kc_1000000000
  refine q_aload_n hM dX12_parted_0 (lv_at hl 0 rfl) ?_
  refine q_iload_n hM dX12_parted_1 (lv_at hl 1 rfl) ?_
  refine q_callV (As := [.int a]) (rest := []) hM hW.1 hR hC myX12_arePupils (kAW (v_7_0 (List.mem_of_getElem? (i := 10) rfl)) rfl) (rfl : vwCl[12]? = some (RX12, TX12, 86)) rfl lb_129.1 (shO hW.2.1 lb_129) (s_X12_arePupils _ _ cA ad g0 a hW.2.1 hG) ⟨by decide, by decide⟩ rfl rfl hl.1 (Nat.le_of_ble_eq_true rfl) dX12_parted_2 (fun v g13707 H locs hp hW1 => ?_)
  obtain ⟨r13706, rfl, hr13706, rfl⟩ := hp
  have hW : WS ad cA (fun i k => False) g0 K g0 H locs := ⟨hW1, hW.2.1, hW.2.2⟩
  refine q_if_eq (tgt := 18) hM dX12_parted_5 (by decide) (rfl : r13706.toInt = r13706.toInt) (fun h5 => ?_) (fun h5 => ?_)
  · refine q_iconst (v := ((-1) : Int32)) hM dX12_parted_18 (by decide) ?_
    exact hE _ _ _ _ _ _ hW.1 ⟨_, rfl, hW.2.1, hG, hW.2.2, (Or.inl ⟨fun q9 => by rcases hr13706 with h | h <;> first | (have q1 := q9.2.2.2.2.1; have q2 := q9.2.2.2.2.2; omega) | exact h.2 ⟨q9.1, q9.2.1, q9.2.2.1, q9.2.2.2.1⟩, kc_m1⟩)⟩ dX12_parted_19
  · refine q_iload_n hM dX12_parted_8 (lv_at hl 2 rfl) ?_
    refine q_i2l hM dX12_parted_9 ?_
    have := l_i2l b
    refine q_lconst (v := 0) hM dX12_parted_10 (by decide) ?_
    have := kl_0
    refine q_lconst (v := 1) hM dX12_parted_11 (by decide) ?_
    have := kl_1
    refine q_callS (As := [.long b.toInt64, .long (0 : Int64), .long (1 : Int64)]) (rest := []) hM hW.1 hR hC myX12_lies (kAW (v_5_4 (List.mem_of_getElem? (i := 14) rfl)) rfl) (c_X12_lies _ _ cA ad g0 b.toInt64 (0 : Int64) (1 : Int64) hW.2.1) ⟨by decide, by decide⟩ rfl rfl hl.1 (Nat.le_of_ble_eq_true rfl) dX12_parted_12 (fun v g13711 H locs hp hW1 => ?_)
    obtain ⟨r13710, rfl, hr13710, rfl⟩ := hp
    have hW : WS ad cA (fun i k => False) g0 K g0 H locs := ⟨hW1, hW.2.1, hW.2.2⟩
    refine q_if_ne (tgt := 20) hM dX12_parted_15 (by decide) (rfl : r13710.toInt = r13710.toInt) (fun h15 => ?_) (fun h15 => ?_)
    · refine q_iload_n hM dX12_parted_20 (lv_at hl 1 rfl) ?_
      refine q_iload_n hM dX12_parted_21 (lv_at hl 1 rfl) ?_
      refine q_iconst (v := (1 : Int32)) hM dX12_parted_22 (by decide) ?_
      refine q_isub hM dX12_parted_23 (fun z13713 hz13713 => ?_)
      first | have tz13713 := i_subT hz13713 (rfl : a.toInt = a.toInt) (kc_1 : (1 : Int32).toInt = 1) (by omega) (by omega) | skip
      refine q_iand hM dX12_parted_24 (fun z13714 hz13714 => ?_)
      first | have az13714 := i_andk hz13714 (by omega) | have az13714 := i_andk (i_comm hz13714) (by omega) | skip
      have ho9 : z13714 = (a &&& (a - 1)) := by rw [hz13713, hz13714]
      have hz9 := rest_of (so := a) (by omega) (by omega) (by omega)
      rw [← ho9] at hz9
      refine q_istore_n (lv9 := [(3, .int z13714), (0, .ref (ad 129)), (1, .int a), (2, .int b)]) hM dX12_parted_25 hl (by decide) rfl (fun ls hl => ?_)
      refine q_iconst (v := (0 : Int32)) hM dX12_parted_26 (by decide) ?_
      refine q_istore (lv9 := [(4, .int (0 : Int32)), (3, .int z13714), (0, .ref (ad 129)), (1, .int a), (2, .int b)]) hM dX12_parted_27 hl (by decide) rfl (fun ls hl => ?_)
      refine q_ldcw (v := (1000000000 : Int32)) hM (kAW (v_7_1 (List.mem_of_getElem? (i := 11) rfl)) rfl) dX12_parted_29 ?_
      refine q_istore (lv9 := [(5, .int (1000000000 : Int32)), (4, .int (0 : Int32)), (3, .int z13714), (0, .ref (ad 129)), (1, .int a), (2, .int b)]) hM dX12_parted_32 hl (by decide) rfl (fun ls hl => ?_)
      refine q_iconst (v := (1 : Int32)) hM dX12_parted_34 (by decide) ?_
      refine q_istore (lv9 := [(6, .int (1 : Int32)), (5, .int (1000000000 : Int32)), (4, .int (0 : Int32)), (3, .int z13714), (0, .ref (ad 129)), (1, .int a), (2, .int b)]) hM dX12_parted_35 hl (by decide) rfl (fun ls hl => ?_)
      have L37 : ∀ (fu37 : Nat) (w37_4 : Int32) (w37_5 : Int32) (w37_6 : Int32) (H : Heap) (locs : List Loc) (ls : Array Slot), (z13714.toInt - w37_6.toInt + 1).toNat < fu37 → (Rng g0) → (1 ≤ w37_6.toInt) → (1 ≤ w37_6.toInt) → (w37_6.toInt ≤ z13714.toInt + 1) → (BM (vM (rM g0) a) (a &&& (a - 1)) w37_4 w37_5.toInt w37_6.toInt) → lv_has ls 8 [(0, .ref (ad 129)), (1, .int a), (2, .int b), (3, .int z13714), (4, .int w37_4), (5, .int w37_5), (6, .int w37_6)] → WS ad cA (fun i k => False) g0 K g0 H locs → XX K 0 0 H locs 37 ls [] := by
        intro fu37
        induction fu37 with
        | zero => intro w37_4 w37_5 w37_6 H locs ls h0; omega
        | succ fu37 ih37 =>
          intro w37_4 w37_5 w37_6 H locs ls hm37 i37_0 i37_1 i37_2 i37_3 i37_4 hl hW
          have hG := i37_0
          have := i_rng z13714
          refine q_iload hM dX12_parted_37 (lv_at hl 6 rfl) ?_
          refine q_iload_n hM dX12_parted_39 (lv_at hl 3 rfl) ?_
          refine q_icmp_gt (tgt := 98) hM dX12_parted_40 (by decide) (rfl : w37_6.toInt = w37_6.toInt) (rfl : z13714.toInt = z13714.toInt) (fun h40 => ?_) (fun h40 => ?_)
          · refine q_iload_n hM dX12_parted_98 (lv_at hl 2 rfl) ?_
            refine q_if_ne (tgt := 107) hM dX12_parted_99 (by decide) (rfl : b.toInt = b.toInt) (fun h99 => ?_) (fun h99 => ?_)
            · refine q_iload hM dX12_parted_107 (lv_at hl 4 rfl) ?_
              exact hE _ _ _ _ _ _ hW.1 ⟨_, rfl, hW.2.1, hG, hW.2.2, (Or.inr ⟨⟨by omega, by omega, by omega, by rcases hr13706 with h | h; exact h.2.2.2.2; omega, by omega, by omega⟩, w37_4, (BM_end i37_4 (by rw [← ho9]; omega) (by rw [← ho9]; omega) (vM_b hRw _ _)).1, Or.inr ⟨by omega, rfl⟩⟩)⟩ dX12_parted_109
            · refine q_iload hM dX12_parted_102 (lv_at hl 5 rfl) ?_
              refine q_goto (tgt := 109) hM dX12_parted_104 (by decide) ?_
              exact hE _ _ _ _ _ _ hW.1 ⟨_, rfl, hW.2.1, hG, hW.2.2, (Or.inr ⟨⟨by omega, by omega, by omega, by rcases hr13706 with h | h; exact h.2.2.2.2; omega, by omega, by omega⟩, w37_4, (BM_end i37_4 (by rw [← ho9]; omega) (by rw [← ho9]; omega) (vM_b hRw _ _)).1, Or.inl ⟨by omega, (BM_end i37_4 (by rw [← ho9]; omega) (by rw [← ho9]; omega) (vM_b hRw _ _)).2⟩⟩)⟩ dX12_parted_109
          · refine q_iload hM dX12_parted_43 (lv_at hl 6 rfl) ?_
            refine q_iload_n hM dX12_parted_45 (lv_at hl 3 rfl) ?_
            refine q_iconst (v := ((-1) : Int32)) hM dX12_parted_46 (by decide) ?_
            refine q_ixor hM dX12_parted_47 (fun z13720 hz13720 => ?_)
            refine q_iand hM dX12_parted_48 (fun z13721 hz13721 => ?_)
            first | have az13721 := i_andk hz13721 (by omega) | have az13721 := i_andk (i_comm hz13721) (by omega) | skip
            refine q_if_eq (tgt := 55) hM dX12_parted_49 (by decide) (rfl : z13721.toInt = z13721.toInt) (fun h49 => ?_) (fun h49 => ?_)
            · refine q_aload_n hM dX12_parted_55 (lv_at hl 0 rfl) ?_
              refine q_iload hM dX12_parted_56 (lv_at hl 6 rfl) ?_
              refine q_callV (As := [.int w37_6]) (rest := []) hM hW.1 hR hC myX12_remindedIn (kAW (v_7_1 (List.mem_of_getElem? (i := 12) rfl)) rfl) (rfl : vwCl[12]? = some (RX12, TX12, 86)) rfl lb_129.1 (shO hW.2.1 lb_129) (s_X12_remindedIn _ _ cA ad g0 w37_6 hW.2.1 hG hRw) ⟨by decide, by decide⟩ rfl rfl hl.1 (Nat.le_of_ble_eq_true rfl) dX12_parted_58 (fun v g13724 H locs hp hW1 => ?_)
              obtain ⟨r13723, rfl, hr13723, rfl⟩ := hp
              have hW : WS ad cA (fun i k => False) g0 K g0 H locs := ⟨hW1, hW.2.1, hW.2.2⟩
              refine q_aload_n hM dX12_parted_61 (lv_at hl 0 rfl) ?_
              refine q_iload_n hM dX12_parted_62 (lv_at hl 1 rfl) ?_
              refine q_iload hM dX12_parted_63 (lv_at hl 6 rfl) ?_
              refine q_iconst (v := ((-1) : Int32)) hM dX12_parted_65 (by decide) ?_
              refine q_ixor hM dX12_parted_66 (fun z13725 hz13725 => ?_)
              refine q_iand hM dX12_parted_67 (fun z13726 hz13726 => ?_)
              first | have az13726 := i_andk hz13726 (by omega) | have az13726 := i_andk (i_comm hz13726) (by omega) | skip
              refine q_callV (As := [.int z13726]) (rest := [.int r13723]) hM hW.1 hR hC myX12_remindedIn (kAW (v_7_1 (List.mem_of_getElem? (i := 12) rfl)) rfl) (rfl : vwCl[12]? = some (RX12, TX12, 86)) rfl lb_129.1 (shO hW.2.1 lb_129) (s_X12_remindedIn _ _ cA ad g0 z13726 hW.2.1 hG hRw) ⟨by decide, by decide⟩ rfl rfl hl.1 (Nat.le_of_ble_eq_true rfl) dX12_parted_68 (fun v g13728 H locs hp hW1 => ?_)
              obtain ⟨r13727, rfl, hr13727, rfl⟩ := hp
              have hW : WS ad cA (fun i k => False) g0 K g0 H locs := ⟨hW1, hW.2.1, hW.2.2⟩
              refine q_iadd hM dX12_parted_71 (fun z13729 hz13729 => ?_)
              first | have tz13729 := i_addT hz13729 (rfl : r13723.toInt = r13723.toInt) (rfl : r13727.toInt = r13727.toInt) (by omega) (by omega) | skip
              refine q_istore (lv9 := [(7, .int z13729), (0, .ref (ad 129)), (1, .int a), (2, .int b), (3, .int z13714), (4, .int w37_4), (5, .int w37_5), (6, .int w37_6)]) hM dX12_parted_72 hl (by decide) rfl (fun ls hl => ?_)
              refine q_iload hM dX12_parted_74 (lv_at hl 0 rfl) ?_
              refine q_iload hM dX12_parted_76 (lv_at hl 6 rfl) ?_
              refine q_icmp_lt (tgt := 84) hM dX12_parted_78 (by decide) (rfl : z13729.toInt = z13729.toInt) (rfl : w37_5.toInt = w37_5.toInt) (fun h78 => ?_) (fun h78 => ?_)
              · refine q_iload hM dX12_parted_84 (lv_at hl 7 rfl) ?_
                refine q_istore (lv9 := [(4, .int w37_6), (7, .int z13729), (0, .ref (ad 129)), (1, .int a), (2, .int b), (3, .int z13714), (5, .int w37_5), (6, .int w37_6)]) hM dX12_parted_86 hl (by decide) rfl (fun ls hl => ?_)
                refine q_iload hM dX12_parted_88 (lv_at hl 1 rfl) ?_
                refine q_istore (lv9 := [(5, .int z13729), (4, .int w37_6), (7, .int z13729), (0, .ref (ad 129)), (1, .int a), (2, .int b), (3, .int z13714), (6, .int w37_6)]) hM dX12_parted_90 hl (by decide) rfl (fun ls hl => ?_)
                refine q_iinc (lv9 := fun z13731 => [(6, .int z13731), (5, .int z13729), (4, .int w37_6), (7, .int z13729), (0, .ref (ad 129)), (1, .int a), (2, .int b), (3, .int z13714)]) hM dX12_parted_92 hl (kq := 7) rfl (by decide) (fun _ => rfl) (fun z13731 ls hz13731 hl => ?_)
                first | have tz13731 := i_addT hz13731 (rfl : w37_6.toInt = w37_6.toInt) (kc_1 : (Int32.ofInt 1).toInt = 1) (by omega) (by omega) | skip
                refine q_goto (tgt := 37) hM dX12_parted_95 (by decide) ?_
                exact ih37 w37_6 z13729 z13731 _ _ _ (by omega) hG (by omega) (by omega) (by omega) (BM_yes i37_4 (by omega) (by omega) (by rw [← ho9]; exact z_t hz13720 hz13721 (by omega)) (by unfold vM; rw [hz13725, hz13726]; omega) (by omega)) (lv_sub hl [4, 5, 6, 7, 2, 1, 0] rfl) hW
              · refine q_goto (tgt := 92) hM dX12_parted_81 (by decide) ?_
                refine q_iinc (lv9 := fun z13733 => [(6, .int z13733), (7, .int z13729), (0, .ref (ad 129)), (1, .int a), (2, .int b), (3, .int z13714), (4, .int w37_4), (5, .int w37_5)]) hM dX12_parted_92 hl (kq := 7) rfl (by decide) (fun _ => rfl) (fun z13733 ls hz13733 hl => ?_)
                first | have tz13733 := i_addT hz13733 (rfl : w37_6.toInt = w37_6.toInt) (kc_1 : (Int32.ofInt 1).toInt = 1) (by omega) (by omega) | skip
                refine q_goto (tgt := 37) hM dX12_parted_95 (by decide) ?_
                exact ih37 w37_4 w37_5 z13733 _ _ _ (by omega) hG (by omega) (by omega) (by omega) (BM_no i37_4 (by omega) (Or.inr (by unfold vM; rw [hz13725, hz13726]; omega))) (lv_sub hl [2, 3, 4, 5, 6, 7, 0] rfl) hW
            · refine q_goto (tgt := 92) hM dX12_parted_52 (by decide) ?_
              refine q_iinc (lv9 := fun z13735 => [(6, .int z13735), (0, .ref (ad 129)), (1, .int a), (2, .int b), (3, .int z13714), (4, .int w37_4), (5, .int w37_5)]) hM dX12_parted_92 hl (kq := 6) rfl (by decide) (fun _ => rfl) (fun z13735 ls hz13735 hl => ?_)
              first | have tz13735 := i_addT hz13735 (rfl : w37_6.toInt = w37_6.toInt) (kc_1 : (Int32.ofInt 1).toInt = 1) (by omega) (by omega) | skip
              refine q_goto (tgt := 37) hM dX12_parted_95 (by decide) ?_
              exact ih37 w37_4 w37_5 z13735 _ _ _ (by omega) hG (by omega) (by omega) (by omega) (BM_no i37_4 (by omega) (Or.inl (by rw [← ho9]; exact z_f hz13720 hz13721 (by omega)))) (lv_sub hl [1, 2, 3, 4, 5, 6, 0] rfl) hW
      have := kc_0
      have := kc_1000000000
      have := kc_1
      exact L37 _ (0 : Int32) (1000000000 : Int32) (1 : Int32) _ _ _ (Nat.lt_succ_self _) hG (by omega) (by omega) (by omega) (by rw [kc_1, kc_1000000000]; exact BM_0) (lv_sub hl [4, 5, 6, 3, 2, 1, 0] rfl) hW
    · refine q_iconst (v := ((-1) : Int32)) hM dX12_parted_18 (by decide) ?_
      exact hE _ _ _ _ _ _ hW.1 ⟨_, rfl, hW.2.1, hG, hW.2.2, (Or.inl ⟨fun q9 => by rcases hr13706 with h | h <;> first | (have q1 := q9.2.2.2.2.1; have q2 := q9.2.2.2.2.2; omega) | exact h.2 ⟨q9.1, q9.2.1, q9.2.2.1, q9.2.2.2.1⟩, kc_m1⟩)⟩ dX12_parted_19
