
set_option maxRecDepth 100000 in
set_option maxHeartbeats 4000000 in
theorem s_X9_noise (l : Launch) (D : va_G) (cA : Nat → ClassId) (ad : Nat → Nat) (g0 : Nat → va_E) (ro : Int32) (hSh : Shp ad cA g0) (hG : Rng g0) (hRw : ∀ p q : Nat, p < 8 → q < 8 → 0 ≤ (rX g0 p q).toInt ∧ (rX g0 p q).toInt ≤ 99) : CT l NN ad cA D yX9_noise cX9_noise 5 (some FieldType.int) (1, 21) [.ref (ad 102), .int ro] g0 (PU g0 (fun r => r.toInt = allX (rT (rX g0) ro) 8 ∧ 0 ≤ r.toInt ∧ r.toInt ≤ 6400)) := by
  refine q_enterI (by decide) (Nat.le_of_ble_eq_true rfl) rfl (fun K H locs ls _ _ hM hW0 hR hC hE hl => ?_)
  have hl : lv_has ls 5 [(0, .ref (ad 102)), (1, .int ro)] := hl
  have hW : WS ad cA (fun i k => False) g0 K g0 H locs := ⟨hW0, hSh, FR.rf⟩
  have := kc_0
  have := kc_1
  refine q_iconst (v := (0 : Int32)) hM dX9_noise_0 (by decide) ?_
  refine q_istore_n (lv9 := [(2, .int (0 : Int32)), (0, .ref (ad 102)), (1, .int ro)]) hM dX9_noise_1 hl (by decide) rfl (fun ls hl => ?_)
  refine q_iconst (v := (0 : Int32)) hM dX9_noise_2 (by decide) ?_
  refine q_istore_n (lv9 := [(3, .int (0 : Int32)), (2, .int (0 : Int32)), (0, .ref (ad 102)), (1, .int ro)]) hM dX9_noise_3 hl (by decide) rfl (fun ls hl => ?_)
  have L4 : ∀ (fu4 : Nat) (w4_2 : Int32) (w4_3 : Int32) (H : Heap) (locs : List Loc) (ls : Array Slot), (8 - w4_3.toInt).toNat < fu4 → (0 ≤ w4_3.toInt) → (w4_3.toInt ≤ 8) → (w4_2.toInt = allX (rT (rX g0) ro) w4_3.toInt.toNat) → (0 ≤ w4_2.toInt) → (w4_2.toInt ≤ 800 * w4_3.toInt) → lv_has ls 5 [(0, .ref (ad 102)), (1, .int ro), (2, .int w4_2), (3, .int w4_3)] → WS ad cA (fun i k => False) g0 K g0 H locs → XX K 0 0 H locs 4 ls [] := by
    intro fu4
    induction fu4 with
    | zero => intro w4_2 w4_3 H locs ls h0; omega
    | succ fu4 ih4 =>
      intro w4_2 w4_3 H locs ls hm4 i4_0 i4_1 i4_2 i4_3 i4_4 hl hW
      refine q_iload_n hM dX9_noise_4 (lv_at hl 3 rfl) ?_
      refine q_bipush (v := (8 : Int32)) hM dX9_noise_5 (by decide) ?_
      refine q_icmp_ge (tgt := 63) hM dX9_noise_7 (by decide) (rfl : w4_3.toInt = w4_3.toInt) (kc_8 : (8 : Int32).toInt = 8) (fun h7 => ?_) (fun h7 => ?_)
      · refine q_iload_n hM dX9_noise_63 (lv_at hl 2 rfl) ?_
        exact hE _ _ _ _ _ _ hW.1 ⟨_, rfl, (by have e9 := i4_2; rw [show w4_3.toInt.toNat = 8 by omega] at e9; exact ⟨e9, by omega, by omega⟩), rfl⟩ dX9_noise_64
      · refine q_iload_n hM dX9_noise_10 (lv_at hl 3 rfl) ?_
        refine q_iconst (v := (1 : Int32)) hM dX9_noise_11 (by decide) ?_
        refine q_iadd hM dX9_noise_12 (fun z13551 hz13551 => ?_)
        first | have tz13551 := i_addT hz13551 (rfl : w4_3.toInt = w4_3.toInt) (kc_1 : (1 : Int32).toInt = 1) (by omega) (by omega) | skip
        refine q_istore (lv9 := [(4, .int z13551), (0, .ref (ad 102)), (1, .int ro), (2, .int w4_2), (3, .int w4_3)]) hM dX9_noise_13 hl (by decide) rfl (fun ls hl => ?_)
        have L15 : ∀ (fu15 : Nat) (w15_2 : Int32) (w15_4 : Int32) (H : Heap) (locs : List Loc) (ls : Array Slot), (8 - w15_4.toInt).toNat < fu15 → (z13551.toInt ≤ w15_4.toInt) → (w15_4.toInt ≤ 8) → (w15_2.toInt = allX (rT (rX g0) ro) w4_3.toInt.toNat + rowX (rT (rX g0) ro) w4_3.toInt.toNat w15_4.toInt.toNat) → (0 ≤ w15_2.toInt) → (w15_2.toInt ≤ 800 * w4_3.toInt + 99 * w15_4.toInt) → lv_has ls 5 [(0, .ref (ad 102)), (1, .int ro), (2, .int w15_2), (3, .int w4_3), (4, .int w15_4)] → WS ad cA (fun i k => False) g0 K g0 H locs → XX K 0 0 H locs 15 ls [] := by
          intro fu15
          induction fu15 with
          | zero => intro w15_2 w15_4 H locs ls h0; omega
          | succ fu15 ih15 =>
            intro w15_2 w15_4 H locs ls hm15 i15_0 i15_1 i15_2 i15_3 i15_4 hl hW
            refine q_iload hM dX9_noise_15 (lv_at hl 4 rfl) ?_
            refine q_bipush (v := (8 : Int32)) hM dX9_noise_17 (by decide) ?_
            refine q_icmp_ge (tgt := 57) hM dX9_noise_19 (by decide) (rfl : w15_4.toInt = w15_4.toInt) (kc_8 : (8 : Int32).toInt = 8) (fun h19 => ?_) (fun h19 => ?_)
            · refine q_iinc (lv9 := fun z13554 => [(3, .int z13554), (0, .ref (ad 102)), (1, .int ro), (2, .int w15_2), (4, .int w15_4)]) hM dX9_noise_57 hl (kq := 3) rfl (by decide) (fun _ => rfl) (fun z13554 ls hz13554 hl => ?_)
              first | have tz13554 := i_addT hz13554 (rfl : w4_3.toInt = w4_3.toInt) (kc_1 : (Int32.ofInt 1).toInt = 1) (by omega) (by omega) | skip
              refine q_goto (tgt := 4) hM dX9_noise_60 (by decide) ?_
              exact ih4 w15_2 z13554 _ _ _ (by omega) (by omega) (by omega) (rx_end i15_2 (by omega) (by omega) (by omega)) (by omega) (by omega) (lv_sub hl [1, 2, 3, 0] rfl) hW
            · refine q_iload_n hM dX9_noise_22 (lv_at hl 1 rfl) ?_
              refine q_iload_n hM dX9_noise_23 (lv_at hl 3 rfl) ?_
              refine q_callN (host := "ForgetSchool") (As := [.int ro, .int w4_3]) (rest := []) hM hW.1 hR hC myX11_has (List.mem_of_getElem? (i := 12) rfl) (c_X11_has _ _ cA ad g0 ro w4_3 hW.2.1) ⟨by decide, by decide⟩ rfl rfl hl.1 (Nat.le_of_ble_eq_true rfl) dX9_noise_24 (fun v g13557 H locs hp hW1 => ?_)
              obtain ⟨r13556, rfl, hr13556, rfl⟩ := hp
              have hW : WS ad cA (fun i k => False) g0 K g0 H locs := ⟨hW1, hW.2.1, hW.2.2⟩
              have hbr13556 := has_bi hr13556
              have hcr13556 := bi_01 ro w4_3
              first | have ltr13556 := has_lt 5 hr13556 (by omega) (by omega) | have ltr13556 := has_lt 6 hr13556 (by omega) (by omega) | have ltr13556 := has_lt 8 hr13556 (by omega) (by omega) | have ltr13556 := has_lt 12 hr13556 (by omega) (by omega) | skip
              refine q_if_eq (tgt := 51) hM dX9_noise_27 (by decide) (rfl : r13556.toInt = r13556.toInt) (fun h27 => ?_) (fun h27 => ?_)
              · refine q_iinc (lv9 := fun z13559 => [(4, .int z13559), (0, .ref (ad 102)), (1, .int ro), (2, .int w15_2), (3, .int w4_3)]) hM dX9_noise_51 hl (kq := 4) rfl (by decide) (fun _ => rfl) (fun z13559 ls hz13559 hl => ?_)
                first | have tz13559 := i_addT hz13559 (rfl : w15_4.toInt = w15_4.toInt) (kc_1 : (Int32.ofInt 1).toInt = 1) (by omega) (by omega) | skip
                refine q_goto (tgt := 15) hM dX9_noise_54 (by decide) ?_
                exact ih15 w15_2 z13559 _ _ _ (by omega) (by omega) (by omega) (rx_no i15_2 (by omega) (by omega) (rT_a (has_f hr13556 (by omega) (by omega) (by omega)))) (by omega) (by omega) (lv_sub hl [1, 2, 3, 4, 0] rfl) hW
              · refine q_iload_n hM dX9_noise_30 (lv_at hl 1 rfl) ?_
                refine q_iload hM dX9_noise_31 (lv_at hl 4 rfl) ?_
                refine q_callN (host := "ForgetSchool") (As := [.int ro, .int w15_4]) (rest := []) hM hW.1 hR hC myX11_has (List.mem_of_getElem? (i := 12) rfl) (c_X11_has _ _ cA ad g0 ro w15_4 hW.2.1) ⟨by decide, by decide⟩ rfl rfl hl.1 (Nat.le_of_ble_eq_true rfl) dX9_noise_33 (fun v g13562 H locs hp hW1 => ?_)
                obtain ⟨r13561, rfl, hr13561, rfl⟩ := hp
                have hW : WS ad cA (fun i k => False) g0 K g0 H locs := ⟨hW1, hW.2.1, hW.2.2⟩
                have hbr13561 := has_bi hr13561
                have hcr13561 := bi_01 ro w15_4
                first | have ltr13561 := has_lt 5 hr13561 (by omega) (by omega) | have ltr13561 := has_lt 6 hr13561 (by omega) (by omega) | have ltr13561 := has_lt 8 hr13561 (by omega) (by omega) | have ltr13561 := has_lt 12 hr13561 (by omega) (by omega) | skip
                refine q_if_eq (tgt := 51) hM dX9_noise_36 (by decide) (rfl : r13561.toInt = r13561.toInt) (fun h36 => ?_) (fun h36 => ?_)
                · refine q_iinc (lv9 := fun z13564 => [(4, .int z13564), (0, .ref (ad 102)), (1, .int ro), (2, .int w15_2), (3, .int w4_3)]) hM dX9_noise_51 hl (kq := 4) rfl (by decide) (fun _ => rfl) (fun z13564 ls hz13564 hl => ?_)
                  first | have tz13564 := i_addT hz13564 (rfl : w15_4.toInt = w15_4.toInt) (kc_1 : (Int32.ofInt 1).toInt = 1) (by omega) (by omega) | skip
                  refine q_goto (tgt := 15) hM dX9_noise_54 (by decide) ?_
                  exact ih15 w15_2 z13564 _ _ _ (by omega) (by omega) (by omega) (rx_no i15_2 (by omega) (by omega) (rT_b (has_f hr13561 (by omega) (by omega) (by omega)))) (by omega) (by omega) (lv_sub hl [1, 2, 3, 4, 0] rfl) hW
                · refine q_iload_n hM dX9_noise_39 (lv_at hl 2 rfl) ?_
                  refine q_aload_n hM dX9_noise_40 (lv_at hl 0 rfl) ?_
                  refine w_get (v := .ref (ad 103)) hM hW FG_X9_11 lb_102 (rf_102_0 hW.2.1) dX9_noise_41 ?_
                  refine q_iload_n hM dX9_noise_44 (lv_at hl 3 rfl) ?_
                  refine w_aald hM hW lb_103 (Or.inl rfl) (i_in (by omega) (by omega)) (aq (aq_103 hW.2.1) (by omega) (by omega)) dX9_noise_45 ?_
                  refine q_iload hM dX9_noise_46 (lv_at hl 4 rfl) ?_
                  refine w_iald hM hW (lr_104 (by omega)) (i_in (by omega) (by omega)) dX9_noise_48 ?_
                  refine q_top (fun y13566 hy13566 => ?_)
                  have tyy13566 : y13566.toInt = (rX g0 w4_3.toInt.toNat w15_4.toInt.toNat).toInt := congrArg Int32.toInt hy13566
                  have rby13566 := hRw w4_3.toInt.toNat w15_4.toInt.toNat (by omega) (by omega)
                  refine q_iadd hM dX9_noise_49 (fun z13567 hz13567 => ?_)
                  first | have tz13567 := i_addT hz13567 (rfl : w15_2.toInt = w15_2.toInt) (rfl : y13566.toInt = y13566.toInt) (by omega) (by omega) | skip
                  refine q_istore_n (lv9 := [(2, .int z13567), (0, .ref (ad 102)), (1, .int ro), (3, .int w4_3), (4, .int w15_4)]) hM dX9_noise_50 hl (by decide) rfl (fun ls hl => ?_)
                  refine q_iinc (lv9 := fun z13568 => [(4, .int z13568), (2, .int z13567), (0, .ref (ad 102)), (1, .int ro), (3, .int w4_3)]) hM dX9_noise_51 hl (kq := 4) rfl (by decide) (fun _ => rfl) (fun z13568 ls hz13568 hl => ?_)
                  first | have tz13568 := i_addT hz13568 (rfl : w15_4.toInt = w15_4.toInt) (kc_1 : (Int32.ofInt 1).toInt = 1) (by omega) (by omega) | skip
                  refine q_goto (tgt := 15) hM dX9_noise_54 (by decide) ?_
                  exact ih15 z13567 z13568 _ _ _ (by omega) (by omega) (by omega) (rx_yes i15_2 (by omega) (by omega) (by omega) (rT_c (has_t hr13556 (by omega)) (has_t hr13561 (by omega))) (by omega)) (by omega) (by omega) (lv_sub hl [2, 3, 1, 4, 0] rfl) hW
        exact L15 _ w4_2 z13551 _ _ _ (Nat.lt_succ_self _) (by omega) (by omega) (rx_0 i4_2 (by omega) (by omega)) (by omega) (by omega) (lv_sub hl [1, 2, 3, 4, 0] rfl) hW
  have := kc_0
  have := kc_0
  exact L4 _ (0 : Int32) (0 : Int32) _ _ _ (Nat.lt_succ_self _) (by omega) (by omega) (by rw [kc_0]; rfl) (by omega) (by omega) (lv_sub hl [2, 3, 1, 0] rfl) hW


set_option maxRecDepth 100000 in
set_option maxHeartbeats 4000000 in
theorem s8_X11_lowestBit (l : Launch) (D : va_G) (cA : Nat → ClassId) (ad : Nat → Nat) (g0 : Nat → va_E) (b : Int32) (hSh : Shp ad cA g0) (hG : Rng g0) : CT l NN ad cA D yX11_lowestBit cX11_lowestBit 1 (some FieldType.int) (0, 0) [.int b] g0 (PU g0 (fun r => r = b &&& (-b))) := by
  refine q_enterI (by decide) (Nat.le_of_ble_eq_true rfl) rfl (fun K H locs ls _ _ hM hW0 hR hC hE hl => ?_)
  have hl : lv_has ls 1 [(0, .int b)] := hl
  have hW : WS ad cA (fun i k => False) g0 K g0 H locs := ⟨hW0, hSh, FR.rf⟩
  refine q_iload_n hM dX11_lowestBit_0 (lv_at hl 0 rfl) ?_
  refine q_iload_n hM dX11_lowestBit_1 (lv_at hl 0 rfl) ?_
  refine q_ineg hM dX11_lowestBit_2 (fun z13569 hz13569 => ?_)
  refine q_iand hM dX11_lowestBit_3 (fun z13570 hz13570 => ?_)
  exact hE _ _ _ _ _ _ hW.1 ⟨_, rfl, (by rw [hz13569, hz13570]), rfl⟩ dX11_lowestBit_4


set_option maxRecDepth 100000 in
set_option maxHeartbeats 4000000 in
theorem s_X9_calmestRoom (l : Launch) (D : va_G) (cA : Nat → ClassId) (ad : Nat → Nat) (g0 : Nat → va_E) (so : Int32) (hSh : Shp ad cA g0) (hG : Rng g0) (q0 : 0 ≤ so.toInt) (q1 : so.toInt < 256) (q2 : 2 ≤ cb so 12) (hRw : ∀ p q : Nat, p < 8 → q < 8 → 0 ≤ (rX g0 p q).toInt ∧ (rX g0 p q).toInt ≤ 99) : CT l NN ad cA D yX9_calmestRoom cX9_calmestRoom 7 (some FieldType.int) (2, 45) [.ref (ad 102), .int so] g0 (PU g0 (fun r => AR (vX (rX g0) so) (so &&& (so - 1)) r ∧ 0 ≤ r.toInt ∧ r.toInt < 256)) := by
  refine q_enterI (by decide) (Nat.le_of_ble_eq_true rfl) rfl (fun K H locs ls _ _ hM hW0 hR hC hE hl => ?_)
  have hl : lv_has ls 7 [(0, .ref (ad 102)), (1, .int so)] := hl
  have hW : WS ad cA (fun i k => False) g0 K g0 H locs := ⟨hW0, hSh, FR.rf⟩
  have := kc_0
  have := kc_1
  have hz9 := rest_of q0 q1 q2
  refine q_iload_n hM dX9_calmestRoom_0 (lv_at hl 1 rfl) ?_
  refine q_iload_n hM dX9_calmestRoom_1 (lv_at hl 1 rfl) ?_
  refine q_callN (host := "ForgetSchool") (As := [.int so]) (rest := [.int so]) hM hW.1 hR hC myX11_lowestBit (List.mem_of_getElem? (i := 11) rfl) (s8_X11_lowestBit _ _ cA ad g0 so hW.2.1 hG) ⟨by decide, by decide⟩ rfl rfl hl.1 (Nat.le_of_ble_eq_true rfl) dX9_calmestRoom_2 (fun v g13572 H locs hp hW1 => ?_)
  obtain ⟨r13571, rfl, hr13571, rfl⟩ := hp
  have hW : WS ad cA (fun i k => False) g0 K g0 H locs := ⟨hW1, hW.2.1, hW.2.2⟩
  refine q_iconst (v := ((-1) : Int32)) hM dX9_calmestRoom_5 (by decide) ?_
  refine q_ixor hM dX9_calmestRoom_6 (fun z13573 hz13573 => ?_)
  refine q_iand hM dX9_calmestRoom_7 (fun z13574 hz13574 => ?_)
  have ho9 : z13574 = (so &&& (so - 1)) := by rw [← hz9.1, ← hr13571, hz13573, hz13574]
  have hp9 : 1 ≤ z13574.toInt ∧ z13574.toInt < 256 := by rw [ho9]; exact ⟨hz9.2.1, hz9.2.2.1⟩
  refine q_istore_n (lv9 := [(2, .int z13574), (0, .ref (ad 102)), (1, .int so)]) hM dX9_calmestRoom_8 hl (by decide) rfl (fun ls hl => ?_)
  refine q_iload_n hM dX9_calmestRoom_9 (lv_at hl 0 rfl) ?_
  refine q_istore_n (lv9 := [(3, .int z13574), (2, .int z13574), (0, .ref (ad 102)), (1, .int so)]) hM dX9_calmestRoom_10 hl (by decide) rfl (fun ls hl => ?_)
  refine q_aload_n hM dX9_calmestRoom_11 (lv_at hl 2 rfl) ?_
  refine q_iload_n hM dX9_calmestRoom_12 (lv_at hl 1 rfl) ?_
  refine q_callV (As := [.int z13574]) (rest := []) hM hW.1 hR hC myX9_noise (kAW (v_3_11 (List.mem_of_getElem? (i := 12) rfl)) rfl) (rfl : vwCl[9]? = some (RX9, TX9, 5)) rfl lb_102.1 (shO hW.2.1 lb_102) (s_X9_noise _ _ cA ad g0 z13574 hW.2.1 hG hRw) ⟨by decide, by decide⟩ rfl rfl hl.1 (Nat.le_of_ble_eq_true rfl) dX9_calmestRoom_13 (fun v g13576 H locs hp hW1 => ?_)
  obtain ⟨r13575, rfl, hr13575, rfl⟩ := hp
  have hW : WS ad cA (fun i k => False) g0 K g0 H locs := ⟨hW1, hW.2.1, hW.2.2⟩
  refine q_istore (lv9 := [(4, .int r13575), (3, .int z13574), (2, .int z13574), (0, .ref (ad 102)), (1, .int so)]) hM dX9_calmestRoom_16 hl (by decide) rfl (fun ls hl => ?_)
  refine q_iconst (v := (1 : Int32)) hM dX9_calmestRoom_18 (by decide) ?_
  refine q_istore (lv9 := [(5, .int (1 : Int32)), (4, .int r13575), (3, .int z13574), (2, .int z13574), (0, .ref (ad 102)), (1, .int so)]) hM dX9_calmestRoom_19 hl (by decide) rfl (fun ls hl => ?_)
  have L21 : ∀ (fu21 : Nat) (w21_4 : Int32) (w21_3 : Int32) (w21_5 : Int32) (H : Heap) (locs : List Loc) (ls : Array Slot), (z13574.toInt - w21_5.toInt + 1).toNat < fu21 → (1 ≤ w21_5.toInt) → (1 ≤ w21_5.toInt) → (0 ≤ w21_3.toInt ∧ w21_3.toInt < 256) → (BR (vX (rX g0) so) (so &&& (so - 1)) w21_3 w21_4.toInt w21_5.toInt) → lv_has ls 7 [(0, .ref (ad 102)), (1, .int so), (2, .int z13574), (3, .int w21_3), (4, .int w21_4), (5, .int w21_5)] → WS ad cA (fun i k => False) g0 K g0 H locs → XX K 0 0 H locs 21 ls [] := by
    intro fu21
    induction fu21 with
    | zero => intro w21_4 w21_3 w21_5 H locs ls h0; omega
    | succ fu21 ih21 =>
      intro w21_4 w21_3 w21_5 H locs ls hm21 i21_0 i21_1 i21_2 i21_3 hl hW
      have := i_rng z13574
      refine q_iload hM dX9_calmestRoom_21 (lv_at hl 5 rfl) ?_
      refine q_iload_n hM dX9_calmestRoom_23 (lv_at hl 2 rfl) ?_
      refine q_icmp_ge (tgt := 88) hM dX9_calmestRoom_24 (by decide) (rfl : w21_5.toInt = w21_5.toInt) (rfl : z13574.toInt = z13574.toInt) (fun h24 => ?_) (fun h24 => ?_)
      · refine q_iload_n hM dX9_calmestRoom_88 (lv_at hl 3 rfl) ?_
        exact hE _ _ _ _ _ _ hW.1 ⟨_, rfl, ⟨BR_end i21_3 (by rw [← ho9]; omega) (by rw [← ho9]; omega), by omega, by omega⟩, rfl⟩ dX9_calmestRoom_89
      · refine q_iload hM dX9_calmestRoom_27 (lv_at hl 5 rfl) ?_
        refine q_iload_n hM dX9_calmestRoom_29 (lv_at hl 2 rfl) ?_
        refine q_callN (host := "ForgetSchool") (As := [.int w21_5, .int z13574]) (rest := []) hM hW.1 hR hC myX11_areOf (List.mem_of_getElem? (i := 13) rfl) (c_X11_areOf _ _ cA ad g0 w21_5 z13574 hW.2.1) ⟨by decide, by decide⟩ rfl rfl hl.1 (Nat.le_of_ble_eq_true rfl) dX9_calmestRoom_30 (fun v g13581 H locs hp hW1 => ?_)
        obtain ⟨r13580, rfl, hr13580, rfl⟩ := hp
        have hW : WS ad cA (fun i k => False) g0 K g0 H locs := ⟨hW1, hW.2.1, hW.2.2⟩
        refine q_if_eq (tgt := 82) hM dX9_calmestRoom_33 (by decide) (rfl : r13580.toInt = r13580.toInt) (fun h33 => ?_) (fun h33 => ?_)
        · refine q_iinc (lv9 := fun z13583 => [(5, .int z13583), (0, .ref (ad 102)), (1, .int so), (2, .int z13574), (3, .int w21_3), (4, .int w21_4)]) hM dX9_calmestRoom_82 hl (kq := 5) rfl (by decide) (fun _ => rfl) (fun z13583 ls hz13583 hl => ?_)
          first | have tz13583 := i_addT hz13583 (rfl : w21_5.toInt = w21_5.toInt) (kc_1 : (Int32.ofInt 1).toInt = 1) (by omega) (by omega) | skip
          refine q_goto (tgt := 21) hM dX9_calmestRoom_85 (by decide) ?_
          exact ih21 w21_4 w21_3 z13583 _ _ _ (by omega) (by omega) (by omega) (by omega) (BR_no i21_3 (by omega) (Or.inl (by unfold sub; rw [← ho9]; exact a_f hr13580 (by omega)))) (lv_sub hl [1, 2, 3, 4, 5, 0] rfl) hW
        · refine q_aload_n hM dX9_calmestRoom_36 (lv_at hl 0 rfl) ?_
          refine q_iload hM dX9_calmestRoom_37 (lv_at hl 5 rfl) ?_
          refine q_callV (As := [.int w21_5]) (rest := []) hM hW.1 hR hC myX9_noise (kAW (v_3_11 (List.mem_of_getElem? (i := 12) rfl)) rfl) (rfl : vwCl[9]? = some (RX9, TX9, 5)) rfl lb_102.1 (shO hW.2.1 lb_102) (s_X9_noise _ _ cA ad g0 w21_5 hW.2.1 hG hRw) ⟨by decide, by decide⟩ rfl rfl hl.1 (Nat.le_of_ble_eq_true rfl) dX9_calmestRoom_39 (fun v g13586 H locs hp hW1 => ?_)
          obtain ⟨r13585, rfl, hr13585, rfl⟩ := hp
          have hW : WS ad cA (fun i k => False) g0 K g0 H locs := ⟨hW1, hW.2.1, hW.2.2⟩
          refine q_aload_n hM dX9_calmestRoom_42 (lv_at hl 0 rfl) ?_
          refine q_iload_n hM dX9_calmestRoom_43 (lv_at hl 1 rfl) ?_
          refine q_iload hM dX9_calmestRoom_44 (lv_at hl 5 rfl) ?_
          refine q_iconst (v := ((-1) : Int32)) hM dX9_calmestRoom_46 (by decide) ?_
          refine q_ixor hM dX9_calmestRoom_47 (fun z13587 hz13587 => ?_)
          refine q_iand hM dX9_calmestRoom_48 (fun z13588 hz13588 => ?_)
          refine q_callV (As := [.int z13588]) (rest := [.int r13585]) hM hW.1 hR hC myX9_noise (kAW (v_3_11 (List.mem_of_getElem? (i := 12) rfl)) rfl) (rfl : vwCl[9]? = some (RX9, TX9, 5)) rfl lb_102.1 (shO hW.2.1 lb_102) (s_X9_noise _ _ cA ad g0 z13588 hW.2.1 hG hRw) ⟨by decide, by decide⟩ rfl rfl hl.1 (Nat.le_of_ble_eq_true rfl) dX9_calmestRoom_49 (fun v g13590 H locs hp hW1 => ?_)
          obtain ⟨r13589, rfl, hr13589, rfl⟩ := hp
          have hW : WS ad cA (fun i k => False) g0 K g0 H locs := ⟨hW1, hW.2.1, hW.2.2⟩
          refine q_iadd hM dX9_calmestRoom_52 (fun z13591 hz13591 => ?_)
          first | have tz13591 := i_addT hz13591 (rfl : r13585.toInt = r13585.toInt) (rfl : r13589.toInt = r13589.toInt) (by omega) (by omega) | skip
          refine q_istore (lv9 := [(6, .int z13591), (0, .ref (ad 102)), (1, .int so), (2, .int z13574), (3, .int w21_3), (4, .int w21_4), (5, .int w21_5)]) hM dX9_calmestRoom_53 hl (by decide) rfl (fun ls hl => ?_)
          refine q_iload hM dX9_calmestRoom_55 (lv_at hl 0 rfl) ?_
          refine q_iload hM dX9_calmestRoom_57 (lv_at hl 5 rfl) ?_
          refine q_icmp_lt (tgt := 75) hM dX9_calmestRoom_59 (by decide) (rfl : z13591.toInt = z13591.toInt) (rfl : w21_4.toInt = w21_4.toInt) (fun h59 => ?_) (fun h59 => ?_)
          · refine q_iload hM dX9_calmestRoom_75 (lv_at hl 0 rfl) ?_
            refine q_istore (lv9 := [(4, .int z13591), (6, .int z13591), (0, .ref (ad 102)), (1, .int so), (2, .int z13574), (3, .int w21_3), (5, .int w21_5)]) hM dX9_calmestRoom_77 hl (by decide) rfl (fun ls hl => ?_)
            refine q_iload hM dX9_calmestRoom_79 (lv_at hl 6 rfl) ?_
            refine q_istore_n (lv9 := [(3, .int w21_5), (4, .int z13591), (6, .int z13591), (0, .ref (ad 102)), (1, .int so), (2, .int z13574), (5, .int w21_5)]) hM dX9_calmestRoom_81 hl (by decide) rfl (fun ls hl => ?_)
            refine q_iinc (lv9 := fun z13593 => [(5, .int z13593), (3, .int w21_5), (4, .int z13591), (6, .int z13591), (0, .ref (ad 102)), (1, .int so), (2, .int z13574)]) hM dX9_calmestRoom_82 hl (kq := 6) rfl (by decide) (fun _ => rfl) (fun z13593 ls hz13593 hl => ?_)
            first | have tz13593 := i_addT hz13593 (rfl : w21_5.toInt = w21_5.toInt) (kc_1 : (Int32.ofInt 1).toInt = 1) (by omega) (by omega) | skip
            refine q_goto (tgt := 21) hM dX9_calmestRoom_85 (by decide) ?_
            exact ih21 z13591 w21_5 z13593 _ _ _ (by omega) (by omega) (by omega) (by omega) (BR_yes i21_3 (by omega) (by omega) (by unfold sub; rw [← ho9]; exact a_t hr13580 (by omega)) (by unfold vX; rw [hz13587, hz13588]; omega) (by omega)) (lv_sub hl [4, 5, 6, 1, 2, 0] rfl) hW
          · refine q_iload hM dX9_calmestRoom_62 (lv_at hl 0 rfl) ?_
            refine q_iload hM dX9_calmestRoom_64 (lv_at hl 5 rfl) ?_
            refine q_icmp_ne (tgt := 82) hM dX9_calmestRoom_66 (by decide) (rfl : z13591.toInt = z13591.toInt) (rfl : w21_4.toInt = w21_4.toInt) (fun h66 => ?_) (fun h66 => ?_)
            · refine q_iinc (lv9 := fun z13596 => [(5, .int z13596), (6, .int z13591), (0, .ref (ad 102)), (1, .int so), (2, .int z13574), (3, .int w21_3), (4, .int w21_4)]) hM dX9_calmestRoom_82 hl (kq := 6) rfl (by decide) (fun _ => rfl) (fun z13596 ls hz13596 hl => ?_)
              first | have tz13596 := i_addT hz13596 (rfl : w21_5.toInt = w21_5.toInt) (kc_1 : (Int32.ofInt 1).toInt = 1) (by omega) (by omega) | skip
              refine q_goto (tgt := 21) hM dX9_calmestRoom_85 (by decide) ?_
              exact ih21 w21_4 w21_3 z13596 _ _ _ (by omega) (by omega) (by omega) (by omega) (BR_no i21_3 (by omega) (Or.inr (by unfold vX; rw [hz13587, hz13588]; omega))) (lv_sub hl [2, 3, 4, 5, 6, 0] rfl) hW
            · refine q_iload hM dX9_calmestRoom_69 (lv_at hl 6 rfl) ?_
              refine q_iload_n hM dX9_calmestRoom_71 (lv_at hl 4 rfl) ?_
              refine q_icmp_ge (tgt := 82) hM dX9_calmestRoom_72 (by decide) (rfl : w21_5.toInt = w21_5.toInt) (rfl : w21_3.toInt = w21_3.toInt) (fun h72 => ?_) (fun h72 => ?_)
              · refine q_iinc (lv9 := fun z13599 => [(5, .int z13599), (6, .int z13591), (0, .ref (ad 102)), (1, .int so), (2, .int z13574), (3, .int w21_3), (4, .int w21_4)]) hM dX9_calmestRoom_82 hl (kq := 6) rfl (by decide) (fun _ => rfl) (fun z13599 ls hz13599 hl => ?_)
                first | have tz13599 := i_addT hz13599 (rfl : w21_5.toInt = w21_5.toInt) (kc_1 : (Int32.ofInt 1).toInt = 1) (by omega) (by omega) | skip
                refine q_goto (tgt := 21) hM dX9_calmestRoom_85 (by decide) ?_
                exact ih21 w21_4 w21_3 z13599 _ _ _ (by omega) (by omega) (by omega) (by omega) (BR_no i21_3 (by omega) (Or.inr (by unfold vX; rw [hz13587, hz13588]; omega))) (lv_sub hl [2, 3, 4, 5, 6, 0] rfl) hW
              · refine q_iload hM dX9_calmestRoom_75 (lv_at hl 0 rfl) ?_
                refine q_istore (lv9 := [(4, .int z13591), (6, .int z13591), (0, .ref (ad 102)), (1, .int so), (2, .int z13574), (3, .int w21_3), (5, .int w21_5)]) hM dX9_calmestRoom_77 hl (by decide) rfl (fun ls hl => ?_)
                refine q_iload hM dX9_calmestRoom_79 (lv_at hl 6 rfl) ?_
                refine q_istore_n (lv9 := [(3, .int w21_5), (4, .int z13591), (6, .int z13591), (0, .ref (ad 102)), (1, .int so), (2, .int z13574), (5, .int w21_5)]) hM dX9_calmestRoom_81 hl (by decide) rfl (fun ls hl => ?_)
                refine q_iinc (lv9 := fun z13601 => [(5, .int z13601), (3, .int w21_5), (4, .int z13591), (6, .int z13591), (0, .ref (ad 102)), (1, .int so), (2, .int z13574)]) hM dX9_calmestRoom_82 hl (kq := 6) rfl (by decide) (fun _ => rfl) (fun z13601 ls hz13601 hl => ?_)
                first | have tz13601 := i_addT hz13601 (rfl : w21_5.toInt = w21_5.toInt) (kc_1 : (Int32.ofInt 1).toInt = 1) (by omega) (by omega) | skip
                refine q_goto (tgt := 21) hM dX9_calmestRoom_85 (by decide) ?_
                exact ih21 z13591 w21_5 z13601 _ _ _ (by omega) (by omega) (by omega) (by omega) (BR_yes i21_3 (by omega) (by omega) (by unfold sub; rw [← ho9]; exact a_t hr13580 (by omega)) (by unfold vX; rw [hz13587, hz13588]; omega) (by omega)) (lv_sub hl [4, 5, 6, 1, 2, 0] rfl) hW
  have := kc_1
  exact L21 _ r13575 z13574 (1 : Int32) _ _ _ (Nat.lt_succ_self _) (by omega) (by omega) (by omega) (by rw [kc_1, ho9]; exact BR_0 (by rw [← ho9]; omega) (by unfold vX; rw [noise_1 (by omega) (by omega) (by omega), ← ho9]; omega)) (lv_sub hl [4, 5, 3, 2, 1, 0] rfl) hW


set_option maxRecDepth 100000 in
set_option maxHeartbeats 4000000 in
theorem s_X11_areSome (l : Launch) (D : va_G) (cA : Nat → ClassId) (ad : Nat → Nat) (g0 : Nat → va_E) (so : Int32) (td : Int32) (hSh : Shp ad cA g0) (hG : Rng g0) (h_td : fld g0 18 3 = .int td) : CT l NN ad cA D yX11_areSome cX11_areSome 2 (some FieldType.boolean) (1, 21) [.ref (ad 0), .int so] g0 (PU g0 (fun r => (r.toInt = 1 ∧ so &&& (td ^^^ (-1)) = 0 ∧ 0 ≤ so.toInt ∧ so.toInt < 256 ∧ 2 ≤ cb so 12) ∨ (r.toInt = 0 ∧ ¬ (so &&& (td ^^^ (-1)) = 0 ∧ 2 ≤ cb so 12)))) := by
  refine q_enterZ (by decide) (Nat.le_of_ble_eq_true rfl) (fun K H locs ls _ _ hM hW0 hR hC hE hl => ?_)
  have hl : lv_has ls 2 [(0, .ref (ad 0)), (1, .int so)] := hl
  have hW : WS ad cA (fun i k => False) g0 K g0 H locs := ⟨hW0, hSh, FR.rf⟩
  have := kc_0
  have := kc_1
  have := kc_2
  have bt9 := hG.f h_td rF_18_3 (by decide)
  refine q_iload_n hM dX11_areSome_0 (lv_at hl 1 rfl) ?_
  refine q_aload_n hM dX11_areSome_1 (lv_at hl 0 rfl) ?_
  refine w_get (v := .ref (ad 18)) hM hW FG_X11_26 lb_0 (rf_0_10 hW.2.1) dX11_areSome_2 ?_
  refine w_get (v := .int td) hM hW FG_X11_135 lb_18 ((hW.2.2.1 18 3 (fun h => h)).trans h_td) dX11_areSome_5 ?_
  refine q_callS (As := [.int so, .int td]) (rest := []) hM hW.1 hR hC myX11_areOf (kAW (v_3_4 (List.mem_of_getElem? (i := 6) rfl)) rfl) (c_X11_areOf _ _ cA ad g0 so td hW.2.1) ⟨by decide, by decide⟩ rfl rfl hl.1 (Nat.le_of_ble_eq_true rfl) dX11_areSome_8 (fun v g13603 H locs hp hW1 => ?_)
  obtain ⟨r13602, rfl, hr13602, rfl⟩ := hp
  have hW : WS ad cA (fun i k => False) g0 K g0 H locs := ⟨hW1, hW.2.1, hW.2.2⟩
  refine q_if_eq (tgt := 26) hM dX11_areSome_11 (by decide) (rfl : r13602.toInt = r13602.toInt) (fun h11 => ?_) (fun h11 => ?_)
  · refine q_iconst (v := (0 : Int32)) hM dX11_areSome_26 (by decide) ?_
    exact hE _ _ _ _ _ _ hW.1 nz_0 ⟨_, rfl, (Or.inr ⟨by omega, fun q9 => a_f hr13602 (by omega) q9.1⟩), rfl⟩ dX11_areSome_27
  · refine q_iload_n hM dX11_areSome_14 (lv_at hl 1 rfl) ?_
    refine q_callS (As := [.int so]) (rest := []) hM hW.1 hR hC myJ6_bitCount_0f7a4 (kAW (v_3_1 (List.mem_of_getElem? (i := 2) rfl)) rfl) (c_J6_bitCount_0f7a4 _ _ cA ad g0 so hW.2.1) ⟨by decide, by decide⟩ rfl rfl hl.1 (Nat.le_of_ble_eq_true rfl) dX11_areSome_15 (fun v g13607 H locs hp hW1 => ?_)
    obtain ⟨r13606, rfl, hr13606, rfl⟩ := hp
    have hW : WS ad cA (fun i k => False) g0 K g0 H locs := ⟨hW1, hW.2.1, hW.2.2⟩
    have in9 := sub_in (by omega) (a_t hr13602 (by omega))
    have n9 := (congrArg Int32.toInt hr13606).trans (bc_cb (by omega) (by omega))
    refine q_iconst (v := (2 : Int32)) hM dX11_areSome_18 (by decide) ?_
    refine q_icmp_lt (tgt := 26) hM dX11_areSome_19 (by decide) (rfl : r13606.toInt = r13606.toInt) (kc_2 : (2 : Int32).toInt = 2) (fun h19 => ?_) (fun h19 => ?_)
    · refine q_iconst (v := (0 : Int32)) hM dX11_areSome_26 (by decide) ?_
      exact hE _ _ _ _ _ _ hW.1 nz_0 ⟨_, rfl, (Or.inr ⟨by omega, fun q9 => by have := q9.2; omega⟩), rfl⟩ dX11_areSome_27
    · refine q_iconst (v := (1 : Int32)) hM dX11_areSome_22 (by decide) ?_
      refine q_goto (tgt := 27) hM dX11_areSome_23 (by decide) ?_
      exact hE _ _ _ _ _ _ hW.1 nz_1 ⟨_, rfl, (Or.inl ⟨by omega, a_t hr13602 (by omega), by omega, by omega, by omega⟩), rfl⟩ dX11_areSome_27


set_option maxRecDepth 100000 in
set_option maxHeartbeats 4000000 in
theorem s_X11_parted (l : Launch) (D : va_G) (cA : Nat → ClassId) (ad : Nat → Nat) (g0 : Nat → va_E) (a : Int32) (b : Int32) (td : Int32)  (hSh : Shp ad cA g0) (hG : Rng g0) (h_td : fld g0 18 3 = .int td) (hRw : ∀ p q : Nat, p < 8 → q < 8 → 0 ≤ (rX g0 p q).toInt ∧ (rX g0 p q).toInt ≤ 99) : CT l NN ad cA D yX11_parted cX11_parted 4 (some FieldType.int) (3, 71) [.ref (ad 0), .int a, .int b] g0 (fun v g' => ∃ (r : Int32), v = some (.int r) ∧ Shp ad cA g' ∧ Rng g' ∧ FR (fun i k => False) g0 g' ∧ ((¬ (a &&& (td ^^^ (-1)) = 0 ∧ 2 ≤ cb a 12 ∧ 0 ≤ b.toInt ∧ b.toInt ≤ 1) ∧ r.toInt = -1) ∨ ((a &&& (td ^^^ (-1)) = 0 ∧ 2 ≤ cb a 12 ∧ 0 ≤ b.toInt ∧ b.toInt ≤ 1) ∧ ∃ m9 : Int32, AR (vX (rX g0) a) (a &&& (a - 1)) m9 ∧ ((b.toInt = 1 ∧ r = m9) ∨ (b.toInt ≠ 1 ∧ r.toInt = vX (rX g0) a m9))))) := by
  refine q_enterI (by decide) (Nat.le_of_ble_eq_true rfl) rfl (fun K H locs ls _ _ hM hW0 hR hC hE hl => ?_)
  have hl : lv_has ls 4 [(0, .ref (ad 0)), (1, .int a), (2, .int b)] := hl
  have hW : WS ad cA (fun i k => False) g0 K g0 H locs := ⟨hW0, hSh, FR.rf⟩
  have b_td := hG.f h_td rF_18_3 (by decide)
  have := kc_0
  have := kc_1
  have := kc_m1
  refine q_aload_n hM dX11_parted_0 (lv_at hl 0 rfl) ?_
  refine q_iload_n hM dX11_parted_1 (lv_at hl 1 rfl) ?_
  refine q_callV (As := [.int a]) (rest := []) hM hW.1 hR hC myX11_areSome (kAW (v_3_10 (List.mem_of_getElem? (i := 2) rfl)) rfl) (rfl : vwCl[11]? = some (RX11, TX11, 16)) rfl lb_0.1 (shO hW.2.1 lb_0) (s_X11_areSome _ _ cA ad g0 a td hW.2.1 hG ((hW.2.2.1 18 3 (fun h => h)).trans h_td)) ⟨by decide, by decide⟩ rfl rfl hl.1 (Nat.le_of_ble_eq_true rfl) dX11_parted_2 (fun v g13611 H locs hp hW1 => ?_)
  obtain ⟨r13610, rfl, hr13610, rfl⟩ := hp
  have hW : WS ad cA (fun i k => False) g0 K g0 H locs := ⟨hW1, hW.2.1, hW.2.2⟩
  refine q_if_eq (tgt := 17) hM dX11_parted_5 (by decide) (rfl : r13610.toInt = r13610.toInt) (fun h5 => ?_) (fun h5 => ?_)
  · refine q_iconst (v := ((-1) : Int32)) hM dX11_parted_17 (by decide) ?_
    exact hE _ _ _ _ _ _ hW.1 ⟨_, rfl, hW.2.1, hG, hW.2.2, (Or.inl ⟨fun q9 => by rcases hr13610 with h | h <;> first | omega | exact h.2 ⟨q9.1, q9.2.1⟩, kc_m1⟩)⟩ dX11_parted_18
  · refine q_iload_n hM dX11_parted_8 (lv_at hl 2 rfl) ?_
    refine q_iconst (v := (0 : Int32)) hM dX11_parted_9 (by decide) ?_
    refine q_iconst (v := (1 : Int32)) hM dX11_parted_10 (by decide) ?_
    refine q_callS (As := [.int b, .int (0 : Int32), .int (1 : Int32)]) (rest := []) hM hW.1 hR hC myX11_within (kAW (v_1_10 (List.mem_of_getElem? (i := 1) rfl)) rfl) (c_X11_within _ _ cA ad g0 b (0 : Int32) (1 : Int32) hW.2.1) ⟨by decide, by decide⟩ rfl rfl hl.1 (Nat.le_of_ble_eq_true rfl) dX11_parted_11 (fun v g13615 H locs hp hW1 => ?_)
    obtain ⟨r13614, rfl, hr13614, rfl⟩ := hp
    have hW : WS ad cA (fun i k => False) g0 K g0 H locs := ⟨hW1, hW.2.1, hW.2.2⟩
    have := kc_0
    have := kc_1
    refine q_if_ne (tgt := 19) hM dX11_parted_14 (by decide) (rfl : r13614.toInt = r13614.toInt) (fun h14 => ?_) (fun h14 => ?_)
    · refine q_aload_n hM dX11_parted_19 (lv_at hl 0 rfl) ?_
      refine w_get (v := .ref (ad 102)) hM hW FG_X11_90 lb_0 (rf_0_3 hW.2.1) dX11_parted_20 ?_
      refine q_iload_n hM dX11_parted_23 (lv_at hl 1 rfl) ?_
      refine q_callV (As := [.int a]) (rest := []) hM hW.1 hR hC myX9_calmestRoom (kAW (v_3_11 (List.mem_of_getElem? (i := 7) rfl)) rfl) (rfl : vwCl[9]? = some (RX9, TX9, 5)) rfl lb_102.1 (shO hW.2.1 lb_102) (s_X9_calmestRoom _ _ cA ad g0 a hW.2.1 hG (by  omega) (by  omega) (by  omega) hRw) ⟨by decide, by decide⟩ rfl rfl hl.1 (Nat.le_of_ble_eq_true rfl) dX11_parted_24 (fun v g13618 H locs hp hW1 => ?_)
      obtain ⟨r13617, rfl, hr13617, rfl⟩ := hp
      have hW : WS ad cA (fun i k => False) g0 K g0 H locs := ⟨hW1, hW.2.1, hW.2.2⟩
      refine q_istore_n (lv9 := [(3, .int r13617), (0, .ref (ad 0)), (1, .int a), (2, .int b)]) hM dX11_parted_27 hl (by decide) rfl (fun ls hl => ?_)
      refine q_iload_n hM dX11_parted_28 (lv_at hl 3 rfl) ?_
      refine q_iconst (v := (1 : Int32)) hM dX11_parted_29 (by decide) ?_
      refine q_icmp_ne (tgt := 37) hM dX11_parted_30 (by decide) (rfl : b.toInt = b.toInt) (kc_1 : (1 : Int32).toInt = 1) (fun h30 => ?_) (fun h30 => ?_)
      · refine q_aload_n hM dX11_parted_37 (lv_at hl 1 rfl) ?_
        refine w_get (v := .ref (ad 102)) hM hW FG_X11_90 lb_0 (rf_0_3 hW.2.1) dX11_parted_38 ?_
        refine q_iload_n hM dX11_parted_41 (lv_at hl 0 rfl) ?_
        refine q_callV (As := [.int r13617]) (rest := []) hM hW.1 hR hC myX9_noise (kAW (v_3_12 (List.mem_of_getElem? (i := 2) rfl)) rfl) (rfl : vwCl[9]? = some (RX9, TX9, 5)) rfl lb_102.1 (shO hW.2.1 lb_102) (s_X9_noise _ _ cA ad g0 r13617 hW.2.1 hG hRw) ⟨by decide, by decide⟩ rfl rfl hl.1 (Nat.le_of_ble_eq_true rfl) dX11_parted_42 (fun v g13621 H locs hp hW1 => ?_)
        obtain ⟨r13620, rfl, hr13620, rfl⟩ := hp
        have hW : WS ad cA (fun i k => False) g0 K g0 H locs := ⟨hW1, hW.2.1, hW.2.2⟩
        refine q_aload_n hM dX11_parted_45 (lv_at hl 1 rfl) ?_
        refine w_get (v := .ref (ad 102)) hM hW FG_X11_90 lb_0 (rf_0_3 hW.2.1) dX11_parted_46 ?_
        refine q_iload_n hM dX11_parted_49 (lv_at hl 2 rfl) ?_
        refine q_iload_n hM dX11_parted_50 (lv_at hl 0 rfl) ?_
        refine q_iconst (v := ((-1) : Int32)) hM dX11_parted_51 (by decide) ?_
        refine q_ixor hM dX11_parted_52 (fun z13622 hz13622 => ?_)
        refine q_iand hM dX11_parted_53 (fun z13623 hz13623 => ?_)
        refine q_callV (As := [.int z13623]) (rest := [.int r13620]) hM hW.1 hR hC myX9_noise (kAW (v_3_12 (List.mem_of_getElem? (i := 2) rfl)) rfl) (rfl : vwCl[9]? = some (RX9, TX9, 5)) rfl lb_102.1 (shO hW.2.1 lb_102) (s_X9_noise _ _ cA ad g0 z13623 hW.2.1 hG hRw) ⟨by decide, by decide⟩ rfl rfl hl.1 (Nat.le_of_ble_eq_true rfl) dX11_parted_54 (fun v g13625 H locs hp hW1 => ?_)
        obtain ⟨r13624, rfl, hr13624, rfl⟩ := hp
        have hW : WS ad cA (fun i k => False) g0 K g0 H locs := ⟨hW1, hW.2.1, hW.2.2⟩
        refine q_iadd hM dX11_parted_57 (fun z13626 hz13626 => ?_)
        first | have tz13626 := i_addT hz13626 (rfl : r13620.toInt = r13620.toInt) (rfl : r13624.toInt = r13624.toInt) (by omega) (by omega) | skip
        exact hE _ _ _ _ _ _ hW.1 ⟨_, rfl, hW.2.1, hG, hW.2.2, (Or.inr ⟨⟨by rcases hr13610 with h | h; exact h.2.1; omega, by omega, by omega, by omega⟩, _, hr13617.1, Or.inr ⟨by omega, by unfold vX; rw [hz13622, hz13623]; omega⟩⟩)⟩ dX11_parted_58
      · refine q_iload_n hM dX11_parted_33 (lv_at hl 0 rfl) ?_
        refine q_goto (tgt := 58) hM dX11_parted_34 (by decide) ?_
        exact hE _ _ _ _ _ _ hW.1 ⟨_, rfl, hW.2.1, hG, hW.2.2, (Or.inr ⟨⟨by rcases hr13610 with h | h; exact h.2.1; omega, by omega, by omega, by omega⟩, _, hr13617.1, Or.inl ⟨by omega, rfl⟩⟩)⟩ dX11_parted_58
    · refine q_iconst (v := ((-1) : Int32)) hM dX11_parted_17 (by decide) ?_
      exact hE _ _ _ _ _ _ hW.1 ⟨_, rfl, hW.2.1, hG, hW.2.2, (Or.inl ⟨fun q9 => by rcases hr13610 with h | h <;> first | omega | exact h.2 ⟨q9.1, q9.2.1⟩, kc_m1⟩)⟩ dX11_parted_18


set_option maxRecDepth 100000 in
set_option maxHeartbeats 4000000 in
theorem s_X12_isThat (l : Launch) (D : va_G) (cA : Nat → ClassId) (ad : Nat → Nat) (g0 : Nat → va_E) (i : Int32) (hSh : Shp ad cA g0) (hG : Rng g0) : CT l NN ad cA D yX12_isThat cX12_isThat 2 (some FieldType.boolean) (1, 25) [.ref (ad 129), .int i] g0 (PU g0 (fun r => r.toInt = ti (arI g0 158) 8 i ∧ (r.toInt = 0 ∨ (r.toInt = 1 ∧ 0 ≤ i.toInt ∧ i.toInt < 8)))) := by
  refine q_enterZ (by decide) (Nat.le_of_ble_eq_true rfl) (fun K H locs ls _ _ hM hW0 hR hC hE hl => ?_)
  have hl : lv_has ls 2 [(0, .ref (ad 129)), (1, .int i)] := hl
  have hW : WS ad cA (fun i k => False) g0 K g0 H locs := ⟨hW0, hSh, FR.rf⟩
  have := kc_0
  have := kc_1
  refine q_iload_n hM dX12_isThat_0 (lv_at hl 1 rfl) ?_
  refine q_i2l hM dX12_isThat_1 ?_
  have := l_i2l i
  refine q_lconst (v := 0) hM dX12_isThat_2 (by decide) ?_
  have := kl_0
  refine q_ldc2 (v := 7) hM (kAW (v_6_2 (List.mem_of_getElem? (i := 3) rfl)) rfl) dX12_isThat_3 ?_
  have := kl_7
  refine q_callS (As := [.long i.toInt64, .long (0 : Int64), .long (7 : Int64)]) (rest := []) hM hW.1 hR hC myX12_lies (kAW (v_5_4 (List.mem_of_getElem? (i := 14) rfl)) rfl) (c_X12_lies _ _ cA ad g0 i.toInt64 (0 : Int64) (7 : Int64) hW.2.1) ⟨by decide, by decide⟩ rfl rfl hl.1 (Nat.le_of_ble_eq_true rfl) dX12_isThat_6 (fun v g13630 H locs hp hW1 => ?_)
  obtain ⟨r13629, rfl, hr13629, rfl⟩ := hp
  have hW : WS ad cA (fun i k => False) g0 K g0 H locs := ⟨hW1, hW.2.1, hW.2.2⟩
  refine q_if_eq (tgt := 25) hM dX12_isThat_9 (by decide) (rfl : r13629.toInt = r13629.toInt) (fun h9 => ?_) (fun h9 => ?_)
  · refine q_iconst (v := (0 : Int32)) hM dX12_isThat_25 (by decide) ?_
    exact hE _ _ _ _ _ _ hW.1 nz_0 ⟨_, rfl, ⟨(by unfold ti; rw [if_neg (fun ⟨h3, h4, h5⟩ => by omega)]; exact kc_0), by omega⟩, rfl⟩ dX12_isThat_26
  · refine q_aload_n hM dX12_isThat_12 (lv_at hl 0 rfl) ?_
    refine w_get (v := .ref (ad 158)) hM hW FG_X12_100 lb_129 (rf_129_52 hW.2.1) dX12_isThat_13 ?_
    refine q_iload_n hM dX12_isThat_16 (lv_at hl 1 rfl) ?_
    refine w_zald hM hW lb_158 (i_in (by omega) (by omega)) dX12_isThat_17 ?_
    refine q_top (fun y13633 hy13633 => ?_)
    refine q_if_eq (tgt := 25) hM dX12_isThat_18 (by decide) (rfl : y13633.toInt = y13633.toInt) (fun h18 => ?_) (fun h18 => ?_)
    · refine q_iconst (v := (0 : Int32)) hM dX12_isThat_25 (by decide) ?_
      exact hE _ _ _ _ _ _ hW.1 nz_0 ⟨_, rfl, ⟨(by unfold ti; rw [if_neg (fun ⟨h3, h4, h5⟩ => absurd h5 (by show ¬ (arI g0 158 i.toNatClampNeg).toInt ≠ 0; rw [← hy13633]; omega))]; exact kc_0), by omega⟩, rfl⟩ dX12_isThat_26
    · refine q_iconst (v := (1 : Int32)) hM dX12_isThat_21 (by decide) ?_
      refine q_goto (tgt := 26) hM dX12_isThat_22 (by decide) ?_
      exact hE _ _ _ _ _ _ hW.1 nz_1 ⟨_, rfl, ⟨(by unfold ti; rw [if_pos ⟨by omega, by omega, by show (arI g0 158 i.toNatClampNeg).toInt ≠ 0; rw [← hy13633]; omega⟩]; exact kc_1), by omega⟩, rfl⟩ dX12_isThat_26


set_option maxRecDepth 100000 in
set_option maxHeartbeats 4000000 in
theorem s_X12_sizeOf (l : Launch) (D : va_G) (cA : Nat → ClassId) (ad : Nat → Nat) (g0 : Nat → va_E) (s : Int32) (hSh : Shp ad cA g0) (hG : Rng g0) (h0 : 0 ≤ s.toInt) (h1 : s.toInt < 4096) : CT l NN ad cA D yX12_sizeOf cX12_sizeOf 3 (some FieldType.int) (0, 0) [.int s] g0 (PU g0 (fun r => r.toInt = cb s 12)) := by
  refine q_enterI (by decide) (Nat.le_of_ble_eq_true rfl) rfl (fun K H locs ls _ _ hM hW0 hR hC hE hl => ?_)
  have hl : lv_has ls 3 [(0, .int s)] := hl
  have hW : WS ad cA (fun i k => False) g0 K g0 H locs := ⟨hW0, hSh, FR.rf⟩
  have := i_rng s
  have := kc_0
  have cb9 := cb_le s 12
  refine q_iconst (v := (0 : Int32)) hM dX12_sizeOf_0 (by decide) ?_
  refine q_istore_n (lv9 := [(1, .int (0 : Int32)), (0, .int s)]) hM dX12_sizeOf_1 hl (by decide) rfl (fun ls hl => ?_)
  refine q_iload_n hM dX12_sizeOf_2 (lv_at hl 1 rfl) ?_
  refine q_istore_n (lv9 := [(2, .int s), (1, .int (0 : Int32)), (0, .int s)]) hM dX12_sizeOf_3 hl (by decide) rfl (fun ls hl => ?_)
  have L4 : ∀ (fu4 : Nat) (w4_1 : Int32) (w4_2 : Int32) (H : Heap) (locs : List Loc) (ls : Array Slot), w4_2.toInt.toNat < fu4 → (0 ≤ w4_2.toInt) → (w4_2.toInt ≤ s.toInt) → (0 ≤ w4_1.toInt) → (w4_1.toInt + cb w4_2 12 = cb s 12) → lv_has ls 3 [(0, .int s), (1, .int w4_1), (2, .int w4_2)] → WS ad cA (fun i k => False) g0 K g0 H locs → XX K 0 0 H locs 4 ls [] := by
    intro fu4
    induction fu4 with
    | zero => intro w4_1 w4_2 H locs ls h0; omega
    | succ fu4 ih4 =>
      intro w4_1 w4_2 H locs ls hm4 i4_0 i4_1 i4_2 i4_3 hl hW
      have cb8 := cb_le w4_2 12
      refine q_iload_n hM dX12_sizeOf_4 (lv_at hl 2 rfl) ?_
      refine q_if_eq (tgt := 20) hM dX12_sizeOf_5 (by decide) (rfl : w4_2.toInt = w4_2.toInt) (fun h5 => ?_) (fun h5 => ?_)
      · refine q_iload_n hM dX12_sizeOf_20 (lv_at hl 1 rfl) ?_
        exact hE _ _ _ _ _ _ hW.1 ⟨_, rfl, (by have z9 := cb_00 (x := w4_2) (by omega); omega), rfl⟩ dX12_sizeOf_21
      · refine q_iinc (lv9 := fun z13639 => [(1, .int z13639), (0, .int s), (2, .int w4_2)]) hM dX12_sizeOf_8 hl (kq := 1) rfl (by decide) (fun _ => rfl) (fun z13639 ls hz13639 hl => ?_)
        first | have tz13639 := i_addT hz13639 (rfl : w4_1.toInt = w4_1.toInt) (kc_1 : (Int32.ofInt 1).toInt = 1) (by omega) (by omega) | skip
        refine q_iload_n hM dX12_sizeOf_11 (lv_at hl 2 rfl) ?_
        refine q_iload_n hM dX12_sizeOf_12 (lv_at hl 2 rfl) ?_
        refine q_iconst (v := (1 : Int32)) hM dX12_sizeOf_13 (by decide) ?_
        refine q_isub hM dX12_sizeOf_14 (fun z13640 hz13640 => ?_)
        first | have tz13640 := i_subT hz13640 (rfl : w4_2.toInt = w4_2.toInt) (kc_1 : (1 : Int32).toInt = 1) (by omega) (by omega) | skip
        refine q_iand hM dX12_sizeOf_15 (fun z13641 hz13641 => ?_)
        have al := i_and_le hz13641 (by omega) (by omega)
        refine q_istore_n (lv9 := [(2, .int z13641), (1, .int z13639), (0, .int s)]) hM dX12_sizeOf_16 hl (by decide) rfl (fun ls hl => ?_)
        refine q_goto (tgt := 4) hM dX12_sizeOf_17 (by decide) ?_
        exact ih4 z13639 z13641 _ _ _ (by omega) (by omega) (by omega) (by omega) (by have p9 := sz_cb hz13640 hz13641 (by omega) (by omega); omega) (lv_sub hl [2, 1, 0] rfl) hW
  have := kc_0
  exact L4 _ (0 : Int32) s _ _ _ (Nat.lt_succ_self _) (by omega) (by omega) (by omega) (by omega) (lv_sub hl [2, 1, 0] rfl) hW


set_option maxRecDepth 100000 in
set_option maxHeartbeats 4000000 in
theorem s_X12_reminds (l : Launch) (D : va_G) (cA : Nat → ClassId) (ad : Nat → Nat) (g0 : Nat → va_E) (a : Int32) (b : Int32) (c : Int32)   (hSh : Shp ad cA g0) (hG : Rng g0) : CT l NN ad cA D yX12_reminds cX12_reminds 4 (some FieldType.boolean) (2, 46) [.ref (ad 129), .int a, .int b, .int c] g0 (fun v g' => ∃ (r : Int32), v = some (.int r) ∧ Shp ad cA g' ∧ Rng g' ∧ FR (fun i k => i = 175) g0 g' ∧ (((ti (arI g0 158) 8 a = 1 ∧ ti (arI g0 158) 8 b = 1 ∧ a.toInt ≠ b.toInt ∧ 0 ≤ c.toInt ∧ c.toInt ≤ 99) ∧ arI g' 175 = upd (upd (arI g0 175) (8 * a.toInt.toNat + b.toInt.toNat) c) (8 * b.toInt.toNat + a.toInt.toNat) c) ∨ (¬ (ti (arI g0 158) 8 a = 1 ∧ ti (arI g0 158) 8 b = 1 ∧ a.toInt ≠ b.toInt ∧ 0 ≤ c.toInt ∧ c.toInt ≤ 99) ∧ arI g' 175 = arI g0 175)) ∧ (r.toInt = 0 ∨ r.toInt = 1)) := by
  refine q_enterZ (by decide) (Nat.le_of_ble_eq_true rfl) (fun K H locs ls _ _ hM hW0 hR hC hE hl => ?_)
  have hl : lv_has ls 4 [(0, .ref (ad 129)), (1, .int a), (2, .int b), (3, .int c)] := hl
  have hW : WS ad cA (fun i k => i = 175) g0 K g0 H locs := ⟨hW0, hSh, FR.rf⟩
  have := kc_0
  have := kc_1
  refine q_aload_n hM dX12_reminds_0 (lv_at hl 0 rfl) ?_
  refine q_iload_n hM dX12_reminds_1 (lv_at hl 1 rfl) ?_
  refine q_callV (As := [.int a]) (rest := []) hM hW.1 hR hC myX12_isThat (kAW (v_6_2 (List.mem_of_getElem? (i := 9) rfl)) rfl) (rfl : vwCl[12]? = some (RX12, TX12, 86)) rfl lb_129.1 (shO hW.2.1 lb_129) (s_X12_isThat _ _ cA ad g0 a hW.2.1 hG) ⟨by decide, by decide⟩ rfl rfl hl.1 (Nat.le_of_ble_eq_true rfl) dX12_reminds_2 (fun v g13643 H locs hp hW1 => ?_)
  obtain ⟨r13642, rfl, hr13642, rfl⟩ := hp
  have hW : WS ad cA (fun i k => i = 175) g0 K g0 H locs := ⟨hW1, hW.2.1, hW.2.2⟩
  refine q_if_eq (tgt := 33) hM dX12_reminds_5 (by decide) (rfl : r13642.toInt = r13642.toInt) (fun h5 => ?_) (fun h5 => ?_)
  · refine q_iconst (v := (0 : Int32)) hM dX12_reminds_33 (by decide) ?_
    exact hE _ _ _ _ _ _ hW.1 nz_0 ⟨_, rfl, hW.2.1, hG, hW.2.2, (Or.inr ⟨by omega, rfl⟩), (by have := kc_0; omega)⟩ dX12_reminds_34
  · refine q_aload_n hM dX12_reminds_8 (lv_at hl 0 rfl) ?_
    refine q_iload_n hM dX12_reminds_9 (lv_at hl 2 rfl) ?_
    refine q_callV (As := [.int b]) (rest := []) hM hW.1 hR hC myX12_isThat (kAW (v_6_2 (List.mem_of_getElem? (i := 9) rfl)) rfl) (rfl : vwCl[12]? = some (RX12, TX12, 86)) rfl lb_129.1 (shO hW.2.1 lb_129) (s_X12_isThat _ _ cA ad g0 b hW.2.1 hG) ⟨by decide, by decide⟩ rfl rfl hl.1 (Nat.le_of_ble_eq_true rfl) dX12_reminds_10 (fun v g13647 H locs hp hW1 => ?_)
    obtain ⟨r13646, rfl, hr13646, rfl⟩ := hp
    have hW : WS ad cA (fun i k => i = 175) g0 K g0 H locs := ⟨hW1, hW.2.1, hW.2.2⟩
    refine q_if_eq (tgt := 33) hM dX12_reminds_13 (by decide) (rfl : r13646.toInt = r13646.toInt) (fun h13 => ?_) (fun h13 => ?_)
    · refine q_iconst (v := (0 : Int32)) hM dX12_reminds_33 (by decide) ?_
      exact hE _ _ _ _ _ _ hW.1 nz_0 ⟨_, rfl, hW.2.1, hG, hW.2.2, (Or.inr ⟨by omega, rfl⟩), (by have := kc_0; omega)⟩ dX12_reminds_34
    · refine q_iload_n hM dX12_reminds_16 (lv_at hl 1 rfl) ?_
      refine q_iload_n hM dX12_reminds_17 (lv_at hl 2 rfl) ?_
      refine q_icmp_eq (tgt := 33) hM dX12_reminds_18 (by decide) (rfl : a.toInt = a.toInt) (rfl : b.toInt = b.toInt) (fun h18 => ?_) (fun h18 => ?_)
      · refine q_iconst (v := (0 : Int32)) hM dX12_reminds_33 (by decide) ?_
        exact hE _ _ _ _ _ _ hW.1 nz_0 ⟨_, rfl, hW.2.1, hG, hW.2.2, (Or.inr ⟨by omega, rfl⟩), (by have := kc_0; omega)⟩ dX12_reminds_34
      · refine q_iload_n hM dX12_reminds_21 (lv_at hl 3 rfl) ?_
        refine q_i2l hM dX12_reminds_22 ?_
        have := l_i2l c
        refine q_lconst (v := 0) hM dX12_reminds_23 (by decide) ?_
        have := kl_0
        refine q_ldc2 (v := 99) hM (kAW (v_6_2 (List.mem_of_getElem? (i := 4) rfl)) rfl) dX12_reminds_24 ?_
        have := kl_99
        refine q_callS (As := [.long c.toInt64, .long (0 : Int64), .long (99 : Int64)]) (rest := []) hM hW.1 hR hC myX12_lies (kAW (v_5_4 (List.mem_of_getElem? (i := 14) rfl)) rfl) (c_X12_lies _ _ cA ad g0 c.toInt64 (0 : Int64) (99 : Int64) hW.2.1) ⟨by decide, by decide⟩ rfl rfl hl.1 (Nat.le_of_ble_eq_true rfl) dX12_reminds_27 (fun v g13653 H locs hp hW1 => ?_)
        obtain ⟨r13652, rfl, hr13652, rfl⟩ := hp
        have hW : WS ad cA (fun i k => i = 175) g0 K g0 H locs := ⟨hW1, hW.2.1, hW.2.2⟩
        refine q_if_ne (tgt := 35) hM dX12_reminds_30 (by decide) (rfl : r13652.toInt = r13652.toInt) (fun h30 => ?_) (fun h30 => ?_)
        · refine q_aload_n hM dX12_reminds_35 (lv_at hl 0 rfl) ?_
          refine w_get (v := .ref (ad 175)) hM hW FG_X12_151 lb_129 (rf_129_81 hW.2.1) dX12_reminds_36 ?_
          refine q_bipush (v := (8 : Int32)) hM dX12_reminds_39 (by decide) ?_
          refine q_iload_n hM dX12_reminds_41 (lv_at hl 1 rfl) ?_
          refine q_imul hM dX12_reminds_42 (fun z13655 hz13655 => ?_)
          first | have tz13655 := i_mulT hz13655 (kc_8 : (8 : Int32).toInt = 8) (rfl : a.toInt = a.toInt) (by omega) (by omega) | skip
          refine q_iload_n hM dX12_reminds_43 (lv_at hl 2 rfl) ?_
          refine q_iadd hM dX12_reminds_44 (fun z13656 hz13656 => ?_)
          first | have tz13656 := i_addT hz13656 (rfl : z13655.toInt = z13655.toInt) (rfl : b.toInt = b.toInt) (by omega) (by omega) | skip
          refine q_iload_n hM dX12_reminds_45 (lv_at hl 3 rfl) ?_
          refine w_iast hM hW lb_175 (by omega) (i_in (by omega) (by omega)) dX12_reminds_46 (fun g13657 H locs hW e1 e2 => ?_)
          have hS0 := e1
          rw [show z13656.toNatClampNeg = 8 * a.toInt.toNat + b.toInt.toNat by show z13656.toInt.toNat = _; omega] at hS0
          have hG := hG.st e1 e2 (rfl : rA 175 = (-2147483648, 2147483647)) (by have := i_rng c; omega) (by have := i_rng c; omega)
          refine q_aload_n hM dX12_reminds_47 (lv_at hl 0 rfl) ?_
          refine w_get (v := .ref (ad 175)) hM hW FG_X12_151 lb_129 (rf_129_81 hW.2.1) dX12_reminds_48 ?_
          refine q_bipush (v := (8 : Int32)) hM dX12_reminds_51 (by decide) ?_
          refine q_iload_n hM dX12_reminds_53 (lv_at hl 2 rfl) ?_
          refine q_imul hM dX12_reminds_54 (fun z13658 hz13658 => ?_)
          first | have tz13658 := i_mulT hz13658 (kc_8 : (8 : Int32).toInt = 8) (rfl : b.toInt = b.toInt) (by omega) (by omega) | skip
          refine q_iload_n hM dX12_reminds_55 (lv_at hl 1 rfl) ?_
          refine q_iadd hM dX12_reminds_56 (fun z13659 hz13659 => ?_)
          first | have tz13659 := i_addT hz13659 (rfl : z13658.toInt = z13658.toInt) (rfl : a.toInt = a.toInt) (by omega) (by omega) | skip
          refine q_iload_n hM dX12_reminds_57 (lv_at hl 3 rfl) ?_
          refine w_iast hM hW lb_175 (by omega) (i_in (by omega) (by omega)) dX12_reminds_58 (fun g13660 H locs hW e1 e2 => ?_)
          have hS1 := e1
          rw [show z13659.toNatClampNeg = 8 * b.toInt.toNat + a.toInt.toNat by show z13659.toInt.toNat = _; omega] at hS1
          have hG := hG.st e1 e2 (rfl : rA 175 = (-2147483648, 2147483647)) (by have := i_rng c; omega) (by have := i_rng c; omega)
          refine q_iconst (v := (1 : Int32)) hM dX12_reminds_59 (by decide) ?_
          exact hE _ _ _ _ _ _ hW.1 nz_1 ⟨_, rfl, hW.2.1, hG, hW.2.2, (Or.inl ⟨by omega, by rw [hS1, hS0]⟩), (by have := kc_1; omega)⟩ dX12_reminds_60
        · refine q_iconst (v := (0 : Int32)) hM dX12_reminds_33 (by decide) ?_
          exact hE _ _ _ _ _ _ hW.1 nz_0 ⟨_, rfl, hW.2.1, hG, hW.2.2, (Or.inr ⟨by omega, rfl⟩), (by have := kc_0; omega)⟩ dX12_reminds_34
