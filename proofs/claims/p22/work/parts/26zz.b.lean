
set_option maxRecDepth 100000 in
set_option maxHeartbeats 4000000 in
theorem s_X12_comesTo (l : Launch) (D : va_G) (cA : Nat → ClassId) (ad : Nat → Nat) (g0 : Nat → va_E) (fr : Int32) (wi : Int32) (hSh : Shp ad cA g0) (hG : Rng g0) : CT l NN ad cA D yX12_comesTo cX12_comesTo 6 (some FieldType.int) (1, 21) [.ref (ad 129), .int fr, .int wi] g0 (PU g0 (fun r => 0 ≤ r.toInt ∧ r.toInt < 4096 ∧ BS r (Cm (Lm g0) fr wi))) := by
  refine q_enterI (by decide) (Nat.le_of_ble_eq_true rfl) rfl (fun K H locs ls _ _ hM hW0 hR hC hE hl => ?_)
  have hl : lv_has ls 6 [(0, .ref (ad 129)), (1, .int fr), (2, .int wi)] := hl
  have hW : WS ad cA (fun i k => False) g0 K g0 H locs := ⟨hW0, hSh, FR.rf⟩
  refine q_iconst (v := (0 : Int32)) hM dX12_comesTo_0 (by decide) ?_
  refine q_istore_n (lv9 := [(3, .int (0 : Int32)), (0, .ref (ad 129)), (1, .int fr), (2, .int wi)]) hM dX12_comesTo_1 hl (by decide) rfl (fun ls hl => ?_)
  refine q_iconst (v := (0 : Int32)) hM dX12_comesTo_2 (by decide) ?_
  refine q_istore (lv9 := [(4, .int (0 : Int32)), (3, .int (0 : Int32)), (0, .ref (ad 129)), (1, .int fr), (2, .int wi)]) hM dX12_comesTo_3 hl (by decide) rfl (fun ls hl => ?_)
  have L5 : ∀ (fu5 : Nat) (w5_3 : Int32) (w5_4 : Int32) (H : Heap) (locs : List Loc) (ls : Array Slot), (12 - w5_4.toInt).toNat < fu5 → (0 ≤ w5_4.toInt) → (w5_4.toInt ≤ 12) → (0 ≤ w5_3.toInt) → (w5_3.toInt < 4096) → (BS w5_3 (Cd (Lm g0) fr wi w5_4.toInt)) → lv_has ls 6 [(0, .ref (ad 129)), (1, .int fr), (2, .int wi), (3, .int w5_3), (4, .int w5_4)] → WS ad cA (fun i k => False) g0 K g0 H locs → XX K 0 0 H locs 5 ls [] := by
    intro fu5
    induction fu5 with
    | zero => intro w5_3 w5_4 H locs ls h0; omega
    | succ fu5 ih5 =>
      intro w5_3 w5_4 H locs ls hm5 i5_0 i5_1 i5_2 i5_3 i5_4 hl hW
      refine q_iload hM dX12_comesTo_5 (lv_at hl 4 rfl) ?_
      refine q_bipush (v := (12 : Int32)) hM dX12_comesTo_7 (by decide) ?_
      refine q_icmp_ge (tgt := 75) hM dX12_comesTo_9 (by decide) (rfl : w5_4.toInt = w5_4.toInt) (kc_12 : (12 : Int32).toInt = 12) (fun h9 => ?_) (fun h9 => ?_)
      · refine q_iload_n hM dX12_comesTo_75 (lv_at hl 3 rfl) ?_
        exact hE _ _ _ _ _ _ hW.1 ⟨_, rfl, ⟨by omega, by omega, Cd_end i5_4 (fun _ _ h => h.1) (by omega)⟩, rfl⟩ dX12_comesTo_76
      · refine q_iconst (v := (0 : Int32)) hM dX12_comesTo_12 (by decide) ?_
        refine q_istore (lv9 := [(5, .int (0 : Int32)), (0, .ref (ad 129)), (1, .int fr), (2, .int wi), (3, .int w5_3), (4, .int w5_4)]) hM dX12_comesTo_13 hl (by decide) rfl (fun ls hl => ?_)
        have L15 : ∀ (fu15 : Nat) (w15_3 : Int32) (w15_5 : Int32) (H : Heap) (locs : List Loc) (ls : Array Slot), (12 - w15_5.toInt).toNat < fu15 → (0 ≤ w15_5.toInt) → (w15_5.toInt ≤ 12) → (0 ≤ w15_3.toInt) → (w15_3.toInt < 4096) → (BS w15_3 (Ce (Lm g0) fr wi w5_4 w15_5.toInt)) → lv_has ls 6 [(0, .ref (ad 129)), (1, .int fr), (2, .int wi), (3, .int w15_3), (4, .int w5_4), (5, .int w15_5)] → WS ad cA (fun i k => False) g0 K g0 H locs → XX K 0 0 H locs 15 ls [] := by
          intro fu15
          induction fu15 with
          | zero => intro w15_3 w15_5 H locs ls h0; omega
          | succ fu15 ih15 =>
            intro w15_3 w15_5 H locs ls hm15 i15_0 i15_1 i15_2 i15_3 i15_4 hl hW
            refine q_iload hM dX12_comesTo_15 (lv_at hl 5 rfl) ?_
            refine q_bipush (v := (12 : Int32)) hM dX12_comesTo_17 (by decide) ?_
            refine q_icmp_ge (tgt := 69) hM dX12_comesTo_19 (by decide) (rfl : w15_5.toInt = w15_5.toInt) (kc_12 : (12 : Int32).toInt = 12) (fun h19 => ?_) (fun h19 => ?_)
            · refine q_iinc (lv9 := fun z13573 => [(4, .int z13573), (0, .ref (ad 129)), (1, .int fr), (2, .int wi), (3, .int w15_3), (5, .int w15_5)]) hM dX12_comesTo_69 hl (kq := 4) rfl (by decide) (fun _ => rfl) (fun z13573 ls hz13573 hl => ?_)
              first | have tz13573 := i_addT hz13573 (rfl : w5_4.toInt = w5_4.toInt) (kc_1 : (Int32.ofInt 1).toInt = 1) (by omega) (by omega) | skip
              refine q_goto (tgt := 5) hM dX12_comesTo_72 (by decide) ?_
              exact ih5 w15_3 z13573 _ _ _ (by omega) (by omega) (by omega) (by omega) (by omega) (Cd_next i15_4 Lmb (by omega) (Or.inr (by omega)) (by omega)) (lv_sub hl [1, 2, 3, 4, 0] rfl) hW
            · refine q_iload_n hM dX12_comesTo_22 (lv_at hl 1 rfl) ?_
              refine q_iload hM dX12_comesTo_23 (lv_at hl 4 rfl) ?_
              refine q_callS (As := [.int fr, .int w5_4]) (rest := []) hM hW.1 hR hC myX12_has (kAW (v_5_6 (List.mem_of_getElem? (i := 7) rfl)) rfl) (c_X12_has _ _ cA ad g0 fr w5_4 hW.2.1 (by omega) (by omega)) ⟨by decide, by decide⟩ rfl rfl hl.1 (Nat.le_of_ble_eq_true rfl) dX12_comesTo_25 (fun v g13576 H locs hp hW1 => ?_)
              obtain ⟨r13575, rfl, hr13575, rfl⟩ := hp
              have hW : WS ad cA (fun i k => False) g0 K g0 H locs := ⟨hW1, hW.2.1, hW.2.2⟩
              refine q_if_eq (tgt := 69) hM dX12_comesTo_28 (by decide) (rfl : r13575.toInt = r13575.toInt) (fun h28 => ?_) (fun h28 => ?_)
              · refine q_iinc (lv9 := fun z13578 => [(4, .int z13578), (0, .ref (ad 129)), (1, .int fr), (2, .int wi), (3, .int w15_3), (5, .int w15_5)]) hM dX12_comesTo_69 hl (kq := 4) rfl (by decide) (fun _ => rfl) (fun z13578 ls hz13578 hl => ?_)
                first | have tz13578 := i_addT hz13578 (rfl : w5_4.toInt = w5_4.toInt) (kc_1 : (Int32.ofInt 1).toInt = 1) (by omega) (by omega) | skip
                refine q_goto (tgt := 5) hM dX12_comesTo_72 (by decide) ?_
                exact ih5 w15_3 z13578 _ _ _ (by omega) (by omega) (by omega) (by omega) (by omega) (Cd_next i15_4 Lmb (by omega) (Or.inl (by rcases hr13575 with h | h; exact absurd h.1 (by omega); exact h.2)) (by omega)) (lv_sub hl [1, 2, 3, 4, 0] rfl) hW
              · refine q_aload_n hM dX12_comesTo_31 (lv_at hl 0 rfl) ?_
                refine w_get (v := .ref (ad 133)) hM hW FG_X12_25 lb_129 (rf_129_12 hW.2.1) dX12_comesTo_32 ?_
                refine q_bipush (v := (12 : Int32)) hM dX12_comesTo_35 (by decide) ?_
                refine q_iload hM dX12_comesTo_37 (lv_at hl 4 rfl) ?_
                refine q_imul hM dX12_comesTo_39 (fun z13580 hz13580 => ?_)
                first | have tz13580 := i_mulT hz13580 (kc_12 : (12 : Int32).toInt = 12) (rfl : w5_4.toInt = w5_4.toInt) (by omega) (by omega) | skip
                refine q_iload hM dX12_comesTo_40 (lv_at hl 5 rfl) ?_
                refine q_iadd hM dX12_comesTo_42 (fun z13581 hz13581 => ?_)
                first | have tz13581 := i_addT hz13581 (rfl : z13580.toInt = z13580.toInt) (rfl : w15_5.toInt = w15_5.toInt) (by omega) (by omega) | skip
                refine w_iald hM hW lb_133 (i_in (by omega) (by omega)) dX12_comesTo_43 ?_
                refine q_top (fun y13582 hy13582 => ?_)
                rw [show z13581.toNatClampNeg = 12 * w5_4.toInt.toNat + w15_5.toInt.toNat by show z13581.toInt.toNat = _; omega] at hy13582
                refine q_if_le (tgt := 63) hM dX12_comesTo_44 (by decide) (rfl : y13582.toInt = y13582.toInt) (fun h44 => ?_) (fun h44 => ?_)
                · refine q_iinc (lv9 := fun z13584 => [(5, .int z13584), (0, .ref (ad 129)), (1, .int fr), (2, .int wi), (3, .int w15_3), (4, .int w5_4)]) hM dX12_comesTo_63 hl (kq := 5) rfl (by decide) (fun _ => rfl) (fun z13584 ls hz13584 hl => ?_)
                  first | have tz13584 := i_addT hz13584 (rfl : w15_5.toInt = w15_5.toInt) (kc_1 : (Int32.ofInt 1).toInt = 1) (by omega) (by omega) | skip
                  refine q_goto (tgt := 15) hM dX12_comesTo_66 (by decide) ?_
                  exact ih15 w15_3 z13584 _ _ _ (by omega) (by omega) (by omega) (by omega) (by omega) (Ce_no i15_4 (by omega) (Or.inl (fun h9 => absurd h9.2.2 (by rw [← hy13582]; omega))) (by omega)) (lv_sub hl [1, 2, 3, 4, 5, 0] rfl) hW
                · refine q_iload_n hM dX12_comesTo_47 (lv_at hl 2 rfl) ?_
                  refine q_iload hM dX12_comesTo_48 (lv_at hl 5 rfl) ?_
                  refine q_callS (As := [.int wi, .int w15_5]) (rest := []) hM hW.1 hR hC myX12_has (kAW (v_5_6 (List.mem_of_getElem? (i := 7) rfl)) rfl) (c_X12_has _ _ cA ad g0 wi w15_5 hW.2.1 (by omega) (by omega)) ⟨by decide, by decide⟩ rfl rfl hl.1 (Nat.le_of_ble_eq_true rfl) dX12_comesTo_50 (fun v g13587 H locs hp hW1 => ?_)
                  obtain ⟨r13586, rfl, hr13586, rfl⟩ := hp
                  have hW : WS ad cA (fun i k => False) g0 K g0 H locs := ⟨hW1, hW.2.1, hW.2.2⟩
                  refine q_if_ne (tgt := 63) hM dX12_comesTo_53 (by decide) (rfl : r13586.toInt = r13586.toInt) (fun h53 => ?_) (fun h53 => ?_)
                  · refine q_iinc (lv9 := fun z13589 => [(5, .int z13589), (0, .ref (ad 129)), (1, .int fr), (2, .int wi), (3, .int w15_3), (4, .int w5_4)]) hM dX12_comesTo_63 hl (kq := 5) rfl (by decide) (fun _ => rfl) (fun z13589 ls hz13589 hl => ?_)
                    first | have tz13589 := i_addT hz13589 (rfl : w15_5.toInt = w15_5.toInt) (kc_1 : (Int32.ofInt 1).toInt = 1) (by omega) (by omega) | skip
                    refine q_goto (tgt := 15) hM dX12_comesTo_66 (by decide) ?_
                    exact ih15 w15_3 z13589 _ _ _ (by omega) (by omega) (by omega) (by omega) (by omega) (Ce_no i15_4 (by omega) (Or.inr (by rcases hr13586 with h | h; exact h.2; exact absurd h.1 (by omega))) (by omega)) (lv_sub hl [1, 2, 3, 4, 5, 0] rfl) hW
                  · refine q_iload_n hM dX12_comesTo_56 (lv_at hl 3 rfl) ?_
                    refine q_iconst (v := (1 : Int32)) hM dX12_comesTo_57 (by decide) ?_
                    refine q_iload hM dX12_comesTo_58 (lv_at hl 5 rfl) ?_
                    refine q_ishl hM dX12_comesTo_60 (fun z13591 hz13591 => ?_)
                    first | have sz13591 := i_shl1 12 (by decide) hz13591 (by omega) (by omega) | skip
                    refine q_ior hM dX12_comesTo_61 (fun z13592 hz13592 => ?_)
                    first | have oz13592 := i_ork 12 (by decide) hz13592 (by omega) (by omega) (by omega) (by omega) | skip
                    first | have ogz13592 := i_or_ge hz13592 (by omega) (by omega) | skip
                    refine q_istore_n (lv9 := [(3, .int z13592), (0, .ref (ad 129)), (1, .int fr), (2, .int wi), (4, .int w5_4), (5, .int w15_5)]) hM dX12_comesTo_62 hl (by decide) rfl (fun ls hl => ?_)
                    refine q_iinc (lv9 := fun z13593 => [(5, .int z13593), (3, .int z13592), (0, .ref (ad 129)), (1, .int fr), (2, .int wi), (4, .int w5_4)]) hM dX12_comesTo_63 hl (kq := 5) rfl (by decide) (fun _ => rfl) (fun z13593 ls hz13593 hl => ?_)
                    first | have tz13593 := i_addT hz13593 (rfl : w15_5.toInt = w15_5.toInt) (kc_1 : (Int32.ofInt 1).toInt = 1) (by omega) (by omega) | skip
                    refine q_goto (tgt := 15) hM dX12_comesTo_66 (by decide) ?_
                    exact ih15 z13592 z13593 _ _ _ (by omega) (by omega) (by omega) (by omega) (by omega) (Ce_yes i15_4 hz13591 hz13592 (by omega) (by omega) (by rcases hr13575 with h | h; exact h.2; exact absurd h.1 (by omega)) ⟨by omega, by omega, by rw [← hy13582]; omega⟩ (by rcases hr13586 with h | h; exact absurd h.1 (by omega); exact h.2) (by omega)) (lv_sub hl [2, 3, 4, 1, 5, 0] rfl) hW
        have := kc_0
        exact L15 _ w5_3 (0 : Int32) _ _ _ (Nat.lt_succ_self _) (by omega) (by omega) (by omega) (by omega) (by rw [kc_0]; exact Ce_0 i5_4) (lv_sub hl [1, 2, 3, 4, 5, 0] rfl) hW
  have := kc_0
  have := kc_0
  exact L5 _ (0 : Int32) (0 : Int32) _ _ _ (Nat.lt_succ_self _) (by omega) (by omega) (by omega) (by omega) (by rw [kc_0]; exact Cd_0) (lv_sub hl [2, 3, 4, 1, 0] rfl) hW


set_option maxRecDepth 100000 in
set_option maxHeartbeats 4000000 in
theorem s_X12_reachOf (l : Launch) (D : va_G) (cA : Nat → ClassId) (ad : Nat → Nat) (g0 : Nat → va_E) (i : Int32) (wi : Int32) (hSh : Shp ad cA g0) (hG : Rng g0) (i0 : 0 ≤ i.toInt) (i12 : i.toInt < 12) : CT l NN ad cA D yX12_reachOf cX12_reachOf 5 (some FieldType.int) (2, 46) [.ref (ad 129), .int i, .int wi] g0 (PU g0 (fun r => 0 ≤ r.toInt ∧ r.toInt < 4096 ∧ BS r (Rch (Lm g0) (fun q => bt wi q = true) i.toInt.toNat))) := by
  refine q_enterI (by decide) (Nat.le_of_ble_eq_true rfl) rfl (fun K H locs ls _ _ hM hW0 hR hC hE hl => ?_)
  have hl : lv_has ls 5 [(0, .ref (ad 129)), (1, .int i), (2, .int wi)] := hl
  have hW : WS ad cA (fun i k => False) g0 K g0 H locs := ⟨hW0, hSh, FR.rf⟩
  refine q_iconst (v := (0 : Int32)) hM dX12_reachOf_0 (by decide) ?_
  refine q_istore_n (lv9 := [(3, .int (0 : Int32)), (0, .ref (ad 129)), (1, .int i), (2, .int wi)]) hM dX12_reachOf_1 hl (by decide) rfl (fun ls hl => ?_)
  refine q_aload_n hM dX12_reachOf_2 (lv_at hl 1 rfl) ?_
  refine q_iconst (v := (1 : Int32)) hM dX12_reachOf_3 (by decide) ?_
  refine q_iload_n hM dX12_reachOf_4 (lv_at hl 2 rfl) ?_
  refine q_ishl hM dX12_reachOf_5 (fun z13594 hz13594 => ?_)
  first | have sz13594 := i_shl1 12 (by decide) hz13594 (by omega) (by omega) | skip
  refine q_iload_n hM dX12_reachOf_6 (lv_at hl 3 rfl) ?_
  refine q_callV (As := [.int z13594, .int wi]) (rest := []) hM hW.1 hR hC myX12_comesTo (kAW (v_5_6 (List.mem_of_getElem? (i := 3) rfl)) rfl) (rfl : vwCl[12]? = some (RX12, TX12, 86)) rfl lb_129.1 (shO hW.2.1 lb_129) (s_X12_comesTo _ _ cA ad g0 z13594 wi hW.2.1 hG) ⟨by decide, by decide⟩ rfl rfl hl.1 (Nat.le_of_ble_eq_true rfl) dX12_reachOf_7 (fun v g13596 H locs hp hW1 => ?_)
  obtain ⟨r13595, rfl, hr13595, rfl⟩ := hp
  have hW : WS ad cA (fun i k => False) g0 K g0 H locs := ⟨hW1, hW.2.1, hW.2.2⟩
  refine q_istore (lv9 := [(4, .int r13595), (3, .int (0 : Int32)), (0, .ref (ad 129)), (1, .int i), (2, .int wi)]) hM dX12_reachOf_10 hl (by decide) rfl (fun ls hl => ?_)
  have L12 : ∀ (fu12 : Nat) (w12_3 : Int32) (w12_4 : Int32) (H : Heap) (locs : List Loc) (ls : Array Slot), (4096 - w12_3.toInt).toNat < fu12 → (0 ≤ w12_3.toInt) → (w12_3.toInt ≤ w12_4.toInt) → (w12_4.toInt < 4096) → (RMs (Lm g0) wi i w12_3 w12_4) → lv_has ls 5 [(0, .ref (ad 129)), (1, .int i), (2, .int wi), (3, .int w12_3), (4, .int w12_4)] → WS ad cA (fun i k => False) g0 K g0 H locs → XX K 0 0 H locs 12 ls [] := by
    intro fu12
    induction fu12 with
    | zero => intro w12_3 w12_4 H locs ls h0; omega
    | succ fu12 ih12 =>
      intro w12_3 w12_4 H locs ls hm12 i12_0 i12_1 i12_2 i12_3 hl hW
      refine q_iload hM dX12_reachOf_12 (lv_at hl 4 rfl) ?_
      refine q_iload_n hM dX12_reachOf_14 (lv_at hl 3 rfl) ?_
      refine q_icmp_eq (tgt := 34) hM dX12_reachOf_15 (by decide) (rfl : w12_4.toInt = w12_4.toInt) (rfl : w12_3.toInt = w12_3.toInt) (fun h15 => ?_) (fun h15 => ?_)
      · refine q_iload_n hM dX12_reachOf_34 (lv_at hl 3 rfl) ?_
        exact hE _ _ _ _ _ _ hW.1 ⟨_, rfl, ⟨by omega, by omega, RM_end i12_3 (by omega)⟩, rfl⟩ dX12_reachOf_35
      · refine q_iload hM dX12_reachOf_18 (lv_at hl 4 rfl) ?_
        refine q_istore_n (lv9 := [(3, .int w12_4), (0, .ref (ad 129)), (1, .int i), (2, .int wi), (4, .int w12_4)]) hM dX12_reachOf_20 hl (by decide) rfl (fun ls hl => ?_)
        refine q_iload_n hM dX12_reachOf_21 (lv_at hl 0 rfl) ?_
        refine q_aload_n hM dX12_reachOf_22 (lv_at hl 1 rfl) ?_
        refine q_iload_n hM dX12_reachOf_23 (lv_at hl 0 rfl) ?_
        refine q_iload_n hM dX12_reachOf_24 (lv_at hl 3 rfl) ?_
        refine q_callV (As := [.int w12_4, .int wi]) (rest := [.int w12_4]) hM hW.1 hR hC myX12_comesTo (kAW (v_5_6 (List.mem_of_getElem? (i := 3) rfl)) rfl) (rfl : vwCl[12]? = some (RX12, TX12, 86)) rfl lb_129.1 (shO hW.2.1 lb_129) (s_X12_comesTo _ _ cA ad g0 w12_4 wi hW.2.1 hG) ⟨by decide, by decide⟩ rfl rfl hl.1 (Nat.le_of_ble_eq_true rfl) dX12_reachOf_25 (fun v g13601 H locs hp hW1 => ?_)
        obtain ⟨r13600, rfl, hr13600, rfl⟩ := hp
        have hW : WS ad cA (fun i k => False) g0 K g0 H locs := ⟨hW1, hW.2.1, hW.2.2⟩
        refine q_ior hM dX12_reachOf_28 (fun z13602 hz13602 => ?_)
        first | have oz13602 := i_ork 12 (by decide) hz13602 (by omega) (by omega) (by omega) (by omega) | skip
        first | have ogz13602 := i_or_ge hz13602 (by omega) (by omega) | skip
        refine q_istore (lv9 := [(4, .int z13602), (3, .int w12_4), (0, .ref (ad 129)), (1, .int i), (2, .int wi)]) hM dX12_reachOf_29 hl (by decide) rfl (fun ls hl => ?_)
        refine q_goto (tgt := 12) hM dX12_reachOf_31 (by decide) ?_
        exact ih12 w12_4 z13602 _ _ _ (by omega) (by omega) (by omega) (by omega) (RM_next Lmb i12_3 hr13600.2.2 hz13602) (lv_sub hl [2, 3, 4, 1, 0] rfl) hW
  have := kc_0
  exact L12 _ (0 : Int32) r13595 _ _ _ (Nat.lt_succ_self _) (by omega) (by omega) (by omega) (RM_0 Lmb (by omega) (by omega) hz13594 hr13595.2.2) (lv_sub hl [2, 3, 4, 1, 0] rfl) hW


set_option maxRecDepth 100000 in
set_option maxHeartbeats 4000000 in
theorem s_X11_link (l : Launch) (D : va_G) (cA : Nat → ClassId) (ad : Nat → Nat) (g0 : Nat → va_E) (a : Int32) (b : Int32) (c : Int32) (td : Int32)  (hSh : Shp ad cA g0) (hG : Rng g0) (h_td : fld g0 3 2 = .int td) : CT l NN ad cA D yX11_link cX11_link 4 (some FieldType.boolean) (1, 22) [.ref (ad 0), .int a, .int b, .int c] g0 (fun v g' => ∃ (r : Int32), v = some (.int r) ∧ Shp ad cA g' ∧ Rng g' ∧ FR (fun i k => (6 ≤ i ∧ i < 18)) g0 g' ∧ (((0 ≤ a.toInt ∧ a.toInt < 12 ∧ 0 ≤ b.toInt ∧ b.toInt < 12 ∧ bi td a = 1 ∧ bi td b = 1 ∧ a.toInt ≠ b.toInt ∧ 0 ≤ c.toInt ∧ c.toInt ≤ 9) ∧ ∀ k : Nat, k < 12 → arI g' (6 + 1 * k) = if k = a.toInt.toNat then upd (arI g0 (6 + 1 * k)) b.toNatClampNeg c else arI g0 (6 + 1 * k)) ∨ (¬ (0 ≤ a.toInt ∧ a.toInt < 12 ∧ 0 ≤ b.toInt ∧ b.toInt < 12 ∧ bi td a = 1 ∧ bi td b = 1 ∧ a.toInt ≠ b.toInt ∧ 0 ≤ c.toInt ∧ c.toInt ≤ 9) ∧ ∀ k : Nat, k < 12 → arI g' (6 + 1 * k) = arI g0 (6 + 1 * k))) ∧ (r.toInt = 0 ∨ r.toInt = 1)) := by
  refine q_enterZ (by decide) (Nat.le_of_ble_eq_true rfl) (fun K H locs ls _ _ hM hW0 hR hC hE hl => ?_)
  have hl : lv_has ls 4 [(0, .ref (ad 0)), (1, .int a), (2, .int b), (3, .int c)] := hl
  have hW : WS ad cA (fun i k => (6 ≤ i ∧ i < 18)) g0 K g0 H locs := ⟨hW0, hSh, FR.rf⟩
  have b_td := hG.f h_td rF_3_2 (by decide)
  have := kc_0
  have := kc_1
  refine q_aload_n hM dX11_link_0 (lv_at hl 0 rfl) ?_
  refine w_get (v := .ref (ad 3)) hM hW FG_X11_19 lb_0 (rf_0_1 hW.2.1) dX11_link_1 ?_
  refine w_get (v := .int td) hM hW FG_X11_116 lb_3 ((hW.2.2.1 3 2 (by omega)).trans h_td) dX11_link_4 ?_
  refine q_iload_n hM dX11_link_7 (lv_at hl 1 rfl) ?_
  refine q_callS (As := [.int td, .int a]) (rest := []) hM hW.1 hR hC myX11_has (kAW (v_1_10 (List.mem_of_getElem? (i := 8) rfl)) rfl) (c_X11_has _ _ cA ad g0 td a hW.2.1) ⟨by decide, by decide⟩ rfl rfl hl.1 (Nat.le_of_ble_eq_true rfl) dX11_link_8 (fun v g13604 H locs hp hW1 => ?_)
  obtain ⟨r13603, rfl, hr13603, rfl⟩ := hp
  have hW : WS ad cA (fun i k => (6 ≤ i ∧ i < 18)) g0 K g0 H locs := ⟨hW1, hW.2.1, hW.2.2⟩
  have hbr13603 := has_bi hr13603
  have hcr13603 := bi_01 td a
  first | have ltr13603 := has_lt 5 hr13603 (by omega) (by omega) | have ltr13603 := has_lt 6 hr13603 (by omega) (by omega) | have ltr13603 := has_lt 8 hr13603 (by omega) (by omega) | have ltr13603 := has_lt 12 hr13603 (by omega) (by omega) | skip
  refine q_if_eq (tgt := 43) hM dX11_link_11 (by decide) (rfl : r13603.toInt = r13603.toInt) (fun h11 => ?_) (fun h11 => ?_)
  · refine q_iconst (v := (0 : Int32)) hM dX11_link_43 (by decide) ?_
    exact hE _ _ _ _ _ _ hW.1 nz_0 ⟨_, rfl, hW.2.1, hG, hW.2.2, (Or.inr ⟨by omega, fun _ _ => rfl⟩), (by have := kc_0; omega)⟩ dX11_link_44
  · refine q_aload_n hM dX11_link_14 (lv_at hl 0 rfl) ?_
    refine w_get (v := .ref (ad 3)) hM hW FG_X11_19 lb_0 (rf_0_1 hW.2.1) dX11_link_15 ?_
    refine w_get (v := .int td) hM hW FG_X11_116 lb_3 ((hW.2.2.1 3 2 (by omega)).trans h_td) dX11_link_18 ?_
    refine q_iload_n hM dX11_link_21 (lv_at hl 2 rfl) ?_
    refine q_callS (As := [.int td, .int b]) (rest := []) hM hW.1 hR hC myX11_has (kAW (v_1_10 (List.mem_of_getElem? (i := 8) rfl)) rfl) (c_X11_has _ _ cA ad g0 td b hW.2.1) ⟨by decide, by decide⟩ rfl rfl hl.1 (Nat.le_of_ble_eq_true rfl) dX11_link_22 (fun v g13608 H locs hp hW1 => ?_)
    obtain ⟨r13607, rfl, hr13607, rfl⟩ := hp
    have hW : WS ad cA (fun i k => (6 ≤ i ∧ i < 18)) g0 K g0 H locs := ⟨hW1, hW.2.1, hW.2.2⟩
    have hbr13607 := has_bi hr13607
    have hcr13607 := bi_01 td b
    first | have ltr13607 := has_lt 5 hr13607 (by omega) (by omega) | have ltr13607 := has_lt 6 hr13607 (by omega) (by omega) | have ltr13607 := has_lt 8 hr13607 (by omega) (by omega) | have ltr13607 := has_lt 12 hr13607 (by omega) (by omega) | skip
    refine q_if_eq (tgt := 43) hM dX11_link_25 (by decide) (rfl : r13607.toInt = r13607.toInt) (fun h25 => ?_) (fun h25 => ?_)
    · refine q_iconst (v := (0 : Int32)) hM dX11_link_43 (by decide) ?_
      exact hE _ _ _ _ _ _ hW.1 nz_0 ⟨_, rfl, hW.2.1, hG, hW.2.2, (Or.inr ⟨by omega, fun _ _ => rfl⟩), (by have := kc_0; omega)⟩ dX11_link_44
    · refine q_iload_n hM dX11_link_28 (lv_at hl 1 rfl) ?_
      refine q_iload_n hM dX11_link_29 (lv_at hl 2 rfl) ?_
      refine q_icmp_eq (tgt := 43) hM dX11_link_30 (by decide) (rfl : a.toInt = a.toInt) (rfl : b.toInt = b.toInt) (fun h30 => ?_) (fun h30 => ?_)
      · refine q_iconst (v := (0 : Int32)) hM dX11_link_43 (by decide) ?_
        exact hE _ _ _ _ _ _ hW.1 nz_0 ⟨_, rfl, hW.2.1, hG, hW.2.2, (Or.inr ⟨by omega, fun _ _ => rfl⟩), (by have := kc_0; omega)⟩ dX11_link_44
      · refine q_iload_n hM dX11_link_33 (lv_at hl 3 rfl) ?_
        refine q_iconst (v := (0 : Int32)) hM dX11_link_34 (by decide) ?_
        refine q_bipush (v := (9 : Int32)) hM dX11_link_35 (by decide) ?_
        refine q_callS (As := [.int c, .int (0 : Int32), .int (9 : Int32)]) (rest := []) hM hW.1 hR hC myX11_within (kAW (v_1_10 (List.mem_of_getElem? (i := 1) rfl)) rfl) (c_X11_within _ _ cA ad g0 c (0 : Int32) (9 : Int32) hW.2.1) ⟨by decide, by decide⟩ rfl rfl hl.1 (Nat.le_of_ble_eq_true rfl) dX11_link_37 (fun v g13614 H locs hp hW1 => ?_)
        obtain ⟨r13613, rfl, hr13613, rfl⟩ := hp
        have hW : WS ad cA (fun i k => (6 ≤ i ∧ i < 18)) g0 K g0 H locs := ⟨hW1, hW.2.1, hW.2.2⟩
        have := kc_0
        have := kc_9
        refine q_if_ne (tgt := 45) hM dX11_link_40 (by decide) (rfl : r13613.toInt = r13613.toInt) (fun h40 => ?_) (fun h40 => ?_)
        · refine q_aload_n hM dX11_link_45 (lv_at hl 0 rfl) ?_
          refine w_get (v := .ref (ad 3)) hM hW FG_X11_19 lb_0 (rf_0_1 hW.2.1) dX11_link_46 ?_
          refine w_get (v := .ref (ad 5)) hM hW FG_X11_127 lb_3 (rf_3_1 hW.2.1) dX11_link_49 ?_
          refine q_iload_n hM dX11_link_52 (lv_at hl 1 rfl) ?_
          refine w_aald hM hW lb_5 (Or.inl rfl) (i_in (by omega) (by omega)) (aq (aq_5 hW.2.1) (by omega) (by omega)) dX11_link_53 ?_
          refine q_iload_n hM dX11_link_54 (lv_at hl 2 rfl) ?_
          refine q_iload_n hM dX11_link_55 (lv_at hl 3 rfl) ?_
          refine w_iast hM hW (lr_6 (by omega)) (by omega) (i_in (by omega) (by omega)) dX11_link_56 (fun g13616 H locs hW e1 e2 => ?_)
          have hLK := e1
          have eLK := e2
          have hG := hG.st e1 e2 (rA_row_6 (by omega)) (by have := i_rng c; omega) (by have := i_rng c; omega)
          refine q_iconst (v := (1 : Int32)) hM dX11_link_57 (by decide) ?_
          exact hE _ _ _ _ _ _ hW.1 nz_1 ⟨_, rfl, hW.2.1, hG, hW.2.2, (Or.inl ⟨by omega, fun k hk => by
              by_cases e : k = a.toInt.toNat
              · rw [if_pos e, e]; exact hLK
              · rw [if_neg e]; exact eLK.2.1 (6 + 1 * k) (by unfold Only; omega)⟩), (by have := kc_1; omega)⟩ dX11_link_58
        · refine q_iconst (v := (0 : Int32)) hM dX11_link_43 (by decide) ?_
          exact hE _ _ _ _ _ _ hW.1 nz_0 ⟨_, rfl, hW.2.1, hG, hW.2.2, (Or.inr ⟨by omega, fun _ _ => rfl⟩), (by have := kc_0; omega)⟩ dX11_link_44


set_option maxRecDepth 100000 in
set_option maxHeartbeats 4000000 in
theorem s_X5_fewestBetween (l : Launch) (D : va_G) (cA : Nat → ClassId) (ad : Nat → Nat) (g0 : Nat → va_E) (i : Int32) (j : Int32) (td : Int32) (hSh : Shp ad cA g0) (hG : Rng g0) (h_td : fld g0 3 2 = .int td) (i0 : 0 ≤ i.toInt) (i12 : i.toInt < 12) (j0 : 0 ≤ j.toInt) (j12 : j.toInt < 12) : CT l NN ad cA D yX5_fewestBetween cX5_fewestBetween 6 (some FieldType.int) (2, 50) [.ref (ad 3), .int i, .int j] g0 (PU g0 (fun r => r = ctB (oth td i j) (Av (Lx g0) i.toInt.toNat j.toInt.toNat) 4096 ∧ 0 ≤ r.toInt ∧ r.toInt < 4096)) := by
  refine q_enterI (by decide) (Nat.le_of_ble_eq_true rfl) rfl (fun K H locs ls _ _ hM hW0 hR hC hE hl => ?_)
  have hl : lv_has ls 6 [(0, .ref (ad 3)), (1, .int i), (2, .int j)] := hl
  have hW : WS ad cA (fun i k => False) g0 K g0 H locs := ⟨hW0, hSh, FR.rf⟩
  have := kc_0
  have := kc_1
  have := kc_m1
  have := kc_m2
  have := kc_4096
  have bt9 := hG.f h_td rF_3_2 (by decide)
  refine q_aload_n hM dX5_fewestBetween_0 (lv_at hl 0 rfl) ?_
  refine w_get (v := .int td) hM hW FG_X5_20 lb_3 ((hW.2.2.1 3 2 (fun h => h)).trans h_td) dX5_fewestBetween_1 ?_
  refine q_iconst (v := (1 : Int32)) hM dX5_fewestBetween_4 (by decide) ?_
  refine q_iload_n hM dX5_fewestBetween_5 (lv_at hl 1 rfl) ?_
  refine q_ishl hM dX5_fewestBetween_6 (fun z13618 hz13618 => ?_)
  refine q_iconst (v := ((-1) : Int32)) hM dX5_fewestBetween_7 (by decide) ?_
  refine q_ixor hM dX5_fewestBetween_8 (fun z13619 hz13619 => ?_)
  refine q_iand hM dX5_fewestBetween_9 (fun z13620 hz13620 => ?_)
  refine q_iconst (v := (1 : Int32)) hM dX5_fewestBetween_10 (by decide) ?_
  refine q_iload_n hM dX5_fewestBetween_11 (lv_at hl 2 rfl) ?_
  refine q_ishl hM dX5_fewestBetween_12 (fun z13621 hz13621 => ?_)
  refine q_iconst (v := ((-1) : Int32)) hM dX5_fewestBetween_13 (by decide) ?_
  refine q_ixor hM dX5_fewestBetween_14 (fun z13622 hz13622 => ?_)
  refine q_iand hM dX5_fewestBetween_15 (fun z13623 hz13623 => ?_)
  have he9 : z13623 = oth td i j := by unfold oth; rw [hz13618, hz13619, hz13620, hz13621, hz13622, hz13623]
  have k9 := i_andk (i_comm hz13620) (by omega)
  have k8 := i_andk (i_comm hz13623) (by omega)
  refine q_istore_n (lv9 := [(3, .int z13623), (0, .ref (ad 3)), (1, .int i), (2, .int j)]) hM dX5_fewestBetween_16 hl (by decide) rfl (fun ls hl => ?_)
  refine q_iload_n hM dX5_fewestBetween_17 (lv_at hl 0 rfl) ?_
  refine q_istore (lv9 := [(4, .int z13623), (3, .int z13623), (0, .ref (ad 3)), (1, .int i), (2, .int j)]) hM dX5_fewestBetween_18 hl (by decide) rfl (fun ls hl => ?_)
  refine q_iconst (v := (0 : Int32)) hM dX5_fewestBetween_20 (by decide) ?_
  refine q_istore (lv9 := [(5, .int (0 : Int32)), (4, .int z13623), (3, .int z13623), (0, .ref (ad 3)), (1, .int i), (2, .int j)]) hM dX5_fewestBetween_21 hl (by decide) rfl (fun ls hl => ?_)
  have L23 : ∀ (fu23 : Nat) (w23_4 : Int32) (w23_5 : Int32) (H : Heap) (locs : List Loc) (ls : Array Slot), (4096 - w23_5.toInt).toNat < fu23 → (0 ≤ w23_5.toInt) → (w23_5.toInt ≤ 4096) → (0 ≤ w23_4.toInt) → (w23_4.toInt < 4096) → (w23_4 = ctB (oth td i j) (Av (Lx g0) i.toInt.toNat j.toInt.toNat) w23_5.toInt.toNat) → lv_has ls 6 [(0, .ref (ad 3)), (1, .int i), (2, .int j), (3, .int z13623), (4, .int w23_4), (5, .int w23_5)] → WS ad cA (fun i k => False) g0 K g0 H locs → XX K 0 0 H locs 23 ls [] := by
    intro fu23
    induction fu23 with
    | zero => intro w23_4 w23_5 H locs ls h0; omega
    | succ fu23 ih23 =>
      intro w23_4 w23_5 H locs ls hm23 i23_0 i23_1 i23_2 i23_3 i23_4 hl hW
      have := kc_4096
      refine q_iload hM dX5_fewestBetween_23 (lv_at hl 5 rfl) ?_
      refine q_sipush (v := (4096 : Int32)) hM dX5_fewestBetween_25 (by decide) ?_
      refine q_icmp_ge (tgt := 77) hM dX5_fewestBetween_28 (by decide) (rfl : w23_5.toInt = w23_5.toInt) (kc_4096 : (4096 : Int32).toInt = 4096) (fun h28 => ?_) (fun h28 => ?_)
      · refine q_iload hM dX5_fewestBetween_77 (lv_at hl 4 rfl) ?_
        exact hE _ _ _ _ _ _ hW.1 ⟨_, rfl, ⟨by have e9 := i23_4; rw [show w23_5.toInt.toNat = 4096 by omega] at e9; exact e9, by omega, by omega⟩, rfl⟩ dX5_fewestBetween_79
      · refine q_iload hM dX5_fewestBetween_31 (lv_at hl 5 rfl) ?_
        refine q_iload_n hM dX5_fewestBetween_33 (lv_at hl 3 rfl) ?_
        refine q_callN (host := "ForgetSchool") (As := [.int w23_5, .int z13623]) (rest := []) hM hW.1 hR hC myX11_areOf (List.mem_of_getElem? (i := 8) rfl) (c_X11_areOf _ _ cA ad g0 w23_5 z13623 hW.2.1) ⟨by decide, by decide⟩ rfl rfl hl.1 (Nat.le_of_ble_eq_true rfl) dX5_fewestBetween_34 (fun v g13628 H locs hp hW1 => ?_)
        obtain ⟨r13627, rfl, hr13627, rfl⟩ := hp
        have hW : WS ad cA (fun i k => False) g0 K g0 H locs := ⟨hW1, hW.2.1, hW.2.2⟩
        refine q_if_eq (tgt := 71) hM dX5_fewestBetween_37 (by decide) (rfl : r13627.toInt = r13627.toInt) (fun h37 => ?_) (fun h37 => ?_)
        · refine q_iinc (lv9 := fun z13630 => [(5, .int z13630), (0, .ref (ad 3)), (1, .int i), (2, .int j), (3, .int z13623), (4, .int w23_4)]) hM dX5_fewestBetween_71 hl (kq := 5) rfl (by decide) (fun _ => rfl) (fun z13630 ls hz13630 hl => ?_)
          first | have tz13630 := i_addT hz13630 (rfl : w23_5.toInt = w23_5.toInt) (kc_1 : (Int32.ofInt 1).toInt = 1) (by omega) (by omega) | skip
          refine q_goto (tgt := 23) hM dX5_fewestBetween_74 (by decide) ?_
          exact ih23 w23_4 z13630 _ _ _ (by omega) (by omega) (by omega) (by omega) (by omega) (ct_no i23_4 (by omega) (by omega) (Or.inl (by rw [← he9]; exact a_f hr13627 (by omega)))) (lv_sub hl [1, 2, 3, 4, 5, 0] rfl) hW
        · refine q_iload hM dX5_fewestBetween_40 (lv_at hl 5 rfl) ?_
          refine q_callS (As := [.int w23_5]) (rest := []) hM hW.1 hR hC myJ6_bitCount_0f7a4 (kAW (v_3_7 (List.mem_of_getElem? (i := 11) rfl)) rfl) (c_J6_bitCount_0f7a4 _ _ cA ad g0 w23_5 hW.2.1) ⟨by decide, by decide⟩ rfl rfl hl.1 (Nat.le_of_ble_eq_true rfl) dX5_fewestBetween_42 (fun v g13633 H locs hp hW1 => ?_)
          obtain ⟨r13632, rfl, hr13632, rfl⟩ := hp
          have hW : WS ad cA (fun i k => False) g0 K g0 H locs := ⟨hW1, hW.2.1, hW.2.2⟩
          have n9 := (congrArg Int32.toInt hr13632).trans (bc_cb (by omega) (by omega))
          refine q_iload hM dX5_fewestBetween_45 (lv_at hl 4 rfl) ?_
          refine q_callS (As := [.int w23_4]) (rest := [.int r13632]) hM hW.1 hR hC myJ6_bitCount_0f7a4 (kAW (v_3_7 (List.mem_of_getElem? (i := 11) rfl)) rfl) (c_J6_bitCount_0f7a4 _ _ cA ad g0 w23_4 hW.2.1) ⟨by decide, by decide⟩ rfl rfl hl.1 (Nat.le_of_ble_eq_true rfl) dX5_fewestBetween_47 (fun v g13635 H locs hp hW1 => ?_)
          obtain ⟨r13634, rfl, hr13634, rfl⟩ := hp
          have hW : WS ad cA (fun i k => False) g0 K g0 H locs := ⟨hW1, hW.2.1, hW.2.2⟩
          have m9 := (congrArg Int32.toInt hr13634).trans (bc_cb (by omega) (by omega))
          refine q_icmp_ge (tgt := 71) hM dX5_fewestBetween_50 (by decide) (rfl : r13632.toInt = r13632.toInt) (rfl : r13634.toInt = r13634.toInt) (fun h50 => ?_) (fun h50 => ?_)
          · refine q_iinc (lv9 := fun z13637 => [(5, .int z13637), (0, .ref (ad 3)), (1, .int i), (2, .int j), (3, .int z13623), (4, .int w23_4)]) hM dX5_fewestBetween_71 hl (kq := 5) rfl (by decide) (fun _ => rfl) (fun z13637 ls hz13637 hl => ?_)
            first | have tz13637 := i_addT hz13637 (rfl : w23_5.toInt = w23_5.toInt) (kc_1 : (Int32.ofInt 1).toInt = 1) (by omega) (by omega) | skip
            refine q_goto (tgt := 23) hM dX5_fewestBetween_74 (by decide) ?_
            exact ih23 w23_4 z13637 _ _ _ (by omega) (by omega) (by omega) (by omega) (by omega) (ct_no i23_4 (by omega) (by omega) (Or.inr (Or.inl (by omega)))) (lv_sub hl [1, 2, 3, 4, 5, 0] rfl) hW
          · refine q_aload_n hM dX5_fewestBetween_53 (lv_at hl 0 rfl) ?_
            refine q_iload_n hM dX5_fewestBetween_54 (lv_at hl 1 rfl) ?_
            refine q_iload hM dX5_fewestBetween_55 (lv_at hl 5 rfl) ?_
            refine q_callV (As := [.int i, .int w23_5]) (rest := []) hM hW.1 hR hC myX5_reached (kAW (v_3_7 (List.mem_of_getElem? (i := 12) rfl)) rfl) (rfl : vwCl[5]? = some (RX5, TX5, 3)) rfl lb_3.1 (shO hW.2.1 lb_3) (s_X5_reached _ _ cA ad g0 i w23_5 hW.2.1 hG (by  omega) (by  omega)) ⟨by decide, by decide⟩ rfl rfl hl.1 (Nat.le_of_ble_eq_true rfl) dX5_fewestBetween_57 (fun v g13640 H locs hp hW1 => ?_)
            obtain ⟨r13639, rfl, hr13639, rfl⟩ := hp
            have hW : WS ad cA (fun i k => False) g0 K g0 H locs := ⟨hW1, hW.2.1, hW.2.2⟩
            refine q_iload_n hM dX5_fewestBetween_60 (lv_at hl 2 rfl) ?_
            refine q_callN (host := "ForgetSchool") (As := [.int r13639, .int j]) (rest := []) hM hW.1 hR hC myX11_has (List.mem_of_getElem? (i := 9) rfl) (c_X11_has _ _ cA ad g0 r13639 j hW.2.1) ⟨by decide, by decide⟩ rfl rfl hl.1 (Nat.le_of_ble_eq_true rfl) dX5_fewestBetween_61 (fun v g13642 H locs hp hW1 => ?_)
            obtain ⟨r13641, rfl, hr13641, rfl⟩ := hp
            have hW : WS ad cA (fun i k => False) g0 K g0 H locs := ⟨hW1, hW.2.1, hW.2.2⟩
            have hbr13641 := has_bi hr13641
            have hcr13641 := bi_01 r13639 j
            first | have ltr13641 := has_lt 5 hr13641 (by omega) (by omega) | have ltr13641 := has_lt 6 hr13641 (by omega) (by omega) | have ltr13641 := has_lt 8 hr13641 (by omega) (by omega) | have ltr13641 := has_lt 12 hr13641 (by omega) (by omega) | skip
            refine q_if_ne (tgt := 71) hM dX5_fewestBetween_64 (by decide) (rfl : r13641.toInt = r13641.toInt) (fun h64 => ?_) (fun h64 => ?_)
            · refine q_iinc (lv9 := fun z13644 => [(5, .int z13644), (0, .ref (ad 3)), (1, .int i), (2, .int j), (3, .int z13623), (4, .int w23_4)]) hM dX5_fewestBetween_71 hl (kq := 5) rfl (by decide) (fun _ => rfl) (fun z13644 ls hz13644 hl => ?_)
              first | have tz13644 := i_addT hz13644 (rfl : w23_5.toInt = w23_5.toInt) (kc_1 : (Int32.ofInt 1).toInt = 1) (by omega) (by omega) | skip
              refine q_goto (tgt := 23) hM dX5_fewestBetween_74 (by decide) ?_
              exact ih23 w23_4 z13644 _ _ _ (by omega) (by omega) (by omega) (by omega) (by omega) (ct_no i23_4 (by omega) (by omega) (Or.inr (Or.inr (fun q9 => q9 ((hr13639 _ (by omega)).mp (has_t hr13641 (by omega))))))) (lv_sub hl [1, 2, 3, 4, 5, 0] rfl) hW
            · refine q_iload hM dX5_fewestBetween_67 (lv_at hl 5 rfl) ?_
              refine q_istore (lv9 := [(4, .int w23_5), (0, .ref (ad 3)), (1, .int i), (2, .int j), (3, .int z13623), (5, .int w23_5)]) hM dX5_fewestBetween_69 hl (by decide) rfl (fun ls hl => ?_)
              refine q_iinc (lv9 := fun z13646 => [(5, .int z13646), (4, .int w23_5), (0, .ref (ad 3)), (1, .int i), (2, .int j), (3, .int z13623)]) hM dX5_fewestBetween_71 hl (kq := 5) rfl (by decide) (fun _ => rfl) (fun z13646 ls hz13646 hl => ?_)
              first | have tz13646 := i_addT hz13646 (rfl : w23_5.toInt = w23_5.toInt) (kc_1 : (Int32.ofInt 1).toInt = 1) (by omega) (by omega) | skip
              refine q_goto (tgt := 23) hM dX5_fewestBetween_74 (by decide) ?_
              exact ih23 w23_5 z13646 _ _ _ (by omega) (by omega) (by omega) (by omega) (by omega) (ct_yes i23_4 (by omega) (by omega) (by rw [← he9]; exact a_t hr13627 (by omega)) (by omega) (fun q9 => absurd ((hr13639 _ (by omega)).mpr q9) (bff (has_f hr13641 (by omega) (by omega) (by omega))))) (lv_sub hl [2, 3, 4, 5, 1, 0] rfl) hW
  have := kc_0
  exact L23 _ z13623 (0 : Int32) _ _ _ (Nat.lt_succ_self _) (by omega) (by omega) (by omega) (by omega) (by rw [kc_0]; exact he9) (lv_sub hl [3, 4, 5, 2, 1, 0] rfl) hW


set_option maxRecDepth 100000 in
set_option maxHeartbeats 4000000 in
theorem s_X11_cut (l : Launch) (D : va_G) (cA : Nat → ClassId) (ad : Nat → Nat) (g0 : Nat → va_E) (a : Int32) (b : Int32) (c : Int32) (td : Int32)  (hSh : Shp ad cA g0) (hG : Rng g0) (h_td : fld g0 3 2 = .int td) : CT l NN ad cA D yX11_cut cX11_cut 5 (some FieldType.int) (3, 75) [.ref (ad 0), .int a, .int b, .int c] g0 (fun v g' => ∃ (r : Int32), v = some (.int r) ∧ Shp ad cA g' ∧ Rng g' ∧ FR (fun i k => False) g0 g' ∧ ((¬ (bi td a = 1 ∧ bi td b = 1 ∧ a.toInt ≠ b.toInt ∧ 0 ≤ c.toInt ∧ c.toInt ≤ 1) ∧ r.toInt = -1) ∨ ((bi td a = 1 ∧ bi td b = 1 ∧ a.toInt ≠ b.toInt ∧ 0 ≤ c.toInt ∧ c.toInt ≤ 1) ∧ 0 < (arI g0 (6 + 1 * a.toInt.toNat) b.toInt.toNat).toInt ∧ r.toInt = -2) ∨ ((bi td a = 1 ∧ bi td b = 1 ∧ a.toInt ≠ b.toInt ∧ 0 ≤ c.toInt ∧ c.toInt ≤ 1) ∧ ¬ 0 < (arI g0 (6 + 1 * a.toInt.toNat) b.toInt.toNat).toInt ∧ c.toInt = 0 ∧ r.toInt = cb (ctB (oth td a b) (Av (Lx g0) a.toInt.toNat b.toInt.toNat) 4096) 12) ∨ ((bi td a = 1 ∧ bi td b = 1 ∧ a.toInt ≠ b.toInt ∧ 0 ≤ c.toInt ∧ c.toInt ≤ 1) ∧ ¬ 0 < (arI g0 (6 + 1 * a.toInt.toNat) b.toInt.toNat).toInt ∧ c.toInt ≠ 0 ∧ r = ctB (oth td a b) (Av (Lx g0) a.toInt.toNat b.toInt.toNat) 4096))) := by
  refine q_enterI (by decide) (Nat.le_of_ble_eq_true rfl) rfl (fun K H locs ls _ _ hM hW0 hR hC hE hl => ?_)
  have hl : lv_has ls 5 [(0, .ref (ad 0)), (1, .int a), (2, .int b), (3, .int c)] := hl
  have hW : WS ad cA (fun i k => False) g0 K g0 H locs := ⟨hW0, hSh, FR.rf⟩
  have b_td := hG.f h_td rF_3_2 (by decide)
  have := kc_0
  have := kc_1
  have := kc_m1
  have := kc_m2
  refine q_aload_n hM dX11_cut_0 (lv_at hl 0 rfl) ?_
  refine w_get (v := .ref (ad 3)) hM hW FG_X11_19 lb_0 (rf_0_1 hW.2.1) dX11_cut_1 ?_
  refine w_get (v := .int td) hM hW FG_X11_116 lb_3 ((hW.2.2.1 3 2 (fun h => h)).trans h_td) dX11_cut_4 ?_
  refine q_iload_n hM dX11_cut_7 (lv_at hl 1 rfl) ?_
  refine q_callS (As := [.int td, .int a]) (rest := []) hM hW.1 hR hC myX11_has (kAW (v_1_10 (List.mem_of_getElem? (i := 8) rfl)) rfl) (c_X11_has _ _ cA ad g0 td a hW.2.1) ⟨by decide, by decide⟩ rfl rfl hl.1 (Nat.le_of_ble_eq_true rfl) dX11_cut_8 (fun v g13648 H locs hp hW1 => ?_)
  obtain ⟨r13647, rfl, hr13647, rfl⟩ := hp
  have hW : WS ad cA (fun i k => False) g0 K g0 H locs := ⟨hW1, hW.2.1, hW.2.2⟩
  have hbr13647 := has_bi hr13647
  have hcr13647 := bi_01 td a
  first | have ltr13647 := has_lt 5 hr13647 (by omega) (by omega) | have ltr13647 := has_lt 6 hr13647 (by omega) (by omega) | have ltr13647 := has_lt 8 hr13647 (by omega) (by omega) | have ltr13647 := has_lt 12 hr13647 (by omega) (by omega) | skip
  refine q_if_eq (tgt := 42) hM dX11_cut_11 (by decide) (rfl : r13647.toInt = r13647.toInt) (fun h11 => ?_) (fun h11 => ?_)
  · refine q_iconst (v := ((-1) : Int32)) hM dX11_cut_42 (by decide) ?_
    exact hE _ _ _ _ _ _ hW.1 ⟨_, rfl, hW.2.1, hG, hW.2.2, (Or.inl ⟨by omega, kc_m1⟩)⟩ dX11_cut_43
  · refine q_aload_n hM dX11_cut_14 (lv_at hl 0 rfl) ?_
    refine w_get (v := .ref (ad 3)) hM hW FG_X11_19 lb_0 (rf_0_1 hW.2.1) dX11_cut_15 ?_
    refine w_get (v := .int td) hM hW FG_X11_116 lb_3 ((hW.2.2.1 3 2 (fun h => h)).trans h_td) dX11_cut_18 ?_
    refine q_iload_n hM dX11_cut_21 (lv_at hl 2 rfl) ?_
    refine q_callS (As := [.int td, .int b]) (rest := []) hM hW.1 hR hC myX11_has (kAW (v_1_10 (List.mem_of_getElem? (i := 8) rfl)) rfl) (c_X11_has _ _ cA ad g0 td b hW.2.1) ⟨by decide, by decide⟩ rfl rfl hl.1 (Nat.le_of_ble_eq_true rfl) dX11_cut_22 (fun v g13652 H locs hp hW1 => ?_)
    obtain ⟨r13651, rfl, hr13651, rfl⟩ := hp
    have hW : WS ad cA (fun i k => False) g0 K g0 H locs := ⟨hW1, hW.2.1, hW.2.2⟩
    have hbr13651 := has_bi hr13651
    have hcr13651 := bi_01 td b
    first | have ltr13651 := has_lt 5 hr13651 (by omega) (by omega) | have ltr13651 := has_lt 6 hr13651 (by omega) (by omega) | have ltr13651 := has_lt 8 hr13651 (by omega) (by omega) | have ltr13651 := has_lt 12 hr13651 (by omega) (by omega) | skip
    refine q_if_eq (tgt := 42) hM dX11_cut_25 (by decide) (rfl : r13651.toInt = r13651.toInt) (fun h25 => ?_) (fun h25 => ?_)
    · refine q_iconst (v := ((-1) : Int32)) hM dX11_cut_42 (by decide) ?_
      exact hE _ _ _ _ _ _ hW.1 ⟨_, rfl, hW.2.1, hG, hW.2.2, (Or.inl ⟨by omega, kc_m1⟩)⟩ dX11_cut_43
    · refine q_iload_n hM dX11_cut_28 (lv_at hl 1 rfl) ?_
      refine q_iload_n hM dX11_cut_29 (lv_at hl 2 rfl) ?_
      refine q_icmp_eq (tgt := 42) hM dX11_cut_30 (by decide) (rfl : a.toInt = a.toInt) (rfl : b.toInt = b.toInt) (fun h30 => ?_) (fun h30 => ?_)
      · refine q_iconst (v := ((-1) : Int32)) hM dX11_cut_42 (by decide) ?_
        exact hE _ _ _ _ _ _ hW.1 ⟨_, rfl, hW.2.1, hG, hW.2.2, (Or.inl ⟨by omega, kc_m1⟩)⟩ dX11_cut_43
      · refine q_iload_n hM dX11_cut_33 (lv_at hl 3 rfl) ?_
        refine q_iconst (v := (0 : Int32)) hM dX11_cut_34 (by decide) ?_
        refine q_iconst (v := (1 : Int32)) hM dX11_cut_35 (by decide) ?_
        refine q_callS (As := [.int c, .int (0 : Int32), .int (1 : Int32)]) (rest := []) hM hW.1 hR hC myX11_within (kAW (v_1_10 (List.mem_of_getElem? (i := 1) rfl)) rfl) (c_X11_within _ _ cA ad g0 c (0 : Int32) (1 : Int32) hW.2.1) ⟨by decide, by decide⟩ rfl rfl hl.1 (Nat.le_of_ble_eq_true rfl) dX11_cut_36 (fun v g13658 H locs hp hW1 => ?_)
        obtain ⟨r13657, rfl, hr13657, rfl⟩ := hp
        have hW : WS ad cA (fun i k => False) g0 K g0 H locs := ⟨hW1, hW.2.1, hW.2.2⟩
        have := kc_0
        have := kc_1
        refine q_if_ne (tgt := 44) hM dX11_cut_39 (by decide) (rfl : r13657.toInt = r13657.toInt) (fun h39 => ?_) (fun h39 => ?_)
        · refine q_aload_n hM dX11_cut_44 (lv_at hl 0 rfl) ?_
          refine w_get (v := .ref (ad 3)) hM hW FG_X11_19 lb_0 (rf_0_1 hW.2.1) dX11_cut_45 ?_
          refine w_get (v := .ref (ad 5)) hM hW FG_X11_127 lb_3 (rf_3_1 hW.2.1) dX11_cut_48 ?_
          refine q_iload_n hM dX11_cut_51 (lv_at hl 1 rfl) ?_
          refine w_aald hM hW lb_5 (Or.inl rfl) (i_in (by omega) (by omega)) (aq (aq_5 hW.2.1) (by omega) (by omega)) dX11_cut_52 ?_
          refine q_iload_n hM dX11_cut_53 (lv_at hl 2 rfl) ?_
          refine w_iald hM hW (lr_6 (by omega)) (i_in (by omega) (by omega)) dX11_cut_54 ?_
          refine q_top (fun y13660 hy13660 => ?_)
          have tyy13660 : y13660.toInt = (arI g0 (6 + 1 * a.toInt.toNat) b.toInt.toNat).toInt := congrArg Int32.toInt hy13660
          refine q_if_le (tgt := 61) hM dX11_cut_55 (by decide) (rfl : y13660.toInt = y13660.toInt) (fun h55 => ?_) (fun h55 => ?_)
          · refine q_aload_n hM dX11_cut_61 (lv_at hl 0 rfl) ?_
            refine w_get (v := .ref (ad 3)) hM hW FG_X11_19 lb_0 (rf_0_1 hW.2.1) dX11_cut_62 ?_
            refine q_iload_n hM dX11_cut_65 (lv_at hl 1 rfl) ?_
            refine q_iload_n hM dX11_cut_66 (lv_at hl 2 rfl) ?_
            refine q_callV (As := [.int a, .int b]) (rest := []) hM hW.1 hR hC myX5_fewestBetween (kAW (v_3_7 (List.mem_of_getElem? (i := 6) rfl)) rfl) (rfl : vwCl[5]? = some (RX5, TX5, 3)) rfl lb_3.1 (shO hW.2.1 lb_3) (s_X5_fewestBetween _ _ cA ad g0 a b td hW.2.1 hG ((hW.2.2.1 3 2 (fun h => h)).trans h_td) (by  omega) (by  omega) (by  omega) (by  omega)) ⟨by decide, by decide⟩ rfl rfl hl.1 (Nat.le_of_ble_eq_true rfl) dX11_cut_67 (fun v g13663 H locs hp hW1 => ?_)
            obtain ⟨r13662, rfl, hr13662, rfl⟩ := hp
            have hW : WS ad cA (fun i k => False) g0 K g0 H locs := ⟨hW1, hW.2.1, hW.2.2⟩
            refine q_istore (lv9 := [(4, .int r13662), (0, .ref (ad 0)), (1, .int a), (2, .int b), (3, .int c)]) hM dX11_cut_70 hl (by decide) rfl (fun ls hl => ?_)
            refine q_iload_n hM dX11_cut_72 (lv_at hl 4 rfl) ?_
            refine q_if_ne (tgt := 84) hM dX11_cut_73 (by decide) (rfl : c.toInt = c.toInt) (fun h73 => ?_) (fun h73 => ?_)
            · refine q_iload hM dX11_cut_84 (lv_at hl 0 rfl) ?_
              exact hE _ _ _ _ _ _ hW.1 ⟨_, rfl, hW.2.1, hG, hW.2.2, (Or.inr (Or.inr (Or.inr ⟨⟨by omega, by omega, by omega, by omega, by omega⟩, by omega, by omega, hr13662.1⟩)))⟩ dX11_cut_86
            · refine q_iload hM dX11_cut_76 (lv_at hl 0 rfl) ?_
              refine q_callS (As := [.int r13662]) (rest := []) hM hW.1 hR hC myJ6_bitCount_0f7a4 (kAW (v_3_1 (List.mem_of_getElem? (i := 2) rfl)) rfl) (c_J6_bitCount_0f7a4 _ _ cA ad g0 r13662 hW.2.1) ⟨by decide, by decide⟩ rfl rfl hl.1 (Nat.le_of_ble_eq_true rfl) dX11_cut_78 (fun v g13667 H locs hp hW1 => ?_)
              obtain ⟨r13666, rfl, hr13666, rfl⟩ := hp
              have hW : WS ad cA (fun i k => False) g0 K g0 H locs := ⟨hW1, hW.2.1, hW.2.2⟩
              refine q_goto (tgt := 86) hM dX11_cut_81 (by decide) ?_
              exact hE _ _ _ _ _ _ hW.1 ⟨_, rfl, hW.2.1, hG, hW.2.2, (Or.inr (Or.inr (Or.inl ⟨⟨by omega, by omega, by omega, by omega, by omega⟩, by omega, by omega, by rw [← hr13662.1]; exact (congrArg Int32.toInt hr13666).trans (bc_cb (by omega) (by omega))⟩)))⟩ dX11_cut_86
          · refine q_bipush (v := ((-2) : Int32)) hM dX11_cut_58 (by decide) ?_
            exact hE _ _ _ _ _ _ hW.1 ⟨_, rfl, hW.2.1, hG, hW.2.2, (Or.inr (Or.inl ⟨⟨by omega, by omega, by omega, by omega, by omega⟩, by omega, kc_m2⟩))⟩ dX11_cut_60
        · refine q_iconst (v := ((-1) : Int32)) hM dX11_cut_42 (by decide) ?_
          exact hE _ _ _ _ _ _ hW.1 ⟨_, rfl, hW.2.1, hG, hW.2.2, (Or.inl ⟨by omega, kc_m1⟩)⟩ dX11_cut_43


set_option maxRecDepth 100000 in
set_option maxHeartbeats 4000000 in
theorem s_X12_isTold (l : Launch) (D : va_G) (cA : Nat → ClassId) (ad : Nat → Nat) (g0 : Nat → va_E) (i : Int32) (hSh : Shp ad cA g0) (hG : Rng g0) : CT l NN ad cA D yX12_isTold cX12_isTold 2 (some FieldType.boolean) (1, 25) [.ref (ad 129), .int i] g0 (PU g0 (fun r => r.toInt = ti (arI g0 131) 12 i ∧ (r.toInt = 0 ∨ (r.toInt = 1 ∧ 0 ≤ i.toInt ∧ i.toInt < 12)))) := by
  refine q_enterZ (by decide) (Nat.le_of_ble_eq_true rfl) (fun K H locs ls _ _ hM hW0 hR hC hE hl => ?_)
  have hl : lv_has ls 2 [(0, .ref (ad 129)), (1, .int i)] := hl
  have hW : WS ad cA (fun i k => False) g0 K g0 H locs := ⟨hW0, hSh, FR.rf⟩
  have := kc_0
  have := kc_1
  refine q_iload_n hM dX12_isTold_0 (lv_at hl 1 rfl) ?_
  refine q_i2l hM dX12_isTold_1 ?_
  have := l_i2l i
  refine q_lconst (v := 0) hM dX12_isTold_2 (by decide) ?_
  have := kl_0
  refine q_ldc2 (v := 11) hM (kAW (v_5_4 (List.mem_of_getElem? (i := 13) rfl)) rfl) dX12_isTold_3 ?_
  have := kl_11
  refine q_callS (As := [.long i.toInt64, .long (0 : Int64), .long (11 : Int64)]) (rest := []) hM hW.1 hR hC myX12_lies (kAW (v_5_4 (List.mem_of_getElem? (i := 14) rfl)) rfl) (c_X12_lies _ _ cA ad g0 i.toInt64 (0 : Int64) (11 : Int64) hW.2.1) ⟨by decide, by decide⟩ rfl rfl hl.1 (Nat.le_of_ble_eq_true rfl) dX12_isTold_6 (fun v g13671 H locs hp hW1 => ?_)
  obtain ⟨r13670, rfl, hr13670, rfl⟩ := hp
  have hW : WS ad cA (fun i k => False) g0 K g0 H locs := ⟨hW1, hW.2.1, hW.2.2⟩
  refine q_if_eq (tgt := 25) hM dX12_isTold_9 (by decide) (rfl : r13670.toInt = r13670.toInt) (fun h9 => ?_) (fun h9 => ?_)
  · refine q_iconst (v := (0 : Int32)) hM dX12_isTold_25 (by decide) ?_
    exact hE _ _ _ _ _ _ hW.1 nz_0 ⟨_, rfl, ⟨(by unfold ti; rw [if_neg (fun ⟨h3, h4, h5⟩ => by omega)]; exact kc_0), by omega⟩, rfl⟩ dX12_isTold_26
  · refine q_aload_n hM dX12_isTold_12 (lv_at hl 0 rfl) ?_
    refine w_get (v := .ref (ad 131)) hM hW FG_X12_17 lb_129 (rf_129_10 hW.2.1) dX12_isTold_13 ?_
    refine q_iload_n hM dX12_isTold_16 (lv_at hl 1 rfl) ?_
    refine w_zald hM hW lb_131 (i_in (by omega) (by omega)) dX12_isTold_17 ?_
    refine q_top (fun y13674 hy13674 => ?_)
    refine q_if_eq (tgt := 25) hM dX12_isTold_18 (by decide) (rfl : y13674.toInt = y13674.toInt) (fun h18 => ?_) (fun h18 => ?_)
    · refine q_iconst (v := (0 : Int32)) hM dX12_isTold_25 (by decide) ?_
      exact hE _ _ _ _ _ _ hW.1 nz_0 ⟨_, rfl, ⟨(by unfold ti; rw [if_neg (fun ⟨h3, h4, h5⟩ => absurd h5 (by show ¬ (arI g0 131 i.toNatClampNeg).toInt ≠ 0; rw [← hy13674]; omega))]; exact kc_0), by omega⟩, rfl⟩ dX12_isTold_26
    · refine q_iconst (v := (1 : Int32)) hM dX12_isTold_21 (by decide) ?_
      refine q_goto (tgt := 26) hM dX12_isTold_22 (by decide) ?_
      exact hE _ _ _ _ _ _ hW.1 nz_1 ⟨_, rfl, ⟨(by unfold ti; rw [if_pos ⟨by omega, by omega, by show (arI g0 131 i.toNatClampNeg).toInt ≠ 0; rw [← hy13674]; omega⟩]; exact kc_1), by omega⟩, rfl⟩ dX12_isTold_26


set_option maxRecDepth 100000 in
set_option maxHeartbeats 4000000 in
theorem s_X12_link (l : Launch) (D : va_G) (cA : Nat → ClassId) (ad : Nat → Nat) (g0 : Nat → va_E) (a : Int32) (b : Int32) (c : Int32)   (hSh : Shp ad cA g0) (hG : Rng g0) : CT l NN ad cA D yX12_link cX12_link 4 (some FieldType.boolean) (2, 46) [.ref (ad 129), .int a, .int b, .int c] g0 (fun v g' => ∃ (r : Int32), v = some (.int r) ∧ Shp ad cA g' ∧ Rng g' ∧ FR (fun i k => i = 133) g0 g' ∧ (((ti (arI g0 131) 12 a = 1 ∧ ti (arI g0 131) 12 b = 1 ∧ a.toInt ≠ b.toInt ∧ 0 ≤ c.toInt ∧ c.toInt ≤ 9) ∧ arI g' 133 = upd (arI g0 133) (12 * a.toInt.toNat + b.toInt.toNat) c) ∨ (¬ (ti (arI g0 131) 12 a = 1 ∧ ti (arI g0 131) 12 b = 1 ∧ a.toInt ≠ b.toInt ∧ 0 ≤ c.toInt ∧ c.toInt ≤ 9) ∧ arI g' 133 = arI g0 133)) ∧ (r.toInt = 0 ∨ r.toInt = 1)) := by
  refine q_enterZ (by decide) (Nat.le_of_ble_eq_true rfl) (fun K H locs ls _ _ hM hW0 hR hC hE hl => ?_)
  have hl : lv_has ls 4 [(0, .ref (ad 129)), (1, .int a), (2, .int b), (3, .int c)] := hl
  have hW : WS ad cA (fun i k => i = 133) g0 K g0 H locs := ⟨hW0, hSh, FR.rf⟩
  have := kc_0
  have := kc_1
  refine q_aload_n hM dX12_link_0 (lv_at hl 0 rfl) ?_
  refine q_iload_n hM dX12_link_1 (lv_at hl 1 rfl) ?_
  refine q_callV (As := [.int a]) (rest := []) hM hW.1 hR hC myX12_isTold (kAW (v_5_5 (List.mem_of_getElem? (i := 6) rfl)) rfl) (rfl : vwCl[12]? = some (RX12, TX12, 86)) rfl lb_129.1 (shO hW.2.1 lb_129) (s_X12_isTold _ _ cA ad g0 a hW.2.1 hG) ⟨by decide, by decide⟩ rfl rfl hl.1 (Nat.le_of_ble_eq_true rfl) dX12_link_2 (fun v g13678 H locs hp hW1 => ?_)
  obtain ⟨r13677, rfl, hr13677, rfl⟩ := hp
  have hW : WS ad cA (fun i k => i = 133) g0 K g0 H locs := ⟨hW1, hW.2.1, hW.2.2⟩
  refine q_if_eq (tgt := 33) hM dX12_link_5 (by decide) (rfl : r13677.toInt = r13677.toInt) (fun h5 => ?_) (fun h5 => ?_)
  · refine q_iconst (v := (0 : Int32)) hM dX12_link_33 (by decide) ?_
    exact hE _ _ _ _ _ _ hW.1 nz_0 ⟨_, rfl, hW.2.1, hG, hW.2.2, (Or.inr ⟨by omega, rfl⟩), (by have := kc_0; omega)⟩ dX12_link_34
  · refine q_aload_n hM dX12_link_8 (lv_at hl 0 rfl) ?_
    refine q_iload_n hM dX12_link_9 (lv_at hl 2 rfl) ?_
    refine q_callV (As := [.int b]) (rest := []) hM hW.1 hR hC myX12_isTold (kAW (v_5_5 (List.mem_of_getElem? (i := 6) rfl)) rfl) (rfl : vwCl[12]? = some (RX12, TX12, 86)) rfl lb_129.1 (shO hW.2.1 lb_129) (s_X12_isTold _ _ cA ad g0 b hW.2.1 hG) ⟨by decide, by decide⟩ rfl rfl hl.1 (Nat.le_of_ble_eq_true rfl) dX12_link_10 (fun v g13682 H locs hp hW1 => ?_)
    obtain ⟨r13681, rfl, hr13681, rfl⟩ := hp
    have hW : WS ad cA (fun i k => i = 133) g0 K g0 H locs := ⟨hW1, hW.2.1, hW.2.2⟩
    refine q_if_eq (tgt := 33) hM dX12_link_13 (by decide) (rfl : r13681.toInt = r13681.toInt) (fun h13 => ?_) (fun h13 => ?_)
    · refine q_iconst (v := (0 : Int32)) hM dX12_link_33 (by decide) ?_
      exact hE _ _ _ _ _ _ hW.1 nz_0 ⟨_, rfl, hW.2.1, hG, hW.2.2, (Or.inr ⟨by omega, rfl⟩), (by have := kc_0; omega)⟩ dX12_link_34
    · refine q_iload_n hM dX12_link_16 (lv_at hl 1 rfl) ?_
      refine q_iload_n hM dX12_link_17 (lv_at hl 2 rfl) ?_
      refine q_icmp_eq (tgt := 33) hM dX12_link_18 (by decide) (rfl : a.toInt = a.toInt) (rfl : b.toInt = b.toInt) (fun h18 => ?_) (fun h18 => ?_)
      · refine q_iconst (v := (0 : Int32)) hM dX12_link_33 (by decide) ?_
        exact hE _ _ _ _ _ _ hW.1 nz_0 ⟨_, rfl, hW.2.1, hG, hW.2.2, (Or.inr ⟨by omega, rfl⟩), (by have := kc_0; omega)⟩ dX12_link_34
      · refine q_iload_n hM dX12_link_21 (lv_at hl 3 rfl) ?_
        refine q_i2l hM dX12_link_22 ?_
        have := l_i2l c
        refine q_lconst (v := 0) hM dX12_link_23 (by decide) ?_
        have := kl_0
        refine q_ldc2 (v := 9) hM (kAW (v_5_5 (List.mem_of_getElem? (i := 10) rfl)) rfl) dX12_link_24 ?_
        have := kl_9
        refine q_callS (As := [.long c.toInt64, .long (0 : Int64), .long (9 : Int64)]) (rest := []) hM hW.1 hR hC myX12_lies (kAW (v_5_4 (List.mem_of_getElem? (i := 14) rfl)) rfl) (c_X12_lies _ _ cA ad g0 c.toInt64 (0 : Int64) (9 : Int64) hW.2.1) ⟨by decide, by decide⟩ rfl rfl hl.1 (Nat.le_of_ble_eq_true rfl) dX12_link_27 (fun v g13688 H locs hp hW1 => ?_)
        obtain ⟨r13687, rfl, hr13687, rfl⟩ := hp
        have hW : WS ad cA (fun i k => i = 133) g0 K g0 H locs := ⟨hW1, hW.2.1, hW.2.2⟩
        refine q_if_ne (tgt := 35) hM dX12_link_30 (by decide) (rfl : r13687.toInt = r13687.toInt) (fun h30 => ?_) (fun h30 => ?_)
        · refine q_aload_n hM dX12_link_35 (lv_at hl 0 rfl) ?_
          refine w_get (v := .ref (ad 133)) hM hW FG_X12_25 lb_129 (rf_129_12 hW.2.1) dX12_link_36 ?_
          refine q_bipush (v := (12 : Int32)) hM dX12_link_39 (by decide) ?_
          refine q_iload_n hM dX12_link_41 (lv_at hl 1 rfl) ?_
          refine q_imul hM dX12_link_42 (fun z13690 hz13690 => ?_)
          first | have tz13690 := i_mulT hz13690 (kc_12 : (12 : Int32).toInt = 12) (rfl : a.toInt = a.toInt) (by omega) (by omega) | skip
          refine q_iload_n hM dX12_link_43 (lv_at hl 2 rfl) ?_
          refine q_iadd hM dX12_link_44 (fun z13691 hz13691 => ?_)
          first | have tz13691 := i_addT hz13691 (rfl : z13690.toInt = z13690.toInt) (rfl : b.toInt = b.toInt) (by omega) (by omega) | skip
          refine q_iload_n hM dX12_link_45 (lv_at hl 3 rfl) ?_
          refine w_iast hM hW lb_133 (by omega) (i_in (by omega) (by omega)) dX12_link_46 (fun g13692 H locs hW e1 e2 => ?_)
          have hLK := e1
          rw [show z13691.toNatClampNeg = 12 * a.toInt.toNat + b.toInt.toNat by show z13691.toInt.toNat = _; omega] at hLK
          have hG := hG.st e1 e2 (rfl : rA 133 = (-2147483648, 2147483647)) (by have := i_rng c; omega) (by have := i_rng c; omega)
          refine q_iconst (v := (1 : Int32)) hM dX12_link_47 (by decide) ?_
          exact hE _ _ _ _ _ _ hW.1 nz_1 ⟨_, rfl, hW.2.1, hG, hW.2.2, (Or.inl ⟨by omega, hLK⟩), (by have := kc_1; omega)⟩ dX12_link_48
        · refine q_iconst (v := (0 : Int32)) hM dX12_link_33 (by decide) ?_
          exact hE _ _ _ _ _ _ hW.1 nz_0 ⟨_, rfl, hW.2.1, hG, hW.2.2, (Or.inr ⟨by omega, rfl⟩), (by have := kc_0; omega)⟩ dX12_link_34


set_option maxRecDepth 100000 in
set_option maxHeartbeats 4000000 in
theorem s_X12_sizeOf (l : Launch) (D : va_G) (cA : Nat → ClassId) (ad : Nat → Nat) (g0 : Nat → va_E) (s : Int32) (hSh : Shp ad cA g0) (hG : Rng g0) (h0 : 0 ≤ s.toInt) (h1 : s.toInt < 4096) : CT l NN ad cA D yX12_sizeOf cX12_sizeOf 3 (some FieldType.int) (0, 0) [.int s] g0 (PU g0 (fun r => r.toInt = cb s 12)) := by
  refine q_enterI (by decide) (Nat.le_of_ble_eq_true rfl) rfl (fun K H locs ls _ _ hM hW0 hR hC hE hl => ?_)
  have hl : lv_has ls 3 [(0, .int s)] := hl
  have hW : WS ad cA (fun i k => False) g0 K g0 H locs := ⟨hW0, hSh, FR.rf⟩
  have := i_rng s
  have := kc_0
  have cb9 := cb_le s 12
  refine q_iconst (v := (0 : Int32)) hM dX12_sizeOf_0 (by decide) ?_
  refine q_istore_n (lv9 := [(1, .int (0 : Int32)), (0, .int s)]) hM dX12_sizeOf_1 hl (by decide) rfl (fun ls hl => ?_)
  refine q_iload_n hM dX12_sizeOf_2 (lv_at hl 1 rfl) ?_
  refine q_istore_n (lv9 := [(2, .int s), (1, .int (0 : Int32)), (0, .int s)]) hM dX12_sizeOf_3 hl (by decide) rfl (fun ls hl => ?_)
  have L4 : ∀ (fu4 : Nat) (w4_1 : Int32) (w4_2 : Int32) (H : Heap) (locs : List Loc) (ls : Array Slot), w4_2.toInt.toNat < fu4 → (0 ≤ w4_2.toInt) → (w4_2.toInt ≤ s.toInt) → (0 ≤ w4_1.toInt) → (w4_1.toInt + cb w4_2 12 = cb s 12) → lv_has ls 3 [(0, .int s), (1, .int w4_1), (2, .int w4_2)] → WS ad cA (fun i k => False) g0 K g0 H locs → XX K 0 0 H locs 4 ls [] := by
    intro fu4
    induction fu4 with
    | zero => intro w4_1 w4_2 H locs ls h0; omega
    | succ fu4 ih4 =>
      intro w4_1 w4_2 H locs ls hm4 i4_0 i4_1 i4_2 i4_3 hl hW
      have cb8 := cb_le w4_2 12
      refine q_iload_n hM dX12_sizeOf_4 (lv_at hl 2 rfl) ?_
      refine q_if_eq (tgt := 20) hM dX12_sizeOf_5 (by decide) (rfl : w4_2.toInt = w4_2.toInt) (fun h5 => ?_) (fun h5 => ?_)
      · refine q_iload_n hM dX12_sizeOf_20 (lv_at hl 1 rfl) ?_
        exact hE _ _ _ _ _ _ hW.1 ⟨_, rfl, (by have z9 := cb_00 (x := w4_2) (by omega); omega), rfl⟩ dX12_sizeOf_21
      · refine q_iinc (lv9 := fun z13697 => [(1, .int z13697), (0, .int s), (2, .int w4_2)]) hM dX12_sizeOf_8 hl (kq := 1) rfl (by decide) (fun _ => rfl) (fun z13697 ls hz13697 hl => ?_)
        first | have tz13697 := i_addT hz13697 (rfl : w4_1.toInt = w4_1.toInt) (kc_1 : (Int32.ofInt 1).toInt = 1) (by omega) (by omega) | skip
        refine q_iload_n hM dX12_sizeOf_11 (lv_at hl 2 rfl) ?_
        refine q_iload_n hM dX12_sizeOf_12 (lv_at hl 2 rfl) ?_
        refine q_iconst (v := (1 : Int32)) hM dX12_sizeOf_13 (by decide) ?_
        refine q_isub hM dX12_sizeOf_14 (fun z13698 hz13698 => ?_)
        first | have tz13698 := i_subT hz13698 (rfl : w4_2.toInt = w4_2.toInt) (kc_1 : (1 : Int32).toInt = 1) (by omega) (by omega) | skip
        refine q_iand hM dX12_sizeOf_15 (fun z13699 hz13699 => ?_)
        have al := i_and_le hz13699 (by omega) (by omega)
        refine q_istore_n (lv9 := [(2, .int z13699), (1, .int z13697), (0, .int s)]) hM dX12_sizeOf_16 hl (by decide) rfl (fun ls hl => ?_)
        refine q_goto (tgt := 4) hM dX12_sizeOf_17 (by decide) ?_
        exact ih4 z13697 z13699 _ _ _ (by omega) (by omega) (by omega) (by omega) (by have p9 := sz_cb hz13698 hz13699 (by omega) (by omega); omega) (lv_sub hl [2, 1, 0] rfl) hW
  have := kc_0
  exact L4 _ (0 : Int32) s _ _ _ (Nat.lt_succ_self _) (by omega) (by omega) (by omega) (by omega) (lv_sub hl [2, 1, 0] rfl) hW
